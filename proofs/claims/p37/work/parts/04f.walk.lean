theorem uX9_leave_9 : ∀ w ∈ u_ws RX9 TX9 3, w ∈ wsX9_leave := by decide +kernel
def f_X9_leave (L : hL) (X : hX) (this : Nat) (a1 : Int32) : Option (Int32 × hX) :=
  if tk L this 9 then
  (X.2 this 0).bind fun q2 =>
  (f_X3_prepare L X q2).bind fun r4 =>
  if tk L q2 3 then
  (r4.2 this 0).bind fun q7 =>
  (f_X9_counter L r4 this).bind fun r9 =>
  Option.elim r9
  (
    none)
  fun i11 =>
    (f_X0_dropCustomer L r4 i11 a1).bind fun r12 =>
    if tk L i11 0 then
    (f_X3_settle L r12.2 q7 r12.1).bind fun r15 =>
    if tk L q7 3 then
    some (r15.1, r15.2)
    else none
    else none
  else none
  else none
set_option maxRecDepth 100000 in
set_option maxHeartbeats 4000000 in
theorem c_X9_leave {l : Launch} {dC : Nat → ClassId} {dI : Nat → Nat → Nat} {cy : Nat → ClassId} {ad : Nat → Nat} {L : hL} {X : hX} {this : Nat} {a1 : Int32} {r : Int32} {X' : hX} (h : f_X9_leave L X this a1 = some (r, X')) : hMet l dC dI cy ad L yX9_leave wsX9_leave ({ frames := 4, cells := 0, slots := 0, locals := 85 } : Room) [.ref (ad this), .int a1] X (some (.int r)) X' := by
  unfold f_X9_leave at h
  refine hx_enter RX9 (plainFor_of_name (by decide)) rfl rfl (Nat.le_of_ble_eq_true rfl) (fun p e s m args below meth c C hr hnm ls hl => ?_)
  have hl : lv_has ls 2 [(0, .ref (ad this)), (1, .int a1)] := hl
  refine hx_aload_n C dX9_leave_0 rfl (lv_at hl 0 rfl) ?_
  obtain ⟨g1, h⟩ := hx_gd h
  obtain ⟨q2, e3, h⟩ := hx_bind h
  refine hx_getr C (ci := 9) (j := 0) g1 uX9_leave_9 (by decide) rfl (by decide) rfl (by decide +kernel) rfl dX9_leave_1 e3 ?_
  obtain ⟨r4, e5, h⟩ := hx_bind h
  obtain ⟨g6, h⟩ := hx_gd h
  refine hx_callV (As := []) (rest := []) (n := 0) (Cn := RX3) C (c_X3_prepare e5) gX9_leave_X3_prepare g6 (by decide) rfl (by decide +kernel) ⟨Nat.le_of_ble_eq_true rfl, Nat.le_of_ble_eq_true rfl⟩ rfl rfl rfl ⟨Nat.zero_le _, Nat.zero_le _⟩ hl.1 rfl rfl (Nat.le_of_ble_eq_true rfl) dX9_leave_4 ?_
  refine hx_aload_n C dX9_leave_7 rfl (lv_at hl 0 rfl) ?_
  obtain ⟨q7, e8, h⟩ := hx_bind h
  refine hx_getr C (ci := 9) (j := 0) g1 uX9_leave_9 (by decide) rfl (by decide) rfl (by decide +kernel) rfl dX9_leave_8 e8 ?_
  refine hx_aload_n C dX9_leave_11 rfl (lv_at hl 0 rfl) ?_
  obtain ⟨r9, e10, h⟩ := hx_bind h
  refine hx_callV (As := []) (rest := [.ref (ad q7)]) (n := 0) (Cn := RX9) C (c_X9_counter e10) gX9_leave_X9_counter g1 (by decide) rfl (by decide +kernel) ⟨Nat.le_of_ble_eq_true rfl, Nat.le_of_ble_eq_true rfl⟩ rfl rfl rfl ⟨Nat.zero_le _, Nat.zero_le _⟩ hl.1 rfl rfl (Nat.le_of_ble_eq_true rfl) dX9_leave_12 ?_
  rcases r9 with _ | i11
  · have h := hx_eln h
    refine hx_iload_n C dX9_leave_15 rfl (lv_at hl 1 rfl) ?_
    cases h
  · have h := hx_els h
    refine hx_iload_n C dX9_leave_15 rfl (lv_at hl 1 rfl) ?_
    obtain ⟨r12, e13, h⟩ := hx_bind h
    obtain ⟨g14, h⟩ := hx_gd h
    refine hx_callV (As := [.int a1]) (rest := [.ref (ad q7)]) (n := 1) (Cn := RX0) C (c_X0_dropCustomer e13) gX9_leave_X0_dropCustomer g14 (by decide) rfl (by decide +kernel) ⟨Nat.le_of_ble_eq_true rfl, Nat.le_of_ble_eq_true rfl⟩ rfl rfl rfl ⟨Nat.zero_le _, Nat.zero_le _⟩ hl.1 rfl rfl (Nat.le_of_ble_eq_true rfl) dX9_leave_16 ?_
    obtain ⟨r15, e16, h⟩ := hx_bind h
    obtain ⟨g17, h⟩ := hx_gd h
    refine hx_callV (As := [.int r12.1]) (rest := []) (n := 1) (Cn := RX3) C (c_X3_settle e16) gX9_leave_X3_settle g17 (by decide) rfl (by decide +kernel) ⟨Nat.le_of_ble_eq_true rfl, Nat.le_of_ble_eq_true rfl⟩ rfl rfl rfl ⟨Nat.zero_le _, Nat.zero_le _⟩ hl.1 rfl rfl (Nat.le_of_ble_eq_true rfl) dX9_leave_19 ?_
    obtain ⟨rfl, rfl⟩ := hx_some2 h
    exact hx_iret C hr dX9_leave_22
theorem uX9_weigh_9 : ∀ w ∈ u_ws RX9 TX9 3, w ∈ wsX9_weigh := by decide +kernel
def f_X9_weigh (L : hL) (X : hX) (this : Nat) (a1 : Int32) (a2 : Int32) (a3 : Int32) (a4 : Int32) : Option (Int32 × hX) :=
  if tk L this 9 then
  (X.2 this 0).bind fun q2 =>
  (f_X3_prepare L X q2).bind fun r4 =>
  if tk L q2 3 then
  (r4.2 this 0).bind fun q7 =>
  (f_X9_counter L r4 this).bind fun r9 =>
  Option.elim r9
  (
    none)
  fun i11 =>
    (f_X0_weighBundle L r4 i11 a1 a2 a3 a4).bind fun r12 =>
    if tk L i11 0 then
    (f_X3_settle L r12.2 q7 r12.1).bind fun r15 =>
    if tk L q7 3 then
    some (r15.1, r15.2)
    else none
    else none
  else none
  else none
set_option maxRecDepth 100000 in
set_option maxHeartbeats 4000000 in
theorem c_X9_weigh {l : Launch} {dC : Nat → ClassId} {dI : Nat → Nat → Nat} {cy : Nat → ClassId} {ad : Nat → Nat} {L : hL} {X : hX} {this : Nat} {a1 : Int32} {a2 : Int32} {a3 : Int32} {a4 : Int32} {r : Int32} {X' : hX} (h : f_X9_weigh L X this a1 a2 a3 a4 = some (r, X')) : hMet l dC dI cy ad L yX9_weigh wsX9_weigh ({ frames := 5, cells := 0, slots := 0, locals := 121 } : Room) [.ref (ad this), .int a1, .int a2, .int a3, .int a4] X (some (.int r)) X' := by
  unfold f_X9_weigh at h
  refine hx_enter RX9 (plainFor_of_name (by decide)) rfl rfl (Nat.le_of_ble_eq_true rfl) (fun p e s m args below meth c C hr hnm ls hl => ?_)
  have hl : lv_has ls 5 [(0, .ref (ad this)), (1, .int a1), (2, .int a2), (3, .int a3), (4, .int a4)] := hl
  refine hx_aload_n C dX9_weigh_0 rfl (lv_at hl 0 rfl) ?_
  obtain ⟨g1, h⟩ := hx_gd h
  obtain ⟨q2, e3, h⟩ := hx_bind h
  refine hx_getr C (ci := 9) (j := 0) g1 uX9_weigh_9 (by decide) rfl (by decide) rfl (by decide +kernel) rfl dX9_weigh_1 e3 ?_
  obtain ⟨r4, e5, h⟩ := hx_bind h
  obtain ⟨g6, h⟩ := hx_gd h
  refine hx_callV (As := []) (rest := []) (n := 0) (Cn := RX3) C (c_X3_prepare e5) gX9_weigh_X3_prepare g6 (by decide) rfl (by decide +kernel) ⟨Nat.le_of_ble_eq_true rfl, Nat.le_of_ble_eq_true rfl⟩ rfl rfl rfl ⟨Nat.zero_le _, Nat.zero_le _⟩ hl.1 rfl rfl (Nat.le_of_ble_eq_true rfl) dX9_weigh_4 ?_
  refine hx_aload_n C dX9_weigh_7 rfl (lv_at hl 0 rfl) ?_
  obtain ⟨q7, e8, h⟩ := hx_bind h
  refine hx_getr C (ci := 9) (j := 0) g1 uX9_weigh_9 (by decide) rfl (by decide) rfl (by decide +kernel) rfl dX9_weigh_8 e8 ?_
  refine hx_aload_n C dX9_weigh_11 rfl (lv_at hl 0 rfl) ?_
  obtain ⟨r9, e10, h⟩ := hx_bind h
  refine hx_callV (As := []) (rest := [.ref (ad q7)]) (n := 0) (Cn := RX9) C (c_X9_counter e10) gX9_weigh_X9_counter g1 (by decide) rfl (by decide +kernel) ⟨Nat.le_of_ble_eq_true rfl, Nat.le_of_ble_eq_true rfl⟩ rfl rfl rfl ⟨Nat.zero_le _, Nat.zero_le _⟩ hl.1 rfl rfl (Nat.le_of_ble_eq_true rfl) dX9_weigh_12 ?_
  rcases r9 with _ | i11
  · have h := hx_eln h
    refine hx_iload_n C dX9_weigh_15 rfl (lv_at hl 1 rfl) ?_
    refine hx_iload_n C dX9_weigh_16 rfl (lv_at hl 2 rfl) ?_
    refine hx_iload_n C dX9_weigh_17 rfl (lv_at hl 3 rfl) ?_
    refine hx_iload C dX9_weigh_18 (lv_at hl 4 rfl) ?_
    cases h
  · have h := hx_els h
    refine hx_iload_n C dX9_weigh_15 rfl (lv_at hl 1 rfl) ?_
    refine hx_iload_n C dX9_weigh_16 rfl (lv_at hl 2 rfl) ?_
    refine hx_iload_n C dX9_weigh_17 rfl (lv_at hl 3 rfl) ?_
    refine hx_iload C dX9_weigh_18 (lv_at hl 4 rfl) ?_
    obtain ⟨r12, e13, h⟩ := hx_bind h
    obtain ⟨g14, h⟩ := hx_gd h
    refine hx_callV (As := [.int a1, .int a2, .int a3, .int a4]) (rest := [.ref (ad q7)]) (n := 4) (Cn := RX0) C (c_X0_weighBundle e13) gX9_weigh_X0_weighBundle g14 (by decide) rfl (by decide +kernel) ⟨Nat.le_of_ble_eq_true rfl, Nat.le_of_ble_eq_true rfl⟩ rfl rfl rfl ⟨Nat.zero_le _, Nat.zero_le _⟩ hl.1 rfl rfl (Nat.le_of_ble_eq_true rfl) dX9_weigh_20 ?_
    obtain ⟨r15, e16, h⟩ := hx_bind h
    obtain ⟨g17, h⟩ := hx_gd h
    refine hx_callV (As := [.int r12.1]) (rest := []) (n := 1) (Cn := RX3) C (c_X3_settle e16) gX9_weigh_X3_settle g17 (by decide) rfl (by decide +kernel) ⟨Nat.le_of_ble_eq_true rfl, Nat.le_of_ble_eq_true rfl⟩ rfl rfl rfl ⟨Nat.zero_le _, Nat.zero_le _⟩ hl.1 rfl rfl (Nat.le_of_ble_eq_true rfl) dX9_weigh_23 ?_
    obtain ⟨rfl, rfl⟩ := hx_some2 h
    exact hx_iret C hr dX9_weigh_26
theorem uX9_claim_9 : ∀ w ∈ u_ws RX9 TX9 3, w ∈ wsX9_claim := by decide +kernel
def f_X9_claim (L : hL) (X : hX) (this : Nat) (a1 : Int32) (a2 : Int32) : Option (Int32 × hX) :=
  if tk L this 9 then
  (X.2 this 0).bind fun q2 =>
  (f_X3_prepare L X q2).bind fun r4 =>
  if tk L q2 3 then
  (r4.2 this 0).bind fun q7 =>
  (f_X9_counter L r4 this).bind fun r9 =>
  Option.elim r9
  (
    none)
  fun i11 =>
    (f_X0_settleClaim L r4 i11 a1 a2).bind fun r12 =>
    if tk L i11 0 then
    (f_X3_settle L r12.2 q7 r12.1).bind fun r15 =>
    if tk L q7 3 then
    some (r15.1, r15.2)
    else none
    else none
  else none
  else none
set_option maxRecDepth 100000 in
set_option maxHeartbeats 4000000 in
theorem c_X9_claim {l : Launch} {dC : Nat → ClassId} {dI : Nat → Nat → Nat} {cy : Nat → ClassId} {ad : Nat → Nat} {L : hL} {X : hX} {this : Nat} {a1 : Int32} {a2 : Int32} {r : Int32} {X' : hX} (h : f_X9_claim L X this a1 a2 = some (r, X')) : hMet l dC dI cy ad L yX9_claim wsX9_claim ({ frames := 5, cells := 0, slots := 0, locals := 114 } : Room) [.ref (ad this), .int a1, .int a2] X (some (.int r)) X' := by
  unfold f_X9_claim at h
  refine hx_enter RX9 (plainFor_of_name (by decide)) rfl rfl (Nat.le_of_ble_eq_true rfl) (fun p e s m args below meth c C hr hnm ls hl => ?_)
  have hl : lv_has ls 3 [(0, .ref (ad this)), (1, .int a1), (2, .int a2)] := hl
  refine hx_aload_n C dX9_claim_0 rfl (lv_at hl 0 rfl) ?_
  obtain ⟨g1, h⟩ := hx_gd h
  obtain ⟨q2, e3, h⟩ := hx_bind h
  refine hx_getr C (ci := 9) (j := 0) g1 uX9_claim_9 (by decide) rfl (by decide) rfl (by decide +kernel) rfl dX9_claim_1 e3 ?_
  obtain ⟨r4, e5, h⟩ := hx_bind h
  obtain ⟨g6, h⟩ := hx_gd h
  refine hx_callV (As := []) (rest := []) (n := 0) (Cn := RX3) C (c_X3_prepare e5) gX9_claim_X3_prepare g6 (by decide) rfl (by decide +kernel) ⟨Nat.le_of_ble_eq_true rfl, Nat.le_of_ble_eq_true rfl⟩ rfl rfl rfl ⟨Nat.zero_le _, Nat.zero_le _⟩ hl.1 rfl rfl (Nat.le_of_ble_eq_true rfl) dX9_claim_4 ?_
  refine hx_aload_n C dX9_claim_7 rfl (lv_at hl 0 rfl) ?_
  obtain ⟨q7, e8, h⟩ := hx_bind h
  refine hx_getr C (ci := 9) (j := 0) g1 uX9_claim_9 (by decide) rfl (by decide) rfl (by decide +kernel) rfl dX9_claim_8 e8 ?_
  refine hx_aload_n C dX9_claim_11 rfl (lv_at hl 0 rfl) ?_
  obtain ⟨r9, e10, h⟩ := hx_bind h
  refine hx_callV (As := []) (rest := [.ref (ad q7)]) (n := 0) (Cn := RX9) C (c_X9_counter e10) gX9_claim_X9_counter g1 (by decide) rfl (by decide +kernel) ⟨Nat.le_of_ble_eq_true rfl, Nat.le_of_ble_eq_true rfl⟩ rfl rfl rfl ⟨Nat.zero_le _, Nat.zero_le _⟩ hl.1 rfl rfl (Nat.le_of_ble_eq_true rfl) dX9_claim_12 ?_
  rcases r9 with _ | i11
  · have h := hx_eln h
    refine hx_iload_n C dX9_claim_15 rfl (lv_at hl 1 rfl) ?_
    refine hx_iload_n C dX9_claim_16 rfl (lv_at hl 2 rfl) ?_
    cases h
  · have h := hx_els h
    refine hx_iload_n C dX9_claim_15 rfl (lv_at hl 1 rfl) ?_
    refine hx_iload_n C dX9_claim_16 rfl (lv_at hl 2 rfl) ?_
    obtain ⟨r12, e13, h⟩ := hx_bind h
    obtain ⟨g14, h⟩ := hx_gd h
    refine hx_callV (As := [.int a1, .int a2]) (rest := [.ref (ad q7)]) (n := 2) (Cn := RX0) C (c_X0_settleClaim e13) gX9_claim_X0_settleClaim g14 (by decide) rfl (by decide +kernel) ⟨Nat.le_of_ble_eq_true rfl, Nat.le_of_ble_eq_true rfl⟩ rfl rfl rfl ⟨Nat.zero_le _, Nat.zero_le _⟩ hl.1 rfl rfl (Nat.le_of_ble_eq_true rfl) dX9_claim_17 ?_
    obtain ⟨r15, e16, h⟩ := hx_bind h
    obtain ⟨g17, h⟩ := hx_gd h
    refine hx_callV (As := [.int r12.1]) (rest := []) (n := 1) (Cn := RX3) C (c_X3_settle e16) gX9_claim_X3_settle g17 (by decide) rfl (by decide +kernel) ⟨Nat.le_of_ble_eq_true rfl, Nat.le_of_ble_eq_true rfl⟩ rfl rfl rfl ⟨Nat.zero_le _, Nat.zero_le _⟩ hl.1 rfl rfl (Nat.le_of_ble_eq_true rfl) dX9_claim_20 ?_
    obtain ⟨rfl, rfl⟩ := hx_some2 h
    exact hx_iret C hr dX9_claim_23
theorem uX9_addPrize_9 : ∀ w ∈ u_ws RX9 TX9 3, w ∈ wsX9_addPrize := by decide +kernel
def f_X9_addPrize (L : hL) (X : hX) (this : Nat) (a1 : Int32) (a2 : Int32) (a3 : Int32) (a4 : Int32) (a5 : Int32) : Option (Int32 × hX) :=
  if tk L this 9 then
  (X.2 this 0).bind fun q2 =>
  (f_X3_prepare L X q2).bind fun r4 =>
  if tk L q2 3 then
  (r4.2 this 0).bind fun q7 =>
  (f_X9_counter L r4 this).bind fun r9 =>
  Option.elim r9
  (
    none)
  fun i11 =>
    (f_X0_placePrize L r4 i11 a1 a2 a3 a4 a5).bind fun r12 =>
    if tk L i11 0 then
    (f_X3_settle L r12.2 q7 r12.1).bind fun r15 =>
    if tk L q7 3 then
    some (r15.1, r15.2)
    else none
    else none
  else none
  else none
set_option maxRecDepth 100000 in
set_option maxHeartbeats 4000000 in
theorem c_X9_addPrize {l : Launch} {dC : Nat → ClassId} {dI : Nat → Nat → Nat} {cy : Nat → ClassId} {ad : Nat → Nat} {L : hL} {X : hX} {this : Nat} {a1 : Int32} {a2 : Int32} {a3 : Int32} {a4 : Int32} {a5 : Int32} {r : Int32} {X' : hX} (h : f_X9_addPrize L X this a1 a2 a3 a4 a5 = some (r, X')) : hMet l dC dI cy ad L yX9_addPrize wsX9_addPrize ({ frames := 4, cells := 0, slots := 0, locals := 85 } : Room) [.ref (ad this), .int a1, .int a2, .int a3, .int a4, .int a5] X (some (.int r)) X' := by
  unfold f_X9_addPrize at h
  refine hx_enter RX9 (plainFor_of_name (by decide)) rfl rfl (Nat.le_of_ble_eq_true rfl) (fun p e s m args below meth c C hr hnm ls hl => ?_)
  have hl : lv_has ls 6 [(0, .ref (ad this)), (1, .int a1), (2, .int a2), (3, .int a3), (4, .int a4), (5, .int a5)] := hl
  refine hx_aload_n C dX9_addPrize_0 rfl (lv_at hl 0 rfl) ?_
  obtain ⟨g1, h⟩ := hx_gd h
  obtain ⟨q2, e3, h⟩ := hx_bind h
  refine hx_getr C (ci := 9) (j := 0) g1 uX9_addPrize_9 (by decide) rfl (by decide) rfl (by decide +kernel) rfl dX9_addPrize_1 e3 ?_
  obtain ⟨r4, e5, h⟩ := hx_bind h
  obtain ⟨g6, h⟩ := hx_gd h
  refine hx_callV (As := []) (rest := []) (n := 0) (Cn := RX3) C (c_X3_prepare e5) gX9_addPrize_X3_prepare g6 (by decide) rfl (by decide +kernel) ⟨Nat.le_of_ble_eq_true rfl, Nat.le_of_ble_eq_true rfl⟩ rfl rfl rfl ⟨Nat.zero_le _, Nat.zero_le _⟩ hl.1 rfl rfl (Nat.le_of_ble_eq_true rfl) dX9_addPrize_4 ?_
  refine hx_aload_n C dX9_addPrize_7 rfl (lv_at hl 0 rfl) ?_
  obtain ⟨q7, e8, h⟩ := hx_bind h
  refine hx_getr C (ci := 9) (j := 0) g1 uX9_addPrize_9 (by decide) rfl (by decide) rfl (by decide +kernel) rfl dX9_addPrize_8 e8 ?_
  refine hx_aload_n C dX9_addPrize_11 rfl (lv_at hl 0 rfl) ?_
  obtain ⟨r9, e10, h⟩ := hx_bind h
  refine hx_callV (As := []) (rest := [.ref (ad q7)]) (n := 0) (Cn := RX9) C (c_X9_counter e10) gX9_addPrize_X9_counter g1 (by decide) rfl (by decide +kernel) ⟨Nat.le_of_ble_eq_true rfl, Nat.le_of_ble_eq_true rfl⟩ rfl rfl rfl ⟨Nat.zero_le _, Nat.zero_le _⟩ hl.1 rfl rfl (Nat.le_of_ble_eq_true rfl) dX9_addPrize_12 ?_
  rcases r9 with _ | i11
  · have h := hx_eln h
    refine hx_iload_n C dX9_addPrize_15 rfl (lv_at hl 1 rfl) ?_
    refine hx_iload_n C dX9_addPrize_16 rfl (lv_at hl 2 rfl) ?_
    refine hx_iload_n C dX9_addPrize_17 rfl (lv_at hl 3 rfl) ?_
    refine hx_iload C dX9_addPrize_18 (lv_at hl 4 rfl) ?_
    refine hx_iload C dX9_addPrize_20 (lv_at hl 5 rfl) ?_
    cases h
  · have h := hx_els h
    refine hx_iload_n C dX9_addPrize_15 rfl (lv_at hl 1 rfl) ?_
    refine hx_iload_n C dX9_addPrize_16 rfl (lv_at hl 2 rfl) ?_
    refine hx_iload_n C dX9_addPrize_17 rfl (lv_at hl 3 rfl) ?_
    refine hx_iload C dX9_addPrize_18 (lv_at hl 4 rfl) ?_
    refine hx_iload C dX9_addPrize_20 (lv_at hl 5 rfl) ?_
    obtain ⟨r12, e13, h⟩ := hx_bind h
    obtain ⟨g14, h⟩ := hx_gd h
    refine hx_callV (As := [.int a1, .int a2, .int a3, .int a4, .int a5]) (rest := [.ref (ad q7)]) (n := 5) (Cn := RX0) C (c_X0_placePrize e13) gX9_addPrize_X0_placePrize g14 (by decide) rfl (by decide +kernel) ⟨Nat.le_of_ble_eq_true rfl, Nat.le_of_ble_eq_true rfl⟩ rfl rfl rfl ⟨Nat.zero_le _, Nat.zero_le _⟩ hl.1 rfl rfl (Nat.le_of_ble_eq_true rfl) dX9_addPrize_22 ?_
    obtain ⟨r15, e16, h⟩ := hx_bind h
    obtain ⟨g17, h⟩ := hx_gd h
    refine hx_callV (As := [.int r12.1]) (rest := []) (n := 1) (Cn := RX3) C (c_X3_settle e16) gX9_addPrize_X3_settle g17 (by decide) rfl (by decide +kernel) ⟨Nat.le_of_ble_eq_true rfl, Nat.le_of_ble_eq_true rfl⟩ rfl rfl rfl ⟨Nat.zero_le _, Nat.zero_le _⟩ hl.1 rfl rfl (Nat.le_of_ble_eq_true rfl) dX9_addPrize_25 ?_
    obtain ⟨rfl, rfl⟩ := hx_some2 h
    exact hx_iret C hr dX9_addPrize_28
theorem uX9_buy_9 : ∀ w ∈ u_ws RX9 TX9 3, w ∈ wsX9_buy := by decide +kernel
def f_X9_buy (L : hL) (X : hX) (this : Nat) (a1 : Int32) (a2 : Int32) (a3 : Int32) : Option (Int32 × hX) :=
  if tk L this 9 then
  (X.2 this 0).bind fun q2 =>
  (f_X3_prepare L X q2).bind fun r4 =>
  if tk L q2 3 then
  (r4.2 this 0).bind fun q7 =>
  (f_X9_counter L r4 this).bind fun r9 =>
  Option.elim r9
  (
    none)
  fun i11 =>
    (f_X0_sellPrize L r4 i11 a1 a2 a3).bind fun r12 =>
    if tk L i11 0 then
    (f_X3_settle L r12.2 q7 r12.1).bind fun r15 =>
    if tk L q7 3 then
    some (r15.1, r15.2)
    else none
    else none
  else none
  else none
set_option maxRecDepth 100000 in
set_option maxHeartbeats 4000000 in
theorem c_X9_buy {l : Launch} {dC : Nat → ClassId} {dI : Nat → Nat → Nat} {cy : Nat → ClassId} {ad : Nat → Nat} {L : hL} {X : hX} {this : Nat} {a1 : Int32} {a2 : Int32} {a3 : Int32} {r : Int32} {X' : hX} (h : f_X9_buy L X this a1 a2 a3 = some (r, X')) : hMet l dC dI cy ad L yX9_buy wsX9_buy ({ frames := 4, cells := 0, slots := 0, locals := 90 } : Room) [.ref (ad this), .int a1, .int a2, .int a3] X (some (.int r)) X' := by
  unfold f_X9_buy at h
  refine hx_enter RX9 (plainFor_of_name (by decide)) rfl rfl (Nat.le_of_ble_eq_true rfl) (fun p e s m args below meth c C hr hnm ls hl => ?_)
  have hl : lv_has ls 4 [(0, .ref (ad this)), (1, .int a1), (2, .int a2), (3, .int a3)] := hl
  refine hx_aload_n C dX9_buy_0 rfl (lv_at hl 0 rfl) ?_
  obtain ⟨g1, h⟩ := hx_gd h
  obtain ⟨q2, e3, h⟩ := hx_bind h
  refine hx_getr C (ci := 9) (j := 0) g1 uX9_buy_9 (by decide) rfl (by decide) rfl (by decide +kernel) rfl dX9_buy_1 e3 ?_
  obtain ⟨r4, e5, h⟩ := hx_bind h
  obtain ⟨g6, h⟩ := hx_gd h
  refine hx_callV (As := []) (rest := []) (n := 0) (Cn := RX3) C (c_X3_prepare e5) gX9_buy_X3_prepare g6 (by decide) rfl (by decide +kernel) ⟨Nat.le_of_ble_eq_true rfl, Nat.le_of_ble_eq_true rfl⟩ rfl rfl rfl ⟨Nat.zero_le _, Nat.zero_le _⟩ hl.1 rfl rfl (Nat.le_of_ble_eq_true rfl) dX9_buy_4 ?_
  refine hx_aload_n C dX9_buy_7 rfl (lv_at hl 0 rfl) ?_
  obtain ⟨q7, e8, h⟩ := hx_bind h
  refine hx_getr C (ci := 9) (j := 0) g1 uX9_buy_9 (by decide) rfl (by decide) rfl (by decide +kernel) rfl dX9_buy_8 e8 ?_
  refine hx_aload_n C dX9_buy_11 rfl (lv_at hl 0 rfl) ?_
  obtain ⟨r9, e10, h⟩ := hx_bind h
  refine hx_callV (As := []) (rest := [.ref (ad q7)]) (n := 0) (Cn := RX9) C (c_X9_counter e10) gX9_buy_X9_counter g1 (by decide) rfl (by decide +kernel) ⟨Nat.le_of_ble_eq_true rfl, Nat.le_of_ble_eq_true rfl⟩ rfl rfl rfl ⟨Nat.zero_le _, Nat.zero_le _⟩ hl.1 rfl rfl (Nat.le_of_ble_eq_true rfl) dX9_buy_12 ?_
  rcases r9 with _ | i11
  · have h := hx_eln h
    refine hx_iload_n C dX9_buy_15 rfl (lv_at hl 1 rfl) ?_
    refine hx_iload_n C dX9_buy_16 rfl (lv_at hl 2 rfl) ?_
    refine hx_iload_n C dX9_buy_17 rfl (lv_at hl 3 rfl) ?_
    cases h
  · have h := hx_els h
    refine hx_iload_n C dX9_buy_15 rfl (lv_at hl 1 rfl) ?_
    refine hx_iload_n C dX9_buy_16 rfl (lv_at hl 2 rfl) ?_
    refine hx_iload_n C dX9_buy_17 rfl (lv_at hl 3 rfl) ?_
    obtain ⟨r12, e13, h⟩ := hx_bind h
    obtain ⟨g14, h⟩ := hx_gd h
    refine hx_callV (As := [.int a1, .int a2, .int a3]) (rest := [.ref (ad q7)]) (n := 3) (Cn := RX0) C (c_X0_sellPrize e13) gX9_buy_X0_sellPrize g14 (by decide) rfl (by decide +kernel) ⟨Nat.le_of_ble_eq_true rfl, Nat.le_of_ble_eq_true rfl⟩ rfl rfl rfl ⟨Nat.zero_le _, Nat.zero_le _⟩ hl.1 rfl rfl (Nat.le_of_ble_eq_true rfl) dX9_buy_18 ?_
    obtain ⟨r15, e16, h⟩ := hx_bind h
    obtain ⟨g17, h⟩ := hx_gd h
    refine hx_callV (As := [.int r12.1]) (rest := []) (n := 1) (Cn := RX3) C (c_X3_settle e16) gX9_buy_X3_settle g17 (by decide) rfl (by decide +kernel) ⟨Nat.le_of_ble_eq_true rfl, Nat.le_of_ble_eq_true rfl⟩ rfl rfl rfl ⟨Nat.zero_le _, Nat.zero_le _⟩ hl.1 rfl rfl (Nat.le_of_ble_eq_true rfl) dX9_buy_21 ?_
    obtain ⟨rfl, rfl⟩ := hx_some2 h
    exact hx_iret C hr dX9_buy_24
theorem uX9_undo_9 : ∀ w ∈ u_ws RX9 TX9 3, w ∈ wsX9_undo := by decide +kernel
def f_X9_undo (L : hL) (X : hX) (this : Nat) : Option (Int32 × hX) :=
  if tk L this 9 then
  (X.2 this 0).bind fun q2 =>
  (f_X3_stepBack L X q2).bind fun r4 =>
  if tk L q2 3 then
  some (r4.1, r4.2)
  else none
  else none
set_option maxRecDepth 100000 in
set_option maxHeartbeats 4000000 in
theorem c_X9_undo {l : Launch} {dC : Nat → ClassId} {dI : Nat → Nat → Nat} {cy : Nat → ClassId} {ad : Nat → Nat} {L : hL} {X : hX} {this : Nat} {r : Int32} {X' : hX} (h : f_X9_undo L X this = some (r, X')) : hMet l dC dI cy ad L yX9_undo wsX9_undo ({ frames := 2, cells := 0, slots := 0, locals := 44 } : Room) [.ref (ad this)] X (some (.int r)) X' := by
  unfold f_X9_undo at h
  refine hx_enter RX9 (plainFor_of_name (by decide)) rfl rfl (Nat.le_of_ble_eq_true rfl) (fun p e s m args below meth c C hr hnm ls hl => ?_)
  have hl : lv_has ls 1 [(0, .ref (ad this))] := hl
  refine hx_aload_n C dX9_undo_0 rfl (lv_at hl 0 rfl) ?_
  obtain ⟨g1, h⟩ := hx_gd h
  obtain ⟨q2, e3, h⟩ := hx_bind h
  refine hx_getr C (ci := 9) (j := 0) g1 uX9_undo_9 (by decide) rfl (by decide) rfl (by decide +kernel) rfl dX9_undo_1 e3 ?_
  obtain ⟨r4, e5, h⟩ := hx_bind h
  obtain ⟨g6, h⟩ := hx_gd h
  refine hx_callV (As := []) (rest := []) (n := 0) (Cn := RX3) C (c_X3_stepBack e5) gX9_undo_X3_stepBack g6 (by decide) rfl (by decide +kernel) ⟨Nat.le_of_ble_eq_true rfl, Nat.le_of_ble_eq_true rfl⟩ rfl rfl rfl ⟨Nat.zero_le _, Nat.zero_le _⟩ hl.1 rfl rfl (Nat.le_of_ble_eq_true rfl) dX9_undo_4 ?_
  obtain ⟨rfl, rfl⟩ := hx_some2 h
  exact hx_iret C hr dX9_undo_7
theorem uX9_count_3 : ∀ w ∈ u_ws RX3 TX3 4, w ∈ wsX9_count := by decide +kernel
theorem uX9_count_6 : ∀ w ∈ u_ws RX6 TX6 6, w ∈ wsX9_count := by decide +kernel
theorem uX9_count_9 : ∀ w ∈ u_ws RX9 TX9 3, w ∈ wsX9_count := by decide +kernel
def f_X9_count (L : hL) (X : hX) (this : Nat) (a1 : Int32) : Option (Int32) :=
  if a1 = 11 then
    if tk L this 9 then
    (X.2 this 0).bind fun q3 =>
    if tk L q3 3 then
    (X.2 q3 1).bind fun q6 =>
    (f_X8_slotsInUse L X q6).bind fun r8 =>
    if tk L q6 8 then
    some r8
    else none
    else none
    else none
  else
  if a1 = 12 then
    if tk L this 9 then
    (X.2 this 0).bind fun q13 =>
    if tk L q13 3 then
    some (X.1 q13 3)
    else none
    else none
  else
  if a1 = 13 then
    if tk L this 9 then
    (X.2 this 1).bind fun q18 =>
    if tk L q18 6 then
    some (X.1 q18 3)
    else none
    else none
  else
  (f_X9_counter L X this).bind fun r21 =>
  if tk L this 9 then
  Option.elim r21
  (
    none)
  fun i24 =>
    (f_X0_number L X i24 a1).bind fun r25 =>
    if tk L i24 0 then
    some r25
    else none
  else none
set_option maxRecDepth 100000 in
set_option maxHeartbeats 4000000 in
theorem c_X9_count {l : Launch} {dC : Nat → ClassId} {dI : Nat → Nat → Nat} {cy : Nat → ClassId} {ad : Nat → Nat} {L : hL} {X : hX} {this : Nat} {a1 : Int32} {r : Int32} (h : f_X9_count L X this a1 = some r) : hMet l dC dI cy ad L yX9_count wsX9_count ({ frames := 2, cells := 0, slots := 0, locals := 46 } : Room) [.ref (ad this), .int a1] X (some (.int r)) X := by
  unfold f_X9_count at h
  refine hx_enter RX9 (plainFor_of_name (by decide)) rfl rfl (Nat.le_of_ble_eq_true rfl) (fun p e s m args below meth c C hr hnm ls hl => ?_)
  have hl : lv_has ls 2 [(0, .ref (ad this)), (1, .int a1)] := hl
  refine hx_iload_n C dX9_count_0 rfl (lv_at hl 1 rfl) ?_
  by_cases c1 : a1 = 11
  · have h := hx_pos c1 h
    have hz : Int32.toInt a1 = 11 := by rw [c1]; rfl
    refine hx_tableIn (tgt := 28) C dX9_count_1 (by rw [hz] <;> decide) (by rw [hz] <;> decide) (off := 27) (by rw [hz] <;> rfl) (by decide) ?_
    refine hx_aload_n C dX9_count_28 rfl (lv_at hl 0 rfl) ?_
    obtain ⟨g2, h⟩ := hx_gd h
    obtain ⟨q3, e4, h⟩ := hx_bind h
    refine hx_getr C (ci := 9) (j := 0) g2 uX9_count_9 (by decide) rfl (by decide) rfl (by decide +kernel) rfl dX9_count_29 e4 ?_
    obtain ⟨g5, h⟩ := hx_gd h
    obtain ⟨q6, e7, h⟩ := hx_bind h
    refine hx_getr C (ci := 3) (j := 1) g5 uX9_count_3 (by decide) rfl (by decide) rfl (by decide +kernel) rfl dX9_count_32 e7 ?_
    obtain ⟨r8, e9, h⟩ := hx_bind h
    obtain ⟨g10, h⟩ := hx_gd h
    refine hx_callV (As := []) (rest := []) (n := 0) (Cn := RX8) C (c_X8_slotsInUse e9) gX9_count_X8_slotsInUse g10 (by decide) rfl (by decide +kernel) ⟨Nat.le_of_ble_eq_true rfl, Nat.le_of_ble_eq_true rfl⟩ rfl rfl rfl ⟨Nat.zero_le _, Nat.zero_le _⟩ hl.1 rfl rfl (Nat.le_of_ble_eq_true rfl) dX9_count_35 ?_
    obtain rfl := hx_some1 h
    exact hx_iret C hr dX9_count_38
  have h := hx_neg c1 h
  have zc1 : Int32.toInt a1 ≠ 11 := fun z => c1 (Int32.toInt_inj.mp (z.trans rfl))
  by_cases c11 : a1 = 12
  · have h := hx_pos c11 h
    have hz : Int32.toInt a1 = 12 := by rw [c11]; rfl
    refine hx_tableIn (tgt := 39) C dX9_count_1 (by rw [hz] <;> decide) (by rw [hz] <;> decide) (off := 38) (by rw [hz] <;> rfl) (by decide) ?_
    refine hx_aload_n C dX9_count_39 rfl (lv_at hl 0 rfl) ?_
    obtain ⟨g12, h⟩ := hx_gd h
    obtain ⟨q13, e14, h⟩ := hx_bind h
    refine hx_getr C (ci := 9) (j := 0) g12 uX9_count_9 (by decide) rfl (by decide) rfl (by decide +kernel) rfl dX9_count_40 e14 ?_
    obtain ⟨g15, h⟩ := hx_gd h
    refine hx_geti C (ci := 3) (j := 3) g15 uX9_count_3 (by decide) rfl (by decide) rfl (by decide +kernel) rfl dX9_count_43 ?_
    obtain rfl := hx_some1 h
    exact hx_iret C hr dX9_count_46
  have h := hx_neg c11 h
  have zc11 : Int32.toInt a1 ≠ 12 := fun z => c11 (Int32.toInt_inj.mp (z.trans rfl))
  by_cases c16 : a1 = 13
  · have h := hx_pos c16 h
    have hz : Int32.toInt a1 = 13 := by rw [c16]; rfl
    refine hx_tableIn (tgt := 47) C dX9_count_1 (by rw [hz] <;> decide) (by rw [hz] <;> decide) (off := 46) (by rw [hz] <;> rfl) (by decide) ?_
    refine hx_aload_n C dX9_count_47 rfl (lv_at hl 0 rfl) ?_
    obtain ⟨g17, h⟩ := hx_gd h
    obtain ⟨q18, e19, h⟩ := hx_bind h
    refine hx_getr C (ci := 9) (j := 1) g17 uX9_count_9 (by decide) rfl (by decide) rfl (by decide +kernel) rfl dX9_count_48 e19 ?_
    obtain ⟨g20, h⟩ := hx_gd h
    refine hx_geti C (ci := 6) (j := 3) g20 uX9_count_6 (by decide) rfl (by decide) rfl (by decide +kernel) rfl dX9_count_51 ?_
    obtain rfl := hx_some1 h
    exact hx_iret C hr dX9_count_54
  have h := hx_neg c16 h
  have zc16 : Int32.toInt a1 ≠ 13 := fun z => c16 (Int32.toInt_inj.mp (z.trans rfl))
  refine hx_tableOut (tgt := 55) C dX9_count_1 (by omega) (by decide) ?_
  refine hx_aload_n C dX9_count_55 rfl (lv_at hl 0 rfl) ?_
  obtain ⟨r21, e22, h⟩ := hx_bind h
  obtain ⟨g23, h⟩ := hx_gd h
  refine hx_callV (As := []) (rest := []) (n := 0) (Cn := RX9) C (c_X9_counter e22) gX9_count_X9_counter g23 (by decide) rfl (by decide +kernel) ⟨Nat.le_of_ble_eq_true rfl, Nat.le_of_ble_eq_true rfl⟩ rfl rfl rfl ⟨Nat.zero_le _, Nat.zero_le _⟩ hl.1 rfl rfl (Nat.le_of_ble_eq_true rfl) dX9_count_56 ?_
  rcases r21 with _ | i24
  · have h := hx_eln h
    refine hx_iload_n C dX9_count_59 rfl (lv_at hl 1 rfl) ?_
    cases h
  · have h := hx_els h
    refine hx_iload_n C dX9_count_59 rfl (lv_at hl 1 rfl) ?_
    obtain ⟨r25, e26, h⟩ := hx_bind h
    obtain ⟨g27, h⟩ := hx_gd h
    refine hx_callV (As := [.int a1]) (rest := []) (n := 1) (Cn := RX0) C (c_X0_number e26) gX9_count_X0_number g27 (by decide) rfl (by decide +kernel) ⟨Nat.le_of_ble_eq_true rfl, Nat.le_of_ble_eq_true rfl⟩ rfl rfl rfl ⟨Nat.zero_le _, Nat.zero_le _⟩ hl.1 rfl rfl (Nat.le_of_ble_eq_true rfl) dX9_count_60 ?_
    obtain rfl := hx_some1 h
    exact hx_iret C hr dX9_count_63
theorem uX9_kind_4 : ∀ w ∈ u_ws RX4 TX4 2, w ∈ wsX9_kind := by decide +kernel
def f_X9_kind (L : hL) (X : hX) (this : Nat) (a1 : Int32) (a2 : Int32) : Option (Int32) :=
  (f_X9_counter L X this).bind fun r1 =>
  if tk L this 9 then
  Option.elim r1
  (
    none)
  fun i4 =>
    (f_X0_kindAt L X i4 a1).bind fun r5 =>
    if tk L i4 0 then
    Option.elim r5
    (
      some (-100001))
    fun i8 =>
      (f_X9_within L X a2 0 1).bind fun r9 =>
      if r9 = 0 then
        some (-100001)
      else
        if a2 = 0 then
          if tk L i8 4 then
          some (X.1 i8 0)
          else none
        else
          if tk L i8 4 then
          some (X.1 i8 1)
          else none
    else none
  else none
set_option maxRecDepth 100000 in
set_option maxHeartbeats 4000000 in
theorem c_X9_kind {l : Launch} {dC : Nat → ClassId} {dI : Nat → Nat → Nat} {cy : Nat → ClassId} {ad : Nat → Nat} {L : hL} {X : hX} {this : Nat} {a1 : Int32} {a2 : Int32} {r : Int32} (h : f_X9_kind L X this a1 a2 = some r) : hMet l dC dI cy ad L yX9_kind wsX9_kind ({ frames := 2, cells := 0, slots := 0, locals := 43 } : Room) [.ref (ad this), .int a1, .int a2] X (some (.int r)) X := by
  unfold f_X9_kind at h
  refine hx_enter RX9 (plainFor_of_name (by decide)) rfl rfl (Nat.le_of_ble_eq_true rfl) (fun p e s m args below meth c C hr hnm ls hl => ?_)
  have hl : lv_has ls 4 [(0, .ref (ad this)), (1, .int a1), (2, .int a2)] := hl
  refine hx_aload_n C dX9_kind_0 rfl (lv_at hl 0 rfl) ?_
  obtain ⟨r1, e2, h⟩ := hx_bind h
  obtain ⟨g3, h⟩ := hx_gd h
  refine hx_callV (As := []) (rest := []) (n := 0) (Cn := RX9) C (c_X9_counter e2) gX9_kind_X9_counter g3 (by decide) rfl (by decide +kernel) ⟨Nat.le_of_ble_eq_true rfl, Nat.le_of_ble_eq_true rfl⟩ rfl rfl rfl ⟨Nat.zero_le _, Nat.zero_le _⟩ hl.1 rfl rfl (Nat.le_of_ble_eq_true rfl) dX9_kind_1 ?_
  rcases r1 with _ | i4
  · have h := hx_eln h
    refine hx_iload_n C dX9_kind_4 rfl (lv_at hl 1 rfl) ?_
    cases h
  · have h := hx_els h
    refine hx_iload_n C dX9_kind_4 rfl (lv_at hl 1 rfl) ?_
    obtain ⟨r5, e6, h⟩ := hx_bind h
    obtain ⟨g7, h⟩ := hx_gd h
    refine hx_callV (As := [.int a1]) (rest := []) (n := 1) (Cn := RX0) C (c_X0_kindAt e6) gX9_kind_X0_kindAt g7 (by decide) rfl (by decide +kernel) ⟨Nat.le_of_ble_eq_true rfl, Nat.le_of_ble_eq_true rfl⟩ rfl rfl rfl ⟨Nat.zero_le _, Nat.zero_le _⟩ hl.1 rfl rfl (Nat.le_of_ble_eq_true rfl) dX9_kind_5 ?_
    rcases r5 with _ | i8
    · have h := hx_eln h
      refine hx_astore_nN (lv' := [(3, .null), (0, .ref (ad this)), (1, .int a1), (2, .int a2)]) C dX9_kind_8 rfl hl (by decide) rfl (fun ls hl => ?_)
      refine hx_aload_nN C dX9_kind_9 rfl (lv_at hl 0 rfl) ?_
      refine hx_ifnullN (tgt := 22) C dX9_kind_10 (by decide) ?_
      refine hx_ldc (v := (-100001)) C (by decide +kernel) dX9_kind_22 ?_
      obtain rfl := hx_some1 h
      exact hx_iret C hr dX9_kind_24
    · have h := hx_els h
      refine hx_astore_n (lv' := [(3, .ref (ad i8)), (0, .ref (ad this)), (1, .int a1), (2, .int a2)]) C dX9_kind_8 rfl hl (by decide) rfl (fun ls hl => ?_)
      refine hx_aload_n C dX9_kind_9 rfl (lv_at hl 0 rfl) ?_
      refine hx_ifnull C dX9_kind_10 ?_
      refine hx_iload_n C dX9_kind_13 rfl (lv_at hl 3 rfl) ?_
      refine hx_iconst (v := 0) C dX9_kind_14 (by decide) ?_
      refine hx_iconst (v := 1) C dX9_kind_15 (by decide) ?_
      obtain ⟨r9, e10, h⟩ := hx_bind h
      refine hx_callS (As := [.int a2, .int 0, .int 1]) (rest := []) (n := 3) C (c_X9_within e10) gX9_kind_X9_within (by decide +kernel) ⟨Nat.le_of_ble_eq_true rfl, Nat.le_of_ble_eq_true rfl⟩ rfl rfl rfl ⟨Nat.zero_le _, Nat.zero_le _⟩ hl.1 rfl rfl (Nat.le_of_ble_eq_true rfl) dX9_kind_16 ?_
      refine hx_if_ne (tgt := 25) C dX9_kind_19 (by decide) (fun c11 => ?_) (fun c11 => ?_)
      · have h := hx_neg c11 h
        refine hx_iload_n C dX9_kind_25 rfl (lv_at hl 3 rfl) ?_
        refine hx_if_ne (tgt := 36) C dX9_kind_26 (by decide) (fun c12 => ?_) (fun c12 => ?_)
        · have h := hx_neg c12 h
          refine hx_aload_n C dX9_kind_36 rfl (lv_at hl 0 rfl) ?_
          obtain ⟨g13, h⟩ := hx_gd h
          refine hx_geti C (ci := 4) (j := 1) g13 uX9_kind_4 (by decide) rfl (by decide) rfl (by decide +kernel) rfl dX9_kind_37 ?_
          obtain rfl := hx_some1 h
          exact hx_iret C hr dX9_kind_40
        · have h := hx_pos c12 h
          refine hx_aload_n C dX9_kind_29 rfl (lv_at hl 0 rfl) ?_
          obtain ⟨g14, h⟩ := hx_gd h
          refine hx_geti C (ci := 4) (j := 0) g14 uX9_kind_4 (by decide) rfl (by decide) rfl (by decide +kernel) rfl dX9_kind_30 ?_
          refine hx_goto (tgt := 40) C dX9_kind_33 (by decide) ?_
          obtain rfl := hx_some1 h
          exact hx_iret C hr dX9_kind_40
      · have h := hx_pos c11 h
        refine hx_ldc (v := (-100001)) C (by decide +kernel) dX9_kind_22 ?_
        obtain rfl := hx_some1 h
        exact hx_iret C hr dX9_kind_24
def f_X9_customer (L : hL) (X : hX) (this : Nat) (a1 : Int32) (a2 : Int32) : Option (Int32) :=
  (f_X9_counter L X this).bind fun r1 =>
  if tk L this 9 then
  Option.elim r1
  (
    none)
  fun i4 =>
    (f_X0_customerAt L X i4 a1).bind fun r5 =>
    if tk L i4 0 then
    Option.elim r5
    (
      some (-100001))
    fun i8 =>
      (f_X1_part L X i8 a2).bind fun r9 =>
      if tk L i8 1 then
      some r9
      else none
    else none
  else none
set_option maxRecDepth 100000 in
set_option maxHeartbeats 4000000 in
theorem c_X9_customer {l : Launch} {dC : Nat → ClassId} {dI : Nat → Nat → Nat} {cy : Nat → ClassId} {ad : Nat → Nat} {L : hL} {X : hX} {this : Nat} {a1 : Int32} {a2 : Int32} {r : Int32} (h : f_X9_customer L X this a1 a2 = some r) : hMet l dC dI cy ad L yX9_customer wsX9_customer ({ frames := 2, cells := 0, slots := 0, locals := 44 } : Room) [.ref (ad this), .int a1, .int a2] X (some (.int r)) X := by
  unfold f_X9_customer at h
  refine hx_enter RX9 (plainFor_of_name (by decide)) rfl rfl (Nat.le_of_ble_eq_true rfl) (fun p e s m args below meth c C hr hnm ls hl => ?_)
  have hl : lv_has ls 4 [(0, .ref (ad this)), (1, .int a1), (2, .int a2)] := hl
  refine hx_aload_n C dX9_customer_0 rfl (lv_at hl 0 rfl) ?_
  obtain ⟨r1, e2, h⟩ := hx_bind h
  obtain ⟨g3, h⟩ := hx_gd h
  refine hx_callV (As := []) (rest := []) (n := 0) (Cn := RX9) C (c_X9_counter e2) gX9_customer_X9_counter g3 (by decide) rfl (by decide +kernel) ⟨Nat.le_of_ble_eq_true rfl, Nat.le_of_ble_eq_true rfl⟩ rfl rfl rfl ⟨Nat.zero_le _, Nat.zero_le _⟩ hl.1 rfl rfl (Nat.le_of_ble_eq_true rfl) dX9_customer_1 ?_
  rcases r1 with _ | i4
  · have h := hx_eln h
    refine hx_iload_n C dX9_customer_4 rfl (lv_at hl 1 rfl) ?_
    cases h
  · have h := hx_els h
    refine hx_iload_n C dX9_customer_4 rfl (lv_at hl 1 rfl) ?_
    obtain ⟨r5, e6, h⟩ := hx_bind h
    obtain ⟨g7, h⟩ := hx_gd h
    refine hx_callV (As := [.int a1]) (rest := []) (n := 1) (Cn := RX0) C (c_X0_customerAt e6) gX9_customer_X0_customerAt g7 (by decide) rfl (by decide +kernel) ⟨Nat.le_of_ble_eq_true rfl, Nat.le_of_ble_eq_true rfl⟩ rfl rfl rfl ⟨Nat.zero_le _, Nat.zero_le _⟩ hl.1 rfl rfl (Nat.le_of_ble_eq_true rfl) dX9_customer_5 ?_
    rcases r5 with _ | i8
    · have h := hx_eln h
      refine hx_astore_nN (lv' := [(3, .null), (0, .ref (ad this)), (1, .int a1), (2, .int a2)]) C dX9_customer_8 rfl hl (by decide) rfl (fun ls hl => ?_)
      refine hx_aload_nN C dX9_customer_9 rfl (lv_at hl 0 rfl) ?_
      refine hx_ifnonnullN C dX9_customer_10 ?_
      refine hx_ldc (v := (-100001)) C (by decide +kernel) dX9_customer_13 ?_
      obtain rfl := hx_some1 h
      exact hx_iret C hr dX9_customer_15
    · have h := hx_els h
      refine hx_astore_n (lv' := [(3, .ref (ad i8)), (0, .ref (ad this)), (1, .int a1), (2, .int a2)]) C dX9_customer_8 rfl hl (by decide) rfl (fun ls hl => ?_)
      refine hx_aload_n C dX9_customer_9 rfl (lv_at hl 0 rfl) ?_
      refine hx_ifnonnull (tgt := 16) C dX9_customer_10 (by decide) ?_
      refine hx_aload_n C dX9_customer_16 rfl (lv_at hl 0 rfl) ?_
      refine hx_iload_n C dX9_customer_17 rfl (lv_at hl 3 rfl) ?_
      obtain ⟨r9, e10, h⟩ := hx_bind h
      obtain ⟨g11, h⟩ := hx_gd h
      refine hx_callV (As := [.int a2]) (rest := []) (n := 1) (Cn := RX1) C (c_X1_part e10) gX9_customer_X1_part g11 (by decide) rfl (by decide +kernel) ⟨Nat.le_of_ble_eq_true rfl, Nat.le_of_ble_eq_true rfl⟩ rfl rfl rfl ⟨Nat.zero_le _, Nat.zero_le _⟩ hl.1 rfl rfl (Nat.le_of_ble_eq_true rfl) dX9_customer_18 ?_
      obtain rfl := hx_some1 h
      exact hx_iret C hr dX9_customer_21
def f_X9_prize (L : hL) (X : hX) (this : Nat) (a1 : Int32) (a2 : Int32) : Option (Int32) :=
  (f_X9_counter L X this).bind fun r1 =>
  if tk L this 9 then
  Option.elim r1
  (
    none)
  fun i4 =>
    (f_X0_prizeAt L X i4 a1).bind fun r5 =>
    if tk L i4 0 then
    Option.elim r5
    (
      some (-100001))
    fun i8 =>
      (f_X5_part L X i8 a2).bind fun r9 =>
      if tk L i8 5 then
      some r9
      else none
    else none
  else none
set_option maxRecDepth 100000 in
set_option maxHeartbeats 4000000 in
theorem c_X9_prize {l : Launch} {dC : Nat → ClassId} {dI : Nat → Nat → Nat} {cy : Nat → ClassId} {ad : Nat → Nat} {L : hL} {X : hX} {this : Nat} {a1 : Int32} {a2 : Int32} {r : Int32} (h : f_X9_prize L X this a1 a2 = some r) : hMet l dC dI cy ad L yX9_prize wsX9_prize ({ frames := 2, cells := 0, slots := 0, locals := 44 } : Room) [.ref (ad this), .int a1, .int a2] X (some (.int r)) X := by
  unfold f_X9_prize at h
  refine hx_enter RX9 (plainFor_of_name (by decide)) rfl rfl (Nat.le_of_ble_eq_true rfl) (fun p e s m args below meth c C hr hnm ls hl => ?_)
  have hl : lv_has ls 4 [(0, .ref (ad this)), (1, .int a1), (2, .int a2)] := hl
  refine hx_aload_n C dX9_prize_0 rfl (lv_at hl 0 rfl) ?_
  obtain ⟨r1, e2, h⟩ := hx_bind h
  obtain ⟨g3, h⟩ := hx_gd h
  refine hx_callV (As := []) (rest := []) (n := 0) (Cn := RX9) C (c_X9_counter e2) gX9_prize_X9_counter g3 (by decide) rfl (by decide +kernel) ⟨Nat.le_of_ble_eq_true rfl, Nat.le_of_ble_eq_true rfl⟩ rfl rfl rfl ⟨Nat.zero_le _, Nat.zero_le _⟩ hl.1 rfl rfl (Nat.le_of_ble_eq_true rfl) dX9_prize_1 ?_
  rcases r1 with _ | i4
  · have h := hx_eln h
    refine hx_iload_n C dX9_prize_4 rfl (lv_at hl 1 rfl) ?_
    cases h
  · have h := hx_els h
    refine hx_iload_n C dX9_prize_4 rfl (lv_at hl 1 rfl) ?_
    obtain ⟨r5, e6, h⟩ := hx_bind h
    obtain ⟨g7, h⟩ := hx_gd h
    refine hx_callV (As := [.int a1]) (rest := []) (n := 1) (Cn := RX0) C (c_X0_prizeAt e6) gX9_prize_X0_prizeAt g7 (by decide) rfl (by decide +kernel) ⟨Nat.le_of_ble_eq_true rfl, Nat.le_of_ble_eq_true rfl⟩ rfl rfl rfl ⟨Nat.zero_le _, Nat.zero_le _⟩ hl.1 rfl rfl (Nat.le_of_ble_eq_true rfl) dX9_prize_5 ?_
    rcases r5 with _ | i8
    · have h := hx_eln h
      refine hx_astore_nN (lv' := [(3, .null), (0, .ref (ad this)), (1, .int a1), (2, .int a2)]) C dX9_prize_8 rfl hl (by decide) rfl (fun ls hl => ?_)
      refine hx_aload_nN C dX9_prize_9 rfl (lv_at hl 0 rfl) ?_
      refine hx_ifnonnullN C dX9_prize_10 ?_
      refine hx_ldc (v := (-100001)) C (by decide +kernel) dX9_prize_13 ?_
      obtain rfl := hx_some1 h
      exact hx_iret C hr dX9_prize_15
    · have h := hx_els h
      refine hx_astore_n (lv' := [(3, .ref (ad i8)), (0, .ref (ad this)), (1, .int a1), (2, .int a2)]) C dX9_prize_8 rfl hl (by decide) rfl (fun ls hl => ?_)
      refine hx_aload_n C dX9_prize_9 rfl (lv_at hl 0 rfl) ?_
      refine hx_ifnonnull (tgt := 16) C dX9_prize_10 (by decide) ?_
      refine hx_aload_n C dX9_prize_16 rfl (lv_at hl 0 rfl) ?_
      refine hx_iload_n C dX9_prize_17 rfl (lv_at hl 3 rfl) ?_
      obtain ⟨r9, e10, h⟩ := hx_bind h
      obtain ⟨g11, h⟩ := hx_gd h
      refine hx_callV (As := [.int a2]) (rest := []) (n := 1) (Cn := RX5) C (c_X5_part e10) gX9_prize_X5_part g11 (by decide) rfl (by decide +kernel) ⟨Nat.le_of_ble_eq_true rfl, Nat.le_of_ble_eq_true rfl⟩ rfl rfl rfl ⟨Nat.zero_le _, Nat.zero_le _⟩ hl.1 rfl rfl (Nat.le_of_ble_eq_true rfl) dX9_prize_18 ?_
      obtain rfl := hx_some1 h
      exact hx_iret C hr dX9_prize_21
theorem uX9_read_0 : ∀ w ∈ u_ws RX0 TX0 9, w ∈ wsX9_read := by decide +kernel
theorem uX9_read_7 : ∀ w ∈ u_ws RX7 TX7 3, w ∈ wsX9_read := by decide +kernel
def f_X9_read (L : hL) (X : hX) (this : Nat) (a1 : Int32) : Option (Int32) :=
  (f_X9_within L X a1 (-5000) 3000000).bind fun r1 =>
  if r1 = 0 then
    some (-100001)
  else
    (f_X9_counter L X this).bind fun r4 =>
    if tk L this 9 then
    Option.elim r4
    (
      none)
    fun i7 =>
      if tk L i7 0 then
      (X.2 i7 1).bind fun q9 =>
      if tk L q9 7 then
      (f_X9_readingAt L X (X.1 q9 0) a1).bind fun r12 =>
      some r12
      else none
      else none
    else none
set_option maxRecDepth 100000 in
set_option maxHeartbeats 4000000 in
theorem c_X9_read {l : Launch} {dC : Nat → ClassId} {dI : Nat → Nat → Nat} {cy : Nat → ClassId} {ad : Nat → Nat} {L : hL} {X : hX} {this : Nat} {a1 : Int32} {r : Int32} (h : f_X9_read L X this a1 = some r) : hMet l dC dI cy ad L yX9_read wsX9_read ({ frames := 3, cells := 0, slots := 0, locals := 64 } : Room) [.ref (ad this), .int a1] X (some (.int r)) X := by
  unfold f_X9_read at h
  refine hx_enter RX9 (plainFor_of_name (by decide)) rfl rfl (Nat.le_of_ble_eq_true rfl) (fun p e s m args below meth c C hr hnm ls hl => ?_)
  have hl : lv_has ls 2 [(0, .ref (ad this)), (1, .int a1)] := hl
  refine hx_iload_n C dX9_read_0 rfl (lv_at hl 1 rfl) ?_
  refine hx_sipush (v := (-5000)) C dX9_read_1 (by decide) ?_
  refine hx_ldc (v := 3000000) C (by decide +kernel) dX9_read_4 ?_
  obtain ⟨r1, e2, h⟩ := hx_bind h
  refine hx_callS (As := [.int a1, .int (-5000), .int 3000000]) (rest := []) (n := 3) C (c_X9_within e2) gX9_read_X9_within (by decide +kernel) ⟨Nat.le_of_ble_eq_true rfl, Nat.le_of_ble_eq_true rfl⟩ rfl rfl rfl ⟨Nat.zero_le _, Nat.zero_le _⟩ hl.1 rfl rfl (Nat.le_of_ble_eq_true rfl) dX9_read_6 ?_
  refine hx_if_ne (tgt := 15) C dX9_read_9 (by decide) (fun c3 => ?_) (fun c3 => ?_)
  · have h := hx_neg c3 h
    refine hx_aload_n C dX9_read_15 rfl (lv_at hl 0 rfl) ?_
    obtain ⟨r4, e5, h⟩ := hx_bind h
    obtain ⟨g6, h⟩ := hx_gd h
    refine hx_callV (As := []) (rest := []) (n := 0) (Cn := RX9) C (c_X9_counter e5) gX9_read_X9_counter g6 (by decide) rfl (by decide +kernel) ⟨Nat.le_of_ble_eq_true rfl, Nat.le_of_ble_eq_true rfl⟩ rfl rfl rfl ⟨Nat.zero_le _, Nat.zero_le _⟩ hl.1 rfl rfl (Nat.le_of_ble_eq_true rfl) dX9_read_16 ?_
    rcases r4 with _ | i7
    · have h := hx_eln h
      cases h
    · have h := hx_els h
      obtain ⟨g8, h⟩ := hx_gd h
      obtain ⟨q9, e10, h⟩ := hx_bind h
      refine hx_getr C (ci := 0) (j := 1) g8 uX9_read_0 (by decide) rfl (by decide) rfl (by decide +kernel) rfl dX9_read_19 e10 ?_
      obtain ⟨g11, h⟩ := hx_gd h
      refine hx_geti C (ci := 7) (j := 0) g11 uX9_read_7 (by decide) rfl (by decide) rfl (by decide +kernel) rfl dX9_read_22 ?_
      refine hx_iload_n C dX9_read_25 rfl (lv_at hl 1 rfl) ?_
      obtain ⟨r12, e13, h⟩ := hx_bind h
      refine hx_callS (As := [.int (X.1 q9 0), .int a1]) (rest := []) (n := 2) C (c_X9_readingAt e13) gX9_read_X9_readingAt (by decide +kernel) ⟨Nat.le_of_ble_eq_true rfl, Nat.le_of_ble_eq_true rfl⟩ rfl rfl rfl ⟨Nat.zero_le _, Nat.zero_le _⟩ hl.1 rfl rfl (Nat.le_of_ble_eq_true rfl) dX9_read_26 ?_
      obtain rfl := hx_some1 h
      exact hx_iret C hr dX9_read_29
  · have h := hx_pos c3 h
    refine hx_ldc (v := (-100001)) C (by decide +kernel) dX9_read_12 ?_
    obtain rfl := hx_some1 h
    exact hx_iret C hr dX9_read_14
theorem uX9_allowed_0 : ∀ w ∈ u_ws RX0 TX0 9, w ∈ wsX9_allowed := by decide +kernel
def f_X9_allowed (L : hL) (X : hX) (this : Nat) (a1 : Int32) (a2 : Int32) (a3 : Int32) : Option (Int32) :=
  (f_X9_counter L X this).bind fun r1 =>
  if tk L this 9 then
  Option.elim r1
  (
    none)
  fun i4 =>
    (f_X0_kindAt L X i4 a2).bind fun r5 =>
    if tk L i4 0 then
    Option.elim r5
    (
      (f_X9_within L X a1 0 3000000).bind fun r9 =>
      if r9 = 0 then
        some (-100001)
      else
        some (-100001))
    fun i8 =>
      (f_X9_within L X a1 0 3000000).bind fun r12 =>
      if r12 = 0 then
        some (-100001)
      else
        (f_X9_within L X a3 0 2).bind fun r15 =>
        if r15 = 0 then
          some (-100001)
        else
          (f_X9_counter L X this).bind fun r18 =>
          Option.elim r18
          (
            none)
          fun i20 =>
            if tk L i20 0 then
            (X.2 i20 1).bind fun q22 =>
            (f_X7_leastCount L X q22 a1 i8).bind fun r24 =>
            if tk L q22 7 then
            (f_X9_counter L X this).bind fun r27 =>
            Option.elim r27
            (
              none)
            fun i29 =>
              if tk L i29 0 then
              (X.2 i29 1).bind fun q31 =>
              (f_X7_greatestCount L X q31 a1 i8).bind fun r33 =>
              if tk L q31 7 then
              if r24 ≤ r33 then
                if a3 = 0 then
                  some r24
                else
                if a3 = 1 then
                  some r33
                else
                some ((r33 - r24) + 1)
              else
                if a3 = 2 then
                  some 0
                else
                  some (-100009)
              else none
              else none
            else none
            else none
    else none
  else none
set_option maxRecDepth 100000 in
set_option maxHeartbeats 4000000 in
theorem c_X9_allowed {l : Launch} {dC : Nat → ClassId} {dI : Nat → Nat → Nat} {cy : Nat → ClassId} {ad : Nat → Nat} {L : hL} {X : hX} {this : Nat} {a1 : Int32} {a2 : Int32} {a3 : Int32} {r : Int32} (h : f_X9_allowed L X this a1 a2 a3 = some r) : hMet l dC dI cy ad L yX9_allowed wsX9_allowed ({ frames := 3, cells := 0, slots := 0, locals := 67 } : Room) [.ref (ad this), .int a1, .int a2, .int a3] X (some (.int r)) X := by
  unfold f_X9_allowed at h
  refine hx_enter RX9 (plainFor_of_name (by decide)) rfl rfl (Nat.le_of_ble_eq_true rfl) (fun p e s m args below meth c C hr hnm ls hl => ?_)
  have hl : lv_has ls 7 [(0, .ref (ad this)), (1, .int a1), (2, .int a2), (3, .int a3)] := hl
  refine hx_aload_n C dX9_allowed_0 rfl (lv_at hl 0 rfl) ?_
  obtain ⟨r1, e2, h⟩ := hx_bind h
  obtain ⟨g3, h⟩ := hx_gd h
  refine hx_callV (As := []) (rest := []) (n := 0) (Cn := RX9) C (c_X9_counter e2) gX9_allowed_X9_counter g3 (by decide) rfl (by decide +kernel) ⟨Nat.le_of_ble_eq_true rfl, Nat.le_of_ble_eq_true rfl⟩ rfl rfl rfl ⟨Nat.zero_le _, Nat.zero_le _⟩ hl.1 rfl rfl (Nat.le_of_ble_eq_true rfl) dX9_allowed_1 ?_
  rcases r1 with _ | i4
  · have h := hx_eln h
    refine hx_iload_n C dX9_allowed_4 rfl (lv_at hl 2 rfl) ?_
    cases h
  · have h := hx_els h
    refine hx_iload_n C dX9_allowed_4 rfl (lv_at hl 2 rfl) ?_
    obtain ⟨r5, e6, h⟩ := hx_bind h
    obtain ⟨g7, h⟩ := hx_gd h
    refine hx_callV (As := [.int a2]) (rest := []) (n := 1) (Cn := RX0) C (c_X0_kindAt e6) gX9_allowed_X0_kindAt g7 (by decide) rfl (by decide +kernel) ⟨Nat.le_of_ble_eq_true rfl, Nat.le_of_ble_eq_true rfl⟩ rfl rfl rfl ⟨Nat.zero_le _, Nat.zero_le _⟩ hl.1 rfl rfl (Nat.le_of_ble_eq_true rfl) dX9_allowed_5 ?_
    rcases r5 with _ | i8
    · have h := hx_eln h
      refine hx_astoreN (lv' := [(4, .null), (0, .ref (ad this)), (1, .int a1), (2, .int a2), (3, .int a3)]) C dX9_allowed_8 hl (by decide) rfl (fun ls hl => ?_)
      refine hx_iload_n C dX9_allowed_10 rfl (lv_at hl 2 rfl) ?_
      refine hx_iconst (v := 0) C dX9_allowed_11 (by decide) ?_
      refine hx_ldc (v := 3000000) C (by decide +kernel) dX9_allowed_12 ?_
      obtain ⟨r9, e10, h⟩ := hx_bind h
      refine hx_callS (As := [.int a1, .int 0, .int 3000000]) (rest := []) (n := 3) C (c_X9_within e10) gX9_allowed_X9_within (by decide +kernel) ⟨Nat.le_of_ble_eq_true rfl, Nat.le_of_ble_eq_true rfl⟩ rfl rfl rfl ⟨Nat.zero_le _, Nat.zero_le _⟩ hl.1 rfl rfl (Nat.le_of_ble_eq_true rfl) dX9_allowed_14 ?_
      refine hx_if_eq (tgt := 34) C dX9_allowed_17 (by decide) (fun c11 => ?_) (fun c11 => ?_)
      · have h := hx_pos c11 h
        refine hx_ldc (v := (-100001)) C (by decide +kernel) dX9_allowed_34 ?_
        obtain rfl := hx_some1 h
        exact hx_iret C hr dX9_allowed_36
      · have h := hx_neg c11 h
        refine hx_aloadN C dX9_allowed_20 (lv_at hl 0 rfl) ?_
        refine hx_ifnullN (tgt := 34) C dX9_allowed_22 (by decide) ?_
        refine hx_ldc (v := (-100001)) C (by decide +kernel) dX9_allowed_34 ?_
        obtain rfl := hx_some1 h
        exact hx_iret C hr dX9_allowed_36
    · have h := hx_els h
      refine hx_astore (lv' := [(4, .ref (ad i8)), (0, .ref (ad this)), (1, .int a1), (2, .int a2), (3, .int a3)]) C dX9_allowed_8 hl (by decide) rfl (fun ls hl => ?_)
      refine hx_iload_n C dX9_allowed_10 rfl (lv_at hl 2 rfl) ?_
      refine hx_iconst (v := 0) C dX9_allowed_11 (by decide) ?_
      refine hx_ldc (v := 3000000) C (by decide +kernel) dX9_allowed_12 ?_
      obtain ⟨r12, e13, h⟩ := hx_bind h
      refine hx_callS (As := [.int a1, .int 0, .int 3000000]) (rest := []) (n := 3) C (c_X9_within e13) gX9_allowed_X9_within (by decide +kernel) ⟨Nat.le_of_ble_eq_true rfl, Nat.le_of_ble_eq_true rfl⟩ rfl rfl rfl ⟨Nat.zero_le _, Nat.zero_le _⟩ hl.1 rfl rfl (Nat.le_of_ble_eq_true rfl) dX9_allowed_14 ?_
      refine hx_if_eq (tgt := 34) C dX9_allowed_17 (by decide) (fun c14 => ?_) (fun c14 => ?_)
      · have h := hx_pos c14 h
        refine hx_ldc (v := (-100001)) C (by decide +kernel) dX9_allowed_34 ?_
        obtain rfl := hx_some1 h
        exact hx_iret C hr dX9_allowed_36
      · have h := hx_neg c14 h
        refine hx_aload C dX9_allowed_20 (lv_at hl 0 rfl) ?_
        refine hx_ifnull C dX9_allowed_22 ?_
        refine hx_iload_n C dX9_allowed_25 rfl (lv_at hl 4 rfl) ?_
        refine hx_iconst (v := 0) C dX9_allowed_26 (by decide) ?_
        refine hx_iconst (v := 2) C dX9_allowed_27 (by decide) ?_
        obtain ⟨r15, e16, h⟩ := hx_bind h
        refine hx_callS (As := [.int a3, .int 0, .int 2]) (rest := []) (n := 3) C (c_X9_within e16) gX9_allowed_X9_within (by decide +kernel) ⟨Nat.le_of_ble_eq_true rfl, Nat.le_of_ble_eq_true rfl⟩ rfl rfl rfl ⟨Nat.zero_le _, Nat.zero_le _⟩ hl.1 rfl rfl (Nat.le_of_ble_eq_true rfl) dX9_allowed_28 ?_
        refine hx_if_ne (tgt := 37) C dX9_allowed_31 (by decide) (fun c17 => ?_) (fun c17 => ?_)
        · have h := hx_neg c17 h
          refine hx_aload_n C dX9_allowed_37 rfl (lv_at hl 1 rfl) ?_
          obtain ⟨r18, e19, h⟩ := hx_bind h
          refine hx_callV (As := []) (rest := []) (n := 0) (Cn := RX9) C (c_X9_counter e19) gX9_allowed_X9_counter g3 (by decide) rfl (by decide +kernel) ⟨Nat.le_of_ble_eq_true rfl, Nat.le_of_ble_eq_true rfl⟩ rfl rfl rfl ⟨Nat.zero_le _, Nat.zero_le _⟩ hl.1 rfl rfl (Nat.le_of_ble_eq_true rfl) dX9_allowed_38 ?_
          rcases r18 with _ | i20
          · have h := hx_eln h
            cases h
          · have h := hx_els h
            obtain ⟨g21, h⟩ := hx_gd h
            obtain ⟨q22, e23, h⟩ := hx_bind h
            refine hx_getr C (ci := 0) (j := 1) g21 uX9_allowed_0 (by decide) rfl (by decide) rfl (by decide +kernel) rfl dX9_allowed_41 e23 ?_
            refine hx_iload_n C dX9_allowed_44 rfl (lv_at hl 2 rfl) ?_
            refine hx_aload C dX9_allowed_45 (lv_at hl 0 rfl) ?_
            obtain ⟨r24, e25, h⟩ := hx_bind h
            obtain ⟨g26, h⟩ := hx_gd h
            refine hx_callV (As := [.int a1, .ref (ad i8)]) (rest := []) (n := 2) (Cn := RX7) C (c_X7_leastCount e25) gX9_allowed_X7_leastCount g26 (by decide) rfl (by decide +kernel) ⟨Nat.le_of_ble_eq_true rfl, Nat.le_of_ble_eq_true rfl⟩ rfl rfl rfl ⟨Nat.zero_le _, Nat.zero_le _⟩ hl.1 rfl rfl (Nat.le_of_ble_eq_true rfl) dX9_allowed_47 ?_
            refine hx_istore (lv' := [(5, .int r24), (4, .ref (ad i8)), (0, .ref (ad this)), (1, .int a1), (2, .int a2), (3, .int a3)]) C dX9_allowed_50 hl (by decide) rfl (fun ls hl => ?_)
            refine hx_aload_n C dX9_allowed_52 rfl (lv_at hl 2 rfl) ?_
            obtain ⟨r27, e28, h⟩ := hx_bind h
            refine hx_callV (As := []) (rest := []) (n := 0) (Cn := RX9) C (c_X9_counter e28) gX9_allowed_X9_counter g3 (by decide) rfl (by decide +kernel) ⟨Nat.le_of_ble_eq_true rfl, Nat.le_of_ble_eq_true rfl⟩ rfl rfl rfl ⟨Nat.zero_le _, Nat.zero_le _⟩ hl.1 rfl rfl (Nat.le_of_ble_eq_true rfl) dX9_allowed_53 ?_
            rcases r27 with _ | i29
            · have h := hx_eln h
              cases h
            · have h := hx_els h
              obtain ⟨g30, h⟩ := hx_gd h
              obtain ⟨q31, e32, h⟩ := hx_bind h
              refine hx_getr C (ci := 0) (j := 1) g30 uX9_allowed_0 (by decide) rfl (by decide) rfl (by decide +kernel) rfl dX9_allowed_56 e32 ?_
              refine hx_iload_n C dX9_allowed_59 rfl (lv_at hl 3 rfl) ?_
              refine hx_aload C dX9_allowed_60 (lv_at hl 1 rfl) ?_
              obtain ⟨r33, e34, h⟩ := hx_bind h
              obtain ⟨g35, h⟩ := hx_gd h
              refine hx_callV (As := [.int a1, .ref (ad i8)]) (rest := []) (n := 2) (Cn := RX7) C (c_X7_greatestCount e34) gX9_allowed_X7_greatestCount g35 (by decide) rfl (by decide +kernel) ⟨Nat.le_of_ble_eq_true rfl, Nat.le_of_ble_eq_true rfl⟩ rfl rfl rfl ⟨Nat.zero_le _, Nat.zero_le _⟩ hl.1 rfl rfl (Nat.le_of_ble_eq_true rfl) dX9_allowed_62 ?_
              refine hx_istore (lv' := [(6, .int r33), (5, .int r24), (4, .ref (ad i8)), (0, .ref (ad this)), (1, .int a1), (2, .int a2), (3, .int a3)]) C dX9_allowed_65 hl (by decide) rfl (fun ls hl => ?_)
              refine hx_iload C dX9_allowed_67 (lv_at hl 1 rfl) ?_
              refine hx_iload C dX9_allowed_69 (lv_at hl 0 rfl) ?_
              refine hx_icmp_le (tgt := 86) C dX9_allowed_71 (by decide) (fun c36 => ?_) (fun c36 => ?_)
              · have h := hx_pos c36 h
                refine hx_iload_n C dX9_allowed_86 rfl (lv_at hl 6 rfl) ?_
                by_cases c37 : a3 = 0
                · have h := hx_pos c37 h
                  have hz : Int32.toInt a3 = 0 := by rw [c37]; rfl
                  refine hx_look (tgt := 112) (off := 25) C [(0, 25), (1, 28)] dX9_allowed_87 rfl (by decide) (by rw [hz] <;> decide) (by decide) ?_
                  refine hx_iload C dX9_allowed_112 (lv_at hl 1 rfl) ?_
                  obtain rfl := hx_some1 h
                  exact hx_iret C hr dX9_allowed_114
                have h := hx_neg c37 h
                have zc37 : Int32.toInt a3 ≠ 0 := fun z => c37 (Int32.toInt_inj.mp (z.trans rfl))
                by_cases c38 : a3 = 1
                · have h := hx_pos c38 h
                  have hz : Int32.toInt a3 = 1 := by rw [c38]; rfl
                  refine hx_look (tgt := 115) (off := 28) C [(0, 25), (1, 28)] dX9_allowed_87 rfl (by decide) (by rw [hz] <;> decide) (by decide) ?_
                  refine hx_iload C dX9_allowed_115 (lv_at hl 0 rfl) ?_
                  obtain rfl := hx_some1 h
                  exact hx_iret C hr dX9_allowed_117
                have h := hx_neg c38 h
                have zc38 : Int32.toInt a3 ≠ 1 := fun z => c38 (Int32.toInt_inj.mp (z.trans rfl))
                refine hx_look (tgt := 118) (off := 31) C [(0, 25), (1, 28)] dX9_allowed_87 rfl (by decide) (by simp only [Op.lookupswitch.offset, if_neg (Ne.symm zc37), if_neg (Ne.symm zc38)]) (by decide) ?_
                refine hx_iload C dX9_allowed_118 (lv_at hl 0 rfl) ?_
                refine hx_iload C dX9_allowed_120 (lv_at hl 1 rfl) ?_
                refine hx_isub C dX9_allowed_122 ?_
                refine hx_iconst (v := 1) C dX9_allowed_123 (by decide) ?_
                refine hx_iadd C dX9_allowed_124 ?_
                obtain rfl := hx_some1 h
                exact hx_iret C hr dX9_allowed_125
              · have h := hx_neg c36 h
                refine hx_iload_n C dX9_allowed_74 rfl (lv_at hl 6 rfl) ?_
                refine hx_iconst (v := 2) C dX9_allowed_75 (by decide) ?_
                refine hx_icmp_ne (tgt := 83) C dX9_allowed_76 (by decide) (fun c39 => ?_) (fun c39 => ?_)
                · have h := hx_neg c39 h
                  refine hx_ldc (v := (-100009)) C (by decide +kernel) dX9_allowed_83 ?_
                  obtain rfl := hx_some1 h
                  exact hx_iret C hr dX9_allowed_85
                · have h := hx_pos c39 h
                  refine hx_iconst (v := 0) C dX9_allowed_79 (by decide) ?_
                  refine hx_goto (tgt := 85) C dX9_allowed_80 (by decide) ?_
                  obtain rfl := hx_some1 h
                  exact hx_iret C hr dX9_allowed_85
        · have h := hx_pos c17 h
          refine hx_ldc (v := (-100001)) C (by decide +kernel) dX9_allowed_34 ?_
          obtain rfl := hx_some1 h
          exact hx_iret C hr dX9_allowed_36
theorem uX9_guess_0 : ∀ w ∈ u_ws RX0 TX0 9, w ∈ wsX9_guess := by decide +kernel
def f_X9_guess (L : hL) (X : hX) (this : Nat) (a1 : Int32) (a2 : Int32) (a3 : Int32) : Option (Int32) :=
  (f_X9_counter L X this).bind fun r1 =>
  if tk L this 9 then
  Option.elim r1
  (
    none)
  fun i4 =>
    (f_X0_kindAt L X i4 a2).bind fun r5 =>
    if tk L i4 0 then
    Option.elim r5
    (
      (f_X9_within L X a1 0 3000000).bind fun r9 =>
      if r9 = 0 then
        some (-100001)
      else
        some (-100001))
    fun i8 =>
      (f_X9_within L X a1 0 3000000).bind fun r12 =>
      if r12 = 0 then
        some (-100001)
      else
        (f_X9_within L X a3 0 3).bind fun r15 =>
        if r15 = 0 then
          some (-100001)
        else
          (f_X9_counter L X this).bind fun r18 =>
          Option.elim r18
          (
            none)
          fun i20 =>
            if tk L i20 0 then
            (X.2 i20 1).bind fun q22 =>
            (f_X7_guessFrom L X q22 a1 i8 a3).bind fun r24 =>
            if tk L q22 7 then
            some r24
            else none
            else none
    else none
  else none
set_option maxRecDepth 100000 in
set_option maxHeartbeats 4000000 in
theorem c_X9_guess {l : Launch} {dC : Nat → ClassId} {dI : Nat → Nat → Nat} {cy : Nat → ClassId} {ad : Nat → Nat} {L : hL} {X : hX} {this : Nat} {a1 : Int32} {a2 : Int32} {a3 : Int32} {r : Int32} (h : f_X9_guess L X this a1 a2 a3 = some r) : hMet l dC dI cy ad L yX9_guess wsX9_guess ({ frames := 4, cells := 0, slots := 0, locals := 92 } : Room) [.ref (ad this), .int a1, .int a2, .int a3] X (some (.int r)) X := by
  unfold f_X9_guess at h
  refine hx_enter RX9 (plainFor_of_name (by decide)) rfl rfl (Nat.le_of_ble_eq_true rfl) (fun p e s m args below meth c C hr hnm ls hl => ?_)
  have hl : lv_has ls 5 [(0, .ref (ad this)), (1, .int a1), (2, .int a2), (3, .int a3)] := hl
  refine hx_aload_n C dX9_guess_0 rfl (lv_at hl 0 rfl) ?_
  obtain ⟨r1, e2, h⟩ := hx_bind h
  obtain ⟨g3, h⟩ := hx_gd h
  refine hx_callV (As := []) (rest := []) (n := 0) (Cn := RX9) C (c_X9_counter e2) gX9_guess_X9_counter g3 (by decide) rfl (by decide +kernel) ⟨Nat.le_of_ble_eq_true rfl, Nat.le_of_ble_eq_true rfl⟩ rfl rfl rfl ⟨Nat.zero_le _, Nat.zero_le _⟩ hl.1 rfl rfl (Nat.le_of_ble_eq_true rfl) dX9_guess_1 ?_
  rcases r1 with _ | i4
  · have h := hx_eln h
    refine hx_iload_n C dX9_guess_4 rfl (lv_at hl 2 rfl) ?_
    cases h
  · have h := hx_els h
    refine hx_iload_n C dX9_guess_4 rfl (lv_at hl 2 rfl) ?_
    obtain ⟨r5, e6, h⟩ := hx_bind h
    obtain ⟨g7, h⟩ := hx_gd h
    refine hx_callV (As := [.int a2]) (rest := []) (n := 1) (Cn := RX0) C (c_X0_kindAt e6) gX9_guess_X0_kindAt g7 (by decide) rfl (by decide +kernel) ⟨Nat.le_of_ble_eq_true rfl, Nat.le_of_ble_eq_true rfl⟩ rfl rfl rfl ⟨Nat.zero_le _, Nat.zero_le _⟩ hl.1 rfl rfl (Nat.le_of_ble_eq_true rfl) dX9_guess_5 ?_
    rcases r5 with _ | i8
    · have h := hx_eln h
      refine hx_astoreN (lv' := [(4, .null), (0, .ref (ad this)), (1, .int a1), (2, .int a2), (3, .int a3)]) C dX9_guess_8 hl (by decide) rfl (fun ls hl => ?_)
      refine hx_iload_n C dX9_guess_10 rfl (lv_at hl 2 rfl) ?_
      refine hx_iconst (v := 0) C dX9_guess_11 (by decide) ?_
      refine hx_ldc (v := 3000000) C (by decide +kernel) dX9_guess_12 ?_
      obtain ⟨r9, e10, h⟩ := hx_bind h
      refine hx_callS (As := [.int a1, .int 0, .int 3000000]) (rest := []) (n := 3) C (c_X9_within e10) gX9_guess_X9_within (by decide +kernel) ⟨Nat.le_of_ble_eq_true rfl, Nat.le_of_ble_eq_true rfl⟩ rfl rfl rfl ⟨Nat.zero_le _, Nat.zero_le _⟩ hl.1 rfl rfl (Nat.le_of_ble_eq_true rfl) dX9_guess_14 ?_
      refine hx_if_eq (tgt := 34) C dX9_guess_17 (by decide) (fun c11 => ?_) (fun c11 => ?_)
      · have h := hx_pos c11 h
        refine hx_ldc (v := (-100001)) C (by decide +kernel) dX9_guess_34 ?_
        obtain rfl := hx_some1 h
        exact hx_iret C hr dX9_guess_36
      · have h := hx_neg c11 h
        refine hx_aloadN C dX9_guess_20 (lv_at hl 0 rfl) ?_
        refine hx_ifnullN (tgt := 34) C dX9_guess_22 (by decide) ?_
        refine hx_ldc (v := (-100001)) C (by decide +kernel) dX9_guess_34 ?_
        obtain rfl := hx_some1 h
        exact hx_iret C hr dX9_guess_36
    · have h := hx_els h
      refine hx_astore (lv' := [(4, .ref (ad i8)), (0, .ref (ad this)), (1, .int a1), (2, .int a2), (3, .int a3)]) C dX9_guess_8 hl (by decide) rfl (fun ls hl => ?_)
      refine hx_iload_n C dX9_guess_10 rfl (lv_at hl 2 rfl) ?_
      refine hx_iconst (v := 0) C dX9_guess_11 (by decide) ?_
      refine hx_ldc (v := 3000000) C (by decide +kernel) dX9_guess_12 ?_
      obtain ⟨r12, e13, h⟩ := hx_bind h
      refine hx_callS (As := [.int a1, .int 0, .int 3000000]) (rest := []) (n := 3) C (c_X9_within e13) gX9_guess_X9_within (by decide +kernel) ⟨Nat.le_of_ble_eq_true rfl, Nat.le_of_ble_eq_true rfl⟩ rfl rfl rfl ⟨Nat.zero_le _, Nat.zero_le _⟩ hl.1 rfl rfl (Nat.le_of_ble_eq_true rfl) dX9_guess_14 ?_
      refine hx_if_eq (tgt := 34) C dX9_guess_17 (by decide) (fun c14 => ?_) (fun c14 => ?_)
      · have h := hx_pos c14 h
        refine hx_ldc (v := (-100001)) C (by decide +kernel) dX9_guess_34 ?_
        obtain rfl := hx_some1 h
        exact hx_iret C hr dX9_guess_36
      · have h := hx_neg c14 h
        refine hx_aload C dX9_guess_20 (lv_at hl 0 rfl) ?_
        refine hx_ifnull C dX9_guess_22 ?_
        refine hx_iload_n C dX9_guess_25 rfl (lv_at hl 4 rfl) ?_
        refine hx_iconst (v := 0) C dX9_guess_26 (by decide) ?_
        refine hx_iconst (v := 3) C dX9_guess_27 (by decide) ?_
        obtain ⟨r15, e16, h⟩ := hx_bind h
        refine hx_callS (As := [.int a3, .int 0, .int 3]) (rest := []) (n := 3) C (c_X9_within e16) gX9_guess_X9_within (by decide +kernel) ⟨Nat.le_of_ble_eq_true rfl, Nat.le_of_ble_eq_true rfl⟩ rfl rfl rfl ⟨Nat.zero_le _, Nat.zero_le _⟩ hl.1 rfl rfl (Nat.le_of_ble_eq_true rfl) dX9_guess_28 ?_
        refine hx_if_ne (tgt := 37) C dX9_guess_31 (by decide) (fun c17 => ?_) (fun c17 => ?_)
        · have h := hx_neg c17 h
          refine hx_aload_n C dX9_guess_37 rfl (lv_at hl 1 rfl) ?_
          obtain ⟨r18, e19, h⟩ := hx_bind h
          refine hx_callV (As := []) (rest := []) (n := 0) (Cn := RX9) C (c_X9_counter e19) gX9_guess_X9_counter g3 (by decide) rfl (by decide +kernel) ⟨Nat.le_of_ble_eq_true rfl, Nat.le_of_ble_eq_true rfl⟩ rfl rfl rfl ⟨Nat.zero_le _, Nat.zero_le _⟩ hl.1 rfl rfl (Nat.le_of_ble_eq_true rfl) dX9_guess_38 ?_
          rcases r18 with _ | i20
          · have h := hx_eln h
            cases h
          · have h := hx_els h
            obtain ⟨g21, h⟩ := hx_gd h
            obtain ⟨q22, e23, h⟩ := hx_bind h
            refine hx_getr C (ci := 0) (j := 1) g21 uX9_guess_0 (by decide) rfl (by decide) rfl (by decide +kernel) rfl dX9_guess_41 e23 ?_
            refine hx_iload_n C dX9_guess_44 rfl (lv_at hl 2 rfl) ?_
            refine hx_aload C dX9_guess_45 (lv_at hl 0 rfl) ?_
            refine hx_iload_n C dX9_guess_47 rfl (lv_at hl 4 rfl) ?_
            obtain ⟨r24, e25, h⟩ := hx_bind h
            obtain ⟨g26, h⟩ := hx_gd h
            refine hx_callV (As := [.int a1, .ref (ad i8), .int a3]) (rest := []) (n := 3) (Cn := RX7) C (c_X7_guessFrom e25) gX9_guess_X7_guessFrom g26 (by decide) rfl (by decide +kernel) ⟨Nat.le_of_ble_eq_true rfl, Nat.le_of_ble_eq_true rfl⟩ rfl rfl rfl ⟨Nat.zero_le _, Nat.zero_le _⟩ hl.1 rfl rfl (Nat.le_of_ble_eq_true rfl) dX9_guess_48 ?_
            obtain rfl := hx_some1 h
            exact hx_iret C hr dX9_guess_51
        · have h := hx_pos c17 h
          refine hx_ldc (v := (-100001)) C (by decide +kernel) dX9_guess_34 ?_
          obtain rfl := hx_some1 h
          exact hx_iret C hr dX9_guess_36
theorem uX9_apartUpTo_0 : ∀ w ∈ u_ws RX0 TX0 9, w ∈ wsX9_apartUpTo := by decide +kernel
def f_X9_apartUpTo (L : hL) (X : hX) (this : Nat) (a1 : Int32) : Option (Int32) :=
  (f_X9_counter L X this).bind fun r1 =>
  if tk L this 9 then
  Option.elim r1
  (
    none)
  fun i4 =>
    (f_X0_kindAt L X i4 a1).bind fun r5 =>
    if tk L i4 0 then
    Option.elim r5
    (
      some (-100001))
    fun i8 =>
      (f_X9_counter L X this).bind fun r9 =>
      Option.elim r9
      (
        none)
      fun i11 =>
        if tk L i11 0 then
        (X.2 i11 1).bind fun q13 =>
        (f_X7_lastApart L X q13 i8).bind fun r15 =>
        if tk L q13 7 then
        some r15
        else none
        else none
    else none
  else none
set_option maxRecDepth 100000 in
set_option maxHeartbeats 4000000 in
theorem c_X9_apartUpTo {l : Launch} {dC : Nat → ClassId} {dI : Nat → Nat → Nat} {cy : Nat → ClassId} {ad : Nat → Nat} {L : hL} {X : hX} {this : Nat} {a1 : Int32} {r : Int32} (h : f_X9_apartUpTo L X this a1 = some r) : hMet l dC dI cy ad L yX9_apartUpTo wsX9_apartUpTo ({ frames := 5, cells := 0, slots := 0, locals := 111 } : Room) [.ref (ad this), .int a1] X (some (.int r)) X := by
  unfold f_X9_apartUpTo at h
  refine hx_enter RX9 (plainFor_of_name (by decide)) rfl rfl (Nat.le_of_ble_eq_true rfl) (fun p e s m args below meth c C hr hnm ls hl => ?_)
  have hl : lv_has ls 3 [(0, .ref (ad this)), (1, .int a1)] := hl
  refine hx_aload_n C dX9_apartUpTo_0 rfl (lv_at hl 0 rfl) ?_
  obtain ⟨r1, e2, h⟩ := hx_bind h
  obtain ⟨g3, h⟩ := hx_gd h
  refine hx_callV (As := []) (rest := []) (n := 0) (Cn := RX9) C (c_X9_counter e2) gX9_apartUpTo_X9_counter g3 (by decide) rfl (by decide +kernel) ⟨Nat.le_of_ble_eq_true rfl, Nat.le_of_ble_eq_true rfl⟩ rfl rfl rfl ⟨Nat.zero_le _, Nat.zero_le _⟩ hl.1 rfl rfl (Nat.le_of_ble_eq_true rfl) dX9_apartUpTo_1 ?_
  rcases r1 with _ | i4
  · have h := hx_eln h
    refine hx_iload_n C dX9_apartUpTo_4 rfl (lv_at hl 1 rfl) ?_
    cases h
  · have h := hx_els h
    refine hx_iload_n C dX9_apartUpTo_4 rfl (lv_at hl 1 rfl) ?_
    obtain ⟨r5, e6, h⟩ := hx_bind h
    obtain ⟨g7, h⟩ := hx_gd h
    refine hx_callV (As := [.int a1]) (rest := []) (n := 1) (Cn := RX0) C (c_X0_kindAt e6) gX9_apartUpTo_X0_kindAt g7 (by decide) rfl (by decide +kernel) ⟨Nat.le_of_ble_eq_true rfl, Nat.le_of_ble_eq_true rfl⟩ rfl rfl rfl ⟨Nat.zero_le _, Nat.zero_le _⟩ hl.1 rfl rfl (Nat.le_of_ble_eq_true rfl) dX9_apartUpTo_5 ?_
    rcases r5 with _ | i8
    · have h := hx_eln h
      refine hx_astore_nN (lv' := [(2, .null), (0, .ref (ad this)), (1, .int a1)]) C dX9_apartUpTo_8 rfl hl (by decide) rfl (fun ls hl => ?_)
      refine hx_aload_nN C dX9_apartUpTo_9 rfl (lv_at hl 0 rfl) ?_
      refine hx_ifnonnullN C dX9_apartUpTo_10 ?_
      refine hx_ldc (v := (-100001)) C (by decide +kernel) dX9_apartUpTo_13 ?_
      obtain rfl := hx_some1 h
      exact hx_iret C hr dX9_apartUpTo_15
    · have h := hx_els h
      refine hx_astore_n (lv' := [(2, .ref (ad i8)), (0, .ref (ad this)), (1, .int a1)]) C dX9_apartUpTo_8 rfl hl (by decide) rfl (fun ls hl => ?_)
      refine hx_aload_n C dX9_apartUpTo_9 rfl (lv_at hl 0 rfl) ?_
      refine hx_ifnonnull (tgt := 16) C dX9_apartUpTo_10 (by decide) ?_
      refine hx_aload_n C dX9_apartUpTo_16 rfl (lv_at hl 1 rfl) ?_
      obtain ⟨r9, e10, h⟩ := hx_bind h
      refine hx_callV (As := []) (rest := []) (n := 0) (Cn := RX9) C (c_X9_counter e10) gX9_apartUpTo_X9_counter g3 (by decide) rfl (by decide +kernel) ⟨Nat.le_of_ble_eq_true rfl, Nat.le_of_ble_eq_true rfl⟩ rfl rfl rfl ⟨Nat.zero_le _, Nat.zero_le _⟩ hl.1 rfl rfl (Nat.le_of_ble_eq_true rfl) dX9_apartUpTo_17 ?_
      rcases r9 with _ | i11
      · have h := hx_eln h
        cases h
      · have h := hx_els h
        obtain ⟨g12, h⟩ := hx_gd h
        obtain ⟨q13, e14, h⟩ := hx_bind h
        refine hx_getr C (ci := 0) (j := 1) g12 uX9_apartUpTo_0 (by decide) rfl (by decide) rfl (by decide +kernel) rfl dX9_apartUpTo_20 e14 ?_
        refine hx_aload_n C dX9_apartUpTo_23 rfl (lv_at hl 0 rfl) ?_
        obtain ⟨r15, e16, h⟩ := hx_bind h
        obtain ⟨g17, h⟩ := hx_gd h
        refine hx_callV (As := [.ref (ad i8)]) (rest := []) (n := 1) (Cn := RX7) C (c_X7_lastApart e16) gX9_apartUpTo_X7_lastApart g17 (by decide) rfl (by decide +kernel) ⟨Nat.le_of_ble_eq_true rfl, Nat.le_of_ble_eq_true rfl⟩ rfl rfl rfl ⟨Nat.zero_le _, Nat.zero_le _⟩ hl.1 rfl rfl (Nat.le_of_ble_eq_true rfl) dX9_apartUpTo_24 ?_
        obtain rfl := hx_some1 h
        exact hx_iret C hr dX9_apartUpTo_27
theorem uX9_bestStep_0 : ∀ w ∈ u_ws RX0 TX0 9, w ∈ wsX9_bestStep := by decide +kernel
def f_X9_bestStep (L : hL) (X : hX) (this : Nat) (a1 : Int32) (a2 : Int32) : Option (Int32) :=
  (f_X9_counter L X this).bind fun r1 =>
  if tk L this 9 then
  Option.elim r1
  (
    none)
  fun i4 =>
    (f_X0_kindAt L X i4 a1).bind fun r5 =>
    if tk L i4 0 then
    Option.elim r5
    (
      some (-100001))
    fun i8 =>
      (f_X9_within L X a2 0 99).bind fun r9 =>
      if r9 = 0 then
        some (-100001)
      else
        (f_X9_counter L X this).bind fun r12 =>
        Option.elim r12
        (
          none)
        fun i14 =>
          if tk L i14 0 then
          (X.2 i14 1).bind fun q16 =>
          (f_X7_greatestStep L X q16 i8 a2).bind fun r18 =>
          if tk L q16 7 then
          some r18
          else none
          else none
    else none
  else none
set_option maxRecDepth 100000 in
set_option maxHeartbeats 4000000 in
theorem c_X9_bestStep {l : Launch} {dC : Nat → ClassId} {dI : Nat → Nat → Nat} {cy : Nat → ClassId} {ad : Nat → Nat} {L : hL} {X : hX} {this : Nat} {a1 : Int32} {a2 : Int32} {r : Int32} (h : f_X9_bestStep L X this a1 a2 = some r) : hMet l dC dI cy ad L yX9_bestStep wsX9_bestStep ({ frames := 6, cells := 0, slots := 0, locals := 136 } : Room) [.ref (ad this), .int a1, .int a2] X (some (.int r)) X := by
  unfold f_X9_bestStep at h
  refine hx_enter RX9 (plainFor_of_name (by decide)) rfl rfl (Nat.le_of_ble_eq_true rfl) (fun p e s m args below meth c C hr hnm ls hl => ?_)
  have hl : lv_has ls 4 [(0, .ref (ad this)), (1, .int a1), (2, .int a2)] := hl
  refine hx_aload_n C dX9_bestStep_0 rfl (lv_at hl 0 rfl) ?_
  obtain ⟨r1, e2, h⟩ := hx_bind h
  obtain ⟨g3, h⟩ := hx_gd h
  refine hx_callV (As := []) (rest := []) (n := 0) (Cn := RX9) C (c_X9_counter e2) gX9_bestStep_X9_counter g3 (by decide) rfl (by decide +kernel) ⟨Nat.le_of_ble_eq_true rfl, Nat.le_of_ble_eq_true rfl⟩ rfl rfl rfl ⟨Nat.zero_le _, Nat.zero_le _⟩ hl.1 rfl rfl (Nat.le_of_ble_eq_true rfl) dX9_bestStep_1 ?_
  rcases r1 with _ | i4
  · have h := hx_eln h
    refine hx_iload_n C dX9_bestStep_4 rfl (lv_at hl 1 rfl) ?_
    cases h
  · have h := hx_els h
    refine hx_iload_n C dX9_bestStep_4 rfl (lv_at hl 1 rfl) ?_
    obtain ⟨r5, e6, h⟩ := hx_bind h
    obtain ⟨g7, h⟩ := hx_gd h
    refine hx_callV (As := [.int a1]) (rest := []) (n := 1) (Cn := RX0) C (c_X0_kindAt e6) gX9_bestStep_X0_kindAt g7 (by decide) rfl (by decide +kernel) ⟨Nat.le_of_ble_eq_true rfl, Nat.le_of_ble_eq_true rfl⟩ rfl rfl rfl ⟨Nat.zero_le _, Nat.zero_le _⟩ hl.1 rfl rfl (Nat.le_of_ble_eq_true rfl) dX9_bestStep_5 ?_
    rcases r5 with _ | i8
    · have h := hx_eln h
      refine hx_astore_nN (lv' := [(3, .null), (0, .ref (ad this)), (1, .int a1), (2, .int a2)]) C dX9_bestStep_8 rfl hl (by decide) rfl (fun ls hl => ?_)
      refine hx_aload_nN C dX9_bestStep_9 rfl (lv_at hl 0 rfl) ?_
      refine hx_ifnullN (tgt := 23) C dX9_bestStep_10 (by decide) ?_
      refine hx_ldc (v := (-100001)) C (by decide +kernel) dX9_bestStep_23 ?_
      obtain rfl := hx_some1 h
      exact hx_iret C hr dX9_bestStep_25
    · have h := hx_els h
      refine hx_astore_n (lv' := [(3, .ref (ad i8)), (0, .ref (ad this)), (1, .int a1), (2, .int a2)]) C dX9_bestStep_8 rfl hl (by decide) rfl (fun ls hl => ?_)
      refine hx_aload_n C dX9_bestStep_9 rfl (lv_at hl 0 rfl) ?_
      refine hx_ifnull C dX9_bestStep_10 ?_
      refine hx_iload_n C dX9_bestStep_13 rfl (lv_at hl 3 rfl) ?_
      refine hx_iconst (v := 0) C dX9_bestStep_14 (by decide) ?_
      refine hx_bipush (v := 99) C dX9_bestStep_15 (by decide) ?_
      obtain ⟨r9, e10, h⟩ := hx_bind h
      refine hx_callS (As := [.int a2, .int 0, .int 99]) (rest := []) (n := 3) C (c_X9_within e10) gX9_bestStep_X9_within (by decide +kernel) ⟨Nat.le_of_ble_eq_true rfl, Nat.le_of_ble_eq_true rfl⟩ rfl rfl rfl ⟨Nat.zero_le _, Nat.zero_le _⟩ hl.1 rfl rfl (Nat.le_of_ble_eq_true rfl) dX9_bestStep_17 ?_
      refine hx_if_ne (tgt := 26) C dX9_bestStep_20 (by decide) (fun c11 => ?_) (fun c11 => ?_)
      · have h := hx_neg c11 h
        refine hx_aload_n C dX9_bestStep_26 rfl (lv_at hl 1 rfl) ?_
        obtain ⟨r12, e13, h⟩ := hx_bind h
        refine hx_callV (As := []) (rest := []) (n := 0) (Cn := RX9) C (c_X9_counter e13) gX9_bestStep_X9_counter g3 (by decide) rfl (by decide +kernel) ⟨Nat.le_of_ble_eq_true rfl, Nat.le_of_ble_eq_true rfl⟩ rfl rfl rfl ⟨Nat.zero_le _, Nat.zero_le _⟩ hl.1 rfl rfl (Nat.le_of_ble_eq_true rfl) dX9_bestStep_27 ?_
        rcases r12 with _ | i14
        · have h := hx_eln h
          cases h
        · have h := hx_els h
          obtain ⟨g15, h⟩ := hx_gd h
          obtain ⟨q16, e17, h⟩ := hx_bind h
          refine hx_getr C (ci := 0) (j := 1) g15 uX9_bestStep_0 (by decide) rfl (by decide) rfl (by decide +kernel) rfl dX9_bestStep_30 e17 ?_
          refine hx_aload_n C dX9_bestStep_33 rfl (lv_at hl 0 rfl) ?_
          refine hx_iload_n C dX9_bestStep_34 rfl (lv_at hl 3 rfl) ?_
          obtain ⟨r18, e19, h⟩ := hx_bind h
          obtain ⟨g20, h⟩ := hx_gd h
          refine hx_callV (As := [.ref (ad i8), .int a2]) (rest := []) (n := 2) (Cn := RX7) C (c_X7_greatestStep e19) gX9_bestStep_X7_greatestStep g20 (by decide) rfl (by decide +kernel) ⟨Nat.le_of_ble_eq_true rfl, Nat.le_of_ble_eq_true rfl⟩ rfl rfl rfl ⟨Nat.zero_le _, Nat.zero_le _⟩ hl.1 rfl rfl (Nat.le_of_ble_eq_true rfl) dX9_bestStep_35 ?_
          obtain rfl := hx_some1 h
          exact hx_iret C hr dX9_bestStep_38
      · have h := hx_pos c11 h
        refine hx_ldc (v := (-100001)) C (by decide +kernel) dX9_bestStep_23 ?_
        obtain rfl := hx_some1 h
        exact hx_iret C hr dX9_bestStep_25
theorem uX9_mixed_0 : ∀ w ∈ u_ws RX0 TX0 9, w ∈ wsX9_mixed := by decide +kernel
def f_X9_mixed (L : hL) (X : hX) (this : Nat) (a1 : Int32) (a2 : Int32) (a3 : Int32) (a4 : Int32) : Option (Int32) :=
  (f_X9_counter L X this).bind fun r1 =>
  if tk L this 9 then
  Option.elim r1
  (
    none)
  fun i4 =>
    (f_X0_kindAt L X i4 a1).bind fun r5 =>
    if tk L i4 0 then
    Option.elim r5
    (
      (f_X9_counter L X this).bind fun r9 =>
      Option.elim r9
      (
        none)
      fun i11 =>
        (f_X0_kindAt L X i11 a2).bind fun r12 =>
        if tk L i11 0 then
        Option.elim r12
        (
          some (-100001))
        fun i15 =>
          some (-100001)
        else none)
    fun i8 =>
      (f_X9_counter L X this).bind fun r16 =>
      Option.elim r16
      (
        none)
      fun i18 =>
        (f_X0_kindAt L X i18 a2).bind fun r19 =>
        if tk L i18 0 then
        Option.elim r19
        (
          some (-100001))
        fun i22 =>
          if a1 = a2 then
            some (-100001)
          else
            (f_X9_within L X a3 0 3000000).bind fun r24 =>
            if r24 = 0 then
              some (-100001)
            else
              (f_X9_within L X a4 0 2).bind fun r27 =>
              if r27 = 0 then
                some (-100001)
              else
                (f_X9_counter L X this).bind fun r30 =>
                Option.elim r30
                (
                  none)
                fun i32 =>
                  if tk L i32 0 then
                  (X.2 i32 1).bind fun q34 =>
                  (f_X7_mixedPairs L X q34 i8 i22 a3 a4).bind fun r36 =>
                  if tk L q34 7 then
                  some r36
                  else none
                  else none
        else none
    else none
  else none
set_option maxRecDepth 100000 in
set_option maxHeartbeats 4000000 in
theorem c_X9_mixed {l : Launch} {dC : Nat → ClassId} {dI : Nat → Nat → Nat} {cy : Nat → ClassId} {ad : Nat → Nat} {L : hL} {X : hX} {this : Nat} {a1 : Int32} {a2 : Int32} {a3 : Int32} {a4 : Int32} {r : Int32} (h : f_X9_mixed L X this a1 a2 a3 a4 = some r) : hMet l dC dI cy ad L yX9_mixed wsX9_mixed ({ frames := 3, cells := 0, slots := 0, locals := 79 } : Room) [.ref (ad this), .int a1, .int a2, .int a3, .int a4] X (some (.int r)) X := by
  unfold f_X9_mixed at h
  refine hx_enter RX9 (plainFor_of_name (by decide)) rfl rfl (Nat.le_of_ble_eq_true rfl) (fun p e s m args below meth c C hr hnm ls hl => ?_)
  have hl : lv_has ls 7 [(0, .ref (ad this)), (1, .int a1), (2, .int a2), (3, .int a3), (4, .int a4)] := hl
  refine hx_aload_n C dX9_mixed_0 rfl (lv_at hl 0 rfl) ?_
  obtain ⟨r1, e2, h⟩ := hx_bind h
  obtain ⟨g3, h⟩ := hx_gd h
  refine hx_callV (As := []) (rest := []) (n := 0) (Cn := RX9) C (c_X9_counter e2) gX9_mixed_X9_counter g3 (by decide) rfl (by decide +kernel) ⟨Nat.le_of_ble_eq_true rfl, Nat.le_of_ble_eq_true rfl⟩ rfl rfl rfl ⟨Nat.zero_le _, Nat.zero_le _⟩ hl.1 rfl rfl (Nat.le_of_ble_eq_true rfl) dX9_mixed_1 ?_
  rcases r1 with _ | i4
  · have h := hx_eln h
    refine hx_iload_n C dX9_mixed_4 rfl (lv_at hl 1 rfl) ?_
    cases h
  · have h := hx_els h
    refine hx_iload_n C dX9_mixed_4 rfl (lv_at hl 1 rfl) ?_
    obtain ⟨r5, e6, h⟩ := hx_bind h
    obtain ⟨g7, h⟩ := hx_gd h
    refine hx_callV (As := [.int a1]) (rest := []) (n := 1) (Cn := RX0) C (c_X0_kindAt e6) gX9_mixed_X0_kindAt g7 (by decide) rfl (by decide +kernel) ⟨Nat.le_of_ble_eq_true rfl, Nat.le_of_ble_eq_true rfl⟩ rfl rfl rfl ⟨Nat.zero_le _, Nat.zero_le _⟩ hl.1 rfl rfl (Nat.le_of_ble_eq_true rfl) dX9_mixed_5 ?_
    rcases r5 with _ | i8
    · have h := hx_eln h
      refine hx_astoreN (lv' := [(5, .null), (0, .ref (ad this)), (1, .int a1), (2, .int a2), (3, .int a3), (4, .int a4)]) C dX9_mixed_8 hl (by decide) rfl (fun ls hl => ?_)
      refine hx_aload_n C dX9_mixed_10 rfl (lv_at hl 1 rfl) ?_
      obtain ⟨r9, e10, h⟩ := hx_bind h
      refine hx_callV (As := []) (rest := []) (n := 0) (Cn := RX9) C (c_X9_counter e10) gX9_mixed_X9_counter g3 (by decide) rfl (by decide +kernel) ⟨Nat.le_of_ble_eq_true rfl, Nat.le_of_ble_eq_true rfl⟩ rfl rfl rfl ⟨Nat.zero_le _, Nat.zero_le _⟩ hl.1 rfl rfl (Nat.le_of_ble_eq_true rfl) dX9_mixed_11 ?_
      rcases r9 with _ | i11
      · have h := hx_eln h
        refine hx_iload_n C dX9_mixed_14 rfl (lv_at hl 3 rfl) ?_
        cases h
      · have h := hx_els h
        refine hx_iload_n C dX9_mixed_14 rfl (lv_at hl 3 rfl) ?_
        obtain ⟨r12, e13, h⟩ := hx_bind h
        obtain ⟨g14, h⟩ := hx_gd h
        refine hx_callV (As := [.int a2]) (rest := []) (n := 1) (Cn := RX0) C (c_X0_kindAt e13) gX9_mixed_X0_kindAt g14 (by decide) rfl (by decide +kernel) ⟨Nat.le_of_ble_eq_true rfl, Nat.le_of_ble_eq_true rfl⟩ rfl rfl rfl ⟨Nat.zero_le _, Nat.zero_le _⟩ hl.1 rfl rfl (Nat.le_of_ble_eq_true rfl) dX9_mixed_15 ?_
        rcases r12 with _ | i15
        · have h := hx_eln h
          refine hx_astoreN (lv' := [(6, .null), (5, .null), (0, .ref (ad this)), (1, .int a1), (2, .int a2), (3, .int a3), (4, .int a4)]) C dX9_mixed_18 hl (by decide) rfl (fun ls hl => ?_)
          refine hx_aloadN C dX9_mixed_20 (lv_at hl 1 rfl) ?_
          refine hx_ifnullN (tgt := 35) C dX9_mixed_22 (by decide) ?_
          refine hx_ldc (v := (-100001)) C (by decide +kernel) dX9_mixed_35 ?_
          obtain rfl := hx_some1 h
          exact hx_iret C hr dX9_mixed_37
        · have h := hx_els h
          refine hx_astore (lv' := [(6, .ref (ad i15)), (5, .null), (0, .ref (ad this)), (1, .int a1), (2, .int a2), (3, .int a3), (4, .int a4)]) C dX9_mixed_18 hl (by decide) rfl (fun ls hl => ?_)
          refine hx_aloadN C dX9_mixed_20 (lv_at hl 1 rfl) ?_
          refine hx_ifnullN (tgt := 35) C dX9_mixed_22 (by decide) ?_
          refine hx_ldc (v := (-100001)) C (by decide +kernel) dX9_mixed_35 ?_
          obtain rfl := hx_some1 h
          exact hx_iret C hr dX9_mixed_37
    · have h := hx_els h
      refine hx_astore (lv' := [(5, .ref (ad i8)), (0, .ref (ad this)), (1, .int a1), (2, .int a2), (3, .int a3), (4, .int a4)]) C dX9_mixed_8 hl (by decide) rfl (fun ls hl => ?_)
      refine hx_aload_n C dX9_mixed_10 rfl (lv_at hl 1 rfl) ?_
      obtain ⟨r16, e17, h⟩ := hx_bind h
      refine hx_callV (As := []) (rest := []) (n := 0) (Cn := RX9) C (c_X9_counter e17) gX9_mixed_X9_counter g3 (by decide) rfl (by decide +kernel) ⟨Nat.le_of_ble_eq_true rfl, Nat.le_of_ble_eq_true rfl⟩ rfl rfl rfl ⟨Nat.zero_le _, Nat.zero_le _⟩ hl.1 rfl rfl (Nat.le_of_ble_eq_true rfl) dX9_mixed_11 ?_
      rcases r16 with _ | i18
      · have h := hx_eln h
        refine hx_iload_n C dX9_mixed_14 rfl (lv_at hl 3 rfl) ?_
        cases h
      · have h := hx_els h
        refine hx_iload_n C dX9_mixed_14 rfl (lv_at hl 3 rfl) ?_
        obtain ⟨r19, e20, h⟩ := hx_bind h
        obtain ⟨g21, h⟩ := hx_gd h
        refine hx_callV (As := [.int a2]) (rest := []) (n := 1) (Cn := RX0) C (c_X0_kindAt e20) gX9_mixed_X0_kindAt g21 (by decide) rfl (by decide +kernel) ⟨Nat.le_of_ble_eq_true rfl, Nat.le_of_ble_eq_true rfl⟩ rfl rfl rfl ⟨Nat.zero_le _, Nat.zero_le _⟩ hl.1 rfl rfl (Nat.le_of_ble_eq_true rfl) dX9_mixed_15 ?_
        rcases r19 with _ | i22
        · have h := hx_eln h
          refine hx_astoreN (lv' := [(6, .null), (5, .ref (ad i8)), (0, .ref (ad this)), (1, .int a1), (2, .int a2), (3, .int a3), (4, .int a4)]) C dX9_mixed_18 hl (by decide) rfl (fun ls hl => ?_)
          refine hx_aload C dX9_mixed_20 (lv_at hl 1 rfl) ?_
          refine hx_ifnull C dX9_mixed_22 ?_
          refine hx_aloadN C dX9_mixed_25 (lv_at hl 0 rfl) ?_
          refine hx_ifnullN (tgt := 35) C dX9_mixed_27 (by decide) ?_
          refine hx_ldc (v := (-100001)) C (by decide +kernel) dX9_mixed_35 ?_
          obtain rfl := hx_some1 h
          exact hx_iret C hr dX9_mixed_37
        · have h := hx_els h
          refine hx_astore (lv' := [(6, .ref (ad i22)), (5, .ref (ad i8)), (0, .ref (ad this)), (1, .int a1), (2, .int a2), (3, .int a3), (4, .int a4)]) C dX9_mixed_18 hl (by decide) rfl (fun ls hl => ?_)
          refine hx_aload C dX9_mixed_20 (lv_at hl 1 rfl) ?_
          refine hx_ifnull C dX9_mixed_22 ?_
          refine hx_aload C dX9_mixed_25 (lv_at hl 0 rfl) ?_
          refine hx_ifnull C dX9_mixed_27 ?_
          refine hx_iload_n C dX9_mixed_30 rfl (lv_at hl 3 rfl) ?_
          refine hx_iload_n C dX9_mixed_31 rfl (lv_at hl 4 rfl) ?_
          refine hx_icmp_ne (tgt := 38) C dX9_mixed_32 (by decide) (fun c23 => ?_) (fun c23 => ?_)
          · have h := hx_neg c23 h
            refine hx_iload_n C dX9_mixed_38 rfl (lv_at hl 5 rfl) ?_
            refine hx_iconst (v := 0) C dX9_mixed_39 (by decide) ?_
            refine hx_ldc (v := 3000000) C (by decide +kernel) dX9_mixed_40 ?_
            obtain ⟨r24, e25, h⟩ := hx_bind h
            refine hx_callS (As := [.int a3, .int 0, .int 3000000]) (rest := []) (n := 3) C (c_X9_within e25) gX9_mixed_X9_within (by decide +kernel) ⟨Nat.le_of_ble_eq_true rfl, Nat.le_of_ble_eq_true rfl⟩ rfl rfl rfl ⟨Nat.zero_le _, Nat.zero_le _⟩ hl.1 rfl rfl (Nat.le_of_ble_eq_true rfl) dX9_mixed_42 ?_
            refine hx_if_eq (tgt := 58) C dX9_mixed_45 (by decide) (fun c26 => ?_) (fun c26 => ?_)
            · have h := hx_pos c26 h
              refine hx_ldc (v := (-100001)) C (by decide +kernel) dX9_mixed_58 ?_
              obtain rfl := hx_some1 h
              exact hx_iret C hr dX9_mixed_60
            · have h := hx_neg c26 h
              refine hx_iload C dX9_mixed_48 (lv_at hl 6 rfl) ?_
              refine hx_iconst (v := 0) C dX9_mixed_50 (by decide) ?_
              refine hx_iconst (v := 2) C dX9_mixed_51 (by decide) ?_
              obtain ⟨r27, e28, h⟩ := hx_bind h
              refine hx_callS (As := [.int a4, .int 0, .int 2]) (rest := []) (n := 3) C (c_X9_within e28) gX9_mixed_X9_within (by decide +kernel) ⟨Nat.le_of_ble_eq_true rfl, Nat.le_of_ble_eq_true rfl⟩ rfl rfl rfl ⟨Nat.zero_le _, Nat.zero_le _⟩ hl.1 rfl rfl (Nat.le_of_ble_eq_true rfl) dX9_mixed_52 ?_
              refine hx_if_ne (tgt := 61) C dX9_mixed_55 (by decide) (fun c29 => ?_) (fun c29 => ?_)
              · have h := hx_neg c29 h
                refine hx_aload_n C dX9_mixed_61 rfl (lv_at hl 2 rfl) ?_
                obtain ⟨r30, e31, h⟩ := hx_bind h
                refine hx_callV (As := []) (rest := []) (n := 0) (Cn := RX9) C (c_X9_counter e31) gX9_mixed_X9_counter g3 (by decide) rfl (by decide +kernel) ⟨Nat.le_of_ble_eq_true rfl, Nat.le_of_ble_eq_true rfl⟩ rfl rfl rfl ⟨Nat.zero_le _, Nat.zero_le _⟩ hl.1 rfl rfl (Nat.le_of_ble_eq_true rfl) dX9_mixed_62 ?_
                rcases r30 with _ | i32
                · have h := hx_eln h
                  cases h
                · have h := hx_els h
                  obtain ⟨g33, h⟩ := hx_gd h
                  obtain ⟨q34, e35, h⟩ := hx_bind h
                  refine hx_getr C (ci := 0) (j := 1) g33 uX9_mixed_0 (by decide) rfl (by decide) rfl (by decide +kernel) rfl dX9_mixed_65 e35 ?_
                  refine hx_aload C dX9_mixed_68 (lv_at hl 1 rfl) ?_
                  refine hx_aload C dX9_mixed_70 (lv_at hl 0 rfl) ?_
                  refine hx_iload_n C dX9_mixed_72 rfl (lv_at hl 5 rfl) ?_
                  refine hx_iload C dX9_mixed_73 (lv_at hl 6 rfl) ?_
                  obtain ⟨r36, e37, h⟩ := hx_bind h
                  obtain ⟨g38, h⟩ := hx_gd h
                  refine hx_callV (As := [.ref (ad i8), .ref (ad i22), .int a3, .int a4]) (rest := []) (n := 4) (Cn := RX7) C (c_X7_mixedPairs e37) gX9_mixed_X7_mixedPairs g38 (by decide) rfl (by decide +kernel) ⟨Nat.le_of_ble_eq_true rfl, Nat.le_of_ble_eq_true rfl⟩ rfl rfl rfl ⟨Nat.zero_le _, Nat.zero_le _⟩ hl.1 rfl rfl (Nat.le_of_ble_eq_true rfl) dX9_mixed_75 ?_
                  obtain rfl := hx_some1 h
                  exact hx_iret C hr dX9_mixed_78
              · have h := hx_pos c29 h
                refine hx_ldc (v := (-100001)) C (by decide +kernel) dX9_mixed_58 ?_
                obtain rfl := hx_some1 h
                exact hx_iret C hr dX9_mixed_60
          · have h := hx_pos c23 h
            refine hx_ldc (v := (-100001)) C (by decide +kernel) dX9_mixed_35 ?_
            obtain rfl := hx_some1 h
            exact hx_iret C hr dX9_mixed_37
def f_X9_would (L : hL) (X : hX) (this : Nat) (a1 : Int32) : Option (Int32) :=
  (f_X9_within L X a1 0 3).bind fun r1 =>
  if r1 = 0 then
    some (-100001)
  else
    (f_X9_counter L X this).bind fun r4 =>
    if tk L this 9 then
    Option.elim r4
    (
      none)
    fun i7 =>
      (f_X0_given L X i7 a1).bind fun r8 =>
      if tk L i7 0 then
      some r8
      else none
    else none
set_option maxRecDepth 100000 in
set_option maxHeartbeats 4000000 in
theorem c_X9_would {l : Launch} {dC : Nat → ClassId} {dI : Nat → Nat → Nat} {cy : Nat → ClassId} {ad : Nat → Nat} {L : hL} {X : hX} {this : Nat} {a1 : Int32} {r : Int32} (h : f_X9_would L X this a1 = some r) : hMet l dC dI cy ad L yX9_would wsX9_would ({ frames := 5, cells := 0, slots := 0, locals := 120 } : Room) [.ref (ad this), .int a1] X (some (.int r)) X := by
  unfold f_X9_would at h
  refine hx_enter RX9 (plainFor_of_name (by decide)) rfl rfl (Nat.le_of_ble_eq_true rfl) (fun p e s m args below meth c C hr hnm ls hl => ?_)
  have hl : lv_has ls 2 [(0, .ref (ad this)), (1, .int a1)] := hl
  refine hx_iload_n C dX9_would_0 rfl (lv_at hl 1 rfl) ?_
  refine hx_iconst (v := 0) C dX9_would_1 (by decide) ?_
  refine hx_iconst (v := 3) C dX9_would_2 (by decide) ?_
  obtain ⟨r1, e2, h⟩ := hx_bind h
  refine hx_callS (As := [.int a1, .int 0, .int 3]) (rest := []) (n := 3) C (c_X9_within e2) gX9_would_X9_within (by decide +kernel) ⟨Nat.le_of_ble_eq_true rfl, Nat.le_of_ble_eq_true rfl⟩ rfl rfl rfl ⟨Nat.zero_le _, Nat.zero_le _⟩ hl.1 rfl rfl (Nat.le_of_ble_eq_true rfl) dX9_would_3 ?_
  refine hx_if_ne (tgt := 12) C dX9_would_6 (by decide) (fun c3 => ?_) (fun c3 => ?_)
  · have h := hx_neg c3 h
    refine hx_aload_n C dX9_would_12 rfl (lv_at hl 0 rfl) ?_
    obtain ⟨r4, e5, h⟩ := hx_bind h
    obtain ⟨g6, h⟩ := hx_gd h
    refine hx_callV (As := []) (rest := []) (n := 0) (Cn := RX9) C (c_X9_counter e5) gX9_would_X9_counter g6 (by decide) rfl (by decide +kernel) ⟨Nat.le_of_ble_eq_true rfl, Nat.le_of_ble_eq_true rfl⟩ rfl rfl rfl ⟨Nat.zero_le _, Nat.zero_le _⟩ hl.1 rfl rfl (Nat.le_of_ble_eq_true rfl) dX9_would_13 ?_
    rcases r4 with _ | i7
    · have h := hx_eln h
      refine hx_iload_n C dX9_would_16 rfl (lv_at hl 1 rfl) ?_
      cases h
    · have h := hx_els h
      refine hx_iload_n C dX9_would_16 rfl (lv_at hl 1 rfl) ?_
      obtain ⟨r8, e9, h⟩ := hx_bind h
      obtain ⟨g10, h⟩ := hx_gd h
      refine hx_callV (As := [.int a1]) (rest := []) (n := 1) (Cn := RX0) C (c_X0_given e9) gX9_would_X0_given g10 (by decide) rfl (by decide +kernel) ⟨Nat.le_of_ble_eq_true rfl, Nat.le_of_ble_eq_true rfl⟩ rfl rfl rfl ⟨Nat.zero_le _, Nat.zero_le _⟩ hl.1 rfl rfl (Nat.le_of_ble_eq_true rfl) dX9_would_17 ?_
      obtain rfl := hx_some1 h
      exact hx_iret C hr dX9_would_20
  · have h := hx_pos c3 h
    refine hx_ldc (v := (-100001)) C (by decide +kernel) dX9_would_9 ?_
    obtain rfl := hx_some1 h
    exact hx_iret C hr dX9_would_11
def f_X9_fairest (L : hL) (X : hX) (this : Nat) : Option (Int32) :=
  (f_X9_counter L X this).bind fun r1 =>
  if tk L this 9 then
  Option.elim r1
  (
    none)
  fun i4 =>
    (f_X0_fairestRule L X i4).bind fun r5 =>
    if tk L i4 0 then
    some r5
    else none
  else none
set_option maxRecDepth 100000 in
set_option maxHeartbeats 4000000 in
theorem c_X9_fairest {l : Launch} {dC : Nat → ClassId} {dI : Nat → Nat → Nat} {cy : Nat → ClassId} {ad : Nat → Nat} {L : hL} {X : hX} {this : Nat} {r : Int32} (h : f_X9_fairest L X this = some r) : hMet l dC dI cy ad L yX9_fairest wsX9_fairest ({ frames := 6, cells := 0, slots := 0, locals := 145 } : Room) [.ref (ad this)] X (some (.int r)) X := by
  unfold f_X9_fairest at h
  refine hx_enter RX9 (plainFor_of_name (by decide)) rfl rfl (Nat.le_of_ble_eq_true rfl) (fun p e s m args below meth c C hr hnm ls hl => ?_)
  have hl : lv_has ls 1 [(0, .ref (ad this))] := hl
  refine hx_aload_n C dX9_fairest_0 rfl (lv_at hl 0 rfl) ?_
  obtain ⟨r1, e2, h⟩ := hx_bind h
  obtain ⟨g3, h⟩ := hx_gd h
  refine hx_callV (As := []) (rest := []) (n := 0) (Cn := RX9) C (c_X9_counter e2) gX9_fairest_X9_counter g3 (by decide) rfl (by decide +kernel) ⟨Nat.le_of_ble_eq_true rfl, Nat.le_of_ble_eq_true rfl⟩ rfl rfl rfl ⟨Nat.zero_le _, Nat.zero_le _⟩ hl.1 rfl rfl (Nat.le_of_ble_eq_true rfl) dX9_fairest_1 ?_
  rcases r1 with _ | i4
  · have h := hx_eln h
    cases h
  · have h := hx_els h
    obtain ⟨r5, e6, h⟩ := hx_bind h
    obtain ⟨g7, h⟩ := hx_gd h
    refine hx_callV (As := []) (rest := []) (n := 0) (Cn := RX0) C (c_X0_fairestRule e6) gX9_fairest_X0_fairestRule g7 (by decide) rfl (by decide +kernel) ⟨Nat.le_of_ble_eq_true rfl, Nat.le_of_ble_eq_true rfl⟩ rfl rfl rfl ⟨Nat.zero_le _, Nat.zero_le _⟩ hl.1 rfl rfl (Nat.le_of_ble_eq_true rfl) dX9_fairest_4 ?_
    obtain rfl := hx_some1 h
    exact hx_iret C hr dX9_fairest_7
theorem uX9_soldOut_9 : ∀ w ∈ u_ws RX9 TX9 3, w ∈ wsX9_soldOut := by decide +kernel
def f_X9_soldOut (L : hL) (X : hX) (this : Nat) (a1 : Int32) : Option (Int32 × hX) :=
  (f_X9_counter L X this).bind fun r1 =>
  if tk L this 9 then
  Option.elim r1
  (
    none)
  fun i4 =>
    (f_X0_prizeAt L X i4 a1).bind fun r5 =>
    if tk L i4 0 then
    Option.elim r5
    (
      some ((-100001), X))
    fun i8 =>
      (X.2 this 2).bind fun q9 =>
      (f_X5_copyFrom L X q9 i8).bind fun r11 =>
      if tk L q9 5 then
      (r11.2 this 2).bind fun q14 =>
      (f_X5_sellOut L r11 q14).bind fun r16 =>
      if tk L q14 5 then
      some (r16.1, r16.2)
      else none
      else none
    else none
  else none
set_option maxRecDepth 100000 in
set_option maxHeartbeats 4000000 in
theorem c_X9_soldOut {l : Launch} {dC : Nat → ClassId} {dI : Nat → Nat → Nat} {cy : Nat → ClassId} {ad : Nat → Nat} {L : hL} {X : hX} {this : Nat} {a1 : Int32} {r : Int32} {X' : hX} (h : f_X9_soldOut L X this a1 = some (r, X')) : hMet l dC dI cy ad L yX9_soldOut wsX9_soldOut ({ frames := 4, cells := 0, slots := 0, locals := 86 } : Room) [.ref (ad this), .int a1] X (some (.int r)) X' := by
  unfold f_X9_soldOut at h
  refine hx_enter RX9 (plainFor_of_name (by decide)) rfl rfl (Nat.le_of_ble_eq_true rfl) (fun p e s m args below meth c C hr hnm ls hl => ?_)
  have hl : lv_has ls 3 [(0, .ref (ad this)), (1, .int a1)] := hl
  refine hx_aload_n C dX9_soldOut_0 rfl (lv_at hl 0 rfl) ?_
  obtain ⟨r1, e2, h⟩ := hx_bind h
  obtain ⟨g3, h⟩ := hx_gd h
  refine hx_callV (As := []) (rest := []) (n := 0) (Cn := RX9) C (c_X9_counter e2) gX9_soldOut_X9_counter g3 (by decide) rfl (by decide +kernel) ⟨Nat.le_of_ble_eq_true rfl, Nat.le_of_ble_eq_true rfl⟩ rfl rfl rfl ⟨Nat.zero_le _, Nat.zero_le _⟩ hl.1 rfl rfl (Nat.le_of_ble_eq_true rfl) dX9_soldOut_1 ?_
  rcases r1 with _ | i4
  · have h := hx_eln h
    refine hx_iload_n C dX9_soldOut_4 rfl (lv_at hl 1 rfl) ?_
    cases h
  · have h := hx_els h
    refine hx_iload_n C dX9_soldOut_4 rfl (lv_at hl 1 rfl) ?_
    obtain ⟨r5, e6, h⟩ := hx_bind h
    obtain ⟨g7, h⟩ := hx_gd h
    refine hx_callV (As := [.int a1]) (rest := []) (n := 1) (Cn := RX0) C (c_X0_prizeAt e6) gX9_soldOut_X0_prizeAt g7 (by decide) rfl (by decide +kernel) ⟨Nat.le_of_ble_eq_true rfl, Nat.le_of_ble_eq_true rfl⟩ rfl rfl rfl ⟨Nat.zero_le _, Nat.zero_le _⟩ hl.1 rfl rfl (Nat.le_of_ble_eq_true rfl) dX9_soldOut_5 ?_
    rcases r5 with _ | i8
    · have h := hx_eln h
      refine hx_astore_nN (lv' := [(2, .null), (0, .ref (ad this)), (1, .int a1)]) C dX9_soldOut_8 rfl hl (by decide) rfl (fun ls hl => ?_)
      refine hx_aload_nN C dX9_soldOut_9 rfl (lv_at hl 0 rfl) ?_
      refine hx_ifnonnullN C dX9_soldOut_10 ?_
      refine hx_ldc (v := (-100001)) C (by decide +kernel) dX9_soldOut_13 ?_
      obtain ⟨rfl, rfl⟩ := hx_some2 h
      exact hx_iret C hr dX9_soldOut_15
    · have h := hx_els h
      refine hx_astore_n (lv' := [(2, .ref (ad i8)), (0, .ref (ad this)), (1, .int a1)]) C dX9_soldOut_8 rfl hl (by decide) rfl (fun ls hl => ?_)
      refine hx_aload_n C dX9_soldOut_9 rfl (lv_at hl 0 rfl) ?_
      refine hx_ifnonnull (tgt := 16) C dX9_soldOut_10 (by decide) ?_
      refine hx_aload_n C dX9_soldOut_16 rfl (lv_at hl 1 rfl) ?_
      obtain ⟨q9, e10, h⟩ := hx_bind h
      refine hx_getr C (ci := 9) (j := 2) g3 uX9_soldOut_9 (by decide) rfl (by decide) rfl (by decide +kernel) rfl dX9_soldOut_17 e10 ?_
      refine hx_aload_n C dX9_soldOut_20 rfl (lv_at hl 0 rfl) ?_
      obtain ⟨r11, e12, h⟩ := hx_bind h
      obtain ⟨g13, h⟩ := hx_gd h
      refine hx_callV (As := [.ref (ad i8)]) (rest := []) (n := 1) (Cn := RX5) C (c_X5_copyFrom e12) gX9_soldOut_X5_copyFrom g13 (by decide) rfl (by decide +kernel) ⟨Nat.le_of_ble_eq_true rfl, Nat.le_of_ble_eq_true rfl⟩ rfl rfl rfl ⟨Nat.zero_le _, Nat.zero_le _⟩ hl.1 rfl rfl (Nat.le_of_ble_eq_true rfl) dX9_soldOut_21 ?_
      refine hx_aload_n C dX9_soldOut_24 rfl (lv_at hl 1 rfl) ?_
      obtain ⟨q14, e15, h⟩ := hx_bind h
      refine hx_getr C (ci := 9) (j := 2) g3 uX9_soldOut_9 (by decide) rfl (by decide) rfl (by decide +kernel) rfl dX9_soldOut_25 e15 ?_
      obtain ⟨r16, e17, h⟩ := hx_bind h
      obtain ⟨g18, h⟩ := hx_gd h
      refine hx_callV (As := []) (rest := []) (n := 0) (Cn := RX5) C (c_X5_sellOut e17) gX9_soldOut_X5_sellOut g18 (by decide) rfl (by decide +kernel) ⟨Nat.le_of_ble_eq_true rfl, Nat.le_of_ble_eq_true rfl⟩ rfl rfl rfl ⟨Nat.zero_le _, Nat.zero_le _⟩ hl.1 rfl rfl (Nat.le_of_ble_eq_true rfl) dX9_soldOut_28 ?_
      obtain ⟨rfl, rfl⟩ := hx_some2 h
      exact hx_iret C hr dX9_soldOut_31
theorem uX9_shop_1 : ∀ w ∈ u_ws RX1 TX1 6, w ∈ wsX9_shop := by decide +kernel
def f_X9_shop (L : hL) (X : hX) (this : Nat) (a1 : Int32) (a2 : Int32) : Option (Int32) :=
  (f_X9_counter L X this).bind fun r1 =>
  if tk L this 9 then
  Option.elim r1
  (
    none)
  fun i4 =>
    (f_X0_customerAt L X i4 a1).bind fun r5 =>
    if tk L i4 0 then
    Option.elim r5
    (
      some (-100001))
    fun i8 =>
      (f_X9_within L X a2 0 2).bind fun r9 =>
      if r9 = 0 then
        some (-100001)
      else
        (f_X9_counter L X this).bind fun r12 =>
        Option.elim r12
        (
          if tk L i8 1 then
          none
          else none)
        fun i14 =>
          if tk L i8 1 then
          (f_X0_shopWith L X i14 (X.1 i8 0) a2).bind fun r17 =>
          if tk L i14 0 then
          some r17
          else none
          else none
    else none
  else none
set_option maxRecDepth 100000 in
set_option maxHeartbeats 4000000 in
theorem c_X9_shop {l : Launch} {dC : Nat → ClassId} {dI : Nat → Nat → Nat} {cy : Nat → ClassId} {ad : Nat → Nat} {L : hL} {X : hX} {this : Nat} {a1 : Int32} {a2 : Int32} {r : Int32} (h : f_X9_shop L X this a1 a2 = some r) : hMet l dC dI cy ad L yX9_shop wsX9_shop ({ frames := 5, cells := 0, slots := 0, locals := 120 } : Room) [.ref (ad this), .int a1, .int a2] X (some (.int r)) X := by
  unfold f_X9_shop at h
  refine hx_enter RX9 (plainFor_of_name (by decide)) rfl rfl (Nat.le_of_ble_eq_true rfl) (fun p e s m args below meth c C hr hnm ls hl => ?_)
  have hl : lv_has ls 4 [(0, .ref (ad this)), (1, .int a1), (2, .int a2)] := hl
  refine hx_aload_n C dX9_shop_0 rfl (lv_at hl 0 rfl) ?_
  obtain ⟨r1, e2, h⟩ := hx_bind h
  obtain ⟨g3, h⟩ := hx_gd h
  refine hx_callV (As := []) (rest := []) (n := 0) (Cn := RX9) C (c_X9_counter e2) gX9_shop_X9_counter g3 (by decide) rfl (by decide +kernel) ⟨Nat.le_of_ble_eq_true rfl, Nat.le_of_ble_eq_true rfl⟩ rfl rfl rfl ⟨Nat.zero_le _, Nat.zero_le _⟩ hl.1 rfl rfl (Nat.le_of_ble_eq_true rfl) dX9_shop_1 ?_
  rcases r1 with _ | i4
  · have h := hx_eln h
    refine hx_iload_n C dX9_shop_4 rfl (lv_at hl 1 rfl) ?_
    cases h
  · have h := hx_els h
    refine hx_iload_n C dX9_shop_4 rfl (lv_at hl 1 rfl) ?_
    obtain ⟨r5, e6, h⟩ := hx_bind h
    obtain ⟨g7, h⟩ := hx_gd h
    refine hx_callV (As := [.int a1]) (rest := []) (n := 1) (Cn := RX0) C (c_X0_customerAt e6) gX9_shop_X0_customerAt g7 (by decide) rfl (by decide +kernel) ⟨Nat.le_of_ble_eq_true rfl, Nat.le_of_ble_eq_true rfl⟩ rfl rfl rfl ⟨Nat.zero_le _, Nat.zero_le _⟩ hl.1 rfl rfl (Nat.le_of_ble_eq_true rfl) dX9_shop_5 ?_
    rcases r5 with _ | i8
    · have h := hx_eln h
      refine hx_astore_nN (lv' := [(3, .null), (0, .ref (ad this)), (1, .int a1), (2, .int a2)]) C dX9_shop_8 rfl hl (by decide) rfl (fun ls hl => ?_)
      refine hx_aload_nN C dX9_shop_9 rfl (lv_at hl 0 rfl) ?_
      refine hx_ifnullN (tgt := 22) C dX9_shop_10 (by decide) ?_
      refine hx_ldc (v := (-100001)) C (by decide +kernel) dX9_shop_22 ?_
      obtain rfl := hx_some1 h
      exact hx_iret C hr dX9_shop_24
    · have h := hx_els h
      refine hx_astore_n (lv' := [(3, .ref (ad i8)), (0, .ref (ad this)), (1, .int a1), (2, .int a2)]) C dX9_shop_8 rfl hl (by decide) rfl (fun ls hl => ?_)
      refine hx_aload_n C dX9_shop_9 rfl (lv_at hl 0 rfl) ?_
      refine hx_ifnull C dX9_shop_10 ?_
      refine hx_iload_n C dX9_shop_13 rfl (lv_at hl 3 rfl) ?_
      refine hx_iconst (v := 0) C dX9_shop_14 (by decide) ?_
      refine hx_iconst (v := 2) C dX9_shop_15 (by decide) ?_
      obtain ⟨r9, e10, h⟩ := hx_bind h
      refine hx_callS (As := [.int a2, .int 0, .int 2]) (rest := []) (n := 3) C (c_X9_within e10) gX9_shop_X9_within (by decide +kernel) ⟨Nat.le_of_ble_eq_true rfl, Nat.le_of_ble_eq_true rfl⟩ rfl rfl rfl ⟨Nat.zero_le _, Nat.zero_le _⟩ hl.1 rfl rfl (Nat.le_of_ble_eq_true rfl) dX9_shop_16 ?_
      refine hx_if_ne (tgt := 25) C dX9_shop_19 (by decide) (fun c11 => ?_) (fun c11 => ?_)
      · have h := hx_neg c11 h
        refine hx_aload_n C dX9_shop_25 rfl (lv_at hl 1 rfl) ?_
        obtain ⟨r12, e13, h⟩ := hx_bind h
        refine hx_callV (As := []) (rest := []) (n := 0) (Cn := RX9) C (c_X9_counter e13) gX9_shop_X9_counter g3 (by decide) rfl (by decide +kernel) ⟨Nat.le_of_ble_eq_true rfl, Nat.le_of_ble_eq_true rfl⟩ rfl rfl rfl ⟨Nat.zero_le _, Nat.zero_le _⟩ hl.1 rfl rfl (Nat.le_of_ble_eq_true rfl) dX9_shop_26 ?_
        rcases r12 with _ | i14
        · have h := hx_eln h
          refine hx_aload_n C dX9_shop_29 rfl (lv_at hl 0 rfl) ?_
          obtain ⟨g15, h⟩ := hx_gd h
          refine hx_geti C (ci := 1) (j := 0) g15 uX9_shop_1 (by decide) rfl (by decide) rfl (by decide +kernel) rfl dX9_shop_30 ?_
          refine hx_iload_n C dX9_shop_33 rfl (lv_at hl 3 rfl) ?_
          cases h
        · have h := hx_els h
          refine hx_aload_n C dX9_shop_29 rfl (lv_at hl 0 rfl) ?_
          obtain ⟨g16, h⟩ := hx_gd h
          refine hx_geti C (ci := 1) (j := 0) g16 uX9_shop_1 (by decide) rfl (by decide) rfl (by decide +kernel) rfl dX9_shop_30 ?_
          refine hx_iload_n C dX9_shop_33 rfl (lv_at hl 3 rfl) ?_
          obtain ⟨r17, e18, h⟩ := hx_bind h
          obtain ⟨g19, h⟩ := hx_gd h
          refine hx_callV (As := [.int (X.1 i8 0), .int a2]) (rest := []) (n := 2) (Cn := RX0) C (c_X0_shopWith e18) gX9_shop_X0_shopWith g19 (by decide) rfl (by decide +kernel) ⟨Nat.le_of_ble_eq_true rfl, Nat.le_of_ble_eq_true rfl⟩ rfl rfl rfl ⟨Nat.zero_le _, Nat.zero_le _⟩ hl.1 rfl rfl (Nat.le_of_ble_eq_true rfl) dX9_shop_34 ?_
          obtain rfl := hx_some1 h
          exact hx_iret C hr dX9_shop_37
      · have h := hx_pos c11 h
        refine hx_ldc (v := (-100001)) C (by decide +kernel) dX9_shop_22 ?_
        obtain rfl := hx_some1 h
        exact hx_iret C hr dX9_shop_24
