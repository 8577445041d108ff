theorem uX7_init_7 : ∀ w ∈ u_ws RX7 TX7 3, w ∈ wsX7_init := by decide +kernel
def f_X7_init (L : hL) (X : hX) (this : Nat) : Option (hX) :=
  if tk L this 7 then
  some (smi (smi X this 0 100) this 1 50)
  else none
set_option maxRecDepth 100000 in
set_option maxHeartbeats 4000000 in
theorem c_X7_init {l : Launch} {dC : Nat → ClassId} {dI : Nat → Nat → Nat} {cy : Nat → ClassId} {ad : Nat → Nat} {L : hL} {X : hX} {this : Nat} {X' : hX} (h : f_X7_init L X this = some X') : hMet l dC dI cy ad L yX7_init wsX7_init ({ frames := 1, cells := 0, slots := 0, locals := 24 } : Room) [.ref (ad this)] X none X' := by
  unfold f_X7_init at h
  refine hx_enter RX7 (plainFor_of_name (by decide)) rfl rfl (Nat.le_of_ble_eq_true rfl) (fun p e s m args below meth c C hr hnm ls hl => ?_)
  have hl : lv_has ls 1 [(0, .ref (ad this))] := hl
  refine hx_aload_n C dX7_init_0 rfl (lv_at hl 0 rfl) ?_
  refine hx_objInit C (by decide +kernel) (by decide +kernel) (by decide +kernel) hl.1 dX7_init_1 (Nat.le_of_ble_eq_true rfl) (Nat.le_of_ble_eq_true rfl) ?_
  refine hx_aload_n C dX7_init_4 rfl (lv_at hl 0 rfl) ?_
  refine hx_bipush (v := 100) C dX7_init_5 (by decide) ?_
  obtain ⟨g1, h⟩ := hx_gd h
  refine hx_puti C (ci := 7) (j := 0) tyX7 tyX7_ok nmX7 g1 uX7_init_7 (by decide) rfl (by decide) rfl (by decide +kernel) rfl rfl (tyX7_ok 0 (by decide)) dX7_init_7 rfl rfl ?_
  refine hx_aload_n C dX7_init_10 rfl (lv_at hl 0 rfl) ?_
  refine hx_bipush (v := 50) C dX7_init_11 (by decide) ?_
  refine hx_puti C (ci := 7) (j := 1) tyX7 tyX7_ok nmX7 g1 uX7_init_7 (by decide) rfl (by decide) rfl (by decide +kernel) rfl rfl (tyX7_ok 1 (by decide)) dX7_init_13 rfl rfl ?_
  obtain rfl := hx_some1 h
  exact hx_vret C hr dX7_init_16
theorem uX4_init_4 : ∀ w ∈ u_ws RX4 TX4 2, w ∈ wsX4_init := by decide +kernel
def f_X4_init (L : hL) (X : hX) (this : Nat) : Option (hX) :=
  if tk L this 4 then
  some (smi (smi X this 0 1000) this 1 10)
  else none
set_option maxRecDepth 100000 in
set_option maxHeartbeats 4000000 in
theorem c_X4_init {l : Launch} {dC : Nat → ClassId} {dI : Nat → Nat → Nat} {cy : Nat → ClassId} {ad : Nat → Nat} {L : hL} {X : hX} {this : Nat} {X' : hX} (h : f_X4_init L X this = some X') : hMet l dC dI cy ad L yX4_init wsX4_init ({ frames := 1, cells := 0, slots := 0, locals := 24 } : Room) [.ref (ad this)] X none X' := by
  unfold f_X4_init at h
  refine hx_enter RX4 (plainFor_of_name (by decide)) rfl rfl (Nat.le_of_ble_eq_true rfl) (fun p e s m args below meth c C hr hnm ls hl => ?_)
  have hl : lv_has ls 1 [(0, .ref (ad this))] := hl
  refine hx_aload_n C dX4_init_0 rfl (lv_at hl 0 rfl) ?_
  refine hx_objInit C (by decide +kernel) (by decide +kernel) (by decide +kernel) hl.1 dX4_init_1 (Nat.le_of_ble_eq_true rfl) (Nat.le_of_ble_eq_true rfl) ?_
  refine hx_aload_n C dX4_init_4 rfl (lv_at hl 0 rfl) ?_
  refine hx_sipush (v := 1000) C dX4_init_5 (by decide) ?_
  obtain ⟨g1, h⟩ := hx_gd h
  refine hx_puti C (ci := 4) (j := 0) tyX4 tyX4_ok nmX4 g1 uX4_init_4 (by decide) rfl (by decide) rfl (by decide +kernel) rfl rfl (tyX4_ok 0 (by decide)) dX4_init_8 rfl rfl ?_
  refine hx_aload_n C dX4_init_11 rfl (lv_at hl 0 rfl) ?_
  refine hx_bipush (v := 10) C dX4_init_12 (by decide) ?_
  refine hx_puti C (ci := 4) (j := 1) tyX4 tyX4_ok nmX4 g1 uX4_init_4 (by decide) rfl (by decide) rfl (by decide +kernel) rfl rfl (tyX4_ok 1 (by decide)) dX4_init_14 rfl rfl ?_
  obtain rfl := hx_some1 h
  exact hx_vret C hr dX4_init_17
def f_X1_init (L : hL) (X : hX) (this : Nat) : Option (Unit) :=
  some ()
set_option maxRecDepth 100000 in
set_option maxHeartbeats 4000000 in
theorem c_X1_init {l : Launch} {dC : Nat → ClassId} {dI : Nat → Nat → Nat} {cy : Nat → ClassId} {ad : Nat → Nat} {L : hL} {X : hX} {this : Nat} (h : f_X1_init L X this = some ()) : hMet l dC dI cy ad L yX1_init wsX1_init ({ frames := 1, cells := 0, slots := 0, locals := 24 } : Room) [.ref (ad this)] X none X := by
  unfold f_X1_init at h
  refine hx_enter RX1 (plainFor_of_name (by decide)) rfl rfl (Nat.le_of_ble_eq_true rfl) (fun p e s m args below meth c C hr hnm ls hl => ?_)
  have hl : lv_has ls 1 [(0, .ref (ad this))] := hl
  refine hx_aload_n C dX1_init_0 rfl (lv_at hl 0 rfl) ?_
  refine hx_objInit C (by decide +kernel) (by decide +kernel) (by decide +kernel) hl.1 dX1_init_1 (Nat.le_of_ble_eq_true rfl) (Nat.le_of_ble_eq_true rfl) ?_
  exact hx_vret C hr dX1_init_4
def f_X5_init (L : hL) (X : hX) (this : Nat) : Option (Unit) :=
  some ()
set_option maxRecDepth 100000 in
set_option maxHeartbeats 4000000 in
theorem c_X5_init {l : Launch} {dC : Nat → ClassId} {dI : Nat → Nat → Nat} {cy : Nat → ClassId} {ad : Nat → Nat} {L : hL} {X : hX} {this : Nat} (h : f_X5_init L X this = some ()) : hMet l dC dI cy ad L yX5_init wsX5_init ({ frames := 1, cells := 0, slots := 0, locals := 24 } : Room) [.ref (ad this)] X none X := by
  unfold f_X5_init at h
  refine hx_enter RX5 (plainFor_of_name (by decide)) rfl rfl (Nat.le_of_ble_eq_true rfl) (fun p e s m args below meth c C hr hnm ls hl => ?_)
  have hl : lv_has ls 1 [(0, .ref (ad this))] := hl
  refine hx_aload_n C dX5_init_0 rfl (lv_at hl 0 rfl) ?_
  refine hx_objInit C (by decide +kernel) (by decide +kernel) (by decide +kernel) hl.1 dX5_init_1 (Nat.le_of_ble_eq_true rfl) (Nat.le_of_ble_eq_true rfl) ?_
  exact hx_vret C hr dX5_init_4
theorem uX4_copyFrom_4 : ∀ w ∈ u_ws RX4 TX4 2, w ∈ wsX4_copyFrom := by decide +kernel
def f_X4_copyFrom (L : hL) (X : hX) (this : Nat) (a1 : Nat) : Option (hX) :=
  if tk L a1 4 then
  if tk L this 4 then
  some (smi (smi X this 0 (X.1 a1 0)) this 1 ((smi X this 0 (X.1 a1 0)).1 a1 1))
  else none
  else none
set_option maxRecDepth 100000 in
set_option maxHeartbeats 4000000 in
theorem c_X4_copyFrom {l : Launch} {dC : Nat → ClassId} {dI : Nat → Nat → Nat} {cy : Nat → ClassId} {ad : Nat → Nat} {L : hL} {X : hX} {this : Nat} {a1 : Nat} {X' : hX} (h : f_X4_copyFrom L X this a1 = some X') : hMet l dC dI cy ad L yX4_copyFrom wsX4_copyFrom ({ frames := 0, cells := 0, slots := 0, locals := 0 } : Room) [.ref (ad this), .ref (ad a1)] X none X' := by
  unfold f_X4_copyFrom at h
  refine hx_enter RX4 (plainFor_of_name (by decide)) rfl rfl (Nat.le_of_ble_eq_true rfl) (fun p e s m args below meth c C hr hnm ls hl => ?_)
  have hl : lv_has ls 2 [(0, .ref (ad this)), (1, .ref (ad a1))] := hl
  refine hx_aload_n C dX4_copyFrom_0 rfl (lv_at hl 0 rfl) ?_
  refine hx_aload_n C dX4_copyFrom_1 rfl (lv_at hl 1 rfl) ?_
  obtain ⟨g1, h⟩ := hx_gd h
  refine hx_geti C (ci := 4) (j := 0) g1 uX4_copyFrom_4 (by decide) rfl (by decide) rfl (by decide +kernel) rfl dX4_copyFrom_2 ?_
  obtain ⟨g2, h⟩ := hx_gd h
  refine hx_puti C (ci := 4) (j := 0) tyX4 tyX4_ok nmX4 g2 uX4_copyFrom_4 (by decide) rfl (by decide) rfl (by decide +kernel) rfl rfl (tyX4_ok 0 (by decide)) dX4_copyFrom_5 rfl rfl ?_
  refine hx_aload_n C dX4_copyFrom_8 rfl (lv_at hl 0 rfl) ?_
  refine hx_aload_n C dX4_copyFrom_9 rfl (lv_at hl 1 rfl) ?_
  refine hx_geti C (ci := 4) (j := 1) g1 uX4_copyFrom_4 (by decide) rfl (by decide) rfl (by decide +kernel) rfl dX4_copyFrom_10 ?_
  refine hx_puti C (ci := 4) (j := 1) tyX4 tyX4_ok nmX4 g2 uX4_copyFrom_4 (by decide) rfl (by decide) rfl (by decide +kernel) rfl rfl (tyX4_ok 1 (by decide)) dX4_copyFrom_13 rfl rfl ?_
  obtain rfl := hx_some1 h
  exact hx_vret C hr dX4_copyFrom_16
theorem uX1_copyFrom_1 : ∀ w ∈ u_ws RX1 TX1 6, w ∈ wsX1_copyFrom := by decide +kernel
def f_X1_copyFrom (L : hL) (X : hX) (this : Nat) (a1 : Nat) : Option (hX) :=
  if tk L a1 1 then
  if tk L this 1 then
  if ((smi X this 0 (X.1 a1 0)).1 a1 1) = 0 ∨ ((smi X this 0 (X.1 a1 0)).1 a1 1) = 1 then
  some (smi (smi (smi (smi (smi (smi X this 0 (X.1 a1 0)) this 1 ((smi X this 0 (X.1 a1 0)).1 a1 1)) this 2 ((smi (smi X this 0 (X.1 a1 0)) this 1 ((smi X this 0 (X.1 a1 0)).1 a1 1)).1 a1 2)) this 3 ((smi (smi (smi X this 0 (X.1 a1 0)) this 1 ((smi X this 0 (X.1 a1 0)).1 a1 1)) this 2 ((smi (smi X this 0 (X.1 a1 0)) this 1 ((smi X this 0 (X.1 a1 0)).1 a1 1)).1 a1 2)).1 a1 3)) this 4 ((smi (smi (smi (smi X this 0 (X.1 a1 0)) this 1 ((smi X this 0 (X.1 a1 0)).1 a1 1)) this 2 ((smi (smi X this 0 (X.1 a1 0)) this 1 ((smi X this 0 (X.1 a1 0)).1 a1 1)).1 a1 2)) this 3 ((smi (smi (smi X this 0 (X.1 a1 0)) this 1 ((smi X this 0 (X.1 a1 0)).1 a1 1)) this 2 ((smi (smi X this 0 (X.1 a1 0)) this 1 ((smi X this 0 (X.1 a1 0)).1 a1 1)).1 a1 2)).1 a1 3)).1 a1 4)) this 5 ((smi (smi (smi (smi (smi X this 0 (X.1 a1 0)) this 1 ((smi X this 0 (X.1 a1 0)).1 a1 1)) this 2 ((smi (smi X this 0 (X.1 a1 0)) this 1 ((smi X this 0 (X.1 a1 0)).1 a1 1)).1 a1 2)) this 3 ((smi (smi (smi X this 0 (X.1 a1 0)) this 1 ((smi X this 0 (X.1 a1 0)).1 a1 1)) this 2 ((smi (smi X this 0 (X.1 a1 0)) this 1 ((smi X this 0 (X.1 a1 0)).1 a1 1)).1 a1 2)).1 a1 3)) this 4 ((smi (smi (smi (smi X this 0 (X.1 a1 0)) this 1 ((smi X this 0 (X.1 a1 0)).1 a1 1)) this 2 ((smi (smi X this 0 (X.1 a1 0)) this 1 ((smi X this 0 (X.1 a1 0)).1 a1 1)).1 a1 2)) this 3 ((smi (smi (smi X this 0 (X.1 a1 0)) this 1 ((smi X this 0 (X.1 a1 0)).1 a1 1)) this 2 ((smi (smi X this 0 (X.1 a1 0)) this 1 ((smi X this 0 (X.1 a1 0)).1 a1 1)).1 a1 2)).1 a1 3)).1 a1 4)).1 a1 5))
  else none
  else none
  else none
set_option maxRecDepth 100000 in
set_option maxHeartbeats 4000000 in
theorem c_X1_copyFrom {l : Launch} {dC : Nat → ClassId} {dI : Nat → Nat → Nat} {cy : Nat → ClassId} {ad : Nat → Nat} {L : hL} {X : hX} {this : Nat} {a1 : Nat} {X' : hX} (h : f_X1_copyFrom L X this a1 = some X') : hMet l dC dI cy ad L yX1_copyFrom wsX1_copyFrom ({ frames := 0, cells := 0, slots := 0, locals := 0 } : Room) [.ref (ad this), .ref (ad a1)] X none X' := by
  unfold f_X1_copyFrom at h
  refine hx_enter RX1 (plainFor_of_name (by decide)) rfl rfl (Nat.le_of_ble_eq_true rfl) (fun p e s m args below meth c C hr hnm ls hl => ?_)
  have hl : lv_has ls 2 [(0, .ref (ad this)), (1, .ref (ad a1))] := hl
  refine hx_aload_n C dX1_copyFrom_0 rfl (lv_at hl 0 rfl) ?_
  refine hx_aload_n C dX1_copyFrom_1 rfl (lv_at hl 1 rfl) ?_
  obtain ⟨g1, h⟩ := hx_gd h
  refine hx_geti C (ci := 1) (j := 0) g1 uX1_copyFrom_1 (by decide) rfl (by decide) rfl (by decide +kernel) rfl dX1_copyFrom_2 ?_
  obtain ⟨g2, h⟩ := hx_gd h
  refine hx_puti C (ci := 1) (j := 0) tyX1 tyX1_ok nmX1 g2 uX1_copyFrom_1 (by decide) rfl (by decide) rfl (by decide +kernel) rfl rfl (tyX1_ok 0 (by decide)) dX1_copyFrom_5 rfl rfl ?_
  refine hx_aload_n C dX1_copyFrom_8 rfl (lv_at hl 0 rfl) ?_
  refine hx_aload_n C dX1_copyFrom_9 rfl (lv_at hl 1 rfl) ?_
  refine hx_geti C (ci := 1) (j := 1) g1 uX1_copyFrom_1 (by decide) rfl (by decide) rfl (by decide +kernel) rfl dX1_copyFrom_10 ?_
  obtain ⟨g3, h⟩ := hx_gd h
  refine hx_puti C (ci := 1) (j := 1) tyX1 tyX1_ok nmX1 g2 uX1_copyFrom_1 (by decide) rfl (by decide) rfl (by decide +kernel) rfl rfl (tyX1_ok 1 (by decide)) dX1_copyFrom_13 (hx_nb g3).1 (hx_nb g3).2 ?_
  refine hx_aload_n C dX1_copyFrom_16 rfl (lv_at hl 0 rfl) ?_
  refine hx_aload_n C dX1_copyFrom_17 rfl (lv_at hl 1 rfl) ?_
  refine hx_geti C (ci := 1) (j := 2) g1 uX1_copyFrom_1 (by decide) rfl (by decide) rfl (by decide +kernel) rfl dX1_copyFrom_18 ?_
  refine hx_puti C (ci := 1) (j := 2) tyX1 tyX1_ok nmX1 g2 uX1_copyFrom_1 (by decide) rfl (by decide) rfl (by decide +kernel) rfl rfl (tyX1_ok 2 (by decide)) dX1_copyFrom_21 rfl rfl ?_
  refine hx_aload_n C dX1_copyFrom_24 rfl (lv_at hl 0 rfl) ?_
  refine hx_aload_n C dX1_copyFrom_25 rfl (lv_at hl 1 rfl) ?_
  refine hx_geti C (ci := 1) (j := 3) g1 uX1_copyFrom_1 (by decide) rfl (by decide) rfl (by decide +kernel) rfl dX1_copyFrom_26 ?_
  refine hx_puti C (ci := 1) (j := 3) tyX1 tyX1_ok nmX1 g2 uX1_copyFrom_1 (by decide) rfl (by decide) rfl (by decide +kernel) rfl rfl (tyX1_ok 3 (by decide)) dX1_copyFrom_29 rfl rfl ?_
  refine hx_aload_n C dX1_copyFrom_32 rfl (lv_at hl 0 rfl) ?_
  refine hx_aload_n C dX1_copyFrom_33 rfl (lv_at hl 1 rfl) ?_
  refine hx_geti C (ci := 1) (j := 4) g1 uX1_copyFrom_1 (by decide) rfl (by decide) rfl (by decide +kernel) rfl dX1_copyFrom_34 ?_
  refine hx_puti C (ci := 1) (j := 4) tyX1 tyX1_ok nmX1 g2 uX1_copyFrom_1 (by decide) rfl (by decide) rfl (by decide +kernel) rfl rfl (tyX1_ok 4 (by decide)) dX1_copyFrom_37 rfl rfl ?_
  refine hx_aload_n C dX1_copyFrom_40 rfl (lv_at hl 0 rfl) ?_
  refine hx_aload_n C dX1_copyFrom_41 rfl (lv_at hl 1 rfl) ?_
  refine hx_geti C (ci := 1) (j := 5) g1 uX1_copyFrom_1 (by decide) rfl (by decide) rfl (by decide +kernel) rfl dX1_copyFrom_42 ?_
  refine hx_puti C (ci := 1) (j := 5) tyX1 tyX1_ok nmX1 g2 uX1_copyFrom_1 (by decide) rfl (by decide) rfl (by decide +kernel) rfl rfl (tyX1_ok 5 (by decide)) dX1_copyFrom_45 rfl rfl ?_
  obtain rfl := hx_some1 h
  exact hx_vret C hr dX1_copyFrom_48
theorem uX5_copyFrom_5 : ∀ w ∈ u_ws RX5 TX5 7, w ∈ wsX5_copyFrom := by decide +kernel
def f_X5_copyFrom (L : hL) (X : hX) (this : Nat) (a1 : Nat) : Option (hX) :=
  if tk L a1 5 then
  if tk L this 5 then
  some (smi (smi (smi (smi (smi (smi (smi X this 0 (X.1 a1 0)) this 1 ((smi X this 0 (X.1 a1 0)).1 a1 1)) this 2 ((smi (smi X this 0 (X.1 a1 0)) this 1 ((smi X this 0 (X.1 a1 0)).1 a1 1)).1 a1 2)) this 3 ((smi (smi (smi X this 0 (X.1 a1 0)) this 1 ((smi X this 0 (X.1 a1 0)).1 a1 1)) this 2 ((smi (smi X this 0 (X.1 a1 0)) this 1 ((smi X this 0 (X.1 a1 0)).1 a1 1)).1 a1 2)).1 a1 3)) this 4 ((smi (smi (smi (smi X this 0 (X.1 a1 0)) this 1 ((smi X this 0 (X.1 a1 0)).1 a1 1)) this 2 ((smi (smi X this 0 (X.1 a1 0)) this 1 ((smi X this 0 (X.1 a1 0)).1 a1 1)).1 a1 2)) this 3 ((smi (smi (smi X this 0 (X.1 a1 0)) this 1 ((smi X this 0 (X.1 a1 0)).1 a1 1)) this 2 ((smi (smi X this 0 (X.1 a1 0)) this 1 ((smi X this 0 (X.1 a1 0)).1 a1 1)).1 a1 2)).1 a1 3)).1 a1 4)) this 5 ((smi (smi (smi (smi (smi X this 0 (X.1 a1 0)) this 1 ((smi X this 0 (X.1 a1 0)).1 a1 1)) this 2 ((smi (smi X this 0 (X.1 a1 0)) this 1 ((smi X this 0 (X.1 a1 0)).1 a1 1)).1 a1 2)) this 3 ((smi (smi (smi X this 0 (X.1 a1 0)) this 1 ((smi X this 0 (X.1 a1 0)).1 a1 1)) this 2 ((smi (smi X this 0 (X.1 a1 0)) this 1 ((smi X this 0 (X.1 a1 0)).1 a1 1)).1 a1 2)).1 a1 3)) this 4 ((smi (smi (smi (smi X this 0 (X.1 a1 0)) this 1 ((smi X this 0 (X.1 a1 0)).1 a1 1)) this 2 ((smi (smi X this 0 (X.1 a1 0)) this 1 ((smi X this 0 (X.1 a1 0)).1 a1 1)).1 a1 2)) this 3 ((smi (smi (smi X this 0 (X.1 a1 0)) this 1 ((smi X this 0 (X.1 a1 0)).1 a1 1)) this 2 ((smi (smi X this 0 (X.1 a1 0)) this 1 ((smi X this 0 (X.1 a1 0)).1 a1 1)).1 a1 2)).1 a1 3)).1 a1 4)).1 a1 5)) this 6 ((smi (smi (smi (smi (smi (smi X this 0 (X.1 a1 0)) this 1 ((smi X this 0 (X.1 a1 0)).1 a1 1)) this 2 ((smi (smi X this 0 (X.1 a1 0)) this 1 ((smi X this 0 (X.1 a1 0)).1 a1 1)).1 a1 2)) this 3 ((smi (smi (smi X this 0 (X.1 a1 0)) this 1 ((smi X this 0 (X.1 a1 0)).1 a1 1)) this 2 ((smi (smi X this 0 (X.1 a1 0)) this 1 ((smi X this 0 (X.1 a1 0)).1 a1 1)).1 a1 2)).1 a1 3)) this 4 ((smi (smi (smi (smi X this 0 (X.1 a1 0)) this 1 ((smi X this 0 (X.1 a1 0)).1 a1 1)) this 2 ((smi (smi X this 0 (X.1 a1 0)) this 1 ((smi X this 0 (X.1 a1 0)).1 a1 1)).1 a1 2)) this 3 ((smi (smi (smi X this 0 (X.1 a1 0)) this 1 ((smi X this 0 (X.1 a1 0)).1 a1 1)) this 2 ((smi (smi X this 0 (X.1 a1 0)) this 1 ((smi X this 0 (X.1 a1 0)).1 a1 1)).1 a1 2)).1 a1 3)).1 a1 4)) this 5 ((smi (smi (smi (smi (smi X this 0 (X.1 a1 0)) this 1 ((smi X this 0 (X.1 a1 0)).1 a1 1)) this 2 ((smi (smi X this 0 (X.1 a1 0)) this 1 ((smi X this 0 (X.1 a1 0)).1 a1 1)).1 a1 2)) this 3 ((smi (smi (smi X this 0 (X.1 a1 0)) this 1 ((smi X this 0 (X.1 a1 0)).1 a1 1)) this 2 ((smi (smi X this 0 (X.1 a1 0)) this 1 ((smi X this 0 (X.1 a1 0)).1 a1 1)).1 a1 2)).1 a1 3)) this 4 ((smi (smi (smi (smi X this 0 (X.1 a1 0)) this 1 ((smi X this 0 (X.1 a1 0)).1 a1 1)) this 2 ((smi (smi X this 0 (X.1 a1 0)) this 1 ((smi X this 0 (X.1 a1 0)).1 a1 1)).1 a1 2)) this 3 ((smi (smi (smi X this 0 (X.1 a1 0)) this 1 ((smi X this 0 (X.1 a1 0)).1 a1 1)) this 2 ((smi (smi X this 0 (X.1 a1 0)) this 1 ((smi X this 0 (X.1 a1 0)).1 a1 1)).1 a1 2)).1 a1 3)).1 a1 4)).1 a1 5)).1 a1 6))
  else none
  else none
set_option maxRecDepth 100000 in
set_option maxHeartbeats 4000000 in
theorem c_X5_copyFrom {l : Launch} {dC : Nat → ClassId} {dI : Nat → Nat → Nat} {cy : Nat → ClassId} {ad : Nat → Nat} {L : hL} {X : hX} {this : Nat} {a1 : Nat} {X' : hX} (h : f_X5_copyFrom L X this a1 = some X') : hMet l dC dI cy ad L yX5_copyFrom wsX5_copyFrom ({ frames := 0, cells := 0, slots := 0, locals := 0 } : Room) [.ref (ad this), .ref (ad a1)] X none X' := by
  unfold f_X5_copyFrom at h
  refine hx_enter RX5 (plainFor_of_name (by decide)) rfl rfl (Nat.le_of_ble_eq_true rfl) (fun p e s m args below meth c C hr hnm ls hl => ?_)
  have hl : lv_has ls 2 [(0, .ref (ad this)), (1, .ref (ad a1))] := hl
  refine hx_aload_n C dX5_copyFrom_0 rfl (lv_at hl 0 rfl) ?_
  refine hx_aload_n C dX5_copyFrom_1 rfl (lv_at hl 1 rfl) ?_
  obtain ⟨g1, h⟩ := hx_gd h
  refine hx_geti C (ci := 5) (j := 0) g1 uX5_copyFrom_5 (by decide) rfl (by decide) rfl (by decide +kernel) rfl dX5_copyFrom_2 ?_
  obtain ⟨g2, h⟩ := hx_gd h
  refine hx_puti C (ci := 5) (j := 0) tyX5 tyX5_ok nmX5 g2 uX5_copyFrom_5 (by decide) rfl (by decide) rfl (by decide +kernel) rfl rfl (tyX5_ok 0 (by decide)) dX5_copyFrom_5 rfl rfl ?_
  refine hx_aload_n C dX5_copyFrom_8 rfl (lv_at hl 0 rfl) ?_
  refine hx_aload_n C dX5_copyFrom_9 rfl (lv_at hl 1 rfl) ?_
  refine hx_geti C (ci := 5) (j := 1) g1 uX5_copyFrom_5 (by decide) rfl (by decide) rfl (by decide +kernel) rfl dX5_copyFrom_10 ?_
  refine hx_puti C (ci := 5) (j := 1) tyX5 tyX5_ok nmX5 g2 uX5_copyFrom_5 (by decide) rfl (by decide) rfl (by decide +kernel) rfl rfl (tyX5_ok 1 (by decide)) dX5_copyFrom_13 rfl rfl ?_
  refine hx_aload_n C dX5_copyFrom_16 rfl (lv_at hl 0 rfl) ?_
  refine hx_aload_n C dX5_copyFrom_17 rfl (lv_at hl 1 rfl) ?_
  refine hx_geti C (ci := 5) (j := 2) g1 uX5_copyFrom_5 (by decide) rfl (by decide) rfl (by decide +kernel) rfl dX5_copyFrom_18 ?_
  refine hx_puti C (ci := 5) (j := 2) tyX5 tyX5_ok nmX5 g2 uX5_copyFrom_5 (by decide) rfl (by decide) rfl (by decide +kernel) rfl rfl (tyX5_ok 2 (by decide)) dX5_copyFrom_21 rfl rfl ?_
  refine hx_aload_n C dX5_copyFrom_24 rfl (lv_at hl 0 rfl) ?_
  refine hx_aload_n C dX5_copyFrom_25 rfl (lv_at hl 1 rfl) ?_
  refine hx_geti C (ci := 5) (j := 3) g1 uX5_copyFrom_5 (by decide) rfl (by decide) rfl (by decide +kernel) rfl dX5_copyFrom_26 ?_
  refine hx_puti C (ci := 5) (j := 3) tyX5 tyX5_ok nmX5 g2 uX5_copyFrom_5 (by decide) rfl (by decide) rfl (by decide +kernel) rfl rfl (tyX5_ok 3 (by decide)) dX5_copyFrom_29 rfl rfl ?_
  refine hx_aload_n C dX5_copyFrom_32 rfl (lv_at hl 0 rfl) ?_
  refine hx_aload_n C dX5_copyFrom_33 rfl (lv_at hl 1 rfl) ?_
  refine hx_geti C (ci := 5) (j := 4) g1 uX5_copyFrom_5 (by decide) rfl (by decide) rfl (by decide +kernel) rfl dX5_copyFrom_34 ?_
  refine hx_puti C (ci := 5) (j := 4) tyX5 tyX5_ok nmX5 g2 uX5_copyFrom_5 (by decide) rfl (by decide) rfl (by decide +kernel) rfl rfl (tyX5_ok 4 (by decide)) dX5_copyFrom_37 rfl rfl ?_
  refine hx_aload_n C dX5_copyFrom_40 rfl (lv_at hl 0 rfl) ?_
  refine hx_aload_n C dX5_copyFrom_41 rfl (lv_at hl 1 rfl) ?_
  refine hx_geti C (ci := 5) (j := 5) g1 uX5_copyFrom_5 (by decide) rfl (by decide) rfl (by decide +kernel) rfl dX5_copyFrom_42 ?_
  refine hx_puti C (ci := 5) (j := 5) tyX5 tyX5_ok nmX5 g2 uX5_copyFrom_5 (by decide) rfl (by decide) rfl (by decide +kernel) rfl rfl (tyX5_ok 5 (by decide)) dX5_copyFrom_45 rfl rfl ?_
  refine hx_aload_n C dX5_copyFrom_48 rfl (lv_at hl 0 rfl) ?_
  refine hx_aload_n C dX5_copyFrom_49 rfl (lv_at hl 1 rfl) ?_
  refine hx_geti C (ci := 5) (j := 6) g1 uX5_copyFrom_5 (by decide) rfl (by decide) rfl (by decide +kernel) rfl dX5_copyFrom_50 ?_
  refine hx_puti C (ci := 5) (j := 6) tyX5 tyX5_ok nmX5 g2 uX5_copyFrom_5 (by decide) rfl (by decide) rfl (by decide +kernel) rfl rfl (tyX5_ok 6 (by decide)) dX5_copyFrom_53 rfl rfl ?_
  obtain rfl := hx_some1 h
  exact hx_vret C hr dX5_copyFrom_56
theorem uX7_copyFrom_7 : ∀ w ∈ u_ws RX7 TX7 3, w ∈ wsX7_copyFrom := by decide +kernel
def f_X7_copyFrom (L : hL) (X : hX) (this : Nat) (a1 : Nat) : Option (hX) :=
  if tk L a1 7 then
  if tk L this 7 then
  some (smi (smi (smi X this 0 (X.1 a1 0)) this 1 ((smi X this 0 (X.1 a1 0)).1 a1 1)) this 2 ((smi (smi X this 0 (X.1 a1 0)) this 1 ((smi X this 0 (X.1 a1 0)).1 a1 1)).1 a1 2))
  else none
  else none
set_option maxRecDepth 100000 in
set_option maxHeartbeats 4000000 in
theorem c_X7_copyFrom {l : Launch} {dC : Nat → ClassId} {dI : Nat → Nat → Nat} {cy : Nat → ClassId} {ad : Nat → Nat} {L : hL} {X : hX} {this : Nat} {a1 : Nat} {X' : hX} (h : f_X7_copyFrom L X this a1 = some X') : hMet l dC dI cy ad L yX7_copyFrom wsX7_copyFrom ({ frames := 0, cells := 0, slots := 0, locals := 0 } : Room) [.ref (ad this), .ref (ad a1)] X none X' := by
  unfold f_X7_copyFrom at h
  refine hx_enter RX7 (plainFor_of_name (by decide)) rfl rfl (Nat.le_of_ble_eq_true rfl) (fun p e s m args below meth c C hr hnm ls hl => ?_)
  have hl : lv_has ls 2 [(0, .ref (ad this)), (1, .ref (ad a1))] := hl
  refine hx_aload_n C dX7_copyFrom_0 rfl (lv_at hl 0 rfl) ?_
  refine hx_aload_n C dX7_copyFrom_1 rfl (lv_at hl 1 rfl) ?_
  obtain ⟨g1, h⟩ := hx_gd h
  refine hx_geti C (ci := 7) (j := 0) g1 uX7_copyFrom_7 (by decide) rfl (by decide) rfl (by decide +kernel) rfl dX7_copyFrom_2 ?_
  obtain ⟨g2, h⟩ := hx_gd h
  refine hx_puti C (ci := 7) (j := 0) tyX7 tyX7_ok nmX7 g2 uX7_copyFrom_7 (by decide) rfl (by decide) rfl (by decide +kernel) rfl rfl (tyX7_ok 0 (by decide)) dX7_copyFrom_5 rfl rfl ?_
  refine hx_aload_n C dX7_copyFrom_8 rfl (lv_at hl 0 rfl) ?_
  refine hx_aload_n C dX7_copyFrom_9 rfl (lv_at hl 1 rfl) ?_
  refine hx_geti C (ci := 7) (j := 1) g1 uX7_copyFrom_7 (by decide) rfl (by decide) rfl (by decide +kernel) rfl dX7_copyFrom_10 ?_
  refine hx_puti C (ci := 7) (j := 1) tyX7 tyX7_ok nmX7 g2 uX7_copyFrom_7 (by decide) rfl (by decide) rfl (by decide +kernel) rfl rfl (tyX7_ok 1 (by decide)) dX7_copyFrom_13 rfl rfl ?_
  refine hx_aload_n C dX7_copyFrom_16 rfl (lv_at hl 0 rfl) ?_
  refine hx_aload_n C dX7_copyFrom_17 rfl (lv_at hl 1 rfl) ?_
  refine hx_geti C (ci := 7) (j := 2) g1 uX7_copyFrom_7 (by decide) rfl (by decide) rfl (by decide +kernel) rfl dX7_copyFrom_18 ?_
  refine hx_puti C (ci := 7) (j := 2) tyX7 tyX7_ok nmX7 g2 uX7_copyFrom_7 (by decide) rfl (by decide) rfl (by decide +kernel) rfl rfl (tyX7_ok 2 (by decide)) dX7_copyFrom_21 rfl rfl ?_
  obtain rfl := hx_some1 h
  exact hx_vret C hr dX7_copyFrom_24
theorem uX0_copyFrom_0 : ∀ w ∈ u_ws RX0 TX0 9, w ∈ wsX0_copyFrom := by decide +kernel
def f_X0_copyFrom_59 (L : hL) : Nat → Nat → Nat → Int32 → hX → Option (hX)
  | 0, _, _, _, _ => none
  | n + 1, v0, v1, v2, X =>
    if 6 ≤ v2 then
      if tk L v0 0 then
      (X.2 v0 1).bind fun q3 =>
      if tk L v1 0 then
      (X.2 v1 1).bind fun q6 =>
      (f_X7_copyFrom L X q3 q6).bind fun r8 =>
      if tk L q3 7 then
      some (smi (smi (smi (smi (smi r8 v0 4 (r8.1 v1 4)) v0 5 ((smi r8 v0 4 (r8.1 v1 4)).1 v1 5)) v0 6 ((smi (smi r8 v0 4 (r8.1 v1 4)) v0 5 ((smi r8 v0 4 (r8.1 v1 4)).1 v1 5)).1 v1 6)) v0 7 ((smi (smi (smi r8 v0 4 (r8.1 v1 4)) v0 5 ((smi r8 v0 4 (r8.1 v1 4)).1 v1 5)) v0 6 ((smi (smi r8 v0 4 (r8.1 v1 4)) v0 5 ((smi r8 v0 4 (r8.1 v1 4)).1 v1 5)).1 v1 6)).1 v1 7)) v0 8 ((smi (smi (smi (smi r8 v0 4 (r8.1 v1 4)) v0 5 ((smi r8 v0 4 (r8.1 v1 4)).1 v1 5)) v0 6 ((smi (smi r8 v0 4 (r8.1 v1 4)) v0 5 ((smi r8 v0 4 (r8.1 v1 4)).1 v1 5)).1 v1 6)) v0 7 ((smi (smi (smi r8 v0 4 (r8.1 v1 4)) v0 5 ((smi r8 v0 4 (r8.1 v1 4)).1 v1 5)) v0 6 ((smi (smi r8 v0 4 (r8.1 v1 4)) v0 5 ((smi r8 v0 4 (r8.1 v1 4)).1 v1 5)).1 v1 6)).1 v1 7)).1 v1 8))
      else none
      else none
      else none
    else
      if tk L v0 0 then
      (X.2 v0 3).bind fun q12 =>
      if tk L q12 17 then
      if hin v2 (L.2.2 q12) then
      (X.2 q12 (Int32.toNatClampNeg v2)).bind fun q16 =>
      if tk L v1 0 then
      (X.2 v1 3).bind fun q19 =>
      if tk L q19 17 then
      if hin v2 (L.2.2 q19) then
      (X.2 q19 (Int32.toNatClampNeg v2)).bind fun q23 =>
      (f_X5_copyFrom L X q16 q23).bind fun r25 =>
      if tk L q16 5 then
      f_X0_copyFrom_59 L n v0 v1 (v2 + 1) r25
      else none
      else none
      else none
      else none
      else none
      else none
      else none
set_option maxRecDepth 100000 in
set_option maxHeartbeats 4000000 in
theorem w_X0_copyFrom_59 {p : Program} {l : Launch} {e : Env} {s : State} {m : MethodId} {args : Array Value} {below : List Frame} {meth : Method} {c : Code} {dC : Nat → ClassId} {dI : Nat → Nat → Nat} {cy : Nat → ClassId} {ad : Nat → Nat} {L : hL} {X' : hX} (C : hC p s m args meth c dC dI cy ad L (hA ad L s.heap.size) cX0_copyFrom 3 wsX0_copyFrom RX0) (hr : meth.sig.returnType = none) : ∀ (n : Nat) (v0 : Nat) (v1 : Nat) (v2 : Int32) (X : hX) (ls : Array Slot), f_X0_copyFrom_59 L n v0 v1 v2 X = some X' → lv_has ls 3 [(0, .ref (ad v0)), (1, .ref (ad v1)), (2, .int v2)] → hG p l e (headSpec wsX0_copyFrom ({ frames := 1, cells := 0, slots := 0, locals := 21 } : Room)).room s m args below meth c dC dI cy ad L (hA ad L s.heap.size) 0 0 (MQ below (hQ dC dI cy ad L s.heap.size none X') args s 0 0 (hA ad L s.heap.size)) X 59 ls [] := by
  intro n
  induction n with
  | zero => intro v0 v1 v2 X ls h; cases h
  | succ n ih =>
    intro v0 v1 v2 X ls h hl
    rw [f_X0_copyFrom_59] at h
    refine hx_iload_n C dX0_copyFrom_59 rfl (lv_at hl 2 rfl) ?_
    refine hx_bipush (v := 6) C dX0_copyFrom_60 (by decide) ?_
    refine hx_icmp_ge (tgt := 86) C dX0_copyFrom_62 (by decide) (fun c1 => ?_) (fun c1 => ?_)
    · have h := hx_pos c1 h
      refine hx_aload_n C dX0_copyFrom_86 rfl (lv_at hl 0 rfl) ?_
      obtain ⟨g2, h⟩ := hx_gd h
      obtain ⟨q3, e4, h⟩ := hx_bind h
      refine hx_getr C (ci := 0) (j := 1) g2 uX0_copyFrom_0 (by decide) rfl (by decide) rfl (by decide +kernel) rfl dX0_copyFrom_87 e4 ?_
      refine hx_aload_n C dX0_copyFrom_90 rfl (lv_at hl 1 rfl) ?_
      obtain ⟨g5, h⟩ := hx_gd h
      obtain ⟨q6, e7, h⟩ := hx_bind h
      refine hx_getr C (ci := 0) (j := 1) g5 uX0_copyFrom_0 (by decide) rfl (by decide) rfl (by decide +kernel) rfl dX0_copyFrom_91 e7 ?_
      obtain ⟨r8, e9, h⟩ := hx_bind h
      obtain ⟨g10, h⟩ := hx_gd h
      refine hx_callV (As := [.ref (ad q6)]) (rest := []) (n := 1) (Cn := RX7) C (c_X7_copyFrom e9) gX0_copyFrom_X7_copyFrom g10 (by decide) rfl (by decide +kernel) ⟨Nat.le_of_ble_eq_true rfl, Nat.le_of_ble_eq_true rfl⟩ rfl rfl rfl ⟨Nat.zero_le _, Nat.zero_le _⟩ hl.1 rfl rfl (Nat.le_of_ble_eq_true rfl) dX0_copyFrom_94 ?_
      refine hx_aload_n C dX0_copyFrom_97 rfl (lv_at hl 0 rfl) ?_
      refine hx_aload_n C dX0_copyFrom_98 rfl (lv_at hl 1 rfl) ?_
      refine hx_geti C (ci := 0) (j := 4) g5 uX0_copyFrom_0 (by decide) rfl (by decide) rfl (by decide +kernel) rfl dX0_copyFrom_99 ?_
      refine hx_puti C (ci := 0) (j := 4) tyX0 tyX0_ok nmX0 g2 uX0_copyFrom_0 (by decide) rfl (by decide) rfl (by decide +kernel) rfl rfl (tyX0_ok 4 (by decide)) dX0_copyFrom_102 rfl rfl ?_
      refine hx_aload_n C dX0_copyFrom_105 rfl (lv_at hl 0 rfl) ?_
      refine hx_aload_n C dX0_copyFrom_106 rfl (lv_at hl 1 rfl) ?_
      refine hx_geti C (ci := 0) (j := 5) g5 uX0_copyFrom_0 (by decide) rfl (by decide) rfl (by decide +kernel) rfl dX0_copyFrom_107 ?_
      refine hx_puti C (ci := 0) (j := 5) tyX0 tyX0_ok nmX0 g2 uX0_copyFrom_0 (by decide) rfl (by decide) rfl (by decide +kernel) rfl rfl (tyX0_ok 5 (by decide)) dX0_copyFrom_110 rfl rfl ?_
      refine hx_aload_n C dX0_copyFrom_113 rfl (lv_at hl 0 rfl) ?_
      refine hx_aload_n C dX0_copyFrom_114 rfl (lv_at hl 1 rfl) ?_
      refine hx_geti C (ci := 0) (j := 6) g5 uX0_copyFrom_0 (by decide) rfl (by decide) rfl (by decide +kernel) rfl dX0_copyFrom_115 ?_
      refine hx_puti C (ci := 0) (j := 6) tyX0 tyX0_ok nmX0 g2 uX0_copyFrom_0 (by decide) rfl (by decide) rfl (by decide +kernel) rfl rfl (tyX0_ok 6 (by decide)) dX0_copyFrom_118 rfl rfl ?_
      refine hx_aload_n C dX0_copyFrom_121 rfl (lv_at hl 0 rfl) ?_
      refine hx_aload_n C dX0_copyFrom_122 rfl (lv_at hl 1 rfl) ?_
      refine hx_geti C (ci := 0) (j := 7) g5 uX0_copyFrom_0 (by decide) rfl (by decide) rfl (by decide +kernel) rfl dX0_copyFrom_123 ?_
      refine hx_puti C (ci := 0) (j := 7) tyX0 tyX0_ok nmX0 g2 uX0_copyFrom_0 (by decide) rfl (by decide) rfl (by decide +kernel) rfl rfl (tyX0_ok 7 (by decide)) dX0_copyFrom_126 rfl rfl ?_
      refine hx_aload_n C dX0_copyFrom_129 rfl (lv_at hl 0 rfl) ?_
      refine hx_aload_n C dX0_copyFrom_130 rfl (lv_at hl 1 rfl) ?_
      refine hx_geti C (ci := 0) (j := 8) g5 uX0_copyFrom_0 (by decide) rfl (by decide) rfl (by decide +kernel) rfl dX0_copyFrom_131 ?_
      refine hx_puti C (ci := 0) (j := 8) tyX0 tyX0_ok nmX0 g2 uX0_copyFrom_0 (by decide) rfl (by decide) rfl (by decide +kernel) rfl rfl (tyX0_ok 8 (by decide)) dX0_copyFrom_134 rfl rfl ?_
      obtain rfl := hx_some1 h
      exact hx_vret C hr dX0_copyFrom_137
    · have h := hx_neg c1 h
      refine hx_aload_n C dX0_copyFrom_65 rfl (lv_at hl 0 rfl) ?_
      obtain ⟨g11, h⟩ := hx_gd h
      obtain ⟨q12, e13, h⟩ := hx_bind h
      refine hx_getr C (ci := 0) (j := 3) g11 uX0_copyFrom_0 (by decide) rfl (by decide) rfl (by decide +kernel) rfl dX0_copyFrom_66 e13 ?_
      refine hx_iload_n C dX0_copyFrom_69 rfl (lv_at hl 2 rfl) ?_
      obtain ⟨g14, h⟩ := hx_gd h
      obtain ⟨g15, h⟩ := hx_gd h
      obtain ⟨q16, e17, h⟩ := hx_bind h
      refine hx_aald (t0 := 6) C g14 (by decide) rfl g15 rfl e17 dX0_copyFrom_70 ?_
      refine hx_aload_n C dX0_copyFrom_71 rfl (lv_at hl 1 rfl) ?_
      obtain ⟨g18, h⟩ := hx_gd h
      obtain ⟨q19, e20, h⟩ := hx_bind h
      refine hx_getr C (ci := 0) (j := 3) g18 uX0_copyFrom_0 (by decide) rfl (by decide) rfl (by decide +kernel) rfl dX0_copyFrom_72 e20 ?_
      refine hx_iload_n C dX0_copyFrom_75 rfl (lv_at hl 2 rfl) ?_
      obtain ⟨g21, h⟩ := hx_gd h
      obtain ⟨g22, h⟩ := hx_gd h
      obtain ⟨q23, e24, h⟩ := hx_bind h
      refine hx_aald (t0 := 6) C g21 (by decide) rfl g22 rfl e24 dX0_copyFrom_76 ?_
      obtain ⟨r25, e26, h⟩ := hx_bind h
      obtain ⟨g27, h⟩ := hx_gd h
      refine hx_callV (As := [.ref (ad q23)]) (rest := []) (n := 1) (Cn := RX5) C (c_X5_copyFrom e26) gX0_copyFrom_X5_copyFrom g27 (by decide) rfl (by decide +kernel) ⟨Nat.le_of_ble_eq_true rfl, Nat.le_of_ble_eq_true rfl⟩ rfl rfl rfl ⟨Nat.zero_le _, Nat.zero_le _⟩ hl.1 rfl rfl (Nat.le_of_ble_eq_true rfl) dX0_copyFrom_77 ?_
      refine hx_iinc (v := v2 + 1) (lv' := [(2, .int (v2 + 1)), (0, .ref (ad v0)), (1, .ref (ad v1))]) C dX0_copyFrom_80 hl (k := 2) rfl rfl (by decide) rfl (fun ls hl => ?_)
      refine hx_goto (tgt := 59) C dX0_copyFrom_83 (by decide) ?_
      exact ih v0 v1 (v2 + 1) r25 ls h (lv_sub hl [1, 2, 0] rfl)
def f_X0_copyFrom_30 (L : hL) : Nat → Nat → Nat → Int32 → hX → Option (hX)
  | 0, _, _, _, _ => none
  | n + 1, v0, v1, v2, X =>
    if 6 ≤ v2 then
      f_X0_copyFrom_59 L u_fuel v0 v1 0 X
    else
      if tk L v0 0 then
      (X.2 v0 2).bind fun q30 =>
      if tk L q30 15 then
      if hin v2 (L.2.2 q30) then
      (X.2 q30 (Int32.toNatClampNeg v2)).bind fun q34 =>
      if tk L v1 0 then
      (X.2 v1 2).bind fun q37 =>
      if tk L q37 15 then
      if hin v2 (L.2.2 q37) then
      (X.2 q37 (Int32.toNatClampNeg v2)).bind fun q41 =>
      (f_X1_copyFrom L X q34 q41).bind fun r43 =>
      if tk L q34 1 then
      f_X0_copyFrom_30 L n v0 v1 (v2 + 1) r43
      else none
      else none
      else none
      else none
      else none
      else none
      else none
set_option maxRecDepth 100000 in
set_option maxHeartbeats 4000000 in
theorem w_X0_copyFrom_30 {p : Program} {l : Launch} {e : Env} {s : State} {m : MethodId} {args : Array Value} {below : List Frame} {meth : Method} {c : Code} {dC : Nat → ClassId} {dI : Nat → Nat → Nat} {cy : Nat → ClassId} {ad : Nat → Nat} {L : hL} {X' : hX} (C : hC p s m args meth c dC dI cy ad L (hA ad L s.heap.size) cX0_copyFrom 3 wsX0_copyFrom RX0) (hr : meth.sig.returnType = none) : ∀ (n : Nat) (v0 : Nat) (v1 : Nat) (v2 : Int32) (X : hX) (ls : Array Slot), f_X0_copyFrom_30 L n v0 v1 v2 X = some X' → lv_has ls 3 [(0, .ref (ad v0)), (1, .ref (ad v1)), (2, .int v2)] → hG p l e (headSpec wsX0_copyFrom ({ frames := 1, cells := 0, slots := 0, locals := 21 } : Room)).room s m args below meth c dC dI cy ad L (hA ad L s.heap.size) 0 0 (MQ below (hQ dC dI cy ad L s.heap.size none X') args s 0 0 (hA ad L s.heap.size)) X 30 ls [] := by
  intro n
  induction n with
  | zero => intro v0 v1 v2 X ls h; cases h
  | succ n ih =>
    intro v0 v1 v2 X ls h hl
    rw [f_X0_copyFrom_30] at h
    refine hx_iload_n C dX0_copyFrom_30 rfl (lv_at hl 2 rfl) ?_
    refine hx_bipush (v := 6) C dX0_copyFrom_31 (by decide) ?_
    refine hx_icmp_ge (tgt := 57) C dX0_copyFrom_33 (by decide) (fun c28 => ?_) (fun c28 => ?_)
    · have h := hx_pos c28 h
      refine hx_iconst (v := 0) C dX0_copyFrom_57 (by decide) ?_
      refine hx_istore_n (lv' := [(2, .int 0), (0, .ref (ad v0)), (1, .ref (ad v1))]) C dX0_copyFrom_58 rfl hl (by decide) rfl (fun ls hl => ?_)
      exact w_X0_copyFrom_59 C hr u_fuel v0 v1 0 X ls h (lv_sub hl [1, 2, 0] rfl)
    · have h := hx_neg c28 h
      refine hx_aload_n C dX0_copyFrom_36 rfl (lv_at hl 0 rfl) ?_
      obtain ⟨g29, h⟩ := hx_gd h
      obtain ⟨q30, e31, h⟩ := hx_bind h
      refine hx_getr C (ci := 0) (j := 2) g29 uX0_copyFrom_0 (by decide) rfl (by decide) rfl (by decide +kernel) rfl dX0_copyFrom_37 e31 ?_
      refine hx_iload_n C dX0_copyFrom_40 rfl (lv_at hl 2 rfl) ?_
      obtain ⟨g32, h⟩ := hx_gd h
      obtain ⟨g33, h⟩ := hx_gd h
      obtain ⟨q34, e35, h⟩ := hx_bind h
      refine hx_aald (t0 := 4) C g32 (by decide) rfl g33 rfl e35 dX0_copyFrom_41 ?_
      refine hx_aload_n C dX0_copyFrom_42 rfl (lv_at hl 1 rfl) ?_
      obtain ⟨g36, h⟩ := hx_gd h
      obtain ⟨q37, e38, h⟩ := hx_bind h
      refine hx_getr C (ci := 0) (j := 2) g36 uX0_copyFrom_0 (by decide) rfl (by decide) rfl (by decide +kernel) rfl dX0_copyFrom_43 e38 ?_
      refine hx_iload_n C dX0_copyFrom_46 rfl (lv_at hl 2 rfl) ?_
      obtain ⟨g39, h⟩ := hx_gd h
      obtain ⟨g40, h⟩ := hx_gd h
      obtain ⟨q41, e42, h⟩ := hx_bind h
      refine hx_aald (t0 := 4) C g39 (by decide) rfl g40 rfl e42 dX0_copyFrom_47 ?_
      obtain ⟨r43, e44, h⟩ := hx_bind h
      obtain ⟨g45, h⟩ := hx_gd h
      refine hx_callV (As := [.ref (ad q41)]) (rest := []) (n := 1) (Cn := RX1) C (c_X1_copyFrom e44) gX0_copyFrom_X1_copyFrom g45 (by decide) rfl (by decide +kernel) ⟨Nat.le_of_ble_eq_true rfl, Nat.le_of_ble_eq_true rfl⟩ rfl rfl rfl ⟨Nat.zero_le _, Nat.zero_le _⟩ hl.1 rfl rfl (Nat.le_of_ble_eq_true rfl) dX0_copyFrom_48 ?_
      refine hx_iinc (v := v2 + 1) (lv' := [(2, .int (v2 + 1)), (0, .ref (ad v0)), (1, .ref (ad v1))]) C dX0_copyFrom_51 hl (k := 2) rfl rfl (by decide) rfl (fun ls hl => ?_)
      refine hx_goto (tgt := 30) C dX0_copyFrom_54 (by decide) ?_
      exact ih v0 v1 (v2 + 1) r43 ls h (lv_sub hl [1, 2, 0] rfl)
def f_X0_copyFrom_2 (L : hL) : Nat → Nat → Nat → Int32 → hX → Option (hX)
  | 0, _, _, _, _ => none
  | n + 1, v0, v1, v2, X =>
    if 4 ≤ v2 then
      f_X0_copyFrom_30 L u_fuel v0 v1 0 X
    else
      if tk L v0 0 then
      (X.2 v0 0).bind fun q48 =>
      if tk L q48 16 then
      if hin v2 (L.2.2 q48) then
      (X.2 q48 (Int32.toNatClampNeg v2)).bind fun q52 =>
      if tk L v1 0 then
      (X.2 v1 0).bind fun q55 =>
      if tk L q55 16 then
      if hin v2 (L.2.2 q55) then
      (X.2 q55 (Int32.toNatClampNeg v2)).bind fun q59 =>
      (f_X4_copyFrom L X q52 q59).bind fun r61 =>
      if tk L q52 4 then
      f_X0_copyFrom_2 L n v0 v1 (v2 + 1) r61
      else none
      else none
      else none
      else none
      else none
      else none
      else none
set_option maxRecDepth 100000 in
set_option maxHeartbeats 4000000 in
theorem w_X0_copyFrom_2 {p : Program} {l : Launch} {e : Env} {s : State} {m : MethodId} {args : Array Value} {below : List Frame} {meth : Method} {c : Code} {dC : Nat → ClassId} {dI : Nat → Nat → Nat} {cy : Nat → ClassId} {ad : Nat → Nat} {L : hL} {X' : hX} (C : hC p s m args meth c dC dI cy ad L (hA ad L s.heap.size) cX0_copyFrom 3 wsX0_copyFrom RX0) (hr : meth.sig.returnType = none) : ∀ (n : Nat) (v0 : Nat) (v1 : Nat) (v2 : Int32) (X : hX) (ls : Array Slot), f_X0_copyFrom_2 L n v0 v1 v2 X = some X' → lv_has ls 3 [(0, .ref (ad v0)), (1, .ref (ad v1)), (2, .int v2)] → hG p l e (headSpec wsX0_copyFrom ({ frames := 1, cells := 0, slots := 0, locals := 21 } : Room)).room s m args below meth c dC dI cy ad L (hA ad L s.heap.size) 0 0 (MQ below (hQ dC dI cy ad L s.heap.size none X') args s 0 0 (hA ad L s.heap.size)) X 2 ls [] := by
  intro n
  induction n with
  | zero => intro v0 v1 v2 X ls h; cases h
  | succ n ih =>
    intro v0 v1 v2 X ls h hl
    rw [f_X0_copyFrom_2] at h
    refine hx_iload_n C dX0_copyFrom_2 rfl (lv_at hl 2 rfl) ?_
    refine hx_iconst (v := 4) C dX0_copyFrom_3 (by decide) ?_
    refine hx_icmp_ge (tgt := 28) C dX0_copyFrom_4 (by decide) (fun c46 => ?_) (fun c46 => ?_)
    · have h := hx_pos c46 h
      refine hx_iconst (v := 0) C dX0_copyFrom_28 (by decide) ?_
      refine hx_istore_n (lv' := [(2, .int 0), (0, .ref (ad v0)), (1, .ref (ad v1))]) C dX0_copyFrom_29 rfl hl (by decide) rfl (fun ls hl => ?_)
      exact w_X0_copyFrom_30 C hr u_fuel v0 v1 0 X ls h (lv_sub hl [1, 2, 0] rfl)
    · have h := hx_neg c46 h
      refine hx_aload_n C dX0_copyFrom_7 rfl (lv_at hl 0 rfl) ?_
      obtain ⟨g47, h⟩ := hx_gd h
      obtain ⟨q48, e49, h⟩ := hx_bind h
      refine hx_getr C (ci := 0) (j := 0) g47 uX0_copyFrom_0 (by decide) rfl (by decide) rfl (by decide +kernel) rfl dX0_copyFrom_8 e49 ?_
      refine hx_iload_n C dX0_copyFrom_11 rfl (lv_at hl 2 rfl) ?_
      obtain ⟨g50, h⟩ := hx_gd h
      obtain ⟨g51, h⟩ := hx_gd h
      obtain ⟨q52, e53, h⟩ := hx_bind h
      refine hx_aald (t0 := 5) C g50 (by decide) rfl g51 rfl e53 dX0_copyFrom_12 ?_
      refine hx_aload_n C dX0_copyFrom_13 rfl (lv_at hl 1 rfl) ?_
      obtain ⟨g54, h⟩ := hx_gd h
      obtain ⟨q55, e56, h⟩ := hx_bind h
      refine hx_getr C (ci := 0) (j := 0) g54 uX0_copyFrom_0 (by decide) rfl (by decide) rfl (by decide +kernel) rfl dX0_copyFrom_14 e56 ?_
      refine hx_iload_n C dX0_copyFrom_17 rfl (lv_at hl 2 rfl) ?_
      obtain ⟨g57, h⟩ := hx_gd h
      obtain ⟨g58, h⟩ := hx_gd h
      obtain ⟨q59, e60, h⟩ := hx_bind h
      refine hx_aald (t0 := 5) C g57 (by decide) rfl g58 rfl e60 dX0_copyFrom_18 ?_
      obtain ⟨r61, e62, h⟩ := hx_bind h
      obtain ⟨g63, h⟩ := hx_gd h
      refine hx_callV (As := [.ref (ad q59)]) (rest := []) (n := 1) (Cn := RX4) C (c_X4_copyFrom e62) gX0_copyFrom_X4_copyFrom g63 (by decide) rfl (by decide +kernel) ⟨Nat.le_of_ble_eq_true rfl, Nat.le_of_ble_eq_true rfl⟩ rfl rfl rfl ⟨Nat.zero_le _, Nat.zero_le _⟩ hl.1 rfl rfl (Nat.le_of_ble_eq_true rfl) dX0_copyFrom_19 ?_
      refine hx_iinc (v := v2 + 1) (lv' := [(2, .int (v2 + 1)), (0, .ref (ad v0)), (1, .ref (ad v1))]) C dX0_copyFrom_22 hl (k := 2) rfl rfl (by decide) rfl (fun ls hl => ?_)
      refine hx_goto (tgt := 2) C dX0_copyFrom_25 (by decide) ?_
      exact ih v0 v1 (v2 + 1) r61 ls h (lv_sub hl [1, 2, 0] rfl)
def f_X0_copyFrom (L : hL) (X : hX) (this : Nat) (a1 : Nat) : Option (hX) :=
  f_X0_copyFrom_2 L u_fuel this a1 0 X
set_option maxRecDepth 100000 in
set_option maxHeartbeats 4000000 in
theorem c_X0_copyFrom {l : Launch} {dC : Nat → ClassId} {dI : Nat → Nat → Nat} {cy : Nat → ClassId} {ad : Nat → Nat} {L : hL} {X : hX} {this : Nat} {a1 : Nat} {X' : hX} (h : f_X0_copyFrom L X this a1 = some X') : hMet l dC dI cy ad L yX0_copyFrom wsX0_copyFrom ({ frames := 1, cells := 0, slots := 0, locals := 21 } : Room) [.ref (ad this), .ref (ad a1)] X none X' := by
  unfold f_X0_copyFrom at h
  refine hx_enter RX0 (plainFor_of_name (by decide)) rfl rfl (Nat.le_of_ble_eq_true rfl) (fun p e s m args below meth c C hr hnm ls hl => ?_)
  have hl : lv_has ls 3 [(0, .ref (ad this)), (1, .ref (ad a1))] := hl
  refine hx_iconst (v := 0) C dX0_copyFrom_0 (by decide) ?_
  refine hx_istore_n (lv' := [(2, .int 0), (0, .ref (ad this)), (1, .ref (ad a1))]) C dX0_copyFrom_1 rfl hl (by decide) rfl (fun ls hl => ?_)
  exact w_X0_copyFrom_2 C hr u_fuel this a1 0 X ls h (lv_sub hl [1, 2, 0] rfl)
def f_X9_within (L : hL) (X : hX) (a1 : Int32) (a2 : Int32) (a3 : Int32) : Option (Int32) :=
  if a1 < a2 then
    some 0
  else
    if a3 < a1 then
      some 0
    else
      some 1
set_option maxRecDepth 100000 in
set_option maxHeartbeats 4000000 in
theorem c_X9_within {l : Launch} {dC : Nat → ClassId} {dI : Nat → Nat → Nat} {cy : Nat → ClassId} {ad : Nat → Nat} {L : hL} {X : hX} {a1 : Int32} {a2 : Int32} {a3 : Int32} {r : Int32} (h : f_X9_within L X a1 a2 a3 = some r) : hMet l dC dI cy ad L yX9_within wsX9_within ({ frames := 0, cells := 0, slots := 0, locals := 0 } : Room) [.int a1, .int a2, .int a3] X (some (.int r)) X := by
  unfold f_X9_within at h
  refine hx_enter RX9 (plainFor_of_name (by decide)) rfl rfl (Nat.le_of_ble_eq_true rfl) (fun p e s m args below meth c C hr hnm ls hl => ?_)
  have hl : lv_has ls 3 [(0, .int a1), (1, .int a2), (2, .int a3)] := hl
  refine hx_iload_n C dX9_within_0 rfl (lv_at hl 0 rfl) ?_
  refine hx_iload_n C dX9_within_1 rfl (lv_at hl 1 rfl) ?_
  refine hx_icmp_lt (tgt := 14) C dX9_within_2 (by decide) (fun c1 => ?_) (fun c1 => ?_)
  · have h := hx_pos c1 h
    refine hx_iconst (v := 0) C dX9_within_14 (by decide) ?_
    obtain rfl := hx_some1 h
    exact hx_zret C hr rfl dX9_within_15
  · have h := hx_neg c1 h
    refine hx_iload_n C dX9_within_5 rfl (lv_at hl 0 rfl) ?_
    refine hx_iload_n C dX9_within_6 rfl (lv_at hl 2 rfl) ?_
    refine hx_icmp_gt (tgt := 14) C dX9_within_7 (by decide) (fun c2 => ?_) (fun c2 => ?_)
    · have h := hx_pos c2 h
      refine hx_iconst (v := 0) C dX9_within_14 (by decide) ?_
      obtain rfl := hx_some1 h
      exact hx_zret C hr rfl dX9_within_15
    · have h := hx_neg c2 h
      refine hx_iconst (v := 1) C dX9_within_10 (by decide) ?_
      refine hx_goto (tgt := 15) C dX9_within_11 (by decide) ?_
      obtain rfl := hx_some1 h
      exact hx_zret C hr rfl dX9_within_15
theorem uX0_kindAt_0 : ∀ w ∈ u_ws RX0 TX0 9, w ∈ wsX0_kindAt := by decide +kernel
def f_X0_kindAt (L : hL) (X : hX) (this : Nat) (a1 : Int32) : Option (Option Nat) :=
  (f_X9_within L X a1 0 3).bind fun r1 =>
  if r1 = 0 then
    some none
  else
    if tk L this 0 then
    (X.2 this 0).bind fun q5 =>
    if tk L q5 16 then
    if hin a1 (L.2.2 q5) then
    (X.2 q5 (Int32.toNatClampNeg a1)).bind fun q9 =>
    some (some q9)
    else none
    else none
    else none
set_option maxRecDepth 100000 in
set_option maxHeartbeats 4000000 in
theorem c_X0_kindAt {l : Launch} {dC : Nat → ClassId} {dI : Nat → Nat → Nat} {cy : Nat → ClassId} {ad : Nat → Nat} {L : hL} {X : hX} {this : Nat} {a1 : Int32} {r : Option Nat} (h : f_X0_kindAt L X this a1 = some r) : hMet l dC dI cy ad L yX0_kindAt wsX0_kindAt ({ frames := 1, cells := 0, slots := 0, locals := 22 } : Room) [.ref (ad this), .int a1] X (some (va_re ad r)) X := by
  unfold f_X0_kindAt at h
  refine hx_enter RX0 (plainFor_of_name (by decide)) rfl rfl (Nat.le_of_ble_eq_true rfl) (fun p e s m args below meth c C hr hnm ls hl => ?_)
  have hl : lv_has ls 2 [(0, .ref (ad this)), (1, .int a1)] := hl
  refine hx_iload_n C dX0_kindAt_0 rfl (lv_at hl 1 rfl) ?_
  refine hx_iconst (v := 0) C dX0_kindAt_1 (by decide) ?_
  refine hx_iconst (v := 3) C dX0_kindAt_2 (by decide) ?_
  obtain ⟨r1, e2, h⟩ := hx_bind h
  refine hx_callSN (As := [.int a1, .int 0, .int 3]) (rest := []) (n := 3) (host := "TicketScales") C (c_X9_within e2) gX0_kindAt_X9_within_n68 (by decide) (by decide +kernel) (by decide +kernel) (by decide +kernel) ⟨Nat.le_of_ble_eq_true rfl, Nat.le_of_ble_eq_true rfl⟩ rfl rfl rfl ⟨Nat.zero_le _, Nat.zero_le _⟩ hl.1 rfl rfl (Nat.le_of_ble_eq_true rfl) dX0_kindAt_3 ?_
  refine hx_if_eq (tgt := 18) C dX0_kindAt_6 (by decide) (fun c3 => ?_) (fun c3 => ?_)
  · have h := hx_pos c3 h
    refine hx_null C dX0_kindAt_18 ?_
    obtain rfl := hx_some1 h
    exact hx_aretN C hr (Or.inl ⟨_, rfl⟩) dX0_kindAt_19
  · have h := hx_neg c3 h
    refine hx_aload_n C dX0_kindAt_9 rfl (lv_at hl 0 rfl) ?_
    obtain ⟨g4, h⟩ := hx_gd h
    obtain ⟨q5, e6, h⟩ := hx_bind h
    refine hx_getr C (ci := 0) (j := 0) g4 uX0_kindAt_0 (by decide) rfl (by decide) rfl (by decide +kernel) rfl dX0_kindAt_10 e6 ?_
    refine hx_iload_n C dX0_kindAt_13 rfl (lv_at hl 1 rfl) ?_
    obtain ⟨g7, h⟩ := hx_gd h
    obtain ⟨g8, h⟩ := hx_gd h
    obtain ⟨q9, e10, h⟩ := hx_bind h
    refine hx_aald (t0 := 5) C g7 (by decide) rfl g8 rfl e10 dX0_kindAt_14 ?_
    refine hx_goto (tgt := 19) C dX0_kindAt_15 (by decide) ?_
    obtain rfl := hx_some1 h
    exact hx_aret C hr (Or.inl ⟨_, rfl⟩) dX0_kindAt_19
theorem uX0_customerAt_0 : ∀ w ∈ u_ws RX0 TX0 9, w ∈ wsX0_customerAt := by decide +kernel
def f_X0_customerAt_22 (L : hL) (v0 : Nat) (v1 : Int32) (s0 : Int32) (X : hX) : Option (Option Nat) :=
  if s0 = 0 then
    some none
  else
    if tk L v0 0 then
    (X.2 v0 2).bind fun q3 =>
    if tk L q3 15 then
    if hin v1 (L.2.2 q3) then
    (X.2 q3 (Int32.toNatClampNeg v1)).bind fun q7 =>
    some (some q7)
    else none
    else none
    else none
set_option maxRecDepth 100000 in
set_option maxHeartbeats 4000000 in
theorem w_X0_customerAt_22 {p : Program} {l : Launch} {e : Env} {s : State} {m : MethodId} {args : Array Value} {below : List Frame} {meth : Method} {c : Code} {dC : Nat → ClassId} {dI : Nat → Nat → Nat} {cy : Nat → ClassId} {ad : Nat → Nat} {L : hL} {r : Option Nat} (C : hC p s m args meth c dC dI cy ad L (hA ad L s.heap.size) cX0_customerAt 3 wsX0_customerAt RX0) (hr : meth.sig.returnType = (some (.object "TicketScales$Customer"))) : ∀ (v0 : Nat) (v1 : Int32) (s0 : Int32) (X : hX) (ls : Array Slot), f_X0_customerAt_22 L v0 v1 s0 X = some r → lv_has ls 3 [(0, .ref (ad v0)), (1, .int v1)] → hG p l e (headSpec wsX0_customerAt ({ frames := 1, cells := 0, slots := 0, locals := 22 } : Room)).room s m args below meth c dC dI cy ad L (hA ad L s.heap.size) 0 0 (MQ below (hQ dC dI cy ad L s.heap.size (some (va_re ad r)) X) args s 0 0 (hA ad L s.heap.size)) X 22 ls [.int s0] := by
  intro v0 v1 s0 X ls h hl
  unfold f_X0_customerAt_22 at h
  refine hx_istore_n (lv' := [(2, .int s0), (0, .ref (ad v0)), (1, .int v1)]) C dX0_customerAt_22 rfl hl (by decide) rfl (fun ls hl => ?_)
  refine hx_iload_n C dX0_customerAt_23 rfl (lv_at hl 0 rfl) ?_
  refine hx_if_eq (tgt := 36) C dX0_customerAt_24 (by decide) (fun c1 => ?_) (fun c1 => ?_)
  · have h := hx_pos c1 h
    refine hx_null C dX0_customerAt_36 ?_
    obtain rfl := hx_some1 h
    exact hx_aretN C hr (Or.inl ⟨_, rfl⟩) dX0_customerAt_37
  · have h := hx_neg c1 h
    refine hx_aload_n C dX0_customerAt_27 rfl (lv_at hl 1 rfl) ?_
    obtain ⟨g2, h⟩ := hx_gd h
    obtain ⟨q3, e4, h⟩ := hx_bind h
    refine hx_getr C (ci := 0) (j := 2) g2 uX0_customerAt_0 (by decide) rfl (by decide) rfl (by decide +kernel) rfl dX0_customerAt_28 e4 ?_
    refine hx_iload_n C dX0_customerAt_31 rfl (lv_at hl 2 rfl) ?_
    obtain ⟨g5, h⟩ := hx_gd h
    obtain ⟨g6, h⟩ := hx_gd h
    obtain ⟨q7, e8, h⟩ := hx_bind h
    refine hx_aald (t0 := 4) C g5 (by decide) rfl g6 rfl e8 dX0_customerAt_32 ?_
    refine hx_goto (tgt := 37) C dX0_customerAt_33 (by decide) ?_
    obtain rfl := hx_some1 h
    exact hx_aret C hr (Or.inl ⟨_, rfl⟩) dX0_customerAt_37
def f_X0_customerAt_21 (L : hL) (v0 : Nat) (v1 : Int32) (X : hX) : Option (Option Nat) :=
  f_X0_customerAt_22 L v0 v1 0 X
set_option maxRecDepth 100000 in
set_option maxHeartbeats 4000000 in
theorem w_X0_customerAt_21 {p : Program} {l : Launch} {e : Env} {s : State} {m : MethodId} {args : Array Value} {below : List Frame} {meth : Method} {c : Code} {dC : Nat → ClassId} {dI : Nat → Nat → Nat} {cy : Nat → ClassId} {ad : Nat → Nat} {L : hL} {r : Option Nat} (C : hC p s m args meth c dC dI cy ad L (hA ad L s.heap.size) cX0_customerAt 3 wsX0_customerAt RX0) (hr : meth.sig.returnType = (some (.object "TicketScales$Customer"))) : ∀ (v0 : Nat) (v1 : Int32) (X : hX) (ls : Array Slot), f_X0_customerAt_21 L v0 v1 X = some r → lv_has ls 3 [(0, .ref (ad v0)), (1, .int v1)] → hG p l e (headSpec wsX0_customerAt ({ frames := 1, cells := 0, slots := 0, locals := 22 } : Room)).room s m args below meth c dC dI cy ad L (hA ad L s.heap.size) 0 0 (MQ below (hQ dC dI cy ad L s.heap.size (some (va_re ad r)) X) args s 0 0 (hA ad L s.heap.size)) X 21 ls [] := by
  intro v0 v1 X ls h hl
  unfold f_X0_customerAt_21 at h
  refine hx_iconst (v := 0) C dX0_customerAt_21 (by decide) ?_
  exact w_X0_customerAt_22 C hr v0 v1 0 X ls h (lv_sub hl [0, 1] rfl)
def f_X0_customerAt (L : hL) (X : hX) (this : Nat) (a1 : Int32) : Option (Option Nat) :=
  if tk L this 0 then
  if (X.1 this 4) ≤ a1 then
    f_X0_customerAt_21 L this a1 X
  else
    (f_X9_within L X a1 0 5).bind fun r11 =>
    if r11 = 0 then
      f_X0_customerAt_21 L this a1 X
    else
      f_X0_customerAt_22 L this a1 1 X
  else none
set_option maxRecDepth 100000 in
set_option maxHeartbeats 4000000 in
theorem c_X0_customerAt {l : Launch} {dC : Nat → ClassId} {dI : Nat → Nat → Nat} {cy : Nat → ClassId} {ad : Nat → Nat} {L : hL} {X : hX} {this : Nat} {a1 : Int32} {r : Option Nat} (h : f_X0_customerAt L X this a1 = some r) : hMet l dC dI cy ad L yX0_customerAt wsX0_customerAt ({ frames := 1, cells := 0, slots := 0, locals := 22 } : Room) [.ref (ad this), .int a1] X (some (va_re ad r)) X := by
  unfold f_X0_customerAt at h
  refine hx_enter RX0 (plainFor_of_name (by decide)) rfl rfl (Nat.le_of_ble_eq_true rfl) (fun p e s m args below meth c C hr hnm ls hl => ?_)
  have hl : lv_has ls 3 [(0, .ref (ad this)), (1, .int a1)] := hl
  refine hx_iload_n C dX0_customerAt_0 rfl (lv_at hl 1 rfl) ?_
  refine hx_aload_n C dX0_customerAt_1 rfl (lv_at hl 0 rfl) ?_
  obtain ⟨g9, h⟩ := hx_gd h
  refine hx_geti C (ci := 0) (j := 4) g9 uX0_customerAt_0 (by decide) rfl (by decide) rfl (by decide +kernel) rfl dX0_customerAt_2 ?_
  refine hx_icmp_ge (tgt := 21) C dX0_customerAt_5 (by decide) (fun c10 => ?_) (fun c10 => ?_)
  · have h := hx_pos c10 h
    exact w_X0_customerAt_21 C hr this a1 X ls h (lv_sub hl [0, 1] rfl)
  · have h := hx_neg c10 h
    refine hx_iload_n C dX0_customerAt_8 rfl (lv_at hl 1 rfl) ?_
    refine hx_iconst (v := 0) C dX0_customerAt_9 (by decide) ?_
    refine hx_iconst (v := 5) C dX0_customerAt_10 (by decide) ?_
    obtain ⟨r11, e12, h⟩ := hx_bind h
    refine hx_callSN (As := [.int a1, .int 0, .int 5]) (rest := []) (n := 3) (host := "TicketScales") C (c_X9_within e12) gX0_customerAt_X9_within_n68 (by decide) (by decide +kernel) (by decide +kernel) (by decide +kernel) ⟨Nat.le_of_ble_eq_true rfl, Nat.le_of_ble_eq_true rfl⟩ rfl rfl rfl ⟨Nat.zero_le _, Nat.zero_le _⟩ hl.1 rfl rfl (Nat.le_of_ble_eq_true rfl) dX0_customerAt_11 ?_
    refine hx_if_eq (tgt := 21) C dX0_customerAt_14 (by decide) (fun c13 => ?_) (fun c13 => ?_)
    · have h := hx_pos c13 h
      exact w_X0_customerAt_21 C hr this a1 X ls h (lv_sub hl [0, 1] rfl)
    · have h := hx_neg c13 h
      refine hx_iconst (v := 1) C dX0_customerAt_17 (by decide) ?_
      refine hx_goto (tgt := 22) C dX0_customerAt_18 (by decide) ?_
      exact w_X0_customerAt_22 C hr this a1 1 X ls h (lv_sub hl [0, 1] rfl)
theorem uX0_prizeAt_0 : ∀ w ∈ u_ws RX0 TX0 9, w ∈ wsX0_prizeAt := by decide +kernel
def f_X0_prizeAt_22 (L : hL) (v0 : Nat) (v1 : Int32) (s0 : Int32) (X : hX) : Option (Option Nat) :=
  if s0 = 0 then
    some none
  else
    if tk L v0 0 then
    (X.2 v0 3).bind fun q3 =>
    if tk L q3 17 then
    if hin v1 (L.2.2 q3) then
    (X.2 q3 (Int32.toNatClampNeg v1)).bind fun q7 =>
    some (some q7)
    else none
    else none
    else none
set_option maxRecDepth 100000 in
set_option maxHeartbeats 4000000 in
theorem w_X0_prizeAt_22 {p : Program} {l : Launch} {e : Env} {s : State} {m : MethodId} {args : Array Value} {below : List Frame} {meth : Method} {c : Code} {dC : Nat → ClassId} {dI : Nat → Nat → Nat} {cy : Nat → ClassId} {ad : Nat → Nat} {L : hL} {r : Option Nat} (C : hC p s m args meth c dC dI cy ad L (hA ad L s.heap.size) cX0_prizeAt 3 wsX0_prizeAt RX0) (hr : meth.sig.returnType = (some (.object "TicketScales$Prize"))) : ∀ (v0 : Nat) (v1 : Int32) (s0 : Int32) (X : hX) (ls : Array Slot), f_X0_prizeAt_22 L v0 v1 s0 X = some r → lv_has ls 3 [(0, .ref (ad v0)), (1, .int v1)] → hG p l e (headSpec wsX0_prizeAt ({ frames := 1, cells := 0, slots := 0, locals := 22 } : Room)).room s m args below meth c dC dI cy ad L (hA ad L s.heap.size) 0 0 (MQ below (hQ dC dI cy ad L s.heap.size (some (va_re ad r)) X) args s 0 0 (hA ad L s.heap.size)) X 22 ls [.int s0] := by
  intro v0 v1 s0 X ls h hl
  unfold f_X0_prizeAt_22 at h
  refine hx_istore_n (lv' := [(2, .int s0), (0, .ref (ad v0)), (1, .int v1)]) C dX0_prizeAt_22 rfl hl (by decide) rfl (fun ls hl => ?_)
  refine hx_iload_n C dX0_prizeAt_23 rfl (lv_at hl 0 rfl) ?_
  refine hx_if_eq (tgt := 36) C dX0_prizeAt_24 (by decide) (fun c1 => ?_) (fun c1 => ?_)
  · have h := hx_pos c1 h
    refine hx_null C dX0_prizeAt_36 ?_
    obtain rfl := hx_some1 h
    exact hx_aretN C hr (Or.inl ⟨_, rfl⟩) dX0_prizeAt_37
  · have h := hx_neg c1 h
    refine hx_aload_n C dX0_prizeAt_27 rfl (lv_at hl 1 rfl) ?_
    obtain ⟨g2, h⟩ := hx_gd h
    obtain ⟨q3, e4, h⟩ := hx_bind h
    refine hx_getr C (ci := 0) (j := 3) g2 uX0_prizeAt_0 (by decide) rfl (by decide) rfl (by decide +kernel) rfl dX0_prizeAt_28 e4 ?_
    refine hx_iload_n C dX0_prizeAt_31 rfl (lv_at hl 2 rfl) ?_
    obtain ⟨g5, h⟩ := hx_gd h
    obtain ⟨g6, h⟩ := hx_gd h
    obtain ⟨q7, e8, h⟩ := hx_bind h
    refine hx_aald (t0 := 6) C g5 (by decide) rfl g6 rfl e8 dX0_prizeAt_32 ?_
    refine hx_goto (tgt := 37) C dX0_prizeAt_33 (by decide) ?_
    obtain rfl := hx_some1 h
    exact hx_aret C hr (Or.inl ⟨_, rfl⟩) dX0_prizeAt_37
def f_X0_prizeAt_21 (L : hL) (v0 : Nat) (v1 : Int32) (X : hX) : Option (Option Nat) :=
  f_X0_prizeAt_22 L v0 v1 0 X
set_option maxRecDepth 100000 in
set_option maxHeartbeats 4000000 in
theorem w_X0_prizeAt_21 {p : Program} {l : Launch} {e : Env} {s : State} {m : MethodId} {args : Array Value} {below : List Frame} {meth : Method} {c : Code} {dC : Nat → ClassId} {dI : Nat → Nat → Nat} {cy : Nat → ClassId} {ad : Nat → Nat} {L : hL} {r : Option Nat} (C : hC p s m args meth c dC dI cy ad L (hA ad L s.heap.size) cX0_prizeAt 3 wsX0_prizeAt RX0) (hr : meth.sig.returnType = (some (.object "TicketScales$Prize"))) : ∀ (v0 : Nat) (v1 : Int32) (X : hX) (ls : Array Slot), f_X0_prizeAt_21 L v0 v1 X = some r → lv_has ls 3 [(0, .ref (ad v0)), (1, .int v1)] → hG p l e (headSpec wsX0_prizeAt ({ frames := 1, cells := 0, slots := 0, locals := 22 } : Room)).room s m args below meth c dC dI cy ad L (hA ad L s.heap.size) 0 0 (MQ below (hQ dC dI cy ad L s.heap.size (some (va_re ad r)) X) args s 0 0 (hA ad L s.heap.size)) X 21 ls [] := by
  intro v0 v1 X ls h hl
  unfold f_X0_prizeAt_21 at h
  refine hx_iconst (v := 0) C dX0_prizeAt_21 (by decide) ?_
  exact w_X0_prizeAt_22 C hr v0 v1 0 X ls h (lv_sub hl [0, 1] rfl)
def f_X0_prizeAt (L : hL) (X : hX) (this : Nat) (a1 : Int32) : Option (Option Nat) :=
  if tk L this 0 then
  if (X.1 this 5) ≤ a1 then
    f_X0_prizeAt_21 L this a1 X
  else
    (f_X9_within L X a1 0 5).bind fun r11 =>
    if r11 = 0 then
      f_X0_prizeAt_21 L this a1 X
    else
      f_X0_prizeAt_22 L this a1 1 X
  else none
set_option maxRecDepth 100000 in
set_option maxHeartbeats 4000000 in
theorem c_X0_prizeAt {l : Launch} {dC : Nat → ClassId} {dI : Nat → Nat → Nat} {cy : Nat → ClassId} {ad : Nat → Nat} {L : hL} {X : hX} {this : Nat} {a1 : Int32} {r : Option Nat} (h : f_X0_prizeAt L X this a1 = some r) : hMet l dC dI cy ad L yX0_prizeAt wsX0_prizeAt ({ frames := 1, cells := 0, slots := 0, locals := 22 } : Room) [.ref (ad this), .int a1] X (some (va_re ad r)) X := by
  unfold f_X0_prizeAt at h
  refine hx_enter RX0 (plainFor_of_name (by decide)) rfl rfl (Nat.le_of_ble_eq_true rfl) (fun p e s m args below meth c C hr hnm ls hl => ?_)
  have hl : lv_has ls 3 [(0, .ref (ad this)), (1, .int a1)] := hl
  refine hx_iload_n C dX0_prizeAt_0 rfl (lv_at hl 1 rfl) ?_
  refine hx_aload_n C dX0_prizeAt_1 rfl (lv_at hl 0 rfl) ?_
  obtain ⟨g9, h⟩ := hx_gd h
  refine hx_geti C (ci := 0) (j := 5) g9 uX0_prizeAt_0 (by decide) rfl (by decide) rfl (by decide +kernel) rfl dX0_prizeAt_2 ?_
  refine hx_icmp_ge (tgt := 21) C dX0_prizeAt_5 (by decide) (fun c10 => ?_) (fun c10 => ?_)
  · have h := hx_pos c10 h
    exact w_X0_prizeAt_21 C hr this a1 X ls h (lv_sub hl [0, 1] rfl)
  · have h := hx_neg c10 h
    refine hx_iload_n C dX0_prizeAt_8 rfl (lv_at hl 1 rfl) ?_
    refine hx_iconst (v := 0) C dX0_prizeAt_9 (by decide) ?_
    refine hx_iconst (v := 5) C dX0_prizeAt_10 (by decide) ?_
    obtain ⟨r11, e12, h⟩ := hx_bind h
    refine hx_callSN (As := [.int a1, .int 0, .int 5]) (rest := []) (n := 3) (host := "TicketScales") C (c_X9_within e12) gX0_prizeAt_X9_within_n68 (by decide) (by decide +kernel) (by decide +kernel) (by decide +kernel) ⟨Nat.le_of_ble_eq_true rfl, Nat.le_of_ble_eq_true rfl⟩ rfl rfl rfl ⟨Nat.zero_le _, Nat.zero_le _⟩ hl.1 rfl rfl (Nat.le_of_ble_eq_true rfl) dX0_prizeAt_11 ?_
    refine hx_if_eq (tgt := 21) C dX0_prizeAt_14 (by decide) (fun c13 => ?_) (fun c13 => ?_)
    · have h := hx_pos c13 h
      exact w_X0_prizeAt_21 C hr this a1 X ls h (lv_sub hl [0, 1] rfl)
    · have h := hx_neg c13 h
      refine hx_iconst (v := 1) C dX0_prizeAt_17 (by decide) ?_
      refine hx_goto (tgt := 22) C dX0_prizeAt_18 (by decide) ?_
      exact w_X0_prizeAt_22 C hr this a1 1 X ls h (lv_sub hl [0, 1] rfl)
theorem uX0_changeKind_4 : ∀ w ∈ u_ws RX4 TX4 2, w ∈ wsX0_changeKind := by decide +kernel
def f_X0_changeKind (L : hL) (X : hX) (this : Nat) (a1 : Int32) (a2 : Int32) (a3 : Int32) : Option (Int32 × hX) :=
  (f_X0_kindAt L X this a1).bind fun r1 =>
  if tk L this 0 then
  Option.elim r1
  (
    some ((-100001), X))
  fun i4 =>
    (f_X9_within L X a2 100 5000).bind fun r5 =>
    if r5 = 0 then
      some ((-100001), X)
    else
      (f_X9_within L X a3 0 50).bind fun r8 =>
      if r8 = 0 then
        some ((-100001), X)
      else
        if tk L i4 4 then
        some (X.1 i4 0, smi (smi X i4 0 a2) i4 1 a3)
        else none
  else none
set_option maxRecDepth 100000 in
set_option maxHeartbeats 4000000 in
theorem c_X0_changeKind {l : Launch} {dC : Nat → ClassId} {dI : Nat → Nat → Nat} {cy : Nat → ClassId} {ad : Nat → Nat} {L : hL} {X : hX} {this : Nat} {a1 : Int32} {a2 : Int32} {a3 : Int32} {r : Int32} {X' : hX} (h : f_X0_changeKind L X this a1 a2 a3 = some (r, X')) : hMet l dC dI cy ad L yX0_changeKind wsX0_changeKind ({ frames := 2, cells := 0, slots := 0, locals := 43 } : Room) [.ref (ad this), .int a1, .int a2, .int a3] X (some (.int r)) X' := by
  unfold f_X0_changeKind at h
  refine hx_enter RX0 (plainFor_of_name (by decide)) rfl rfl (Nat.le_of_ble_eq_true rfl) (fun p e s m args below meth c C hr hnm ls hl => ?_)
  have hl : lv_has ls 6 [(0, .ref (ad this)), (1, .int a1), (2, .int a2), (3, .int a3)] := hl
  refine hx_aload_n C dX0_changeKind_0 rfl (lv_at hl 0 rfl) ?_
  refine hx_iload_n C dX0_changeKind_1 rfl (lv_at hl 1 rfl) ?_
  obtain ⟨r1, e2, h⟩ := hx_bind h
  obtain ⟨g3, h⟩ := hx_gd h
  refine hx_callV (As := [.int a1]) (rest := []) (n := 1) (Cn := RX0) C (c_X0_kindAt e2) gX0_changeKind_X0_kindAt g3 (by decide) rfl (by decide +kernel) ⟨Nat.le_of_ble_eq_true rfl, Nat.le_of_ble_eq_true rfl⟩ rfl rfl rfl ⟨Nat.zero_le _, Nat.zero_le _⟩ hl.1 rfl rfl (Nat.le_of_ble_eq_true rfl) dX0_changeKind_2 ?_
  rcases r1 with _ | i4
  · have h := hx_eln h
    refine hx_astoreN (lv' := [(4, .null), (0, .ref (ad this)), (1, .int a1), (2, .int a2), (3, .int a3)]) C dX0_changeKind_5 hl (by decide) rfl (fun ls hl => ?_)
    refine hx_aloadN C dX0_changeKind_7 (lv_at hl 0 rfl) ?_
    refine hx_ifnullN (tgt := 34) C dX0_changeKind_9 (by decide) ?_
    refine hx_ldc (v := (-100001)) C (by decide +kernel) dX0_changeKind_34 ?_
    obtain ⟨rfl, rfl⟩ := hx_some2 h
    exact hx_iret C hr dX0_changeKind_36
  · have h := hx_els h
    refine hx_astore (lv' := [(4, .ref (ad i4)), (0, .ref (ad this)), (1, .int a1), (2, .int a2), (3, .int a3)]) C dX0_changeKind_5 hl (by decide) rfl (fun ls hl => ?_)
    refine hx_aload C dX0_changeKind_7 (lv_at hl 0 rfl) ?_
    refine hx_ifnull C dX0_changeKind_9 ?_
    refine hx_iload_n C dX0_changeKind_12 rfl (lv_at hl 3 rfl) ?_
    refine hx_bipush (v := 100) C dX0_changeKind_13 (by decide) ?_
    refine hx_sipush (v := 5000) C dX0_changeKind_15 (by decide) ?_
    obtain ⟨r5, e6, h⟩ := hx_bind h
    refine hx_callSN (As := [.int a2, .int 100, .int 5000]) (rest := []) (n := 3) (host := "TicketScales") C (c_X9_within e6) gX0_changeKind_X9_within_n68 (by decide) (by decide +kernel) (by decide +kernel) (by decide +kernel) ⟨Nat.le_of_ble_eq_true rfl, Nat.le_of_ble_eq_true rfl⟩ rfl rfl rfl ⟨Nat.zero_le _, Nat.zero_le _⟩ hl.1 rfl rfl (Nat.le_of_ble_eq_true rfl) dX0_changeKind_18 ?_
    refine hx_if_eq (tgt := 34) C dX0_changeKind_21 (by decide) (fun c7 => ?_) (fun c7 => ?_)
    · have h := hx_pos c7 h
      refine hx_ldc (v := (-100001)) C (by decide +kernel) dX0_changeKind_34 ?_
      obtain ⟨rfl, rfl⟩ := hx_some2 h
      exact hx_iret C hr dX0_changeKind_36
    · have h := hx_neg c7 h
      refine hx_iload_n C dX0_changeKind_24 rfl (lv_at hl 4 rfl) ?_
      refine hx_iconst (v := 0) C dX0_changeKind_25 (by decide) ?_
      refine hx_bipush (v := 50) C dX0_changeKind_26 (by decide) ?_
      obtain ⟨r8, e9, h⟩ := hx_bind h
      refine hx_callSN (As := [.int a3, .int 0, .int 50]) (rest := []) (n := 3) (host := "TicketScales") C (c_X9_within e9) gX0_changeKind_X9_within_n68 (by decide) (by decide +kernel) (by decide +kernel) (by decide +kernel) ⟨Nat.le_of_ble_eq_true rfl, Nat.le_of_ble_eq_true rfl⟩ rfl rfl rfl ⟨Nat.zero_le _, Nat.zero_le _⟩ hl.1 rfl rfl (Nat.le_of_ble_eq_true rfl) dX0_changeKind_28 ?_
      refine hx_if_ne (tgt := 37) C dX0_changeKind_31 (by decide) (fun c10 => ?_) (fun c10 => ?_)
      · have h := hx_neg c10 h
        refine hx_aload C dX0_changeKind_37 (lv_at hl 0 rfl) ?_
        obtain ⟨g11, h⟩ := hx_gd h
        refine hx_geti C (ci := 4) (j := 0) g11 uX0_changeKind_4 (by decide) rfl (by decide) rfl (by decide +kernel) rfl dX0_changeKind_39 ?_
        refine hx_istore (lv' := [(5, .int (X.1 i4 0)), (4, .ref (ad i4)), (0, .ref (ad this)), (1, .int a1), (2, .int a2), (3, .int a3)]) C dX0_changeKind_42 hl (by decide) rfl (fun ls hl => ?_)
        refine hx_aload C dX0_changeKind_44 (lv_at hl 1 rfl) ?_
        refine hx_iload_n C dX0_changeKind_46 rfl (lv_at hl 4 rfl) ?_
        refine hx_puti C (ci := 4) (j := 0) tyX4 tyX4_ok nmX4 g11 uX0_changeKind_4 (by decide) rfl (by decide) rfl (by decide +kernel) rfl rfl (tyX4_ok 0 (by decide)) dX0_changeKind_47 rfl rfl ?_
        refine hx_aload C dX0_changeKind_50 (lv_at hl 1 rfl) ?_
        refine hx_iload_n C dX0_changeKind_52 rfl (lv_at hl 5 rfl) ?_
        refine hx_puti C (ci := 4) (j := 1) tyX4 tyX4_ok nmX4 g11 uX0_changeKind_4 (by decide) rfl (by decide) rfl (by decide +kernel) rfl rfl (tyX4_ok 1 (by decide)) dX0_changeKind_53 rfl rfl ?_
        refine hx_iload C dX0_changeKind_56 (lv_at hl 0 rfl) ?_
        obtain ⟨rfl, rfl⟩ := hx_some2 h
        exact hx_iret C hr dX0_changeKind_58
      · have h := hx_pos c10 h
        refine hx_ldc (v := (-100001)) C (by decide +kernel) dX0_changeKind_34 ?_
        obtain ⟨rfl, rfl⟩ := hx_some2 h
        exact hx_iret C hr dX0_changeKind_36
theorem uX0_changeScale_0 : ∀ w ∈ u_ws RX0 TX0 9, w ∈ wsX0_changeScale := by decide +kernel
theorem uX0_changeScale_7 : ∀ w ∈ u_ws RX7 TX7 3, w ∈ wsX0_changeScale := by decide +kernel
def f_X0_changeScale (L : hL) (X : hX) (this : Nat) (a1 : Int32) (a2 : Int32) : Option (Int32 × hX) :=
  (f_X9_within L X a1 1 1000).bind fun r1 =>
  if r1 = 0 then
    some ((-100001), X)
  else
    (f_X9_within L X a2 0 2000).bind fun r4 =>
    if r4 = 0 then
      some ((-100001), X)
    else
      if tk L this 0 then
      (X.2 this 1).bind fun q8 =>
      if tk L q8 7 then
      some ((smi (smi (smi X q8 0 a1) q8 1 a2) q8 2 (if (-a2) < (if ((smi (smi X q8 0 a1) q8 1 a2).1 q8 2) < a2 then ((smi (smi X q8 0 a1) q8 1 a2).1 q8 2) else a2) then (if ((smi (smi X q8 0 a1) q8 1 a2).1 q8 2) < a2 then ((smi (smi X q8 0 a1) q8 1 a2).1 q8 2) else a2) else (-a2))).1 q8 2, smi (smi (smi X q8 0 a1) q8 1 a2) q8 2 (if (-a2) < (if ((smi (smi X q8 0 a1) q8 1 a2).1 q8 2) < a2 then ((smi (smi X q8 0 a1) q8 1 a2).1 q8 2) else a2) then (if ((smi (smi X q8 0 a1) q8 1 a2).1 q8 2) < a2 then ((smi (smi X q8 0 a1) q8 1 a2).1 q8 2) else a2) else (-a2)))
      else none
      else none
set_option maxRecDepth 100000 in
set_option maxHeartbeats 4000000 in
theorem c_X0_changeScale {l : Launch} {dC : Nat → ClassId} {dI : Nat → Nat → Nat} {cy : Nat → ClassId} {ad : Nat → Nat} {L : hL} {X : hX} {this : Nat} {a1 : Int32} {a2 : Int32} {r : Int32} {X' : hX} (h : f_X0_changeScale L X this a1 a2 = some (r, X')) : hMet l dC dI cy ad L yX0_changeScale wsX0_changeScale ({ frames := 1, cells := 0, slots := 0, locals := 24 } : Room) [.ref (ad this), .int a1, .int a2] X (some (.int r)) X' := by
  unfold f_X0_changeScale at h
  refine hx_enter RX0 (plainFor_of_name (by decide)) rfl rfl (Nat.le_of_ble_eq_true rfl) (fun p e s m args below meth c C hr hnm ls hl => ?_)
  have hl : lv_has ls 3 [(0, .ref (ad this)), (1, .int a1), (2, .int a2)] := hl
  refine hx_iload_n C dX0_changeScale_0 rfl (lv_at hl 1 rfl) ?_
  refine hx_iconst (v := 1) C dX0_changeScale_1 (by decide) ?_
  refine hx_sipush (v := 1000) C dX0_changeScale_2 (by decide) ?_
  obtain ⟨r1, e2, h⟩ := hx_bind h
  refine hx_callSN (As := [.int a1, .int 1, .int 1000]) (rest := []) (n := 3) (host := "TicketScales") C (c_X9_within e2) gX0_changeScale_X9_within_n68 (by decide) (by decide +kernel) (by decide +kernel) (by decide +kernel) ⟨Nat.le_of_ble_eq_true rfl, Nat.le_of_ble_eq_true rfl⟩ rfl rfl rfl ⟨Nat.zero_le _, Nat.zero_le _⟩ hl.1 rfl rfl (Nat.le_of_ble_eq_true rfl) dX0_changeScale_5 ?_
  refine hx_if_eq (tgt := 22) C dX0_changeScale_8 (by decide) (fun c3 => ?_) (fun c3 => ?_)
  · have h := hx_pos c3 h
    refine hx_ldc (v := (-100001)) C (by decide +kernel) dX0_changeScale_22 ?_
    obtain ⟨rfl, rfl⟩ := hx_some2 h
    exact hx_iret C hr dX0_changeScale_24
  · have h := hx_neg c3 h
    refine hx_iload_n C dX0_changeScale_11 rfl (lv_at hl 2 rfl) ?_
    refine hx_iconst (v := 0) C dX0_changeScale_12 (by decide) ?_
    refine hx_sipush (v := 2000) C dX0_changeScale_13 (by decide) ?_
    obtain ⟨r4, e5, h⟩ := hx_bind h
    refine hx_callSN (As := [.int a2, .int 0, .int 2000]) (rest := []) (n := 3) (host := "TicketScales") C (c_X9_within e5) gX0_changeScale_X9_within_n68 (by decide) (by decide +kernel) (by decide +kernel) (by decide +kernel) ⟨Nat.le_of_ble_eq_true rfl, Nat.le_of_ble_eq_true rfl⟩ rfl rfl rfl ⟨Nat.zero_le _, Nat.zero_le _⟩ hl.1 rfl rfl (Nat.le_of_ble_eq_true rfl) dX0_changeScale_16 ?_
    refine hx_if_ne (tgt := 25) C dX0_changeScale_19 (by decide) (fun c6 => ?_) (fun c6 => ?_)
    · have h := hx_neg c6 h
      refine hx_aload_n C dX0_changeScale_25 rfl (lv_at hl 0 rfl) ?_
      obtain ⟨g7, h⟩ := hx_gd h
      obtain ⟨q8, e9, h⟩ := hx_bind h
      refine hx_getr C (ci := 0) (j := 1) g7 uX0_changeScale_0 (by decide) rfl (by decide) rfl (by decide +kernel) rfl dX0_changeScale_26 e9 ?_
      refine hx_iload_n C dX0_changeScale_29 rfl (lv_at hl 1 rfl) ?_
      obtain ⟨g10, h⟩ := hx_gd h
      refine hx_puti C (ci := 7) (j := 0) tyX7 tyX7_ok nmX7 g10 uX0_changeScale_7 (by decide) rfl (by decide) rfl (by decide +kernel) rfl rfl (tyX7_ok 0 (by decide)) dX0_changeScale_30 rfl rfl ?_
      refine hx_aload_n C dX0_changeScale_33 rfl (lv_at hl 0 rfl) ?_
      refine hx_getr C (ci := 0) (j := 1) g7 uX0_changeScale_0 (by decide) rfl (by decide) rfl (by decide +kernel) rfl dX0_changeScale_34 e9 ?_
      refine hx_iload_n C dX0_changeScale_37 rfl (lv_at hl 2 rfl) ?_
      refine hx_puti C (ci := 7) (j := 1) tyX7 tyX7_ok nmX7 g10 uX0_changeScale_7 (by decide) rfl (by decide) rfl (by decide +kernel) rfl rfl (tyX7_ok 1 (by decide)) dX0_changeScale_38 rfl rfl ?_
      refine hx_aload_n C dX0_changeScale_41 rfl (lv_at hl 0 rfl) ?_
      refine hx_getr C (ci := 0) (j := 1) g7 uX0_changeScale_0 (by decide) rfl (by decide) rfl (by decide +kernel) rfl dX0_changeScale_42 e9 ?_
      refine hx_iload_n C dX0_changeScale_45 rfl (lv_at hl 2 rfl) ?_
      refine hx_ineg C dX0_changeScale_46 ?_
      refine hx_iload_n C dX0_changeScale_47 rfl (lv_at hl 2 rfl) ?_
      refine hx_aload_n C dX0_changeScale_48 rfl (lv_at hl 0 rfl) ?_
      refine hx_getr C (ci := 0) (j := 1) g7 uX0_changeScale_0 (by decide) rfl (by decide) rfl (by decide +kernel) rfl dX0_changeScale_49 e9 ?_
      refine hx_geti C (ci := 7) (j := 2) g10 uX0_changeScale_7 (by decide) rfl (by decide) rfl (by decide +kernel) rfl dX0_changeScale_52 ?_
      refine hx_mmin C (by decide +kernel) (by decide +kernel) (by decide +kernel) (by decide +kernel) hl.1 (Nat.le_of_ble_eq_true rfl) (Nat.le_of_ble_eq_true rfl) (Nat.zero_le _) (Nat.zero_le _) dX0_changeScale_55 ?_
      refine hx_mmax C (by decide +kernel) (by decide +kernel) (by decide +kernel) (by decide +kernel) hl.1 (Nat.le_of_ble_eq_true rfl) (Nat.le_of_ble_eq_true rfl) (Nat.zero_le _) (Nat.zero_le _) dX0_changeScale_58 ?_
      refine hx_puti C (ci := 7) (j := 2) tyX7 tyX7_ok nmX7 g10 uX0_changeScale_7 (by decide) rfl (by decide) rfl (by decide +kernel) rfl rfl (tyX7_ok 2 (by decide)) dX0_changeScale_61 rfl rfl ?_
      refine hx_aload_n C dX0_changeScale_64 rfl (lv_at hl 0 rfl) ?_
      refine hx_getr C (ci := 0) (j := 1) g7 uX0_changeScale_0 (by decide) rfl (by decide) rfl (by decide +kernel) rfl dX0_changeScale_65 e9 ?_
      refine hx_geti C (ci := 7) (j := 2) g10 uX0_changeScale_7 (by decide) rfl (by decide) rfl (by decide +kernel) rfl dX0_changeScale_68 ?_
      obtain ⟨rfl, rfl⟩ := hx_some2 h
      exact hx_iret C hr dX0_changeScale_71
    · have h := hx_pos c6 h
      refine hx_ldc (v := (-100001)) C (by decide +kernel) dX0_changeScale_22 ?_
      obtain ⟨rfl, rfl⟩ := hx_some2 h
      exact hx_iret C hr dX0_changeScale_24
theorem uX0_changeBias_0 : ∀ w ∈ u_ws RX0 TX0 9, w ∈ wsX0_changeBias := by decide +kernel
theorem uX0_changeBias_7 : ∀ w ∈ u_ws RX7 TX7 3, w ∈ wsX0_changeBias := by decide +kernel
def f_X0_changeBias (L : hL) (X : hX) (this : Nat) (a1 : Int32) : Option (Int32 × hX) :=
  if tk L this 0 then
  (X.2 this 1).bind fun q2 =>
  if tk L q2 7 then
  (f_X9_within L X a1 (-(X.1 q2 1)) (X.1 q2 1)).bind fun r5 =>
  if r5 = 0 then
    some ((-100001), X)
  else
    some (X.1 q2 2, smi X q2 2 a1)
  else none
  else none
set_option maxRecDepth 100000 in
set_option maxHeartbeats 4000000 in
theorem c_X0_changeBias {l : Launch} {dC : Nat → ClassId} {dI : Nat → Nat → Nat} {cy : Nat → ClassId} {ad : Nat → Nat} {L : hL} {X : hX} {this : Nat} {a1 : Int32} {r : Int32} {X' : hX} (h : f_X0_changeBias L X this a1 = some (r, X')) : hMet l dC dI cy ad L yX0_changeBias wsX0_changeBias ({ frames := 1, cells := 0, slots := 0, locals := 22 } : Room) [.ref (ad this), .int a1] X (some (.int r)) X' := by
  unfold f_X0_changeBias at h
  refine hx_enter RX0 (plainFor_of_name (by decide)) rfl rfl (Nat.le_of_ble_eq_true rfl) (fun p e s m args below meth c C hr hnm ls hl => ?_)
  have hl : lv_has ls 3 [(0, .ref (ad this)), (1, .int a1)] := hl
  refine hx_iload_n C dX0_changeBias_0 rfl (lv_at hl 1 rfl) ?_
  refine hx_aload_n C dX0_changeBias_1 rfl (lv_at hl 0 rfl) ?_
  obtain ⟨g1, h⟩ := hx_gd h
  obtain ⟨q2, e3, h⟩ := hx_bind h
  refine hx_getr C (ci := 0) (j := 1) g1 uX0_changeBias_0 (by decide) rfl (by decide) rfl (by decide +kernel) rfl dX0_changeBias_2 e3 ?_
  obtain ⟨g4, h⟩ := hx_gd h
  refine hx_geti C (ci := 7) (j := 1) g4 uX0_changeBias_7 (by decide) rfl (by decide) rfl (by decide +kernel) rfl dX0_changeBias_5 ?_
  refine hx_ineg C dX0_changeBias_8 ?_
  refine hx_aload_n C dX0_changeBias_9 rfl (lv_at hl 0 rfl) ?_
  refine hx_getr C (ci := 0) (j := 1) g1 uX0_changeBias_0 (by decide) rfl (by decide) rfl (by decide +kernel) rfl dX0_changeBias_10 e3 ?_
  refine hx_geti C (ci := 7) (j := 1) g4 uX0_changeBias_7 (by decide) rfl (by decide) rfl (by decide +kernel) rfl dX0_changeBias_13 ?_
  obtain ⟨r5, e6, h⟩ := hx_bind h
  refine hx_callSN (As := [.int a1, .int (-(X.1 q2 1)), .int (X.1 q2 1)]) (rest := []) (n := 3) (host := "TicketScales") C (c_X9_within e6) gX0_changeBias_X9_within_n68 (by decide) (by decide +kernel) (by decide +kernel) (by decide +kernel) ⟨Nat.le_of_ble_eq_true rfl, Nat.le_of_ble_eq_true rfl⟩ rfl rfl rfl ⟨Nat.zero_le _, Nat.zero_le _⟩ hl.1 rfl rfl (Nat.le_of_ble_eq_true rfl) dX0_changeBias_16 ?_
  refine hx_if_ne (tgt := 25) C dX0_changeBias_19 (by decide) (fun c7 => ?_) (fun c7 => ?_)
  · have h := hx_neg c7 h
    refine hx_aload_n C dX0_changeBias_25 rfl (lv_at hl 0 rfl) ?_
    refine hx_getr C (ci := 0) (j := 1) g1 uX0_changeBias_0 (by decide) rfl (by decide) rfl (by decide +kernel) rfl dX0_changeBias_26 e3 ?_
    refine hx_geti C (ci := 7) (j := 2) g4 uX0_changeBias_7 (by decide) rfl (by decide) rfl (by decide +kernel) rfl dX0_changeBias_29 ?_
    refine hx_istore_n (lv' := [(2, .int (X.1 q2 2)), (0, .ref (ad this)), (1, .int a1)]) C dX0_changeBias_32 rfl hl (by decide) rfl (fun ls hl => ?_)
    refine hx_aload_n C dX0_changeBias_33 rfl (lv_at hl 1 rfl) ?_
    refine hx_getr C (ci := 0) (j := 1) g1 uX0_changeBias_0 (by decide) rfl (by decide) rfl (by decide +kernel) rfl dX0_changeBias_34 e3 ?_
    refine hx_iload_n C dX0_changeBias_37 rfl (lv_at hl 2 rfl) ?_
    refine hx_puti C (ci := 7) (j := 2) tyX7 tyX7_ok nmX7 g4 uX0_changeBias_7 (by decide) rfl (by decide) rfl (by decide +kernel) rfl rfl (tyX7_ok 2 (by decide)) dX0_changeBias_38 rfl rfl ?_
    refine hx_iload_n C dX0_changeBias_41 rfl (lv_at hl 0 rfl) ?_
    obtain ⟨rfl, rfl⟩ := hx_some2 h
    exact hx_iret C hr dX0_changeBias_42
  · have h := hx_pos c7 h
    refine hx_ldc (v := (-100001)) C (by decide +kernel) dX0_changeBias_22 ?_
    obtain ⟨rfl, rfl⟩ := hx_some2 h
    exact hx_iret C hr dX0_changeBias_24
theorem uX0_changeRule_0 : ∀ w ∈ u_ws RX0 TX0 9, w ∈ wsX0_changeRule := by decide +kernel
def f_X0_changeRule (L : hL) (X : hX) (this : Nat) (a1 : Int32) : Option (Int32 × hX) :=
  (f_X9_within L X a1 0 3).bind fun r1 =>
  if r1 = 0 then
    some ((-100001), X)
  else
    if tk L this 0 then
    some (X.1 this 6, smi X this 6 a1)
    else none
set_option maxRecDepth 100000 in
set_option maxHeartbeats 4000000 in
theorem c_X0_changeRule {l : Launch} {dC : Nat → ClassId} {dI : Nat → Nat → Nat} {cy : Nat → ClassId} {ad : Nat → Nat} {L : hL} {X : hX} {this : Nat} {a1 : Int32} {r : Int32} {X' : hX} (h : f_X0_changeRule L X this a1 = some (r, X')) : hMet l dC dI cy ad L yX0_changeRule wsX0_changeRule ({ frames := 1, cells := 0, slots := 0, locals := 22 } : Room) [.ref (ad this), .int a1] X (some (.int r)) X' := by
  unfold f_X0_changeRule at h
  refine hx_enter RX0 (plainFor_of_name (by decide)) rfl rfl (Nat.le_of_ble_eq_true rfl) (fun p e s m args below meth c C hr hnm ls hl => ?_)
  have hl : lv_has ls 3 [(0, .ref (ad this)), (1, .int a1)] := hl
  refine hx_iload_n C dX0_changeRule_0 rfl (lv_at hl 1 rfl) ?_
  refine hx_iconst (v := 0) C dX0_changeRule_1 (by decide) ?_
  refine hx_iconst (v := 3) C dX0_changeRule_2 (by decide) ?_
  obtain ⟨r1, e2, h⟩ := hx_bind h
  refine hx_callSN (As := [.int a1, .int 0, .int 3]) (rest := []) (n := 3) (host := "TicketScales") C (c_X9_within e2) gX0_changeRule_X9_within_n68 (by decide) (by decide +kernel) (by decide +kernel) (by decide +kernel) ⟨Nat.le_of_ble_eq_true rfl, Nat.le_of_ble_eq_true rfl⟩ rfl rfl rfl ⟨Nat.zero_le _, Nat.zero_le _⟩ hl.1 rfl rfl (Nat.le_of_ble_eq_true rfl) dX0_changeRule_3 ?_
  refine hx_if_ne (tgt := 12) C dX0_changeRule_6 (by decide) (fun c3 => ?_) (fun c3 => ?_)
  · have h := hx_neg c3 h
    refine hx_aload_n C dX0_changeRule_12 rfl (lv_at hl 0 rfl) ?_
    obtain ⟨g4, h⟩ := hx_gd h
    refine hx_geti C (ci := 0) (j := 6) g4 uX0_changeRule_0 (by decide) rfl (by decide) rfl (by decide +kernel) rfl dX0_changeRule_13 ?_
    refine hx_istore_n (lv' := [(2, .int (X.1 this 6)), (0, .ref (ad this)), (1, .int a1)]) C dX0_changeRule_16 rfl hl (by decide) rfl (fun ls hl => ?_)
    refine hx_aload_n C dX0_changeRule_17 rfl (lv_at hl 1 rfl) ?_
    refine hx_iload_n C dX0_changeRule_18 rfl (lv_at hl 2 rfl) ?_
    refine hx_puti C (ci := 0) (j := 6) tyX0 tyX0_ok nmX0 g4 uX0_changeRule_0 (by decide) rfl (by decide) rfl (by decide +kernel) rfl rfl (tyX0_ok 6 (by decide)) dX0_changeRule_19 rfl rfl ?_
    refine hx_iload_n C dX0_changeRule_22 rfl (lv_at hl 0 rfl) ?_
    obtain ⟨rfl, rfl⟩ := hx_some2 h
    exact hx_iret C hr dX0_changeRule_23
  · have h := hx_pos c3 h
    refine hx_ldc (v := (-100001)) C (by decide +kernel) dX0_changeRule_9 ?_
    obtain ⟨rfl, rfl⟩ := hx_some2 h
    exact hx_iret C hr dX0_changeRule_11
theorem uX1_begin_1 : ∀ w ∈ u_ws RX1 TX1 6, w ∈ wsX1_begin := by decide +kernel
def f_X1_begin (L : hL) (X : hX) (this : Nat) (a1 : Int32) : Option (hX) :=
  if tk L this 1 then
  some (smi (smi X this 0 a1) this 1 0)
  else none
set_option maxRecDepth 100000 in
set_option maxHeartbeats 4000000 in
theorem c_X1_begin {l : Launch} {dC : Nat → ClassId} {dI : Nat → Nat → Nat} {cy : Nat → ClassId} {ad : Nat → Nat} {L : hL} {X : hX} {this : Nat} {a1 : Int32} {X' : hX} (h : f_X1_begin L X this a1 = some X') : hMet l dC dI cy ad L yX1_begin wsX1_begin ({ frames := 0, cells := 0, slots := 0, locals := 0 } : Room) [.ref (ad this), .int a1] X none X' := by
  unfold f_X1_begin at h
  refine hx_enter RX1 (plainFor_of_name (by decide)) rfl rfl (Nat.le_of_ble_eq_true rfl) (fun p e s m args below meth c C hr hnm ls hl => ?_)
  have hl : lv_has ls 2 [(0, .ref (ad this)), (1, .int a1)] := hl
  refine hx_aload_n C dX1_begin_0 rfl (lv_at hl 0 rfl) ?_
  refine hx_iload_n C dX1_begin_1 rfl (lv_at hl 1 rfl) ?_
  obtain ⟨g1, h⟩ := hx_gd h
  refine hx_puti C (ci := 1) (j := 0) tyX1 tyX1_ok nmX1 g1 uX1_begin_1 (by decide) rfl (by decide) rfl (by decide +kernel) rfl rfl (tyX1_ok 0 (by decide)) dX1_begin_2 rfl rfl ?_
  refine hx_aload_n C dX1_begin_5 rfl (lv_at hl 0 rfl) ?_
  refine hx_iconst (v := 0) C dX1_begin_6 (by decide) ?_
  refine hx_puti C (ci := 1) (j := 1) tyX1 tyX1_ok nmX1 g1 uX1_begin_1 (by decide) rfl (by decide) rfl (by decide +kernel) rfl rfl (tyX1_ok 1 (by decide)) dX1_begin_7 rfl rfl ?_
  obtain rfl := hx_some1 h
  exact hx_vret C hr dX1_begin_10
