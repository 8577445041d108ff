theorem uX8_copyFrom_8 : ∀ w ∈ u_ws RX8 TX8 3, w ∈ wsX8_copyFrom := by decide +kernel
def f_X8_copyFrom_54 (L : hL) (k13 : Nat → Nat → Int32 → hX → Option (hX)) (v0 : Nat) (v1 : Nat) (v2 : Int32) (X : hX) : Option (hX) :=
  k13 v0 v1 (v2 + 1) X
set_option maxRecDepth 100000 in
set_option maxHeartbeats 4000000 in
theorem w_X8_copyFrom_54 {p : Program} {l : Launch} {e : Env} {s : State} {m : MethodId} {args : Array Value} {below : List Frame} {meth : Method} {c : Code} {dC : Nat → ClassId} {dI : Nat → Nat → Nat} {cy : Nat → ClassId} {ad : Nat → Nat} {L : hL} {X' : hX} (k13 : Nat → Nat → Int32 → hX → Option (hX)) (C : hC p s m args meth c dC dI cy ad L (hA ad L s.heap.size) cX8_copyFrom 3 wsX8_copyFrom RX8) (hr : meth.sig.returnType = none) (hk13 : ∀ (v0 : Nat) (v1 : Nat) (v2 : Int32) (X : hX) (ls : Array Slot), k13 v0 v1 v2 X = some X' → lv_has ls 3 [(0, .ref (ad v0)), (1, .ref (ad v1)), (2, .int v2)] → hG p l e (headSpec wsX8_copyFrom ({ frames := 2, cells := 0, slots := 0, locals := 43 } : Room)).room s m args below meth c dC dI cy ad L (hA ad L s.heap.size) 0 0 (MQ below (hQ dC dI cy ad L s.heap.size none X') args s 0 0 (hA ad L s.heap.size)) X 13 ls []) : ∀ (v0 : Nat) (v1 : Nat) (v2 : Int32) (X : hX) (ls : Array Slot), f_X8_copyFrom_54 L k13 v0 v1 v2 X = some X' → lv_has ls 3 [(0, .ref (ad v0)), (1, .ref (ad v1)), (2, .int v2)] → hG p l e (headSpec wsX8_copyFrom ({ frames := 2, cells := 0, slots := 0, locals := 43 } : Room)).room s m args below meth c dC dI cy ad L (hA ad L s.heap.size) 0 0 (MQ below (hQ dC dI cy ad L s.heap.size none X') args s 0 0 (hA ad L s.heap.size)) X 54 ls [] := by
  intro v0 v1 v2 X ls h hl
  unfold f_X8_copyFrom_54 at h
  refine hx_iinc (v := v2 + 1) (lv' := [(2, .int (v2 + 1)), (0, .ref (ad v0)), (1, .ref (ad v1))]) C dX8_copyFrom_54 hl (k := 2) rfl rfl (by decide) rfl (fun ls hl => ?_)
  refine hx_goto (tgt := 13) C dX8_copyFrom_57 (by decide) ?_
  exact hk13 v0 v1 (v2 + 1) X ls h (lv_sub hl [1, 2, 0] rfl)
def f_X8_copyFrom_13 (L : hL) : Nat → Nat → Nat → Int32 → hX → Option (hX)
  | 0, _, _, _, _ => none
  | n + 1, v0, v1, v2, X =>
    if 2 ≤ v2 then
      some X
    else
      if tk L v0 8 then
      (X.2 v0 2).bind fun q3 =>
      if tk L v1 8 then
      (X.2 v1 2).bind fun q6 =>
      if tk L q6 13 then
      if hin v2 (L.2.2 q6) then
      if tk L q3 13 then
      if hin v2 (L.2.2 q3) then
      if ((smi X q3 (Int32.toNatClampNeg v2) (vp_nar .boolean (X.1 q6 (Int32.toNatClampNeg v2)))).1 q3 (Int32.toNatClampNeg v2)) = 0 then
        f_X8_copyFrom_54 L (f_X8_copyFrom_13 L n) v0 v1 v2 (smi X q3 (Int32.toNatClampNeg v2) (vp_nar .boolean (X.1 q6 (Int32.toNatClampNeg v2))))
      else
        (X.2 v0 1).bind fun q13 =>
        if tk L q13 14 then
        if hin v2 (L.2.2 q13) then
        (X.2 q13 (Int32.toNatClampNeg v2)).bind fun q17 =>
        (X.2 v1 1).bind fun q19 =>
        if tk L q19 14 then
        if hin v2 (L.2.2 q19) then
        (X.2 q19 (Int32.toNatClampNeg v2)).bind fun q23 =>
        (f_X0_copyFrom L (smi X q3 (Int32.toNatClampNeg v2) (vp_nar .boolean (X.1 q6 (Int32.toNatClampNeg v2)))) q17 q23).bind fun r25 =>
        if tk L q17 0 then
        f_X8_copyFrom_54 L (f_X8_copyFrom_13 L n) v0 v1 v2 r25
        else none
        else none
        else none
        else none
        else none
      else none
      else none
      else none
      else none
      else none
      else none
set_option maxRecDepth 100000 in
set_option maxHeartbeats 4000000 in
theorem w_X8_copyFrom_13 {p : Program} {l : Launch} {e : Env} {s : State} {m : MethodId} {args : Array Value} {below : List Frame} {meth : Method} {c : Code} {dC : Nat → ClassId} {dI : Nat → Nat → Nat} {cy : Nat → ClassId} {ad : Nat → Nat} {L : hL} {X' : hX} (C : hC p s m args meth c dC dI cy ad L (hA ad L s.heap.size) cX8_copyFrom 3 wsX8_copyFrom RX8) (hr : meth.sig.returnType = none) : ∀ (n : Nat) (v0 : Nat) (v1 : Nat) (v2 : Int32) (X : hX) (ls : Array Slot), f_X8_copyFrom_13 L n v0 v1 v2 X = some X' → lv_has ls 3 [(0, .ref (ad v0)), (1, .ref (ad v1)), (2, .int v2)] → hG p l e (headSpec wsX8_copyFrom ({ frames := 2, cells := 0, slots := 0, locals := 43 } : Room)).room s m args below meth c dC dI cy ad L (hA ad L s.heap.size) 0 0 (MQ below (hQ dC dI cy ad L s.heap.size none X') args s 0 0 (hA ad L s.heap.size)) X 13 ls [] := by
  intro n
  induction n with
  | zero => intro v0 v1 v2 X ls h; cases h
  | succ n ih =>
    intro v0 v1 v2 X ls h hl
    rw [f_X8_copyFrom_13] at h
    refine hx_iload_n C dX8_copyFrom_13 rfl (lv_at hl 2 rfl) ?_
    refine hx_iconst (v := 2) C dX8_copyFrom_14 (by decide) ?_
    refine hx_icmp_ge (tgt := 60) C dX8_copyFrom_15 (by decide) (fun c1 => ?_) (fun c1 => ?_)
    · have h := hx_pos c1 h
      obtain rfl := hx_some1 h
      exact hx_vret C hr dX8_copyFrom_60
    · have h := hx_neg c1 h
      refine hx_aload_n C dX8_copyFrom_18 rfl (lv_at hl 0 rfl) ?_
      obtain ⟨g2, h⟩ := hx_gd h
      obtain ⟨q3, e4, h⟩ := hx_bind h
      refine hx_getr C (ci := 8) (j := 2) g2 uX8_copyFrom_8 (by decide) rfl (by decide) rfl (by decide +kernel) rfl dX8_copyFrom_19 e4 ?_
      refine hx_iload_n C dX8_copyFrom_22 rfl (lv_at hl 2 rfl) ?_
      refine hx_aload_n C dX8_copyFrom_23 rfl (lv_at hl 1 rfl) ?_
      obtain ⟨g5, h⟩ := hx_gd h
      obtain ⟨q6, e7, h⟩ := hx_bind h
      refine hx_getr C (ci := 8) (j := 2) g5 uX8_copyFrom_8 (by decide) rfl (by decide) rfl (by decide +kernel) rfl dX8_copyFrom_24 e7 ?_
      refine hx_iload_n C dX8_copyFrom_27 rfl (lv_at hl 2 rfl) ?_
      obtain ⟨g8, h⟩ := hx_gd h
      obtain ⟨g9, h⟩ := hx_gd h
      refine hx_zald (n := (Int32.toNatClampNeg v2)) C g8 g9 rfl dX8_copyFrom_28 ?_
      obtain ⟨g10, h⟩ := hx_gd h
      obtain ⟨g11, h⟩ := hx_gd h
      refine hx_zast (n := (Int32.toNatClampNeg v2)) C g10 g11 rfl dX8_copyFrom_29 ?_
      refine hx_aload_n C dX8_copyFrom_30 rfl (lv_at hl 0 rfl) ?_
      refine hx_getr C (ci := 8) (j := 2) g2 uX8_copyFrom_8 (by decide) rfl (by decide) rfl (by decide +kernel) rfl dX8_copyFrom_31 e4 ?_
      refine hx_iload_n C dX8_copyFrom_34 rfl (lv_at hl 2 rfl) ?_
      refine hx_zald (n := (Int32.toNatClampNeg v2)) C g10 g11 rfl dX8_copyFrom_35 ?_
      refine hx_if_eq (tgt := 54) C dX8_copyFrom_36 (by decide) (fun c12 => ?_) (fun c12 => ?_)
      · have h := hx_pos c12 h
        exact w_X8_copyFrom_54 (f_X8_copyFrom_13 L n) C hr ih v0 v1 v2 (smi X q3 (Int32.toNatClampNeg v2) (vp_nar .boolean (X.1 q6 (Int32.toNatClampNeg v2)))) ls h (lv_sub hl [0, 1, 2] rfl)
      · have h := hx_neg c12 h
        refine hx_aload_n C dX8_copyFrom_39 rfl (lv_at hl 0 rfl) ?_
        obtain ⟨q13, e14, h⟩ := hx_bind h
        refine hx_getr C (ci := 8) (j := 1) g2 uX8_copyFrom_8 (by decide) rfl (by decide) rfl (by decide +kernel) rfl dX8_copyFrom_40 e14 ?_
        refine hx_iload_n C dX8_copyFrom_43 rfl (lv_at hl 2 rfl) ?_
        obtain ⟨g15, h⟩ := hx_gd h
        obtain ⟨g16, h⟩ := hx_gd h
        obtain ⟨q17, e18, h⟩ := hx_bind h
        refine hx_aald (t0 := 3) C g15 (by decide) rfl g16 rfl e18 dX8_copyFrom_44 ?_
        refine hx_aload_n C dX8_copyFrom_45 rfl (lv_at hl 1 rfl) ?_
        obtain ⟨q19, e20, h⟩ := hx_bind h
        refine hx_getr C (ci := 8) (j := 1) g5 uX8_copyFrom_8 (by decide) rfl (by decide) rfl (by decide +kernel) rfl dX8_copyFrom_46 e20 ?_
        refine hx_iload_n C dX8_copyFrom_49 rfl (lv_at hl 2 rfl) ?_
        obtain ⟨g21, h⟩ := hx_gd h
        obtain ⟨g22, h⟩ := hx_gd h
        obtain ⟨q23, e24, h⟩ := hx_bind h
        refine hx_aald (t0 := 3) C g21 (by decide) rfl g22 rfl e24 dX8_copyFrom_50 ?_
        obtain ⟨r25, e26, h⟩ := hx_bind h
        obtain ⟨g27, h⟩ := hx_gd h
        refine hx_callV (As := [.ref (ad q23)]) (rest := []) (n := 1) (Cn := RX0) C (c_X0_copyFrom e26) gX8_copyFrom_X0_copyFrom g27 (by decide) rfl (by decide +kernel) ⟨Nat.le_of_ble_eq_true rfl, Nat.le_of_ble_eq_true rfl⟩ rfl rfl rfl ⟨Nat.zero_le _, Nat.zero_le _⟩ hl.1 rfl rfl (Nat.le_of_ble_eq_true rfl) dX8_copyFrom_51 ?_
        exact w_X8_copyFrom_54 (f_X8_copyFrom_13 L n) C hr ih v0 v1 v2 r25 ls h (lv_sub hl [0, 1, 2] rfl)
def f_X8_copyFrom (L : hL) (X : hX) (this : Nat) (a1 : Nat) : Option (hX) :=
  if tk L this 8 then
  (X.2 this 0).bind fun q29 =>
  if tk L a1 8 then
  (X.2 a1 0).bind fun q32 =>
  (f_X0_copyFrom L X q29 q32).bind fun r34 =>
  if tk L q29 0 then
  f_X8_copyFrom_13 L u_fuel this a1 0 r34
  else none
  else none
  else none
set_option maxRecDepth 100000 in
set_option maxHeartbeats 4000000 in
theorem c_X8_copyFrom {l : Launch} {dC : Nat → ClassId} {dI : Nat → Nat → Nat} {cy : Nat → ClassId} {ad : Nat → Nat} {L : hL} {X : hX} {this : Nat} {a1 : Nat} {X' : hX} (h : f_X8_copyFrom L X this a1 = some X') : hMet l dC dI cy ad L yX8_copyFrom wsX8_copyFrom ({ frames := 2, cells := 0, slots := 0, locals := 43 } : Room) [.ref (ad this), .ref (ad a1)] X none X' := by
  unfold f_X8_copyFrom at h
  refine hx_enter RX8 (plainFor_of_name (by decide)) rfl rfl (Nat.le_of_ble_eq_true rfl) (fun p e s m args below meth c C hr hnm ls hl => ?_)
  have hl : lv_has ls 3 [(0, .ref (ad this)), (1, .ref (ad a1))] := hl
  refine hx_aload_n C dX8_copyFrom_0 rfl (lv_at hl 0 rfl) ?_
  obtain ⟨g28, h⟩ := hx_gd h
  obtain ⟨q29, e30, h⟩ := hx_bind h
  refine hx_getr C (ci := 8) (j := 0) g28 uX8_copyFrom_8 (by decide) rfl (by decide) rfl (by decide +kernel) rfl dX8_copyFrom_1 e30 ?_
  refine hx_aload_n C dX8_copyFrom_4 rfl (lv_at hl 1 rfl) ?_
  obtain ⟨g31, h⟩ := hx_gd h
  obtain ⟨q32, e33, h⟩ := hx_bind h
  refine hx_getr C (ci := 8) (j := 0) g31 uX8_copyFrom_8 (by decide) rfl (by decide) rfl (by decide +kernel) rfl dX8_copyFrom_5 e33 ?_
  obtain ⟨r34, e35, h⟩ := hx_bind h
  obtain ⟨g36, h⟩ := hx_gd h
  refine hx_callV (As := [.ref (ad q32)]) (rest := []) (n := 1) (Cn := RX0) C (c_X0_copyFrom e35) gX8_copyFrom_X0_copyFrom g36 (by decide) rfl (by decide +kernel) ⟨Nat.le_of_ble_eq_true rfl, Nat.le_of_ble_eq_true rfl⟩ rfl rfl rfl ⟨Nat.zero_le _, Nat.zero_le _⟩ hl.1 rfl rfl (Nat.le_of_ble_eq_true rfl) dX8_copyFrom_8 ?_
  refine hx_iconst (v := 0) C dX8_copyFrom_11 (by decide) ?_
  refine hx_istore_n (lv' := [(2, .int 0), (0, .ref (ad this)), (1, .ref (ad a1))]) C dX8_copyFrom_12 rfl hl (by decide) rfl (fun ls hl => ?_)
  exact w_X8_copyFrom_13 C hr u_fuel this a1 0 r34 ls h (lv_sub hl [1, 2, 0] rfl)
theorem uX3_prepare_3 : ∀ w ∈ u_ws RX3 TX3 4, w ∈ wsX3_prepare := by decide +kernel
def f_X3_prepare (L : hL) (X : hX) (this : Nat) : Option (hX) :=
  if tk L this 3 then
  (X.2 this 2).bind fun q2 =>
  (X.2 this 1).bind fun q4 =>
  (f_X8_copyFrom L X q2 q4).bind fun r6 =>
  if tk L q2 8 then
  some r6
  else none
  else none
set_option maxRecDepth 100000 in
set_option maxHeartbeats 4000000 in
theorem c_X3_prepare {l : Launch} {dC : Nat → ClassId} {dI : Nat → Nat → Nat} {cy : Nat → ClassId} {ad : Nat → Nat} {L : hL} {X : hX} {this : Nat} {X' : hX} (h : f_X3_prepare L X this = some X') : hMet l dC dI cy ad L yX3_prepare wsX3_prepare ({ frames := 3, cells := 0, slots := 0, locals := 65 } : Room) [.ref (ad this)] X none X' := by
  unfold f_X3_prepare at h
  refine hx_enter RX3 (plainFor_of_name (by decide)) rfl rfl (Nat.le_of_ble_eq_true rfl) (fun p e s m args below meth c C hr hnm ls hl => ?_)
  have hl : lv_has ls 1 [(0, .ref (ad this))] := hl
  refine hx_aload_n C dX3_prepare_0 rfl (lv_at hl 0 rfl) ?_
  obtain ⟨g1, h⟩ := hx_gd h
  obtain ⟨q2, e3, h⟩ := hx_bind h
  refine hx_getr C (ci := 3) (j := 2) g1 uX3_prepare_3 (by decide) rfl (by decide) rfl (by decide +kernel) rfl dX3_prepare_1 e3 ?_
  refine hx_aload_n C dX3_prepare_4 rfl (lv_at hl 0 rfl) ?_
  obtain ⟨q4, e5, h⟩ := hx_bind h
  refine hx_getr C (ci := 3) (j := 1) g1 uX3_prepare_3 (by decide) rfl (by decide) rfl (by decide +kernel) rfl dX3_prepare_5 e5 ?_
  obtain ⟨r6, e7, h⟩ := hx_bind h
  obtain ⟨g8, h⟩ := hx_gd h
  refine hx_callV (As := [.ref (ad q4)]) (rest := []) (n := 1) (Cn := RX8) C (c_X8_copyFrom e7) gX3_prepare_X8_copyFrom g8 (by decide) rfl (by decide +kernel) ⟨Nat.le_of_ble_eq_true rfl, Nat.le_of_ble_eq_true rfl⟩ rfl rfl rfl ⟨Nat.zero_le _, Nat.zero_le _⟩ hl.1 rfl rfl (Nat.le_of_ble_eq_true rfl) dX3_prepare_8 ?_
  obtain rfl := hx_some1 h
  exact hx_vret C hr dX3_prepare_11
def f_X9_isError (L : hL) (X : hX) (a1 : Int32) : Option (Int32) :=
  if a1 = (-100001) then
    some 1
  else
    if a1 = (-100002) then
      some 1
    else
      if a1 = (-100003) then
        some 1
      else
        some 0
set_option maxRecDepth 100000 in
set_option maxHeartbeats 4000000 in
theorem c_X9_isError {l : Launch} {dC : Nat → ClassId} {dI : Nat → Nat → Nat} {cy : Nat → ClassId} {ad : Nat → Nat} {L : hL} {X : hX} {a1 : Int32} {r : Int32} (h : f_X9_isError L X a1 = some r) : hMet l dC dI cy ad L yX9_isError wsX9_isError ({ frames := 0, cells := 0, slots := 0, locals := 0 } : Room) [.int a1] X (some (.int r)) X := by
  unfold f_X9_isError at h
  refine hx_enter RX9 (plainFor_of_name (by decide)) rfl rfl (Nat.le_of_ble_eq_true rfl) (fun p e s m args below meth c C hr hnm ls hl => ?_)
  have hl : lv_has ls 1 [(0, .int a1)] := hl
  refine hx_iload_n C dX9_isError_0 rfl (lv_at hl 0 rfl) ?_
  refine hx_ldc (v := (-100001)) C (by decide +kernel) dX9_isError_1 ?_
  refine hx_icmp_eq (tgt := 18) C dX9_isError_3 (by decide) (fun c1 => ?_) (fun c1 => ?_)
  · have h := hx_pos c1 h
    refine hx_iconst (v := 1) C dX9_isError_18 (by decide) ?_
    refine hx_goto (tgt := 23) C dX9_isError_19 (by decide) ?_
    obtain rfl := hx_some1 h
    exact hx_zret C hr rfl dX9_isError_23
  · have h := hx_neg c1 h
    refine hx_iload_n C dX9_isError_6 rfl (lv_at hl 0 rfl) ?_
    refine hx_ldc (v := (-100002)) C (by decide +kernel) dX9_isError_7 ?_
    refine hx_icmp_eq (tgt := 18) C dX9_isError_9 (by decide) (fun c2 => ?_) (fun c2 => ?_)
    · have h := hx_pos c2 h
      refine hx_iconst (v := 1) C dX9_isError_18 (by decide) ?_
      refine hx_goto (tgt := 23) C dX9_isError_19 (by decide) ?_
      obtain rfl := hx_some1 h
      exact hx_zret C hr rfl dX9_isError_23
    · have h := hx_neg c2 h
      refine hx_iload_n C dX9_isError_12 rfl (lv_at hl 0 rfl) ?_
      refine hx_ldc (v := (-100003)) C (by decide +kernel) dX9_isError_13 ?_
      refine hx_icmp_ne (tgt := 22) C dX9_isError_15 (by decide) (fun c3 => ?_) (fun c3 => ?_)
      · have h := hx_neg c3 h
        refine hx_iconst (v := 0) C dX9_isError_22 (by decide) ?_
        obtain rfl := hx_some1 h
        exact hx_zret C hr rfl dX9_isError_23
      · have h := hx_pos c3 h
        refine hx_iconst (v := 1) C dX9_isError_18 (by decide) ?_
        refine hx_goto (tgt := 23) C dX9_isError_19 (by decide) ?_
        obtain rfl := hx_some1 h
        exact hx_zret C hr rfl dX9_isError_23
theorem uX3_dropOldest_3 : ∀ w ∈ u_ws RX3 TX3 4, w ∈ wsX3_dropOldest := by decide +kernel
def f_X3_dropOldest_9 (L : hL) : Nat → Nat → Nat → Int32 → hX → Option (hX)
  | 0, _, _, _, _ => none
  | n + 1, v0, v1, v2, X =>
    if 4 ≤ v2 then
      if tk L v0 3 then
      (X.2 v0 0).bind fun q3 =>
      if tk L q3 18 then
      if 4 < L.2.2 q3 then
      if tk L v1 8 then
      some (smi (smr X q3 4 (some v1)) v0 3 4)
      else none
      else none
      else none
      else none
    else
      if tk L v0 3 then
      (X.2 v0 0).bind fun q9 =>
      if tk L q9 18 then
      if hin (v2 + 1) (L.2.2 q9) then
      (X.2 q9 (Int32.toNatClampNeg (v2 + 1))).bind fun q13 =>
      if hin v2 (L.2.2 q9) then
      if tk L q13 8 then
      f_X3_dropOldest_9 L n v0 v1 (v2 + 1) (smr X q9 (Int32.toNatClampNeg v2) (some q13))
      else none
      else none
      else none
      else none
      else none
set_option maxRecDepth 100000 in
set_option maxHeartbeats 4000000 in
theorem w_X3_dropOldest_9 {p : Program} {l : Launch} {e : Env} {s : State} {m : MethodId} {args : Array Value} {below : List Frame} {meth : Method} {c : Code} {dC : Nat → ClassId} {dI : Nat → Nat → Nat} {cy : Nat → ClassId} {ad : Nat → Nat} {L : hL} {X' : hX} (C : hC p s m args meth c dC dI cy ad L (hA ad L s.heap.size) cX3_dropOldest 3 wsX3_dropOldest RX3) (hr : meth.sig.returnType = none) : ∀ (n : Nat) (v0 : Nat) (v1 : Nat) (v2 : Int32) (X : hX) (ls : Array Slot), f_X3_dropOldest_9 L n v0 v1 v2 X = some X' → lv_has ls 3 [(0, .ref (ad v0)), (1, .ref (ad v1)), (2, .int v2)] → hG p l e (headSpec wsX3_dropOldest ({ frames := 0, cells := 0, slots := 0, locals := 0 } : Room)).room s m args below meth c dC dI cy ad L (hA ad L s.heap.size) 0 0 (MQ below (hQ dC dI cy ad L s.heap.size none X') args s 0 0 (hA ad L s.heap.size)) X 9 ls [] := by
  intro n
  induction n with
  | zero => intro v0 v1 v2 X ls h; cases h
  | succ n ih =>
    intro v0 v1 v2 X ls h hl
    rw [f_X3_dropOldest_9] at h
    refine hx_iload_n C dX3_dropOldest_9 rfl (lv_at hl 2 rfl) ?_
    refine hx_iconst (v := 4) C dX3_dropOldest_10 (by decide) ?_
    refine hx_icmp_ge (tgt := 34) C dX3_dropOldest_11 (by decide) (fun c1 => ?_) (fun c1 => ?_)
    · have h := hx_pos c1 h
      refine hx_aload_n C dX3_dropOldest_34 rfl (lv_at hl 0 rfl) ?_
      obtain ⟨g2, h⟩ := hx_gd h
      obtain ⟨q3, e4, h⟩ := hx_bind h
      refine hx_getr C (ci := 3) (j := 0) g2 uX3_dropOldest_3 (by decide) rfl (by decide) rfl (by decide +kernel) rfl dX3_dropOldest_35 e4 ?_
      refine hx_iconst (v := 4) C dX3_dropOldest_38 (by decide) ?_
      refine hx_aload_n C dX3_dropOldest_39 rfl (lv_at hl 1 rfl) ?_
      obtain ⟨g5, h⟩ := hx_gd h
      obtain ⟨g6, h⟩ := hx_gd h
      obtain ⟨g7, h⟩ := hx_gd h
      refine hx_aast (t0 := 7) (n := 4) C g5 (by decide) rfl g7 (by decide) rfl (hin_lit (i := 4) (by decide) rfl g6) rfl dX3_dropOldest_40 ?_
      refine hx_aload_n C dX3_dropOldest_41 rfl (lv_at hl 0 rfl) ?_
      refine hx_iconst (v := 4) C dX3_dropOldest_42 (by decide) ?_
      refine hx_puti C (ci := 3) (j := 3) tyX3 tyX3_ok nmX3 g2 uX3_dropOldest_3 (by decide) rfl (by decide) rfl (by decide +kernel) rfl rfl (tyX3_ok 3 (by decide)) dX3_dropOldest_43 rfl rfl ?_
      obtain rfl := hx_some1 h
      exact hx_vret C hr dX3_dropOldest_46
    · have h := hx_neg c1 h
      refine hx_aload_n C dX3_dropOldest_14 rfl (lv_at hl 0 rfl) ?_
      obtain ⟨g8, h⟩ := hx_gd h
      obtain ⟨q9, e10, h⟩ := hx_bind h
      refine hx_getr C (ci := 3) (j := 0) g8 uX3_dropOldest_3 (by decide) rfl (by decide) rfl (by decide +kernel) rfl dX3_dropOldest_15 e10 ?_
      refine hx_iload_n C dX3_dropOldest_18 rfl (lv_at hl 2 rfl) ?_
      refine hx_aload_n C dX3_dropOldest_19 rfl (lv_at hl 0 rfl) ?_
      refine hx_getr C (ci := 3) (j := 0) g8 uX3_dropOldest_3 (by decide) rfl (by decide) rfl (by decide +kernel) rfl dX3_dropOldest_20 e10 ?_
      refine hx_iload_n C dX3_dropOldest_23 rfl (lv_at hl 2 rfl) ?_
      refine hx_iconst (v := 1) C dX3_dropOldest_24 (by decide) ?_
      refine hx_iadd C dX3_dropOldest_25 ?_
      obtain ⟨g11, h⟩ := hx_gd h
      obtain ⟨g12, h⟩ := hx_gd h
      obtain ⟨q13, e14, h⟩ := hx_bind h
      refine hx_aald (t0 := 7) C g11 (by decide) rfl g12 rfl e14 dX3_dropOldest_26 ?_
      obtain ⟨g15, h⟩ := hx_gd h
      obtain ⟨g16, h⟩ := hx_gd h
      refine hx_aast (t0 := 7) (n := (Int32.toNatClampNeg v2)) C g11 (by decide) rfl g16 (by decide) rfl g15 rfl dX3_dropOldest_27 ?_
      refine hx_iinc (v := v2 + 1) (lv' := [(2, .int (v2 + 1)), (0, .ref (ad v0)), (1, .ref (ad v1))]) C dX3_dropOldest_28 hl (k := 2) rfl rfl (by decide) rfl (fun ls hl => ?_)
      refine hx_goto (tgt := 9) C dX3_dropOldest_31 (by decide) ?_
      exact ih v0 v1 (v2 + 1) (smr X q9 (Int32.toNatClampNeg v2) (some q13)) ls h (lv_sub hl [1, 2, 0] rfl)
def f_X3_dropOldest (L : hL) (X : hX) (this : Nat) : Option (hX) :=
  if tk L this 3 then
  (X.2 this 0).bind fun q18 =>
  if tk L q18 18 then
  if 0 < L.2.2 q18 then
  (X.2 q18 0).bind fun q22 =>
  f_X3_dropOldest_9 L u_fuel this q22 0 X
  else none
  else none
  else none
set_option maxRecDepth 100000 in
set_option maxHeartbeats 4000000 in
theorem c_X3_dropOldest {l : Launch} {dC : Nat → ClassId} {dI : Nat → Nat → Nat} {cy : Nat → ClassId} {ad : Nat → Nat} {L : hL} {X : hX} {this : Nat} {X' : hX} (h : f_X3_dropOldest L X this = some X') : hMet l dC dI cy ad L yX3_dropOldest wsX3_dropOldest ({ frames := 0, cells := 0, slots := 0, locals := 0 } : Room) [.ref (ad this)] X none X' := by
  unfold f_X3_dropOldest at h
  refine hx_enter RX3 (plainFor_of_name (by decide)) rfl rfl (Nat.le_of_ble_eq_true rfl) (fun p e s m args below meth c C hr hnm ls hl => ?_)
  have hl : lv_has ls 3 [(0, .ref (ad this))] := hl
  refine hx_aload_n C dX3_dropOldest_0 rfl (lv_at hl 0 rfl) ?_
  obtain ⟨g17, h⟩ := hx_gd h
  obtain ⟨q18, e19, h⟩ := hx_bind h
  refine hx_getr C (ci := 3) (j := 0) g17 uX3_dropOldest_3 (by decide) rfl (by decide) rfl (by decide +kernel) rfl dX3_dropOldest_1 e19 ?_
  refine hx_iconst (v := 0) C dX3_dropOldest_4 (by decide) ?_
  obtain ⟨g20, h⟩ := hx_gd h
  obtain ⟨g21, h⟩ := hx_gd h
  obtain ⟨q22, e23, h⟩ := hx_bind h
  refine hx_aald (t0 := 7) C g20 (by decide) rfl (hin_lit (i := 0) (by decide) rfl g21) rfl e23 dX3_dropOldest_5 ?_
  refine hx_astore_n (lv' := [(1, .ref (ad q22)), (0, .ref (ad this))]) C dX3_dropOldest_6 rfl hl (by decide) rfl (fun ls hl => ?_)
  refine hx_iconst (v := 0) C dX3_dropOldest_7 (by decide) ?_
  refine hx_istore_n (lv' := [(2, .int 0), (1, .ref (ad q22)), (0, .ref (ad this))]) C dX3_dropOldest_8 rfl hl (by decide) rfl (fun ls hl => ?_)
  exact w_X3_dropOldest_9 C hr u_fuel this q22 0 X ls h (lv_sub hl [2, 1, 0] rfl)
theorem uX3_recordSpare_3 : ∀ w ∈ u_ws RX3 TX3 4, w ∈ wsX3_recordSpare := by decide +kernel
def f_X3_recordSpare_12 (L : hL) (v0 : Nat) (X : hX) : Option (hX) :=
  if tk L v0 3 then
  (f_X9_within L X (X.1 v0 3) 0 4).bind fun r2 =>
  if r2 = 0 then
    some X
  else
    (X.2 v0 0).bind fun q5 =>
    if tk L q5 18 then
    if hin (X.1 v0 3) (L.2.2 q5) then
    (X.2 q5 (Int32.toNatClampNeg (X.1 v0 3))).bind fun q9 =>
    (X.2 v0 2).bind fun q11 =>
    if tk L q11 8 then
    some (smi (smr (smr X q5 (Int32.toNatClampNeg (X.1 v0 3)) (some q11)) v0 2 (some q9)) v0 3 (((smr (smr X q5 (Int32.toNatClampNeg (X.1 v0 3)) (some q11)) v0 2 (some q9)).1 v0 3) + 1))
    else none
    else none
    else none
  else none
set_option maxRecDepth 100000 in
set_option maxHeartbeats 4000000 in
theorem w_X3_recordSpare_12 {p : Program} {l : Launch} {e : Env} {s : State} {m : MethodId} {args : Array Value} {below : List Frame} {meth : Method} {c : Code} {dC : Nat → ClassId} {dI : Nat → Nat → Nat} {cy : Nat → ClassId} {ad : Nat → Nat} {L : hL} {X' : hX} (C : hC p s m args meth c dC dI cy ad L (hA ad L s.heap.size) cX3_recordSpare 2 wsX3_recordSpare RX3) (hr : meth.sig.returnType = none) : ∀ (v0 : Nat) (X : hX) (ls : Array Slot), f_X3_recordSpare_12 L v0 X = some X' → lv_has ls 2 [(0, .ref (ad v0))] → hG p l e (headSpec wsX3_recordSpare ({ frames := 1, cells := 0, slots := 0, locals := 22 } : Room)).room s m args below meth c dC dI cy ad L (hA ad L s.heap.size) 0 0 (MQ below (hQ dC dI cy ad L s.heap.size none X') args s 0 0 (hA ad L s.heap.size)) X 12 ls [] := by
  intro v0 X ls h hl
  unfold f_X3_recordSpare_12 at h
  refine hx_aload_n C dX3_recordSpare_12 rfl (lv_at hl 0 rfl) ?_
  obtain ⟨g1, h⟩ := hx_gd h
  refine hx_geti C (ci := 3) (j := 3) g1 uX3_recordSpare_3 (by decide) rfl (by decide) rfl (by decide +kernel) rfl dX3_recordSpare_13 ?_
  refine hx_iconst (v := 0) C dX3_recordSpare_16 (by decide) ?_
  refine hx_iconst (v := 4) C dX3_recordSpare_17 (by decide) ?_
  obtain ⟨r2, e3, h⟩ := hx_bind h
  refine hx_callSN (As := [.int (X.1 v0 3), .int 0, .int 4]) (rest := []) (n := 3) (host := "TicketScales") C (c_X9_within e3) gX3_recordSpare_X9_within_n43 (by decide) (by decide +kernel) (by decide +kernel) (by decide +kernel) ⟨Nat.le_of_ble_eq_true rfl, Nat.le_of_ble_eq_true rfl⟩ rfl rfl rfl ⟨Nat.zero_le _, Nat.zero_le _⟩ hl.1 rfl rfl (Nat.le_of_ble_eq_true rfl) dX3_recordSpare_18 ?_
  refine hx_if_eq (tgt := 62) C dX3_recordSpare_21 (by decide) (fun c4 => ?_) (fun c4 => ?_)
  · have h := hx_pos c4 h
    obtain rfl := hx_some1 h
    exact hx_vret C hr dX3_recordSpare_62
  · have h := hx_neg c4 h
    refine hx_aload_n C dX3_recordSpare_24 rfl (lv_at hl 0 rfl) ?_
    obtain ⟨q5, e6, h⟩ := hx_bind h
    refine hx_getr C (ci := 3) (j := 0) g1 uX3_recordSpare_3 (by decide) rfl (by decide) rfl (by decide +kernel) rfl dX3_recordSpare_25 e6 ?_
    refine hx_aload_n C dX3_recordSpare_28 rfl (lv_at hl 0 rfl) ?_
    refine hx_geti C (ci := 3) (j := 3) g1 uX3_recordSpare_3 (by decide) rfl (by decide) rfl (by decide +kernel) rfl dX3_recordSpare_29 ?_
    obtain ⟨g7, h⟩ := hx_gd h
    obtain ⟨g8, h⟩ := hx_gd h
    obtain ⟨q9, e10, h⟩ := hx_bind h
    refine hx_aald (t0 := 7) C g7 (by decide) rfl g8 rfl e10 dX3_recordSpare_32 ?_
    refine hx_astore_n (lv' := [(1, .ref (ad q9)), (0, .ref (ad v0))]) C dX3_recordSpare_33 rfl hl (by decide) rfl (fun ls hl => ?_)
    refine hx_aload_n C dX3_recordSpare_34 rfl (lv_at hl 1 rfl) ?_
    refine hx_getr C (ci := 3) (j := 0) g1 uX3_recordSpare_3 (by decide) rfl (by decide) rfl (by decide +kernel) rfl dX3_recordSpare_35 e6 ?_
    refine hx_aload_n C dX3_recordSpare_38 rfl (lv_at hl 1 rfl) ?_
    refine hx_geti C (ci := 3) (j := 3) g1 uX3_recordSpare_3 (by decide) rfl (by decide) rfl (by decide +kernel) rfl dX3_recordSpare_39 ?_
    refine hx_aload_n C dX3_recordSpare_42 rfl (lv_at hl 1 rfl) ?_
    obtain ⟨q11, e12, h⟩ := hx_bind h
    refine hx_getr C (ci := 3) (j := 2) g1 uX3_recordSpare_3 (by decide) rfl (by decide) rfl (by decide +kernel) rfl dX3_recordSpare_43 e12 ?_
    obtain ⟨g13, h⟩ := hx_gd h
    refine hx_aast (t0 := 7) (n := (Int32.toNatClampNeg (X.1 v0 3))) C g7 (by decide) rfl g13 (by decide) rfl g8 rfl dX3_recordSpare_46 ?_
    refine hx_aload_n C dX3_recordSpare_47 rfl (lv_at hl 1 rfl) ?_
    refine hx_aload_n C dX3_recordSpare_48 rfl (lv_at hl 0 rfl) ?_
    refine hx_putr C (ci := 3) (j := 2) tyX3 tyX3_ok nmX3 g1 uX3_recordSpare_3 (by decide) rfl (by decide) rfl (by decide +kernel) rfl rfl (tyX3_ok 2 (by decide)) dX3_recordSpare_49 rfl rfl ?_
    refine hx_aload_n C dX3_recordSpare_52 rfl (lv_at hl 1 rfl) ?_
    refine hx_dup C dX3_recordSpare_53 rfl ?_
    refine hx_geti C (ci := 3) (j := 3) g1 uX3_recordSpare_3 (by decide) rfl (by decide) rfl (by decide +kernel) rfl dX3_recordSpare_54 ?_
    refine hx_iconst (v := 1) C dX3_recordSpare_57 (by decide) ?_
    refine hx_iadd C dX3_recordSpare_58 ?_
    refine hx_puti C (ci := 3) (j := 3) tyX3 tyX3_ok nmX3 g1 uX3_recordSpare_3 (by decide) rfl (by decide) rfl (by decide +kernel) rfl rfl (tyX3_ok 3 (by decide)) dX3_recordSpare_59 rfl rfl ?_
    obtain rfl := hx_some1 h
    exact hx_vret C hr dX3_recordSpare_62
def f_X3_recordSpare (L : hL) (X : hX) (this : Nat) : Option (hX) :=
  if tk L this 3 then
  if (X.1 this 3) < 5 then
    f_X3_recordSpare_12 L this X
  else
    (f_X3_dropOldest L X this).bind fun r16 =>
    f_X3_recordSpare_12 L this r16
  else none
set_option maxRecDepth 100000 in
set_option maxHeartbeats 4000000 in
theorem c_X3_recordSpare {l : Launch} {dC : Nat → ClassId} {dI : Nat → Nat → Nat} {cy : Nat → ClassId} {ad : Nat → Nat} {L : hL} {X : hX} {this : Nat} {X' : hX} (h : f_X3_recordSpare L X this = some X') : hMet l dC dI cy ad L yX3_recordSpare wsX3_recordSpare ({ frames := 1, cells := 0, slots := 0, locals := 22 } : Room) [.ref (ad this)] X none X' := by
  unfold f_X3_recordSpare at h
  refine hx_enter RX3 (plainFor_of_name (by decide)) rfl rfl (Nat.le_of_ble_eq_true rfl) (fun p e s m args below meth c C hr hnm ls hl => ?_)
  have hl : lv_has ls 2 [(0, .ref (ad this))] := hl
  refine hx_aload_n C dX3_recordSpare_0 rfl (lv_at hl 0 rfl) ?_
  obtain ⟨g14, h⟩ := hx_gd h
  refine hx_geti C (ci := 3) (j := 3) g14 uX3_recordSpare_3 (by decide) rfl (by decide) rfl (by decide +kernel) rfl dX3_recordSpare_1 ?_
  refine hx_iconst (v := 5) C dX3_recordSpare_4 (by decide) ?_
  refine hx_icmp_lt (tgt := 12) C dX3_recordSpare_5 (by decide) (fun c15 => ?_) (fun c15 => ?_)
  · have h := hx_pos c15 h
    exact w_X3_recordSpare_12 C hr this X ls h (lv_sub hl [0] rfl)
  · have h := hx_neg c15 h
    refine hx_aload_n C dX3_recordSpare_8 rfl (lv_at hl 0 rfl) ?_
    obtain ⟨r16, e17, h⟩ := hx_bind h
    refine hx_callV (As := []) (rest := []) (n := 0) (Cn := RX3) C (c_X3_dropOldest e17) gX3_recordSpare_X3_dropOldest g14 (by decide) rfl (by decide +kernel) ⟨Nat.le_of_ble_eq_true rfl, Nat.le_of_ble_eq_true rfl⟩ rfl rfl rfl ⟨Nat.zero_le _, Nat.zero_le _⟩ hl.1 rfl rfl (Nat.le_of_ble_eq_true rfl) dX3_recordSpare_9 ?_
    exact w_X3_recordSpare_12 C hr this r16 ls h (lv_sub hl [0] rfl)
def f_X3_settle (L : hL) (X : hX) (this : Nat) (a1 : Int32) : Option (Int32 × hX) :=
  (f_X9_isError L X a1).bind fun r1 =>
  if r1 = 0 then
    (f_X3_recordSpare L X this).bind fun r4 =>
    if tk L this 3 then
    some (a1, r4)
    else none
  else
    some (a1, X)
set_option maxRecDepth 100000 in
set_option maxHeartbeats 4000000 in
theorem c_X3_settle {l : Launch} {dC : Nat → ClassId} {dI : Nat → Nat → Nat} {cy : Nat → ClassId} {ad : Nat → Nat} {L : hL} {X : hX} {this : Nat} {a1 : Int32} {r : Int32} {X' : hX} (h : f_X3_settle L X this a1 = some (r, X')) : hMet l dC dI cy ad L yX3_settle wsX3_settle ({ frames := 2, cells := 0, slots := 0, locals := 43 } : Room) [.ref (ad this), .int a1] X (some (.int r)) X' := by
  unfold f_X3_settle at h
  refine hx_enter RX3 (plainFor_of_name (by decide)) rfl rfl (Nat.le_of_ble_eq_true rfl) (fun p e s m args below meth c C hr hnm ls hl => ?_)
  have hl : lv_has ls 2 [(0, .ref (ad this)), (1, .int a1)] := hl
  refine hx_iload_n C dX3_settle_0 rfl (lv_at hl 1 rfl) ?_
  obtain ⟨r1, e2, h⟩ := hx_bind h
  refine hx_callSN (As := [.int a1]) (rest := []) (n := 1) (host := "TicketScales") C (c_X9_isError e2) gX3_settle_X9_isError_n29 (by decide) (by decide +kernel) (by decide +kernel) (by decide +kernel) ⟨Nat.le_of_ble_eq_true rfl, Nat.le_of_ble_eq_true rfl⟩ rfl rfl rfl ⟨Nat.zero_le _, Nat.zero_le _⟩ hl.1 rfl rfl (Nat.le_of_ble_eq_true rfl) dX3_settle_1 ?_
  refine hx_if_ne (tgt := 11) C dX3_settle_4 (by decide) (fun c3 => ?_) (fun c3 => ?_)
  · have h := hx_neg c3 h
    refine hx_iload_n C dX3_settle_11 rfl (lv_at hl 1 rfl) ?_
    obtain ⟨rfl, rfl⟩ := hx_some2 h
    exact hx_iret C hr dX3_settle_12
  · have h := hx_pos c3 h
    refine hx_aload_n C dX3_settle_7 rfl (lv_at hl 0 rfl) ?_
    obtain ⟨r4, e5, h⟩ := hx_bind h
    obtain ⟨g6, h⟩ := hx_gd h
    refine hx_callV (As := []) (rest := []) (n := 0) (Cn := RX3) C (c_X3_recordSpare e5) gX3_settle_X3_recordSpare g6 (by decide) rfl (by decide +kernel) ⟨Nat.le_of_ble_eq_true rfl, Nat.le_of_ble_eq_true rfl⟩ rfl rfl rfl ⟨Nat.zero_le _, Nat.zero_le _⟩ hl.1 rfl rfl (Nat.le_of_ble_eq_true rfl) dX3_settle_8 ?_
    refine hx_iload_n C dX3_settle_11 rfl (lv_at hl 1 rfl) ?_
    obtain ⟨rfl, rfl⟩ := hx_some2 h
    exact hx_iret C hr dX3_settle_12
theorem uX3_abandon_3 : ∀ w ∈ u_ws RX3 TX3 4, w ∈ wsX3_abandon := by decide +kernel
def f_X3_abandon (L : hL) (X : hX) (this : Nat) : Option (hX) :=
  if tk L this 3 then
  (X.2 this 1).bind fun q2 =>
  (X.2 this 2).bind fun q4 =>
  some (smr (smr X this 1 (some q4)) this 2 (some q2))
  else none
set_option maxRecDepth 100000 in
set_option maxHeartbeats 4000000 in
theorem c_X3_abandon {l : Launch} {dC : Nat → ClassId} {dI : Nat → Nat → Nat} {cy : Nat → ClassId} {ad : Nat → Nat} {L : hL} {X : hX} {this : Nat} {X' : hX} (h : f_X3_abandon L X this = some X') : hMet l dC dI cy ad L yX3_abandon wsX3_abandon ({ frames := 0, cells := 0, slots := 0, locals := 0 } : Room) [.ref (ad this)] X none X' := by
  unfold f_X3_abandon at h
  refine hx_enter RX3 (plainFor_of_name (by decide)) rfl rfl (Nat.le_of_ble_eq_true rfl) (fun p e s m args below meth c C hr hnm ls hl => ?_)
  have hl : lv_has ls 2 [(0, .ref (ad this))] := hl
  refine hx_aload_n C dX3_abandon_0 rfl (lv_at hl 0 rfl) ?_
  obtain ⟨g1, h⟩ := hx_gd h
  obtain ⟨q2, e3, h⟩ := hx_bind h
  refine hx_getr C (ci := 3) (j := 1) g1 uX3_abandon_3 (by decide) rfl (by decide) rfl (by decide +kernel) rfl dX3_abandon_1 e3 ?_
  refine hx_astore_n (lv' := [(1, .ref (ad q2)), (0, .ref (ad this))]) C dX3_abandon_4 rfl hl (by decide) rfl (fun ls hl => ?_)
  refine hx_aload_n C dX3_abandon_5 rfl (lv_at hl 1 rfl) ?_
  refine hx_aload_n C dX3_abandon_6 rfl (lv_at hl 1 rfl) ?_
  obtain ⟨q4, e5, h⟩ := hx_bind h
  refine hx_getr C (ci := 3) (j := 2) g1 uX3_abandon_3 (by decide) rfl (by decide) rfl (by decide +kernel) rfl dX3_abandon_7 e5 ?_
  refine hx_putr C (ci := 3) (j := 1) tyX3 tyX3_ok nmX3 g1 uX3_abandon_3 (by decide) rfl (by decide) rfl (by decide +kernel) rfl rfl (tyX3_ok 1 (by decide)) dX3_abandon_10 rfl rfl ?_
  refine hx_aload_n C dX3_abandon_13 rfl (lv_at hl 1 rfl) ?_
  refine hx_aload_n C dX3_abandon_14 rfl (lv_at hl 0 rfl) ?_
  refine hx_putr C (ci := 3) (j := 2) tyX3 tyX3_ok nmX3 g1 uX3_abandon_3 (by decide) rfl (by decide) rfl (by decide +kernel) rfl rfl (tyX3_ok 2 (by decide)) dX3_abandon_15 rfl rfl ?_
  obtain rfl := hx_some1 h
  exact hx_vret C hr dX3_abandon_18
theorem uX3_stepBack_3 : ∀ w ∈ u_ws RX3 TX3 4, w ∈ wsX3_stepBack := by decide +kernel
def f_X3_stepBack (L : hL) (X : hX) (this : Nat) : Option (Int32 × hX) :=
  if tk L this 3 then
  (f_X9_within L X ((X.1 this 3) - 1) 0 4).bind fun r2 =>
  if r2 = 0 then
    some ((-100002), X)
  else
    (X.2 this 1).bind fun q5 =>
    (X.2 this 0).bind fun q7 =>
    if tk L q7 18 then
    if hin ((X.1 this 3) - 1) (L.2.2 q7) then
    (X.2 q7 (Int32.toNatClampNeg ((X.1 this 3) - 1))).bind fun q11 =>
    ((smr X this 1 (some q11)).2 this 0).bind fun q13 =>
    if tk L q13 18 then
    if hin ((X.1 this 3) - 1) (L.2.2 q13) then
    if tk L q5 8 then
    some ((smi (smr (smr X this 1 (some q11)) q13 (Int32.toNatClampNeg ((X.1 this 3) - 1)) (some q5)) this 3 ((X.1 this 3) - 1)).1 this 3, smi (smr (smr X this 1 (some q11)) q13 (Int32.toNatClampNeg ((X.1 this 3) - 1)) (some q5)) this 3 ((X.1 this 3) - 1))
    else none
    else none
    else none
    else none
    else none
  else none
set_option maxRecDepth 100000 in
set_option maxHeartbeats 4000000 in
theorem c_X3_stepBack {l : Launch} {dC : Nat → ClassId} {dI : Nat → Nat → Nat} {cy : Nat → ClassId} {ad : Nat → Nat} {L : hL} {X : hX} {this : Nat} {r : Int32} {X' : hX} (h : f_X3_stepBack L X this = some (r, X')) : hMet l dC dI cy ad L yX3_stepBack wsX3_stepBack ({ frames := 1, cells := 0, slots := 0, locals := 22 } : Room) [.ref (ad this)] X (some (.int r)) X' := by
  unfold f_X3_stepBack at h
  refine hx_enter RX3 (plainFor_of_name (by decide)) rfl rfl (Nat.le_of_ble_eq_true rfl) (fun p e s m args below meth c C hr hnm ls hl => ?_)
  have hl : lv_has ls 3 [(0, .ref (ad this))] := hl
  refine hx_aload_n C dX3_stepBack_0 rfl (lv_at hl 0 rfl) ?_
  obtain ⟨g1, h⟩ := hx_gd h
  refine hx_geti C (ci := 3) (j := 3) g1 uX3_stepBack_3 (by decide) rfl (by decide) rfl (by decide +kernel) rfl dX3_stepBack_1 ?_
  refine hx_iconst (v := 1) C dX3_stepBack_4 (by decide) ?_
  refine hx_isub C dX3_stepBack_5 ?_
  refine hx_istore_n (lv' := [(1, .int ((X.1 this 3) - 1)), (0, .ref (ad this))]) C dX3_stepBack_6 rfl hl (by decide) rfl (fun ls hl => ?_)
  refine hx_iload_n C dX3_stepBack_7 rfl (lv_at hl 0 rfl) ?_
  refine hx_iconst (v := 0) C dX3_stepBack_8 (by decide) ?_
  refine hx_iconst (v := 4) C dX3_stepBack_9 (by decide) ?_
  obtain ⟨r2, e3, h⟩ := hx_bind h
  refine hx_callSN (As := [.int ((X.1 this 3) - 1), .int 0, .int 4]) (rest := []) (n := 3) (host := "TicketScales") C (c_X9_within e3) gX3_stepBack_X9_within_n43 (by decide) (by decide +kernel) (by decide +kernel) (by decide +kernel) ⟨Nat.le_of_ble_eq_true rfl, Nat.le_of_ble_eq_true rfl⟩ rfl rfl rfl ⟨Nat.zero_le _, Nat.zero_le _⟩ hl.1 rfl rfl (Nat.le_of_ble_eq_true rfl) dX3_stepBack_10 ?_
  refine hx_if_ne (tgt := 19) C dX3_stepBack_13 (by decide) (fun c4 => ?_) (fun c4 => ?_)
  · have h := hx_neg c4 h
    refine hx_aload_n C dX3_stepBack_19 rfl (lv_at hl 1 rfl) ?_
    obtain ⟨q5, e6, h⟩ := hx_bind h
    refine hx_getr C (ci := 3) (j := 1) g1 uX3_stepBack_3 (by decide) rfl (by decide) rfl (by decide +kernel) rfl dX3_stepBack_20 e6 ?_
    refine hx_astore_n (lv' := [(2, .ref (ad q5)), (1, .int ((X.1 this 3) - 1)), (0, .ref (ad this))]) C dX3_stepBack_23 rfl hl (by decide) rfl (fun ls hl => ?_)
    refine hx_aload_n C dX3_stepBack_24 rfl (lv_at hl 2 rfl) ?_
    refine hx_aload_n C dX3_stepBack_25 rfl (lv_at hl 2 rfl) ?_
    obtain ⟨q7, e8, h⟩ := hx_bind h
    refine hx_getr C (ci := 3) (j := 0) g1 uX3_stepBack_3 (by decide) rfl (by decide) rfl (by decide +kernel) rfl dX3_stepBack_26 e8 ?_
    refine hx_iload_n C dX3_stepBack_29 rfl (lv_at hl 1 rfl) ?_
    obtain ⟨g9, h⟩ := hx_gd h
    obtain ⟨g10, h⟩ := hx_gd h
    obtain ⟨q11, e12, h⟩ := hx_bind h
    refine hx_aald (t0 := 7) C g9 (by decide) rfl g10 rfl e12 dX3_stepBack_30 ?_
    refine hx_putr C (ci := 3) (j := 1) tyX3 tyX3_ok nmX3 g1 uX3_stepBack_3 (by decide) rfl (by decide) rfl (by decide +kernel) rfl rfl (tyX3_ok 1 (by decide)) dX3_stepBack_31 rfl rfl ?_
    refine hx_aload_n C dX3_stepBack_34 rfl (lv_at hl 2 rfl) ?_
    obtain ⟨q13, e14, h⟩ := hx_bind h
    refine hx_getr C (ci := 3) (j := 0) g1 uX3_stepBack_3 (by decide) rfl (by decide) rfl (by decide +kernel) rfl dX3_stepBack_35 e14 ?_
    refine hx_iload_n C dX3_stepBack_38 rfl (lv_at hl 1 rfl) ?_
    refine hx_aload_n C dX3_stepBack_39 rfl (lv_at hl 0 rfl) ?_
    obtain ⟨g15, h⟩ := hx_gd h
    obtain ⟨g16, h⟩ := hx_gd h
    obtain ⟨g17, h⟩ := hx_gd h
    refine hx_aast (t0 := 7) (n := (Int32.toNatClampNeg ((X.1 this 3) - 1))) C g15 (by decide) rfl g17 (by decide) rfl g16 rfl dX3_stepBack_40 ?_
    refine hx_aload_n C dX3_stepBack_41 rfl (lv_at hl 2 rfl) ?_
    refine hx_iload_n C dX3_stepBack_42 rfl (lv_at hl 1 rfl) ?_
    refine hx_puti C (ci := 3) (j := 3) tyX3 tyX3_ok nmX3 g1 uX3_stepBack_3 (by decide) rfl (by decide) rfl (by decide +kernel) rfl rfl (tyX3_ok 3 (by decide)) dX3_stepBack_43 rfl rfl ?_
    refine hx_aload_n C dX3_stepBack_46 rfl (lv_at hl 2 rfl) ?_
    refine hx_geti C (ci := 3) (j := 3) g1 uX3_stepBack_3 (by decide) rfl (by decide) rfl (by decide +kernel) rfl dX3_stepBack_47 ?_
    obtain ⟨rfl, rfl⟩ := hx_some2 h
    exact hx_iret C hr dX3_stepBack_50
  · have h := hx_pos c4 h
    refine hx_ldc (v := (-100002)) C (by decide +kernel) dX3_stepBack_16 ?_
    obtain ⟨rfl, rfl⟩ := hx_some2 h
    exact hx_iret C hr dX3_stepBack_18
theorem uX5_sellOut_5 : ∀ w ∈ u_ws RX5 TX5 7, w ∈ wsX5_sellOut := by decide +kernel
def f_X5_sellOut_2 (L : hL) : Nat → Nat → Int32 → hX → Option (Int32 × hX)
  | 0, _, _, _ => none
  | n + 1, v0, v1, X =>
    if 999 < v1 then
      some ((-100009), X)
    else
      if tk L v0 5 then
      if (X.1 v0 2) = 0 then
        some (v1, X)
      else
        (f_X5_sell L X v0 1).bind fun r4 =>
        f_X5_sellOut_2 L n v0 (v1 + 1) r4
      else none
set_option maxRecDepth 100000 in
set_option maxHeartbeats 4000000 in
theorem w_X5_sellOut_2 {p : Program} {l : Launch} {e : Env} {s : State} {m : MethodId} {args : Array Value} {below : List Frame} {meth : Method} {c : Code} {dC : Nat → ClassId} {dI : Nat → Nat → Nat} {cy : Nat → ClassId} {ad : Nat → Nat} {L : hL} {r : Int32} {X' : hX} (C : hC p s m args meth c dC dI cy ad L (hA ad L s.heap.size) cX5_sellOut 2 wsX5_sellOut RX5) (hr : meth.sig.returnType = (some .int)) : ∀ (n : Nat) (v0 : Nat) (v1 : Int32) (X : hX) (ls : Array Slot), f_X5_sellOut_2 L n v0 v1 X = some (r, X') → lv_has ls 2 [(0, .ref (ad v0)), (1, .int v1)] → hG p l e (headSpec wsX5_sellOut ({ frames := 3, cells := 0, slots := 0, locals := 65 } : Room)).room s m args below meth c dC dI cy ad L (hA ad L s.heap.size) 0 0 (MQ below (hQ dC dI cy ad L s.heap.size (some (.int r)) X') args s 0 0 (hA ad L s.heap.size)) X 2 ls [] := by
  intro n
  induction n with
  | zero => intro v0 v1 X ls h; cases h
  | succ n ih =>
    intro v0 v1 X ls h hl
    rw [f_X5_sellOut_2] at h
    refine hx_iload_n C dX5_sellOut_2 rfl (lv_at hl 1 rfl) ?_
    refine hx_sipush (v := 999) C dX5_sellOut_3 (by decide) ?_
    refine hx_icmp_gt (tgt := 29) C dX5_sellOut_6 (by decide) (fun c1 => ?_) (fun c1 => ?_)
    · have h := hx_pos c1 h
      refine hx_ldc (v := (-100009)) C (by decide +kernel) dX5_sellOut_29 ?_
      obtain ⟨rfl, rfl⟩ := hx_some2 h
      exact hx_iret C hr dX5_sellOut_31
    · have h := hx_neg c1 h
      refine hx_aload_n C dX5_sellOut_9 rfl (lv_at hl 0 rfl) ?_
      obtain ⟨g2, h⟩ := hx_gd h
      refine hx_geti C (ci := 5) (j := 2) g2 uX5_sellOut_5 (by decide) rfl (by decide) rfl (by decide +kernel) rfl dX5_sellOut_10 ?_
      refine hx_if_ne (tgt := 18) C dX5_sellOut_13 (by decide) (fun c3 => ?_) (fun c3 => ?_)
      · have h := hx_neg c3 h
        refine hx_aload_n C dX5_sellOut_18 rfl (lv_at hl 0 rfl) ?_
        refine hx_iconst (v := 1) C dX5_sellOut_19 (by decide) ?_
        obtain ⟨r4, e5, h⟩ := hx_bind h
        refine hx_callV (As := [.int 1]) (rest := []) (n := 1) (Cn := RX5) C (c_X5_sell e5) gX5_sellOut_X5_sell g2 (by decide) rfl (by decide +kernel) ⟨Nat.le_of_ble_eq_true rfl, Nat.le_of_ble_eq_true rfl⟩ rfl rfl rfl ⟨Nat.zero_le _, Nat.zero_le _⟩ hl.1 rfl rfl (Nat.le_of_ble_eq_true rfl) dX5_sellOut_20 ?_
        refine hx_iinc (v := v1 + 1) (lv' := [(1, .int (v1 + 1)), (0, .ref (ad v0))]) C dX5_sellOut_23 hl (k := 1) rfl rfl (by decide) rfl (fun ls hl => ?_)
        refine hx_goto (tgt := 2) C dX5_sellOut_26 (by decide) ?_
        exact ih v0 (v1 + 1) r4 ls h (lv_sub hl [1, 0] rfl)
      · have h := hx_pos c3 h
        refine hx_iload_n C dX5_sellOut_16 rfl (lv_at hl 1 rfl) ?_
        obtain ⟨rfl, rfl⟩ := hx_some2 h
        exact hx_iret C hr dX5_sellOut_17
def f_X5_sellOut (L : hL) (X : hX) (this : Nat) : Option (Int32 × hX) :=
  f_X5_sellOut_2 L u_fuel this 0 X
set_option maxRecDepth 100000 in
set_option maxHeartbeats 4000000 in
theorem c_X5_sellOut {l : Launch} {dC : Nat → ClassId} {dI : Nat → Nat → Nat} {cy : Nat → ClassId} {ad : Nat → Nat} {L : hL} {X : hX} {this : Nat} {r : Int32} {X' : hX} (h : f_X5_sellOut L X this = some (r, X')) : hMet l dC dI cy ad L yX5_sellOut wsX5_sellOut ({ frames := 3, cells := 0, slots := 0, locals := 65 } : Room) [.ref (ad this)] X (some (.int r)) X' := by
  unfold f_X5_sellOut at h
  refine hx_enter RX5 (plainFor_of_name (by decide)) rfl rfl (Nat.le_of_ble_eq_true rfl) (fun p e s m args below meth c C hr hnm ls hl => ?_)
  have hl : lv_has ls 2 [(0, .ref (ad this))] := hl
  refine hx_iconst (v := 0) C dX5_sellOut_0 (by decide) ?_
  refine hx_istore_n (lv' := [(1, .int 0), (0, .ref (ad this))]) C dX5_sellOut_1 rfl hl (by decide) rfl (fun ls hl => ?_)
  exact w_X5_sellOut_2 C hr u_fuel this 0 X ls h (lv_sub hl [1, 0] rfl)
theorem uX5_part_5 : ∀ w ∈ u_ws RX5 TX5 7, w ∈ wsX5_part := by decide +kernel
def f_X5_part (L : hL) (X : hX) (this : Nat) (a1 : Int32) : Option (Int32) :=
  if a1 = 0 then
    if tk L this 5 then
    some (X.1 this 0)
    else none
  else
  if a1 = 1 then
    if tk L this 5 then
    some (X.1 this 1)
    else none
  else
  if a1 = 2 then
    if tk L this 5 then
    some (X.1 this 2)
    else none
  else
  if a1 = 3 then
    if tk L this 5 then
    some (X.1 this 3)
    else none
  else
  if a1 = 4 then
    if tk L this 5 then
    some (X.1 this 4)
    else none
  else
  if a1 = 5 then
    if tk L this 5 then
    some (X.1 this 5)
    else none
  else
  if a1 = 6 then
    if tk L this 5 then
    some (X.1 this 6)
    else none
  else
  some (-100001)
set_option maxRecDepth 100000 in
set_option maxHeartbeats 4000000 in
theorem c_X5_part {l : Launch} {dC : Nat → ClassId} {dI : Nat → Nat → Nat} {cy : Nat → ClassId} {ad : Nat → Nat} {L : hL} {X : hX} {this : Nat} {a1 : Int32} {r : Int32} (h : f_X5_part L X this a1 = some r) : hMet l dC dI cy ad L yX5_part wsX5_part ({ frames := 0, cells := 0, slots := 0, locals := 0 } : Room) [.ref (ad this), .int a1] X (some (.int r)) X := by
  unfold f_X5_part at h
  refine hx_enter RX5 (plainFor_of_name (by decide)) rfl rfl (Nat.le_of_ble_eq_true rfl) (fun p e s m args below meth c C hr hnm ls hl => ?_)
  have hl : lv_has ls 2 [(0, .ref (ad this)), (1, .int a1)] := hl
  refine hx_iload_n C dX5_part_0 rfl (lv_at hl 1 rfl) ?_
  by_cases c1 : a1 = 0
  · have h := hx_pos c1 h
    have hz : Int32.toInt a1 = 0 := by rw [c1]; rfl
    refine hx_tableIn (tgt := 44) C dX5_part_1 (by rw [hz] <;> decide) (by rw [hz] <;> decide) (off := 43) (by rw [hz] <;> rfl) (by decide) ?_
    refine hx_aload_n C dX5_part_44 rfl (lv_at hl 0 rfl) ?_
    obtain ⟨g2, h⟩ := hx_gd h
    refine hx_geti C (ci := 5) (j := 0) g2 uX5_part_5 (by decide) rfl (by decide) rfl (by decide +kernel) rfl dX5_part_45 ?_
    obtain rfl := hx_some1 h
    exact hx_iret C hr dX5_part_48
  have h := hx_neg c1 h
  have zc1 : Int32.toInt a1 ≠ 0 := fun z => c1 (Int32.toInt_inj.mp (z.trans rfl))
  by_cases c3 : a1 = 1
  · have h := hx_pos c3 h
    have hz : Int32.toInt a1 = 1 := by rw [c3]; rfl
    refine hx_tableIn (tgt := 49) C dX5_part_1 (by rw [hz] <;> decide) (by rw [hz] <;> decide) (off := 48) (by rw [hz] <;> rfl) (by decide) ?_
    refine hx_aload_n C dX5_part_49 rfl (lv_at hl 0 rfl) ?_
    obtain ⟨g4, h⟩ := hx_gd h
    refine hx_geti C (ci := 5) (j := 1) g4 uX5_part_5 (by decide) rfl (by decide) rfl (by decide +kernel) rfl dX5_part_50 ?_
    obtain rfl := hx_some1 h
    exact hx_iret C hr dX5_part_53
  have h := hx_neg c3 h
  have zc3 : Int32.toInt a1 ≠ 1 := fun z => c3 (Int32.toInt_inj.mp (z.trans rfl))
  by_cases c5 : a1 = 2
  · have h := hx_pos c5 h
    have hz : Int32.toInt a1 = 2 := by rw [c5]; rfl
    refine hx_tableIn (tgt := 54) C dX5_part_1 (by rw [hz] <;> decide) (by rw [hz] <;> decide) (off := 53) (by rw [hz] <;> rfl) (by decide) ?_
    refine hx_aload_n C dX5_part_54 rfl (lv_at hl 0 rfl) ?_
    obtain ⟨g6, h⟩ := hx_gd h
    refine hx_geti C (ci := 5) (j := 2) g6 uX5_part_5 (by decide) rfl (by decide) rfl (by decide +kernel) rfl dX5_part_55 ?_
    obtain rfl := hx_some1 h
    exact hx_iret C hr dX5_part_58
  have h := hx_neg c5 h
  have zc5 : Int32.toInt a1 ≠ 2 := fun z => c5 (Int32.toInt_inj.mp (z.trans rfl))
  by_cases c7 : a1 = 3
  · have h := hx_pos c7 h
    have hz : Int32.toInt a1 = 3 := by rw [c7]; rfl
    refine hx_tableIn (tgt := 59) C dX5_part_1 (by rw [hz] <;> decide) (by rw [hz] <;> decide) (off := 58) (by rw [hz] <;> rfl) (by decide) ?_
    refine hx_aload_n C dX5_part_59 rfl (lv_at hl 0 rfl) ?_
    obtain ⟨g8, h⟩ := hx_gd h
    refine hx_geti C (ci := 5) (j := 3) g8 uX5_part_5 (by decide) rfl (by decide) rfl (by decide +kernel) rfl dX5_part_60 ?_
    obtain rfl := hx_some1 h
    exact hx_iret C hr dX5_part_63
  have h := hx_neg c7 h
  have zc7 : Int32.toInt a1 ≠ 3 := fun z => c7 (Int32.toInt_inj.mp (z.trans rfl))
  by_cases c9 : a1 = 4
  · have h := hx_pos c9 h
    have hz : Int32.toInt a1 = 4 := by rw [c9]; rfl
    refine hx_tableIn (tgt := 64) C dX5_part_1 (by rw [hz] <;> decide) (by rw [hz] <;> decide) (off := 63) (by rw [hz] <;> rfl) (by decide) ?_
    refine hx_aload_n C dX5_part_64 rfl (lv_at hl 0 rfl) ?_
    obtain ⟨g10, h⟩ := hx_gd h
    refine hx_geti C (ci := 5) (j := 4) g10 uX5_part_5 (by decide) rfl (by decide) rfl (by decide +kernel) rfl dX5_part_65 ?_
    obtain rfl := hx_some1 h
    exact hx_iret C hr dX5_part_68
  have h := hx_neg c9 h
  have zc9 : Int32.toInt a1 ≠ 4 := fun z => c9 (Int32.toInt_inj.mp (z.trans rfl))
  by_cases c11 : a1 = 5
  · have h := hx_pos c11 h
    have hz : Int32.toInt a1 = 5 := by rw [c11]; rfl
    refine hx_tableIn (tgt := 69) C dX5_part_1 (by rw [hz] <;> decide) (by rw [hz] <;> decide) (off := 68) (by rw [hz] <;> rfl) (by decide) ?_
    refine hx_aload_n C dX5_part_69 rfl (lv_at hl 0 rfl) ?_
    obtain ⟨g12, h⟩ := hx_gd h
    refine hx_geti C (ci := 5) (j := 5) g12 uX5_part_5 (by decide) rfl (by decide) rfl (by decide +kernel) rfl dX5_part_70 ?_
    obtain rfl := hx_some1 h
    exact hx_iret C hr dX5_part_73
  have h := hx_neg c11 h
  have zc11 : Int32.toInt a1 ≠ 5 := fun z => c11 (Int32.toInt_inj.mp (z.trans rfl))
  by_cases c13 : a1 = 6
  · have h := hx_pos c13 h
    have hz : Int32.toInt a1 = 6 := by rw [c13]; rfl
    refine hx_tableIn (tgt := 74) C dX5_part_1 (by rw [hz] <;> decide) (by rw [hz] <;> decide) (off := 73) (by rw [hz] <;> rfl) (by decide) ?_
    refine hx_aload_n C dX5_part_74 rfl (lv_at hl 0 rfl) ?_
    obtain ⟨g14, h⟩ := hx_gd h
    refine hx_geti C (ci := 5) (j := 6) g14 uX5_part_5 (by decide) rfl (by decide) rfl (by decide +kernel) rfl dX5_part_75 ?_
    obtain rfl := hx_some1 h
    exact hx_iret C hr dX5_part_78
  have h := hx_neg c13 h
  have zc13 : Int32.toInt a1 ≠ 6 := fun z => c13 (Int32.toInt_inj.mp (z.trans rfl))
  refine hx_tableOut (tgt := 79) C dX5_part_1 (by omega) (by decide) ?_
  refine hx_ldc (v := (-100001)) C (by decide +kernel) dX5_part_79 ?_
  obtain rfl := hx_some1 h
  exact hx_iret C hr dX5_part_81
theorem uX6_addSign_6 : ∀ w ∈ u_ws RX6 TX6 6, w ∈ wsX6_addSign := by decide +kernel
def f_X6_addSign (L : hL) (X : hX) (this : Nat) (a1 : Int32) : Option (Int32 × hX) :=
  (f_X9_within L X a1 1 255).bind fun r1 =>
  if r1 = 0 then
    some ((-100001), X)
  else
    if tk L this 6 then
    (f_X9_within L X (X.1 this 3) 0 139).bind fun r5 =>
    if r5 = 0 then
      some ((-100003), X)
    else
      (X.2 this 0).bind fun q8 =>
      if tk L q8 11 then
      if hin (X.1 this 3) (L.2.2 q8) then
      some ((smi (smi X q8 (Int32.toNatClampNeg (X.1 this 3)) (vp_nar .char ((Int32.toUInt32 a1 % 65536).toInt32))) this 3 (((smi X q8 (Int32.toNatClampNeg (X.1 this 3)) (vp_nar .char ((Int32.toUInt32 a1 % 65536).toInt32))).1 this 3) + 1)).1 this 3, smi (smi X q8 (Int32.toNatClampNeg (X.1 this 3)) (vp_nar .char ((Int32.toUInt32 a1 % 65536).toInt32))) this 3 (((smi X q8 (Int32.toNatClampNeg (X.1 this 3)) (vp_nar .char ((Int32.toUInt32 a1 % 65536).toInt32))).1 this 3) + 1))
      else none
      else none
    else none
set_option maxRecDepth 100000 in
set_option maxHeartbeats 4000000 in
theorem c_X6_addSign {l : Launch} {dC : Nat → ClassId} {dI : Nat → Nat → Nat} {cy : Nat → ClassId} {ad : Nat → Nat} {L : hL} {X : hX} {this : Nat} {a1 : Int32} {r : Int32} {X' : hX} (h : f_X6_addSign L X this a1 = some (r, X')) : hMet l dC dI cy ad L yX6_addSign wsX6_addSign ({ frames := 1, cells := 0, slots := 0, locals := 22 } : Room) [.ref (ad this), .int a1] X (some (.int r)) X' := by
  unfold f_X6_addSign at h
  refine hx_enter RX6 (plainFor_of_name (by decide)) rfl rfl (Nat.le_of_ble_eq_true rfl) (fun p e s m args below meth c C hr hnm ls hl => ?_)
  have hl : lv_has ls 2 [(0, .ref (ad this)), (1, .int a1)] := hl
  refine hx_iload_n C dX6_addSign_0 rfl (lv_at hl 1 rfl) ?_
  refine hx_iconst (v := 1) C dX6_addSign_1 (by decide) ?_
  refine hx_sipush (v := 255) C dX6_addSign_2 (by decide) ?_
  obtain ⟨r1, e2, h⟩ := hx_bind h
  refine hx_callSN (As := [.int a1, .int 1, .int 255]) (rest := []) (n := 3) (host := "TicketScales") C (c_X9_within e2) gX6_addSign_X9_within_n26 (by decide) (by decide +kernel) (by decide +kernel) (by decide +kernel) ⟨Nat.le_of_ble_eq_true rfl, Nat.le_of_ble_eq_true rfl⟩ rfl rfl rfl ⟨Nat.zero_le _, Nat.zero_le _⟩ hl.1 rfl rfl (Nat.le_of_ble_eq_true rfl) dX6_addSign_5 ?_
  refine hx_if_ne (tgt := 14) C dX6_addSign_8 (by decide) (fun c3 => ?_) (fun c3 => ?_)
  · have h := hx_neg c3 h
    refine hx_aload_n C dX6_addSign_14 rfl (lv_at hl 0 rfl) ?_
    obtain ⟨g4, h⟩ := hx_gd h
    refine hx_geti C (ci := 6) (j := 3) g4 uX6_addSign_6 (by decide) rfl (by decide) rfl (by decide +kernel) rfl dX6_addSign_15 ?_
    refine hx_iconst (v := 0) C dX6_addSign_18 (by decide) ?_
    refine hx_sipush (v := 139) C dX6_addSign_19 (by decide) ?_
    obtain ⟨r5, e6, h⟩ := hx_bind h
    refine hx_callSN (As := [.int (X.1 this 3), .int 0, .int 139]) (rest := []) (n := 3) (host := "TicketScales") C (c_X9_within e6) gX6_addSign_X9_within_n26 (by decide) (by decide +kernel) (by decide +kernel) (by decide +kernel) ⟨Nat.le_of_ble_eq_true rfl, Nat.le_of_ble_eq_true rfl⟩ rfl rfl rfl ⟨Nat.zero_le _, Nat.zero_le _⟩ hl.1 rfl rfl (Nat.le_of_ble_eq_true rfl) dX6_addSign_22 ?_
    refine hx_if_ne (tgt := 31) C dX6_addSign_25 (by decide) (fun c7 => ?_) (fun c7 => ?_)
    · have h := hx_neg c7 h
      refine hx_aload_n C dX6_addSign_31 rfl (lv_at hl 0 rfl) ?_
      obtain ⟨q8, e9, h⟩ := hx_bind h
      refine hx_getr C (ci := 6) (j := 0) g4 uX6_addSign_6 (by decide) rfl (by decide) rfl (by decide +kernel) rfl dX6_addSign_32 e9 ?_
      refine hx_aload_n C dX6_addSign_35 rfl (lv_at hl 0 rfl) ?_
      refine hx_geti C (ci := 6) (j := 3) g4 uX6_addSign_6 (by decide) rfl (by decide) rfl (by decide +kernel) rfl dX6_addSign_36 ?_
      refine hx_iload_n C dX6_addSign_39 rfl (lv_at hl 1 rfl) ?_
      refine hx_i2c C dX6_addSign_40 ?_
      obtain ⟨g10, h⟩ := hx_gd h
      obtain ⟨g11, h⟩ := hx_gd h
      refine hx_cast (n := (Int32.toNatClampNeg (X.1 this 3))) C g10 g11 rfl dX6_addSign_41 ?_
      refine hx_aload_n C dX6_addSign_42 rfl (lv_at hl 0 rfl) ?_
      refine hx_dup C dX6_addSign_43 rfl ?_
      refine hx_geti C (ci := 6) (j := 3) g4 uX6_addSign_6 (by decide) rfl (by decide) rfl (by decide +kernel) rfl dX6_addSign_44 ?_
      refine hx_iconst (v := 1) C dX6_addSign_47 (by decide) ?_
      refine hx_iadd C dX6_addSign_48 ?_
      refine hx_puti C (ci := 6) (j := 3) tyX6 tyX6_ok nmX6 g4 uX6_addSign_6 (by decide) rfl (by decide) rfl (by decide +kernel) rfl rfl (tyX6_ok 3 (by decide)) dX6_addSign_49 rfl rfl ?_
      refine hx_aload_n C dX6_addSign_52 rfl (lv_at hl 0 rfl) ?_
      refine hx_geti C (ci := 6) (j := 3) g4 uX6_addSign_6 (by decide) rfl (by decide) rfl (by decide +kernel) rfl dX6_addSign_53 ?_
      obtain ⟨rfl, rfl⟩ := hx_some2 h
      exact hx_iret C hr dX6_addSign_56
    · have h := hx_pos c7 h
      refine hx_ldc (v := (-100003)) C (by decide +kernel) dX6_addSign_28 ?_
      obtain ⟨rfl, rfl⟩ := hx_some2 h
      exact hx_iret C hr dX6_addSign_30
  · have h := hx_pos c3 h
    refine hx_ldc (v := (-100001)) C (by decide +kernel) dX6_addSign_11 ?_
    obtain ⟨rfl, rfl⟩ := hx_some2 h
    exact hx_iret C hr dX6_addSign_13
theorem uX6_emptyText_6 : ∀ w ∈ u_ws RX6 TX6 6, w ∈ wsX6_emptyText := by decide +kernel
def f_X6_emptyText (L : hL) (X : hX) (this : Nat) : Option (Int32 × hX) :=
  if tk L this 6 then
  some (X.1 this 3, smi X this 3 0)
  else none
set_option maxRecDepth 100000 in
set_option maxHeartbeats 4000000 in
theorem c_X6_emptyText {l : Launch} {dC : Nat → ClassId} {dI : Nat → Nat → Nat} {cy : Nat → ClassId} {ad : Nat → Nat} {L : hL} {X : hX} {this : Nat} {r : Int32} {X' : hX} (h : f_X6_emptyText L X this = some (r, X')) : hMet l dC dI cy ad L yX6_emptyText wsX6_emptyText ({ frames := 0, cells := 0, slots := 0, locals := 0 } : Room) [.ref (ad this)] X (some (.int r)) X' := by
  unfold f_X6_emptyText at h
  refine hx_enter RX6 (plainFor_of_name (by decide)) rfl rfl (Nat.le_of_ble_eq_true rfl) (fun p e s m args below meth c C hr hnm ls hl => ?_)
  have hl : lv_has ls 2 [(0, .ref (ad this))] := hl
  refine hx_aload_n C dX6_emptyText_0 rfl (lv_at hl 0 rfl) ?_
  obtain ⟨g1, h⟩ := hx_gd h
  refine hx_geti C (ci := 6) (j := 3) g1 uX6_emptyText_6 (by decide) rfl (by decide) rfl (by decide +kernel) rfl dX6_emptyText_1 ?_
  refine hx_istore_n (lv' := [(1, .int (X.1 this 3)), (0, .ref (ad this))]) C dX6_emptyText_4 rfl hl (by decide) rfl (fun ls hl => ?_)
  refine hx_aload_n C dX6_emptyText_5 rfl (lv_at hl 1 rfl) ?_
  refine hx_iconst (v := 0) C dX6_emptyText_6 (by decide) ?_
  refine hx_puti C (ci := 6) (j := 3) tyX6 tyX6_ok nmX6 g1 uX6_emptyText_6 (by decide) rfl (by decide) rfl (by decide +kernel) rfl rfl (tyX6_ok 3 (by decide)) dX6_emptyText_7 rfl rfl ?_
  refine hx_iload_n C dX6_emptyText_10 rfl (lv_at hl 0 rfl) ?_
  obtain ⟨rfl, rfl⟩ := hx_some2 h
  exact hx_iret C hr dX6_emptyText_11
theorem uX6_signAt_6 : ∀ w ∈ u_ws RX6 TX6 6, w ∈ wsX6_signAt := by decide +kernel
def f_X6_signAt (L : hL) (X : hX) (this : Nat) (a1 : Int32) : Option (Int32) :=
  if tk L this 6 then
  if (X.1 this 3) ≤ a1 then
    some 0
  else
    (f_X9_within L X a1 0 139).bind fun r3 =>
    if r3 = 0 then
      some 0
    else
      (X.2 this 0).bind fun q6 =>
      if tk L q6 11 then
      if hin a1 (L.2.2 q6) then
      if 0 ≤ (X.1 q6 (Int32.toNatClampNeg a1)) ∧ (X.1 q6 (Int32.toNatClampNeg a1)) < 65536 then
      some (X.1 q6 (Int32.toNatClampNeg a1))
      else none
      else none
      else none
  else none
set_option maxRecDepth 100000 in
set_option maxHeartbeats 4000000 in
theorem c_X6_signAt {l : Launch} {dC : Nat → ClassId} {dI : Nat → Nat → Nat} {cy : Nat → ClassId} {ad : Nat → Nat} {L : hL} {X : hX} {this : Nat} {a1 : Int32} {r : Int32} (h : f_X6_signAt L X this a1 = some r) : hMet l dC dI cy ad L yX6_signAt wsX6_signAt ({ frames := 1, cells := 0, slots := 0, locals := 22 } : Room) [.ref (ad this), .int a1] X (some (.int r)) X := by
  unfold f_X6_signAt at h
  refine hx_enter RX6 (plainFor_of_name (by decide)) rfl rfl (Nat.le_of_ble_eq_true rfl) (fun p e s m args below meth c C hr hnm ls hl => ?_)
  have hl : lv_has ls 2 [(0, .ref (ad this)), (1, .int a1)] := hl
  refine hx_iload_n C dX6_signAt_0 rfl (lv_at hl 1 rfl) ?_
  refine hx_aload_n C dX6_signAt_1 rfl (lv_at hl 0 rfl) ?_
  obtain ⟨g1, h⟩ := hx_gd h
  refine hx_geti C (ci := 6) (j := 3) g1 uX6_signAt_6 (by decide) rfl (by decide) rfl (by decide +kernel) rfl dX6_signAt_2 ?_
  refine hx_icmp_ge (tgt := 19) C dX6_signAt_5 (by decide) (fun c2 => ?_) (fun c2 => ?_)
  · have h := hx_pos c2 h
    refine hx_iconst (v := 0) C dX6_signAt_19 (by decide) ?_
    obtain rfl := hx_some1 h
    exact hx_zret C hr rfl dX6_signAt_20
  · have h := hx_neg c2 h
    refine hx_iload_n C dX6_signAt_8 rfl (lv_at hl 1 rfl) ?_
    refine hx_iconst (v := 0) C dX6_signAt_9 (by decide) ?_
    refine hx_sipush (v := 139) C dX6_signAt_10 (by decide) ?_
    obtain ⟨r3, e4, h⟩ := hx_bind h
    refine hx_callSN (As := [.int a1, .int 0, .int 139]) (rest := []) (n := 3) (host := "TicketScales") C (c_X9_within e4) gX6_signAt_X9_within_n26 (by decide) (by decide +kernel) (by decide +kernel) (by decide +kernel) ⟨Nat.le_of_ble_eq_true rfl, Nat.le_of_ble_eq_true rfl⟩ rfl rfl rfl ⟨Nat.zero_le _, Nat.zero_le _⟩ hl.1 rfl rfl (Nat.le_of_ble_eq_true rfl) dX6_signAt_13 ?_
    refine hx_if_ne (tgt := 21) C dX6_signAt_16 (by decide) (fun c5 => ?_) (fun c5 => ?_)
    · have h := hx_neg c5 h
      refine hx_aload_n C dX6_signAt_21 rfl (lv_at hl 0 rfl) ?_
      obtain ⟨q6, e7, h⟩ := hx_bind h
      refine hx_getr C (ci := 6) (j := 0) g1 uX6_signAt_6 (by decide) rfl (by decide) rfl (by decide +kernel) rfl dX6_signAt_22 e7 ?_
      refine hx_iload_n C dX6_signAt_25 rfl (lv_at hl 1 rfl) ?_
      obtain ⟨g8, h⟩ := hx_gd h
      obtain ⟨g9, h⟩ := hx_gd h
      refine hx_cald (n := (Int32.toNatClampNeg a1)) C g8 g9 rfl dX6_signAt_26 ?_
      obtain ⟨g10, h⟩ := hx_gd h
      obtain rfl := hx_some1 h
      exact hx_zret C hr (hx_nc g10) dX6_signAt_27
    · have h := hx_pos c5 h
      refine hx_iconst (v := 0) C dX6_signAt_19 (by decide) ?_
      obtain rfl := hx_some1 h
      exact hx_zret C hr rfl dX6_signAt_20
def f_X6_isLetter (L : hL) (X : hX) (a1 : Int32) : Option (Int32) :=
  if a1 < 97 then
    some 0
  else
    if 122 < a1 then
      some 0
    else
      some 1
set_option maxRecDepth 100000 in
set_option maxHeartbeats 4000000 in
theorem c_X6_isLetter {l : Launch} {dC : Nat → ClassId} {dI : Nat → Nat → Nat} {cy : Nat → ClassId} {ad : Nat → Nat} {L : hL} {X : hX} {a1 : Int32} {r : Int32} (h : f_X6_isLetter L X a1 = some r) : hMet l dC dI cy ad L yX6_isLetter wsX6_isLetter ({ frames := 0, cells := 0, slots := 0, locals := 0 } : Room) [.int a1] X (some (.int r)) X := by
  unfold f_X6_isLetter at h
  refine hx_enter RX6 (plainFor_of_name (by decide)) rfl rfl (Nat.le_of_ble_eq_true rfl) (fun p e s m args below meth c C hr hnm ls hl => ?_)
  have hl : lv_has ls 1 [(0, .int a1)] := hl
  refine hx_iload_n C dX6_isLetter_0 rfl (lv_at hl 0 rfl) ?_
  refine hx_bipush (v := 97) C dX6_isLetter_1 (by decide) ?_
  refine hx_icmp_lt (tgt := 16) C dX6_isLetter_3 (by decide) (fun c1 => ?_) (fun c1 => ?_)
  · have h := hx_pos c1 h
    refine hx_iconst (v := 0) C dX6_isLetter_16 (by decide) ?_
    obtain rfl := hx_some1 h
    exact hx_zret C hr rfl dX6_isLetter_17
  · have h := hx_neg c1 h
    refine hx_iload_n C dX6_isLetter_6 rfl (lv_at hl 0 rfl) ?_
    refine hx_bipush (v := 122) C dX6_isLetter_7 (by decide) ?_
    refine hx_icmp_gt (tgt := 16) C dX6_isLetter_9 (by decide) (fun c2 => ?_) (fun c2 => ?_)
    · have h := hx_pos c2 h
      refine hx_iconst (v := 0) C dX6_isLetter_16 (by decide) ?_
      obtain rfl := hx_some1 h
      exact hx_zret C hr rfl dX6_isLetter_17
    · have h := hx_neg c2 h
      refine hx_iconst (v := 1) C dX6_isLetter_12 (by decide) ?_
      refine hx_goto (tgt := 17) C dX6_isLetter_13 (by decide) ?_
      obtain rfl := hx_some1 h
      exact hx_zret C hr rfl dX6_isLetter_17
def f_X6_isDigit (L : hL) (X : hX) (a1 : Int32) : Option (Int32) :=
  if a1 < 48 then
    some 0
  else
    if 57 < a1 then
      some 0
    else
      some 1
set_option maxRecDepth 100000 in
set_option maxHeartbeats 4000000 in
theorem c_X6_isDigit {l : Launch} {dC : Nat → ClassId} {dI : Nat → Nat → Nat} {cy : Nat → ClassId} {ad : Nat → Nat} {L : hL} {X : hX} {a1 : Int32} {r : Int32} (h : f_X6_isDigit L X a1 = some r) : hMet l dC dI cy ad L yX6_isDigit wsX6_isDigit ({ frames := 0, cells := 0, slots := 0, locals := 0 } : Room) [.int a1] X (some (.int r)) X := by
  unfold f_X6_isDigit at h
  refine hx_enter RX6 (plainFor_of_name (by decide)) rfl rfl (Nat.le_of_ble_eq_true rfl) (fun p e s m args below meth c C hr hnm ls hl => ?_)
  have hl : lv_has ls 1 [(0, .int a1)] := hl
  refine hx_iload_n C dX6_isDigit_0 rfl (lv_at hl 0 rfl) ?_
  refine hx_bipush (v := 48) C dX6_isDigit_1 (by decide) ?_
  refine hx_icmp_lt (tgt := 16) C dX6_isDigit_3 (by decide) (fun c1 => ?_) (fun c1 => ?_)
  · have h := hx_pos c1 h
    refine hx_iconst (v := 0) C dX6_isDigit_16 (by decide) ?_
    obtain rfl := hx_some1 h
    exact hx_zret C hr rfl dX6_isDigit_17
  · have h := hx_neg c1 h
    refine hx_iload_n C dX6_isDigit_6 rfl (lv_at hl 0 rfl) ?_
    refine hx_bipush (v := 57) C dX6_isDigit_7 (by decide) ?_
    refine hx_icmp_gt (tgt := 16) C dX6_isDigit_9 (by decide) (fun c2 => ?_) (fun c2 => ?_)
    · have h := hx_pos c2 h
      refine hx_iconst (v := 0) C dX6_isDigit_16 (by decide) ?_
      obtain rfl := hx_some1 h
      exact hx_zret C hr rfl dX6_isDigit_17
    · have h := hx_neg c2 h
      refine hx_iconst (v := 1) C dX6_isDigit_12 (by decide) ?_
      refine hx_goto (tgt := 17) C dX6_isDigit_13 (by decide) ?_
      obtain rfl := hx_some1 h
      exact hx_zret C hr rfl dX6_isDigit_17
theorem uX6_readToken_6 : ∀ w ∈ u_ws RX6 TX6 6, w ∈ wsX6_readToken := by decide +kernel
def f_X6_readToken_67 (L : hL) : Nat → Nat → hX → Option (hX)
  | 0, _, _ => none
  | n + 1, v0, X =>
    if tk L v0 6 then
    if (X.1 v0 3) ≤ (X.1 v0 5) then
      some X
    else
      (f_X6_signAt L X v0 (X.1 v0 5)).bind fun r3 =>
      (f_X6_isLetter L X r3).bind fun r5 =>
      if r5 = 0 then
        some X
      else
        f_X6_readToken_67 L n v0 (smi X v0 5 ((X.1 v0 5) + 1))
    else none
set_option maxRecDepth 100000 in
set_option maxHeartbeats 4000000 in
theorem w_X6_readToken_67 {p : Program} {l : Launch} {e : Env} {s : State} {m : MethodId} {args : Array Value} {below : List Frame} {meth : Method} {c : Code} {dC : Nat → ClassId} {dI : Nat → Nat → Nat} {cy : Nat → ClassId} {ad : Nat → Nat} {L : hL} {X' : hX} (C : hC p s m args meth c dC dI cy ad L (hA ad L s.heap.size) cX6_readToken 1 wsX6_readToken RX6) (hr : meth.sig.returnType = none) : ∀ (n : Nat) (v0 : Nat) (X : hX) (ls : Array Slot), f_X6_readToken_67 L n v0 X = some X' → lv_has ls 1 [(0, .ref (ad v0))] → hG p l e (headSpec wsX6_readToken ({ frames := 2, cells := 0, slots := 0, locals := 43 } : Room)).room s m args below meth c dC dI cy ad L (hA ad L s.heap.size) 0 0 (MQ below (hQ dC dI cy ad L s.heap.size none X') args s 0 0 (hA ad L s.heap.size)) X 67 ls [] := by
  intro n
  induction n with
  | zero => intro v0 X ls h; cases h
  | succ n ih =>
    intro v0 X ls h hl
    rw [f_X6_readToken_67] at h
    refine hx_aload_n C dX6_readToken_67 rfl (lv_at hl 0 rfl) ?_
    obtain ⟨g1, h⟩ := hx_gd h
    refine hx_geti C (ci := 6) (j := 5) g1 uX6_readToken_6 (by decide) rfl (by decide) rfl (by decide +kernel) rfl dX6_readToken_68 ?_
    refine hx_aload_n C dX6_readToken_71 rfl (lv_at hl 0 rfl) ?_
    refine hx_geti C (ci := 6) (j := 3) g1 uX6_readToken_6 (by decide) rfl (by decide) rfl (by decide +kernel) rfl dX6_readToken_72 ?_
    refine hx_icmp_ge (tgt := 178) C dX6_readToken_75 (by decide) (fun c2 => ?_) (fun c2 => ?_)
    · have h := hx_pos c2 h
      obtain rfl := hx_some1 h
      exact hx_vret C hr dX6_readToken_178
    · have h := hx_neg c2 h
      refine hx_aload_n C dX6_readToken_78 rfl (lv_at hl 0 rfl) ?_
      refine hx_aload_n C dX6_readToken_79 rfl (lv_at hl 0 rfl) ?_
      refine hx_geti C (ci := 6) (j := 5) g1 uX6_readToken_6 (by decide) rfl (by decide) rfl (by decide +kernel) rfl dX6_readToken_80 ?_
      obtain ⟨r3, e4, h⟩ := hx_bind h
      refine hx_callV (As := [.int (X.1 v0 5)]) (rest := []) (n := 1) (Cn := RX6) C (c_X6_signAt e4) gX6_readToken_X6_signAt g1 (by decide) rfl (by decide +kernel) ⟨Nat.le_of_ble_eq_true rfl, Nat.le_of_ble_eq_true rfl⟩ rfl rfl rfl ⟨Nat.zero_le _, Nat.zero_le _⟩ hl.1 rfl rfl (Nat.le_of_ble_eq_true rfl) dX6_readToken_83 ?_
      obtain ⟨r5, e6, h⟩ := hx_bind h
      refine hx_callS (As := [.int r3]) (rest := []) (n := 1) C (c_X6_isLetter e6) gX6_readToken_X6_isLetter (by decide +kernel) ⟨Nat.le_of_ble_eq_true rfl, Nat.le_of_ble_eq_true rfl⟩ rfl rfl rfl ⟨Nat.zero_le _, Nat.zero_le _⟩ hl.1 rfl rfl (Nat.le_of_ble_eq_true rfl) dX6_readToken_86 ?_
      refine hx_if_eq (tgt := 178) C dX6_readToken_89 (by decide) (fun c7 => ?_) (fun c7 => ?_)
      · have h := hx_pos c7 h
        obtain rfl := hx_some1 h
        exact hx_vret C hr dX6_readToken_178
      · have h := hx_neg c7 h
        refine hx_aload_n C dX6_readToken_92 rfl (lv_at hl 0 rfl) ?_
        refine hx_dup C dX6_readToken_93 rfl ?_
        refine hx_geti C (ci := 6) (j := 5) g1 uX6_readToken_6 (by decide) rfl (by decide) rfl (by decide +kernel) rfl dX6_readToken_94 ?_
        refine hx_iconst (v := 1) C dX6_readToken_97 (by decide) ?_
        refine hx_iadd C dX6_readToken_98 ?_
        refine hx_puti C (ci := 6) (j := 5) tyX6 tyX6_ok nmX6 g1 uX6_readToken_6 (by decide) rfl (by decide) rfl (by decide +kernel) rfl rfl (tyX6_ok 5 (by decide)) dX6_readToken_99 rfl rfl ?_
        refine hx_goto (tgt := 67) C dX6_readToken_102 (by decide) ?_
        exact ih v0 (smi X v0 5 ((X.1 v0 5) + 1)) ls h (lv_sub hl [0] rfl)
def f_X6_readToken_119 (L : hL) : Nat → Nat → hX → Option (hX)
  | 0, _, _ => none
  | n + 1, v0, X =>
    if tk L v0 6 then
    if (X.1 v0 3) ≤ (X.1 v0 5) then
      some X
    else
      (f_X6_signAt L X v0 (X.1 v0 5)).bind fun r10 =>
      (f_X6_isDigit L X r10).bind fun r12 =>
      if r12 = 0 then
        some X
      else
        f_X6_readToken_119 L n v0 (smi X v0 5 ((X.1 v0 5) + 1))
    else none
set_option maxRecDepth 100000 in
set_option maxHeartbeats 4000000 in
theorem w_X6_readToken_119 {p : Program} {l : Launch} {e : Env} {s : State} {m : MethodId} {args : Array Value} {below : List Frame} {meth : Method} {c : Code} {dC : Nat → ClassId} {dI : Nat → Nat → Nat} {cy : Nat → ClassId} {ad : Nat → Nat} {L : hL} {X' : hX} (C : hC p s m args meth c dC dI cy ad L (hA ad L s.heap.size) cX6_readToken 1 wsX6_readToken RX6) (hr : meth.sig.returnType = none) : ∀ (n : Nat) (v0 : Nat) (X : hX) (ls : Array Slot), f_X6_readToken_119 L n v0 X = some X' → lv_has ls 1 [(0, .ref (ad v0))] → hG p l e (headSpec wsX6_readToken ({ frames := 2, cells := 0, slots := 0, locals := 43 } : Room)).room s m args below meth c dC dI cy ad L (hA ad L s.heap.size) 0 0 (MQ below (hQ dC dI cy ad L s.heap.size none X') args s 0 0 (hA ad L s.heap.size)) X 119 ls [] := by
  intro n
  induction n with
  | zero => intro v0 X ls h; cases h
  | succ n ih =>
    intro v0 X ls h hl
    rw [f_X6_readToken_119] at h
    refine hx_aload_n C dX6_readToken_119 rfl (lv_at hl 0 rfl) ?_
    obtain ⟨g8, h⟩ := hx_gd h
    refine hx_geti C (ci := 6) (j := 5) g8 uX6_readToken_6 (by decide) rfl (by decide) rfl (by decide +kernel) rfl dX6_readToken_120 ?_
    refine hx_aload_n C dX6_readToken_123 rfl (lv_at hl 0 rfl) ?_
    refine hx_geti C (ci := 6) (j := 3) g8 uX6_readToken_6 (by decide) rfl (by decide) rfl (by decide +kernel) rfl dX6_readToken_124 ?_
    refine hx_icmp_ge (tgt := 178) C dX6_readToken_127 (by decide) (fun c9 => ?_) (fun c9 => ?_)
    · have h := hx_pos c9 h
      obtain rfl := hx_some1 h
      exact hx_vret C hr dX6_readToken_178
    · have h := hx_neg c9 h
      refine hx_aload_n C dX6_readToken_130 rfl (lv_at hl 0 rfl) ?_
      refine hx_aload_n C dX6_readToken_131 rfl (lv_at hl 0 rfl) ?_
      refine hx_geti C (ci := 6) (j := 5) g8 uX6_readToken_6 (by decide) rfl (by decide) rfl (by decide +kernel) rfl dX6_readToken_132 ?_
      obtain ⟨r10, e11, h⟩ := hx_bind h
      refine hx_callV (As := [.int (X.1 v0 5)]) (rest := []) (n := 1) (Cn := RX6) C (c_X6_signAt e11) gX6_readToken_X6_signAt g8 (by decide) rfl (by decide +kernel) ⟨Nat.le_of_ble_eq_true rfl, Nat.le_of_ble_eq_true rfl⟩ rfl rfl rfl ⟨Nat.zero_le _, Nat.zero_le _⟩ hl.1 rfl rfl (Nat.le_of_ble_eq_true rfl) dX6_readToken_135 ?_
      obtain ⟨r12, e13, h⟩ := hx_bind h
      refine hx_callS (As := [.int r10]) (rest := []) (n := 1) C (c_X6_isDigit e13) gX6_readToken_X6_isDigit (by decide +kernel) ⟨Nat.le_of_ble_eq_true rfl, Nat.le_of_ble_eq_true rfl⟩ rfl rfl rfl ⟨Nat.zero_le _, Nat.zero_le _⟩ hl.1 rfl rfl (Nat.le_of_ble_eq_true rfl) dX6_readToken_138 ?_
      refine hx_if_eq (tgt := 178) C dX6_readToken_141 (by decide) (fun c14 => ?_) (fun c14 => ?_)
      · have h := hx_pos c14 h
        obtain rfl := hx_some1 h
        exact hx_vret C hr dX6_readToken_178
      · have h := hx_neg c14 h
        refine hx_aload_n C dX6_readToken_144 rfl (lv_at hl 0 rfl) ?_
        refine hx_dup C dX6_readToken_145 rfl ?_
        refine hx_geti C (ci := 6) (j := 5) g8 uX6_readToken_6 (by decide) rfl (by decide) rfl (by decide +kernel) rfl dX6_readToken_146 ?_
        refine hx_iconst (v := 1) C dX6_readToken_149 (by decide) ?_
        refine hx_iadd C dX6_readToken_150 ?_
        refine hx_puti C (ci := 6) (j := 5) tyX6 tyX6_ok nmX6 g8 uX6_readToken_6 (by decide) rfl (by decide) rfl (by decide +kernel) rfl rfl (tyX6_ok 5 (by decide)) dX6_readToken_151 rfl rfl ?_
        refine hx_goto (tgt := 119) C dX6_readToken_154 (by decide) ?_
        exact ih v0 (smi X v0 5 ((X.1 v0 5) + 1)) ls h (lv_sub hl [0] rfl)
def f_X6_readToken_45 (L : hL) (v0 : Nat) (X : hX) : Option (hX) :=
  if tk L v0 6 then
  (f_X6_signAt L (smi X v0 5 (X.1 v0 4)) v0 ((smi X v0 5 (X.1 v0 4)).1 v0 4)).bind fun r16 =>
  (f_X6_isLetter L (smi X v0 5 (X.1 v0 4)) r16).bind fun r18 =>
  if r18 = 0 then
    (f_X6_signAt L (smi X v0 5 (X.1 v0 4)) v0 ((smi X v0 5 (X.1 v0 4)).1 v0 4)).bind fun r21 =>
    (f_X6_isDigit L (smi X v0 5 (X.1 v0 4)) r21).bind fun r23 =>
    if r23 = 0 then
      if ((smi X v0 5 (X.1 v0 4)).1 v0 3) ≤ ((smi X v0 5 (X.1 v0 4)).1 v0 4) then
        some (smi X v0 5 (X.1 v0 4))
      else
        some (smi (smi X v0 5 (X.1 v0 4)) v0 5 (((smi X v0 5 (X.1 v0 4)).1 v0 5) + 1))
    else
      f_X6_readToken_119 L u_fuel v0 (smi X v0 5 (X.1 v0 4))
  else
    f_X6_readToken_67 L u_fuel v0 (smi X v0 5 (X.1 v0 4))
  else none
set_option maxRecDepth 100000 in
set_option maxHeartbeats 4000000 in
theorem w_X6_readToken_45 {p : Program} {l : Launch} {e : Env} {s : State} {m : MethodId} {args : Array Value} {below : List Frame} {meth : Method} {c : Code} {dC : Nat → ClassId} {dI : Nat → Nat → Nat} {cy : Nat → ClassId} {ad : Nat → Nat} {L : hL} {X' : hX} (C : hC p s m args meth c dC dI cy ad L (hA ad L s.heap.size) cX6_readToken 1 wsX6_readToken RX6) (hr : meth.sig.returnType = none) : ∀ (v0 : Nat) (X : hX) (ls : Array Slot), f_X6_readToken_45 L v0 X = some X' → lv_has ls 1 [(0, .ref (ad v0))] → hG p l e (headSpec wsX6_readToken ({ frames := 2, cells := 0, slots := 0, locals := 43 } : Room)).room s m args below meth c dC dI cy ad L (hA ad L s.heap.size) 0 0 (MQ below (hQ dC dI cy ad L s.heap.size none X') args s 0 0 (hA ad L s.heap.size)) X 45 ls [] := by
  intro v0 X ls h hl
  unfold f_X6_readToken_45 at h
  refine hx_aload_n C dX6_readToken_45 rfl (lv_at hl 0 rfl) ?_
  refine hx_aload_n C dX6_readToken_46 rfl (lv_at hl 0 rfl) ?_
  obtain ⟨g15, h⟩ := hx_gd h
  refine hx_geti C (ci := 6) (j := 4) g15 uX6_readToken_6 (by decide) rfl (by decide) rfl (by decide +kernel) rfl dX6_readToken_47 ?_
  refine hx_puti C (ci := 6) (j := 5) tyX6 tyX6_ok nmX6 g15 uX6_readToken_6 (by decide) rfl (by decide) rfl (by decide +kernel) rfl rfl (tyX6_ok 5 (by decide)) dX6_readToken_50 rfl rfl ?_
  refine hx_aload_n C dX6_readToken_53 rfl (lv_at hl 0 rfl) ?_
  refine hx_aload_n C dX6_readToken_54 rfl (lv_at hl 0 rfl) ?_
  refine hx_geti C (ci := 6) (j := 4) g15 uX6_readToken_6 (by decide) rfl (by decide) rfl (by decide +kernel) rfl dX6_readToken_55 ?_
  obtain ⟨r16, e17, h⟩ := hx_bind h
  refine hx_callV (As := [.int ((smi X v0 5 (X.1 v0 4)).1 v0 4)]) (rest := []) (n := 1) (Cn := RX6) C (c_X6_signAt e17) gX6_readToken_X6_signAt g15 (by decide) rfl (by decide +kernel) ⟨Nat.le_of_ble_eq_true rfl, Nat.le_of_ble_eq_true rfl⟩ rfl rfl rfl ⟨Nat.zero_le _, Nat.zero_le _⟩ hl.1 rfl rfl (Nat.le_of_ble_eq_true rfl) dX6_readToken_58 ?_
  obtain ⟨r18, e19, h⟩ := hx_bind h
  refine hx_callS (As := [.int r16]) (rest := []) (n := 1) C (c_X6_isLetter e19) gX6_readToken_X6_isLetter (by decide +kernel) ⟨Nat.le_of_ble_eq_true rfl, Nat.le_of_ble_eq_true rfl⟩ rfl rfl rfl ⟨Nat.zero_le _, Nat.zero_le _⟩ hl.1 rfl rfl (Nat.le_of_ble_eq_true rfl) dX6_readToken_61 ?_
  refine hx_if_eq (tgt := 105) C dX6_readToken_64 (by decide) (fun c20 => ?_) (fun c20 => ?_)
  · have h := hx_pos c20 h
    refine hx_aload_n C dX6_readToken_105 rfl (lv_at hl 0 rfl) ?_
    refine hx_aload_n C dX6_readToken_106 rfl (lv_at hl 0 rfl) ?_
    refine hx_geti C (ci := 6) (j := 4) g15 uX6_readToken_6 (by decide) rfl (by decide) rfl (by decide +kernel) rfl dX6_readToken_107 ?_
    obtain ⟨r21, e22, h⟩ := hx_bind h
    refine hx_callV (As := [.int ((smi X v0 5 (X.1 v0 4)).1 v0 4)]) (rest := []) (n := 1) (Cn := RX6) C (c_X6_signAt e22) gX6_readToken_X6_signAt g15 (by decide) rfl (by decide +kernel) ⟨Nat.le_of_ble_eq_true rfl, Nat.le_of_ble_eq_true rfl⟩ rfl rfl rfl ⟨Nat.zero_le _, Nat.zero_le _⟩ hl.1 rfl rfl (Nat.le_of_ble_eq_true rfl) dX6_readToken_110 ?_
    obtain ⟨r23, e24, h⟩ := hx_bind h
    refine hx_callS (As := [.int r21]) (rest := []) (n := 1) C (c_X6_isDigit e24) gX6_readToken_X6_isDigit (by decide +kernel) ⟨Nat.le_of_ble_eq_true rfl, Nat.le_of_ble_eq_true rfl⟩ rfl rfl rfl ⟨Nat.zero_le _, Nat.zero_le _⟩ hl.1 rfl rfl (Nat.le_of_ble_eq_true rfl) dX6_readToken_113 ?_
    refine hx_if_eq (tgt := 157) C dX6_readToken_116 (by decide) (fun c25 => ?_) (fun c25 => ?_)
    · have h := hx_pos c25 h
      refine hx_aload_n C dX6_readToken_157 rfl (lv_at hl 0 rfl) ?_
      refine hx_geti C (ci := 6) (j := 4) g15 uX6_readToken_6 (by decide) rfl (by decide) rfl (by decide +kernel) rfl dX6_readToken_158 ?_
      refine hx_aload_n C dX6_readToken_161 rfl (lv_at hl 0 rfl) ?_
      refine hx_geti C (ci := 6) (j := 3) g15 uX6_readToken_6 (by decide) rfl (by decide) rfl (by decide +kernel) rfl dX6_readToken_162 ?_
      refine hx_icmp_ge (tgt := 178) C dX6_readToken_165 (by decide) (fun c26 => ?_) (fun c26 => ?_)
      · have h := hx_pos c26 h
        obtain rfl := hx_some1 h
        exact hx_vret C hr dX6_readToken_178
      · have h := hx_neg c26 h
        refine hx_aload_n C dX6_readToken_168 rfl (lv_at hl 0 rfl) ?_
        refine hx_dup C dX6_readToken_169 rfl ?_
        refine hx_geti C (ci := 6) (j := 5) g15 uX6_readToken_6 (by decide) rfl (by decide) rfl (by decide +kernel) rfl dX6_readToken_170 ?_
        refine hx_iconst (v := 1) C dX6_readToken_173 (by decide) ?_
        refine hx_iadd C dX6_readToken_174 ?_
        refine hx_puti C (ci := 6) (j := 5) tyX6 tyX6_ok nmX6 g15 uX6_readToken_6 (by decide) rfl (by decide) rfl (by decide +kernel) rfl rfl (tyX6_ok 5 (by decide)) dX6_readToken_175 rfl rfl ?_
        obtain rfl := hx_some1 h
        exact hx_vret C hr dX6_readToken_178
    · have h := hx_neg c25 h
      exact w_X6_readToken_119 C hr u_fuel v0 (smi X v0 5 (X.1 v0 4)) ls h (lv_sub hl [0] rfl)
  · have h := hx_neg c20 h
    exact w_X6_readToken_67 C hr u_fuel v0 (smi X v0 5 (X.1 v0 4)) ls h (lv_sub hl [0] rfl)
def f_X6_readToken_8 (L : hL) : Nat → Nat → hX → Option (hX)
  | 0, _, _ => none
  | n + 1, v0, X =>
    if tk L v0 6 then
    if (X.1 v0 3) ≤ (X.1 v0 4) then
      f_X6_readToken_45 L v0 X
    else
      (f_X6_signAt L X v0 (X.1 v0 4)).bind fun r29 =>
      if r29 = 32 then
        f_X6_readToken_8 L n v0 (smi X v0 4 ((X.1 v0 4) + 1))
      else
        f_X6_readToken_45 L v0 X
    else none
set_option maxRecDepth 100000 in
set_option maxHeartbeats 4000000 in
theorem w_X6_readToken_8 {p : Program} {l : Launch} {e : Env} {s : State} {m : MethodId} {args : Array Value} {below : List Frame} {meth : Method} {c : Code} {dC : Nat → ClassId} {dI : Nat → Nat → Nat} {cy : Nat → ClassId} {ad : Nat → Nat} {L : hL} {X' : hX} (C : hC p s m args meth c dC dI cy ad L (hA ad L s.heap.size) cX6_readToken 1 wsX6_readToken RX6) (hr : meth.sig.returnType = none) : ∀ (n : Nat) (v0 : Nat) (X : hX) (ls : Array Slot), f_X6_readToken_8 L n v0 X = some X' → lv_has ls 1 [(0, .ref (ad v0))] → hG p l e (headSpec wsX6_readToken ({ frames := 2, cells := 0, slots := 0, locals := 43 } : Room)).room s m args below meth c dC dI cy ad L (hA ad L s.heap.size) 0 0 (MQ below (hQ dC dI cy ad L s.heap.size none X') args s 0 0 (hA ad L s.heap.size)) X 8 ls [] := by
  intro n
  induction n with
  | zero => intro v0 X ls h; cases h
  | succ n ih =>
    intro v0 X ls h hl
    rw [f_X6_readToken_8] at h
    refine hx_aload_n C dX6_readToken_8 rfl (lv_at hl 0 rfl) ?_
    obtain ⟨g27, h⟩ := hx_gd h
    refine hx_geti C (ci := 6) (j := 4) g27 uX6_readToken_6 (by decide) rfl (by decide) rfl (by decide +kernel) rfl dX6_readToken_9 ?_
    refine hx_aload_n C dX6_readToken_12 rfl (lv_at hl 0 rfl) ?_
    refine hx_geti C (ci := 6) (j := 3) g27 uX6_readToken_6 (by decide) rfl (by decide) rfl (by decide +kernel) rfl dX6_readToken_13 ?_
    refine hx_icmp_ge (tgt := 45) C dX6_readToken_16 (by decide) (fun c28 => ?_) (fun c28 => ?_)
    · have h := hx_pos c28 h
      exact w_X6_readToken_45 C hr v0 X ls h (lv_sub hl [0] rfl)
    · have h := hx_neg c28 h
      refine hx_aload_n C dX6_readToken_19 rfl (lv_at hl 0 rfl) ?_
      refine hx_aload_n C dX6_readToken_20 rfl (lv_at hl 0 rfl) ?_
      refine hx_geti C (ci := 6) (j := 4) g27 uX6_readToken_6 (by decide) rfl (by decide) rfl (by decide +kernel) rfl dX6_readToken_21 ?_
      obtain ⟨r29, e30, h⟩ := hx_bind h
      refine hx_callV (As := [.int (X.1 v0 4)]) (rest := []) (n := 1) (Cn := RX6) C (c_X6_signAt e30) gX6_readToken_X6_signAt g27 (by decide) rfl (by decide +kernel) ⟨Nat.le_of_ble_eq_true rfl, Nat.le_of_ble_eq_true rfl⟩ rfl rfl rfl ⟨Nat.zero_le _, Nat.zero_le _⟩ hl.1 rfl rfl (Nat.le_of_ble_eq_true rfl) dX6_readToken_24 ?_
      refine hx_bipush (v := 32) C dX6_readToken_27 (by decide) ?_
      refine hx_icmp_ne (tgt := 45) C dX6_readToken_29 (by decide) (fun c31 => ?_) (fun c31 => ?_)
      · have h := hx_neg c31 h
        exact w_X6_readToken_45 C hr v0 X ls h (lv_sub hl [0] rfl)
      · have h := hx_pos c31 h
        refine hx_aload_n C dX6_readToken_32 rfl (lv_at hl 0 rfl) ?_
        refine hx_dup C dX6_readToken_33 rfl ?_
        refine hx_geti C (ci := 6) (j := 4) g27 uX6_readToken_6 (by decide) rfl (by decide) rfl (by decide +kernel) rfl dX6_readToken_34 ?_
        refine hx_iconst (v := 1) C dX6_readToken_37 (by decide) ?_
        refine hx_iadd C dX6_readToken_38 ?_
        refine hx_puti C (ci := 6) (j := 4) tyX6 tyX6_ok nmX6 g27 uX6_readToken_6 (by decide) rfl (by decide) rfl (by decide +kernel) rfl rfl (tyX6_ok 4 (by decide)) dX6_readToken_39 rfl rfl ?_
        refine hx_goto (tgt := 8) C dX6_readToken_42 (by decide) ?_
        exact ih v0 (smi X v0 4 ((X.1 v0 4) + 1)) ls h (lv_sub hl [0] rfl)
def f_X6_readToken (L : hL) (X : hX) (this : Nat) : Option (hX) :=
  if tk L this 6 then
  f_X6_readToken_8 L u_fuel this (smi X this 4 (X.1 this 5))
  else none
set_option maxRecDepth 100000 in
set_option maxHeartbeats 4000000 in
theorem c_X6_readToken {l : Launch} {dC : Nat → ClassId} {dI : Nat → Nat → Nat} {cy : Nat → ClassId} {ad : Nat → Nat} {L : hL} {X : hX} {this : Nat} {X' : hX} (h : f_X6_readToken L X this = some X') : hMet l dC dI cy ad L yX6_readToken wsX6_readToken ({ frames := 2, cells := 0, slots := 0, locals := 43 } : Room) [.ref (ad this)] X none X' := by
  unfold f_X6_readToken at h
  refine hx_enter RX6 (plainFor_of_name (by decide)) rfl rfl (Nat.le_of_ble_eq_true rfl) (fun p e s m args below meth c C hr hnm ls hl => ?_)
  have hl : lv_has ls 1 [(0, .ref (ad this))] := hl
  refine hx_aload_n C dX6_readToken_0 rfl (lv_at hl 0 rfl) ?_
  refine hx_aload_n C dX6_readToken_1 rfl (lv_at hl 0 rfl) ?_
  obtain ⟨g32, h⟩ := hx_gd h
  refine hx_geti C (ci := 6) (j := 5) g32 uX6_readToken_6 (by decide) rfl (by decide) rfl (by decide +kernel) rfl dX6_readToken_2 ?_
  refine hx_puti C (ci := 6) (j := 4) tyX6 tyX6_ok nmX6 g32 uX6_readToken_6 (by decide) rfl (by decide) rfl (by decide +kernel) rfl rfl (tyX6_ok 4 (by decide)) dX6_readToken_5 rfl rfl ?_
  exact w_X6_readToken_8 C hr u_fuel this (smi X this 4 (X.1 this 5)) ls h (lv_sub hl [0] rfl)
