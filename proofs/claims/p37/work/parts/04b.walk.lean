theorem uX0_addCustomer_0 : ∀ w ∈ u_ws RX0 TX0 9, w ∈ wsX0_addCustomer := by decide +kernel
def f_X0_addCustomer (L : hL) (X : hX) (this : Nat) (a1 : Int32) : Option (Int32 × hX) :=
  (f_X9_within L X a1 0 9999).bind fun r1 =>
  if r1 = 0 then
    some ((-100001), X)
  else
    if tk L this 0 then
    (f_X9_within L X (X.1 this 4) 0 5).bind fun r5 =>
    if r5 = 0 then
      some ((-100003), X)
    else
      (X.2 this 2).bind fun q8 =>
      if tk L q8 15 then
      if hin (X.1 this 4) (L.2.2 q8) then
      (X.2 q8 (Int32.toNatClampNeg (X.1 this 4))).bind fun q12 =>
      (f_X1_begin L X q12 a1).bind fun r14 =>
      if tk L q12 1 then
      some (((smi r14 this 4 ((r14.1 this 4) + 1)).1 this 4) - 1, smi r14 this 4 ((r14.1 this 4) + 1))
      else none
      else none
      else none
    else none
set_option maxRecDepth 100000 in
set_option maxHeartbeats 4000000 in
theorem c_X0_addCustomer {l : Launch} {dC : Nat → ClassId} {dI : Nat → Nat → Nat} {cy : Nat → ClassId} {ad : Nat → Nat} {L : hL} {X : hX} {this : Nat} {a1 : Int32} {r : Int32} {X' : hX} (h : f_X0_addCustomer L X this a1 = some (r, X')) : hMet l dC dI cy ad L yX0_addCustomer wsX0_addCustomer ({ frames := 1, cells := 0, slots := 0, locals := 22 } : Room) [.ref (ad this), .int a1] X (some (.int r)) X' := by
  unfold f_X0_addCustomer at h
  refine hx_enter RX0 (plainFor_of_name (by decide)) rfl rfl (Nat.le_of_ble_eq_true rfl) (fun p e s m args below meth c C hr hnm ls hl => ?_)
  have hl : lv_has ls 2 [(0, .ref (ad this)), (1, .int a1)] := hl
  refine hx_iload_n C dX0_addCustomer_0 rfl (lv_at hl 1 rfl) ?_
  refine hx_iconst (v := 0) C dX0_addCustomer_1 (by decide) ?_
  refine hx_sipush (v := 9999) C dX0_addCustomer_2 (by decide) ?_
  obtain ⟨r1, e2, h⟩ := hx_bind h
  refine hx_callSN (As := [.int a1, .int 0, .int 9999]) (rest := []) (n := 3) (host := "TicketScales") C (c_X9_within e2) gX0_addCustomer_X9_within_n68 (by decide) (by decide +kernel) (by decide +kernel) (by decide +kernel) ⟨Nat.le_of_ble_eq_true rfl, Nat.le_of_ble_eq_true rfl⟩ rfl rfl rfl ⟨Nat.zero_le _, Nat.zero_le _⟩ hl.1 rfl rfl (Nat.le_of_ble_eq_true rfl) dX0_addCustomer_5 ?_
  refine hx_if_ne (tgt := 14) C dX0_addCustomer_8 (by decide) (fun c3 => ?_) (fun c3 => ?_)
  · have h := hx_neg c3 h
    refine hx_aload_n C dX0_addCustomer_14 rfl (lv_at hl 0 rfl) ?_
    obtain ⟨g4, h⟩ := hx_gd h
    refine hx_geti C (ci := 0) (j := 4) g4 uX0_addCustomer_0 (by decide) rfl (by decide) rfl (by decide +kernel) rfl dX0_addCustomer_15 ?_
    refine hx_iconst (v := 0) C dX0_addCustomer_18 (by decide) ?_
    refine hx_iconst (v := 5) C dX0_addCustomer_19 (by decide) ?_
    obtain ⟨r5, e6, h⟩ := hx_bind h
    refine hx_callSN (As := [.int (X.1 this 4), .int 0, .int 5]) (rest := []) (n := 3) (host := "TicketScales") C (c_X9_within e6) gX0_addCustomer_X9_within_n68 (by decide) (by decide +kernel) (by decide +kernel) (by decide +kernel) ⟨Nat.le_of_ble_eq_true rfl, Nat.le_of_ble_eq_true rfl⟩ rfl rfl rfl ⟨Nat.zero_le _, Nat.zero_le _⟩ hl.1 rfl rfl (Nat.le_of_ble_eq_true rfl) dX0_addCustomer_20 ?_
    refine hx_if_ne (tgt := 29) C dX0_addCustomer_23 (by decide) (fun c7 => ?_) (fun c7 => ?_)
    · have h := hx_neg c7 h
      refine hx_aload_n C dX0_addCustomer_29 rfl (lv_at hl 0 rfl) ?_
      obtain ⟨q8, e9, h⟩ := hx_bind h
      refine hx_getr C (ci := 0) (j := 2) g4 uX0_addCustomer_0 (by decide) rfl (by decide) rfl (by decide +kernel) rfl dX0_addCustomer_30 e9 ?_
      refine hx_aload_n C dX0_addCustomer_33 rfl (lv_at hl 0 rfl) ?_
      refine hx_geti C (ci := 0) (j := 4) g4 uX0_addCustomer_0 (by decide) rfl (by decide) rfl (by decide +kernel) rfl dX0_addCustomer_34 ?_
      obtain ⟨g10, h⟩ := hx_gd h
      obtain ⟨g11, h⟩ := hx_gd h
      obtain ⟨q12, e13, h⟩ := hx_bind h
      refine hx_aald (t0 := 4) C g10 (by decide) rfl g11 rfl e13 dX0_addCustomer_37 ?_
      refine hx_iload_n C dX0_addCustomer_38 rfl (lv_at hl 1 rfl) ?_
      obtain ⟨r14, e15, h⟩ := hx_bind h
      obtain ⟨g16, h⟩ := hx_gd h
      refine hx_callV (As := [.int a1]) (rest := []) (n := 1) (Cn := RX1) C (c_X1_begin e15) gX0_addCustomer_X1_begin g16 (by decide) rfl (by decide +kernel) ⟨Nat.le_of_ble_eq_true rfl, Nat.le_of_ble_eq_true rfl⟩ rfl rfl rfl ⟨Nat.zero_le _, Nat.zero_le _⟩ hl.1 rfl rfl (Nat.le_of_ble_eq_true rfl) dX0_addCustomer_39 ?_
      refine hx_aload_n C dX0_addCustomer_42 rfl (lv_at hl 0 rfl) ?_
      refine hx_dup C dX0_addCustomer_43 rfl ?_
      refine hx_geti C (ci := 0) (j := 4) g4 uX0_addCustomer_0 (by decide) rfl (by decide) rfl (by decide +kernel) rfl dX0_addCustomer_44 ?_
      refine hx_iconst (v := 1) C dX0_addCustomer_47 (by decide) ?_
      refine hx_iadd C dX0_addCustomer_48 ?_
      refine hx_puti C (ci := 0) (j := 4) tyX0 tyX0_ok nmX0 g4 uX0_addCustomer_0 (by decide) rfl (by decide) rfl (by decide +kernel) rfl rfl (tyX0_ok 4 (by decide)) dX0_addCustomer_49 rfl rfl ?_
      refine hx_aload_n C dX0_addCustomer_52 rfl (lv_at hl 0 rfl) ?_
      refine hx_geti C (ci := 0) (j := 4) g4 uX0_addCustomer_0 (by decide) rfl (by decide) rfl (by decide +kernel) rfl dX0_addCustomer_53 ?_
      refine hx_iconst (v := 1) C dX0_addCustomer_56 (by decide) ?_
      refine hx_isub C dX0_addCustomer_57 ?_
      obtain ⟨rfl, rfl⟩ := hx_some2 h
      exact hx_iret C hr dX0_addCustomer_58
    · have h := hx_pos c7 h
      refine hx_ldc (v := (-100003)) C (by decide +kernel) dX0_addCustomer_26 ?_
      obtain ⟨rfl, rfl⟩ := hx_some2 h
      exact hx_iret C hr dX0_addCustomer_28
  · have h := hx_pos c3 h
    refine hx_ldc (v := (-100001)) C (by decide +kernel) dX0_addCustomer_11 ?_
    obtain ⟨rfl, rfl⟩ := hx_some2 h
    exact hx_iret C hr dX0_addCustomer_13
theorem uX0_dropCustomer_0 : ∀ w ∈ u_ws RX0 TX0 9, w ∈ wsX0_dropCustomer := by decide +kernel
theorem uX0_dropCustomer_1 : ∀ w ∈ u_ws RX1 TX1 6, w ∈ wsX0_dropCustomer := by decide +kernel
def f_X0_dropCustomer_21 (L : hL) : Nat → Nat → Nat → Int32 → Int32 → hX → Option (Int32 × hX)
  | 0, _, _, _, _, _ => none
  | n + 1, v0, v2, v3, v4, X =>
    if 5 ≤ v4 then
      if tk L v0 0 then
      (X.2 v0 2).bind fun q3 =>
      if tk L q3 15 then
      if 5 < L.2.2 q3 then
      if tk L v2 1 then
      (f_X1_begin L (smr X q3 5 (some v2)) v2 0).bind fun r8 =>
      some (v3, smi r8 v0 4 ((r8.1 v0 4) - 1))
      else none
      else none
      else none
      else none
    else
      if tk L v0 0 then
      (X.2 v0 2).bind fun q11 =>
      if tk L q11 15 then
      if hin (v4 + 1) (L.2.2 q11) then
      (X.2 q11 (Int32.toNatClampNeg (v4 + 1))).bind fun q15 =>
      if hin v4 (L.2.2 q11) then
      if tk L q15 1 then
      f_X0_dropCustomer_21 L n v0 v2 v3 (v4 + 1) (smr X q11 (Int32.toNatClampNeg v4) (some q15))
      else none
      else none
      else none
      else none
      else none
set_option maxRecDepth 100000 in
set_option maxHeartbeats 4000000 in
theorem w_X0_dropCustomer_21 {p : Program} {l : Launch} {e : Env} {s : State} {m : MethodId} {args : Array Value} {below : List Frame} {meth : Method} {c : Code} {dC : Nat → ClassId} {dI : Nat → Nat → Nat} {cy : Nat → ClassId} {ad : Nat → Nat} {L : hL} {r : Int32} {X' : hX} (C : hC p s m args meth c dC dI cy ad L (hA ad L s.heap.size) cX0_dropCustomer 5 wsX0_dropCustomer RX0) (hr : meth.sig.returnType = (some .int)) : ∀ (n : Nat) (v0 : Nat) (v2 : Nat) (v3 : Int32) (v4 : Int32) (X : hX) (ls : Array Slot), f_X0_dropCustomer_21 L n v0 v2 v3 v4 X = some (r, X') → lv_has ls 5 [(0, .ref (ad v0)), (2, .ref (ad v2)), (3, .int v3), (4, .int v4)] → hG p l e (headSpec wsX0_dropCustomer ({ frames := 2, cells := 0, slots := 0, locals := 44 } : Room)).room s m args below meth c dC dI cy ad L (hA ad L s.heap.size) 0 0 (MQ below (hQ dC dI cy ad L s.heap.size (some (.int r)) X') args s 0 0 (hA ad L s.heap.size)) X 21 ls [] := by
  intro n
  induction n with
  | zero => intro v0 v2 v3 v4 X ls h; cases h
  | succ n ih =>
    intro v0 v2 v3 v4 X ls h hl
    rw [f_X0_dropCustomer_21] at h
    refine hx_iload C dX0_dropCustomer_21 (lv_at hl 3 rfl) ?_
    refine hx_iconst (v := 5) C dX0_dropCustomer_23 (by decide) ?_
    refine hx_icmp_ge (tgt := 49) C dX0_dropCustomer_24 (by decide) (fun c1 => ?_) (fun c1 => ?_)
    · have h := hx_pos c1 h
      refine hx_aload_n C dX0_dropCustomer_49 rfl (lv_at hl 0 rfl) ?_
      obtain ⟨g2, h⟩ := hx_gd h
      obtain ⟨q3, e4, h⟩ := hx_bind h
      refine hx_getr C (ci := 0) (j := 2) g2 uX0_dropCustomer_0 (by decide) rfl (by decide) rfl (by decide +kernel) rfl dX0_dropCustomer_50 e4 ?_
      refine hx_iconst (v := 5) C dX0_dropCustomer_53 (by decide) ?_
      refine hx_aload_n C dX0_dropCustomer_54 rfl (lv_at hl 1 rfl) ?_
      obtain ⟨g5, h⟩ := hx_gd h
      obtain ⟨g6, h⟩ := hx_gd h
      obtain ⟨g7, h⟩ := hx_gd h
      refine hx_aast (t0 := 4) (n := 5) C g5 (by decide) rfl g7 (by decide) rfl (hin_lit (i := 5) (by decide) rfl g6) rfl dX0_dropCustomer_55 ?_
      refine hx_aload_n C dX0_dropCustomer_56 rfl (lv_at hl 1 rfl) ?_
      refine hx_iconst (v := 0) C dX0_dropCustomer_57 (by decide) ?_
      obtain ⟨r8, e9, h⟩ := hx_bind h
      refine hx_callV (As := [.int 0]) (rest := []) (n := 1) (Cn := RX1) C (c_X1_begin e9) gX0_dropCustomer_X1_begin g7 (by decide) rfl (by decide +kernel) ⟨Nat.le_of_ble_eq_true rfl, Nat.le_of_ble_eq_true rfl⟩ rfl rfl rfl ⟨Nat.zero_le _, Nat.zero_le _⟩ hl.1 rfl rfl (Nat.le_of_ble_eq_true rfl) dX0_dropCustomer_58 ?_
      refine hx_aload_n C dX0_dropCustomer_61 rfl (lv_at hl 0 rfl) ?_
      refine hx_dup C dX0_dropCustomer_62 rfl ?_
      refine hx_geti C (ci := 0) (j := 4) g2 uX0_dropCustomer_0 (by decide) rfl (by decide) rfl (by decide +kernel) rfl dX0_dropCustomer_63 ?_
      refine hx_iconst (v := 1) C dX0_dropCustomer_66 (by decide) ?_
      refine hx_isub C dX0_dropCustomer_67 ?_
      refine hx_puti C (ci := 0) (j := 4) tyX0 tyX0_ok nmX0 g2 uX0_dropCustomer_0 (by decide) rfl (by decide) rfl (by decide +kernel) rfl rfl (tyX0_ok 4 (by decide)) dX0_dropCustomer_68 rfl rfl ?_
      refine hx_iload_n C dX0_dropCustomer_71 rfl (lv_at hl 2 rfl) ?_
      obtain ⟨rfl, rfl⟩ := hx_some2 h
      exact hx_iret C hr dX0_dropCustomer_72
    · have h := hx_neg c1 h
      refine hx_aload_n C dX0_dropCustomer_27 rfl (lv_at hl 0 rfl) ?_
      obtain ⟨g10, h⟩ := hx_gd h
      obtain ⟨q11, e12, h⟩ := hx_bind h
      refine hx_getr C (ci := 0) (j := 2) g10 uX0_dropCustomer_0 (by decide) rfl (by decide) rfl (by decide +kernel) rfl dX0_dropCustomer_28 e12 ?_
      refine hx_iload C dX0_dropCustomer_31 (lv_at hl 3 rfl) ?_
      refine hx_aload_n C dX0_dropCustomer_33 rfl (lv_at hl 0 rfl) ?_
      refine hx_getr C (ci := 0) (j := 2) g10 uX0_dropCustomer_0 (by decide) rfl (by decide) rfl (by decide +kernel) rfl dX0_dropCustomer_34 e12 ?_
      refine hx_iload C dX0_dropCustomer_37 (lv_at hl 3 rfl) ?_
      refine hx_iconst (v := 1) C dX0_dropCustomer_39 (by decide) ?_
      refine hx_iadd C dX0_dropCustomer_40 ?_
      obtain ⟨g13, h⟩ := hx_gd h
      obtain ⟨g14, h⟩ := hx_gd h
      obtain ⟨q15, e16, h⟩ := hx_bind h
      refine hx_aald (t0 := 4) C g13 (by decide) rfl g14 rfl e16 dX0_dropCustomer_41 ?_
      obtain ⟨g17, h⟩ := hx_gd h
      obtain ⟨g18, h⟩ := hx_gd h
      refine hx_aast (t0 := 4) (n := (Int32.toNatClampNeg v4)) C g13 (by decide) rfl g18 (by decide) rfl g17 rfl dX0_dropCustomer_42 ?_
      refine hx_iinc (v := v4 + 1) (lv' := [(4, .int (v4 + 1)), (0, .ref (ad v0)), (2, .ref (ad v2)), (3, .int v3)]) C dX0_dropCustomer_43 hl (k := 3) rfl rfl (by decide) rfl (fun ls hl => ?_)
      refine hx_goto (tgt := 21) C dX0_dropCustomer_46 (by decide) ?_
      exact ih v0 v2 v3 (v4 + 1) (smr X q11 (Int32.toNatClampNeg v4) (some q15)) ls h (lv_sub hl [1, 2, 3, 0] rfl)
def f_X0_dropCustomer (L : hL) (X : hX) (this : Nat) (a1 : Int32) : Option (Int32 × hX) :=
  (f_X0_customerAt L X this a1).bind fun r19 =>
  if tk L this 0 then
  Option.elim r19
  (
    some ((-100001), X))
  fun i22 =>
    if tk L i22 1 then
    f_X0_dropCustomer_21 L u_fuel this i22 (X.1 i22 0) a1 X
    else none
  else none
set_option maxRecDepth 100000 in
set_option maxHeartbeats 4000000 in
theorem c_X0_dropCustomer {l : Launch} {dC : Nat → ClassId} {dI : Nat → Nat → Nat} {cy : Nat → ClassId} {ad : Nat → Nat} {L : hL} {X : hX} {this : Nat} {a1 : Int32} {r : Int32} {X' : hX} (h : f_X0_dropCustomer L X this a1 = some (r, X')) : hMet l dC dI cy ad L yX0_dropCustomer wsX0_dropCustomer ({ frames := 2, cells := 0, slots := 0, locals := 44 } : Room) [.ref (ad this), .int a1] X (some (.int r)) X' := by
  unfold f_X0_dropCustomer at h
  refine hx_enter RX0 (plainFor_of_name (by decide)) rfl rfl (Nat.le_of_ble_eq_true rfl) (fun p e s m args below meth c C hr hnm ls hl => ?_)
  have hl : lv_has ls 5 [(0, .ref (ad this)), (1, .int a1)] := hl
  refine hx_aload_n C dX0_dropCustomer_0 rfl (lv_at hl 0 rfl) ?_
  refine hx_iload_n C dX0_dropCustomer_1 rfl (lv_at hl 1 rfl) ?_
  obtain ⟨r19, e20, h⟩ := hx_bind h
  obtain ⟨g21, h⟩ := hx_gd h
  refine hx_callV (As := [.int a1]) (rest := []) (n := 1) (Cn := RX0) C (c_X0_customerAt e20) gX0_dropCustomer_X0_customerAt g21 (by decide) rfl (by decide +kernel) ⟨Nat.le_of_ble_eq_true rfl, Nat.le_of_ble_eq_true rfl⟩ rfl rfl rfl ⟨Nat.zero_le _, Nat.zero_le _⟩ hl.1 rfl rfl (Nat.le_of_ble_eq_true rfl) dX0_dropCustomer_2 ?_
  rcases r19 with _ | i22
  · have h := hx_eln h
    refine hx_astore_nN (lv' := [(2, .null), (0, .ref (ad this)), (1, .int a1)]) C dX0_dropCustomer_5 rfl hl (by decide) rfl (fun ls hl => ?_)
    refine hx_aload_nN C dX0_dropCustomer_6 rfl (lv_at hl 0 rfl) ?_
    refine hx_ifnonnullN C dX0_dropCustomer_7 ?_
    refine hx_ldc (v := (-100001)) C (by decide +kernel) dX0_dropCustomer_10 ?_
    obtain ⟨rfl, rfl⟩ := hx_some2 h
    exact hx_iret C hr dX0_dropCustomer_12
  · have h := hx_els h
    refine hx_astore_n (lv' := [(2, .ref (ad i22)), (0, .ref (ad this)), (1, .int a1)]) C dX0_dropCustomer_5 rfl hl (by decide) rfl (fun ls hl => ?_)
    refine hx_aload_n C dX0_dropCustomer_6 rfl (lv_at hl 0 rfl) ?_
    refine hx_ifnonnull (tgt := 13) C dX0_dropCustomer_7 (by decide) ?_
    refine hx_aload_n C dX0_dropCustomer_13 rfl (lv_at hl 0 rfl) ?_
    obtain ⟨g23, h⟩ := hx_gd h
    refine hx_geti C (ci := 1) (j := 0) g23 uX0_dropCustomer_1 (by decide) rfl (by decide) rfl (by decide +kernel) rfl dX0_dropCustomer_14 ?_
    refine hx_istore_n (lv' := [(3, .int (X.1 i22 0)), (2, .ref (ad i22)), (0, .ref (ad this)), (1, .int a1)]) C dX0_dropCustomer_17 rfl hl (by decide) rfl (fun ls hl => ?_)
    refine hx_iload_n C dX0_dropCustomer_18 rfl (lv_at hl 3 rfl) ?_
    refine hx_istore (lv' := [(4, .int a1), (3, .int (X.1 i22 0)), (2, .ref (ad i22)), (0, .ref (ad this)), (1, .int a1)]) C dX0_dropCustomer_19 hl (by decide) rfl (fun ls hl => ?_)
    exact w_X0_dropCustomer_21 C hr u_fuel this i22 (X.1 i22 0) a1 X ls h (lv_sub hl [3, 2, 1, 0] rfl)
def f_J9_floorDiv_7cf53 (L : hL) (X : hX) (a1 : Int32) (a2 : Int32) : Option (Int32) :=
  if ¬ a2 = 0 then
  if 0 ≤ (a1 ^^^ a2) then
    some (a1 / a2)
  else
    if ((a1 / a2) * a2) = a1 then
      some (a1 / a2)
    else
      some ((a1 / a2) - 1)
  else none
set_option maxRecDepth 100000 in
set_option maxHeartbeats 4000000 in
theorem c_J9_floorDiv_7cf53 {l : Launch} {dC : Nat → ClassId} {dI : Nat → Nat → Nat} {cy : Nat → ClassId} {ad : Nat → Nat} {L : hL} {X : hX} {a1 : Int32} {a2 : Int32} {r : Int32} (h : f_J9_floorDiv_7cf53 L X a1 a2 = some r) : hMet l dC dI cy ad L yJ9_floorDiv_7cf53 wsJ9_floorDiv_7cf53 ({ frames := 0, cells := 0, slots := 0, locals := 0 } : Room) [.int a1, .int a2] X (some (.int r)) X := by
  unfold f_J9_floorDiv_7cf53 at h
  refine hx_enter RJ9 (by decide +kernel) rfl rfl (Nat.le_of_ble_eq_true rfl) (fun p e s m args below meth c C hr hnm ls hl => ?_)
  have hl : lv_has ls 3 [(0, .int a1), (1, .int a2)] := hl
  refine hx_iload_n C dJ9_floorDiv_7cf53_0 rfl (lv_at hl 0 rfl) ?_
  refine hx_iload_n C dJ9_floorDiv_7cf53_1 rfl (lv_at hl 1 rfl) ?_
  obtain ⟨g1, h⟩ := hx_gd h
  refine hx_idiv C dJ9_floorDiv_7cf53_2 g1 ?_
  refine hx_istore_n (lv' := [(2, .int (a1 / a2)), (0, .int a1), (1, .int a2)]) C dJ9_floorDiv_7cf53_3 rfl hl (by decide) rfl (fun ls hl => ?_)
  refine hx_iload_n C dJ9_floorDiv_7cf53_4 rfl (lv_at hl 1 rfl) ?_
  refine hx_iload_n C dJ9_floorDiv_7cf53_5 rfl (lv_at hl 2 rfl) ?_
  refine hx_ixor C dJ9_floorDiv_7cf53_6 ?_
  refine hx_if_ge (tgt := 21) C dJ9_floorDiv_7cf53_7 (by decide) (fun c2 => ?_) (fun c2 => ?_)
  · have h := hx_pos c2 h
    refine hx_iload_n C dJ9_floorDiv_7cf53_21 rfl (lv_at hl 0 rfl) ?_
    obtain rfl := hx_some1 h
    exact hx_iret C hr dJ9_floorDiv_7cf53_22
  · have h := hx_neg c2 h
    refine hx_iload_n C dJ9_floorDiv_7cf53_10 rfl (lv_at hl 0 rfl) ?_
    refine hx_iload_n C dJ9_floorDiv_7cf53_11 rfl (lv_at hl 2 rfl) ?_
    refine hx_imul C dJ9_floorDiv_7cf53_12 ?_
    refine hx_iload_n C dJ9_floorDiv_7cf53_13 rfl (lv_at hl 1 rfl) ?_
    refine hx_icmp_eq (tgt := 21) C dJ9_floorDiv_7cf53_14 (by decide) (fun c3 => ?_) (fun c3 => ?_)
    · have h := hx_pos c3 h
      refine hx_iload_n C dJ9_floorDiv_7cf53_21 rfl (lv_at hl 0 rfl) ?_
      obtain rfl := hx_some1 h
      exact hx_iret C hr dJ9_floorDiv_7cf53_22
    · have h := hx_neg c3 h
      refine hx_iload_n C dJ9_floorDiv_7cf53_17 rfl (lv_at hl 0 rfl) ?_
      refine hx_iconst (v := 1) C dJ9_floorDiv_7cf53_18 (by decide) ?_
      refine hx_isub C dJ9_floorDiv_7cf53_19 ?_
      obtain rfl := hx_some1 h
      exact hx_iret C hr dJ9_floorDiv_7cf53_20
def f_X9_quotient (L : hL) (X : hX) (a1 : Int32) (a2 : Int32) : Option (Int32) :=
  if 1 ≤ a2 then
    (f_J9_floorDiv_7cf53 L X a1 a2).bind fun r2 =>
    some r2
  else
    some 0
set_option maxRecDepth 100000 in
set_option maxHeartbeats 4000000 in
theorem c_X9_quotient {l : Launch} {dC : Nat → ClassId} {dI : Nat → Nat → Nat} {cy : Nat → ClassId} {ad : Nat → Nat} {L : hL} {X : hX} {a1 : Int32} {a2 : Int32} {r : Int32} (h : f_X9_quotient L X a1 a2 = some r) : hMet l dC dI cy ad L yX9_quotient wsX9_quotient ({ frames := 1, cells := 0, slots := 0, locals := 22 } : Room) [.int a1, .int a2] X (some (.int r)) X := by
  unfold f_X9_quotient at h
  refine hx_enter RX9 (plainFor_of_name (by decide)) rfl rfl (Nat.le_of_ble_eq_true rfl) (fun p e s m args below meth c C hr hnm ls hl => ?_)
  have hl : lv_has ls 2 [(0, .int a1), (1, .int a2)] := hl
  refine hx_iload_n C dX9_quotient_0 rfl (lv_at hl 1 rfl) ?_
  refine hx_iconst (v := 1) C dX9_quotient_1 (by decide) ?_
  refine hx_icmp_ge (tgt := 7) C dX9_quotient_2 (by decide) (fun c1 => ?_) (fun c1 => ?_)
  · have h := hx_pos c1 h
    refine hx_iload_n C dX9_quotient_7 rfl (lv_at hl 0 rfl) ?_
    refine hx_iload_n C dX9_quotient_8 rfl (lv_at hl 1 rfl) ?_
    obtain ⟨r2, e3, h⟩ := hx_bind h
    refine hx_callS (As := [.int a1, .int a2]) (rest := []) (n := 2) C (c_J9_floorDiv_7cf53 e3) gX9_quotient_J9_floorDiv_7cf53 (by decide +kernel) ⟨Nat.le_of_ble_eq_true rfl, Nat.le_of_ble_eq_true rfl⟩ rfl rfl rfl ⟨Nat.zero_le _, Nat.zero_le _⟩ hl.1 rfl rfl (Nat.le_of_ble_eq_true rfl) dX9_quotient_9 ?_
    obtain rfl := hx_some1 h
    exact hx_iret C hr dX9_quotient_12
  · have h := hx_neg c1 h
    refine hx_iconst (v := 0) C dX9_quotient_5 (by decide) ?_
    obtain rfl := hx_some1 h
    exact hx_iret C hr dX9_quotient_6
def f_X9_readingAt (L : hL) (X : hX) (a1 : Int32) (a2 : Int32) : Option (Int32) :=
  (f_X9_quotient L X ((2 * a2) + a1) (2 * a1)).bind fun r1 =>
  some (if 0 < (a1 * r1) then (a1 * r1) else 0)
set_option maxRecDepth 100000 in
set_option maxHeartbeats 4000000 in
theorem c_X9_readingAt {l : Launch} {dC : Nat → ClassId} {dI : Nat → Nat → Nat} {cy : Nat → ClassId} {ad : Nat → Nat} {L : hL} {X : hX} {a1 : Int32} {a2 : Int32} {r : Int32} (h : f_X9_readingAt L X a1 a2 = some r) : hMet l dC dI cy ad L yX9_readingAt wsX9_readingAt ({ frames := 2, cells := 0, slots := 0, locals := 43 } : Room) [.int a1, .int a2] X (some (.int r)) X := by
  unfold f_X9_readingAt at h
  refine hx_enter RX9 (plainFor_of_name (by decide)) rfl rfl (Nat.le_of_ble_eq_true rfl) (fun p e s m args below meth c C hr hnm ls hl => ?_)
  have hl : lv_has ls 2 [(0, .int a1), (1, .int a2)] := hl
  refine hx_iconst (v := 0) C dX9_readingAt_0 (by decide) ?_
  refine hx_iload_n C dX9_readingAt_1 rfl (lv_at hl 0 rfl) ?_
  refine hx_iconst (v := 2) C dX9_readingAt_2 (by decide) ?_
  refine hx_iload_n C dX9_readingAt_3 rfl (lv_at hl 1 rfl) ?_
  refine hx_imul C dX9_readingAt_4 ?_
  refine hx_iload_n C dX9_readingAt_5 rfl (lv_at hl 0 rfl) ?_
  refine hx_iadd C dX9_readingAt_6 ?_
  refine hx_iconst (v := 2) C dX9_readingAt_7 (by decide) ?_
  refine hx_iload_n C dX9_readingAt_8 rfl (lv_at hl 0 rfl) ?_
  refine hx_imul C dX9_readingAt_9 ?_
  obtain ⟨r1, e2, h⟩ := hx_bind h
  refine hx_callS (As := [.int ((2 * a2) + a1), .int (2 * a1)]) (rest := [.int a1, .int 0]) (n := 2) C (c_X9_quotient e2) gX9_readingAt_X9_quotient (by decide +kernel) ⟨Nat.le_of_ble_eq_true rfl, Nat.le_of_ble_eq_true rfl⟩ rfl rfl rfl ⟨Nat.zero_le _, Nat.zero_le _⟩ hl.1 rfl rfl (Nat.le_of_ble_eq_true rfl) dX9_readingAt_10 ?_
  refine hx_imul C dX9_readingAt_13 ?_
  refine hx_mmax C (by decide +kernel) (by decide +kernel) (by decide +kernel) (by decide +kernel) hl.1 (Nat.le_of_ble_eq_true rfl) (Nat.le_of_ble_eq_true rfl) (Nat.zero_le _) (Nat.zero_le _) dX9_readingAt_14 ?_
  obtain rfl := hx_some1 h
  exact hx_iret C hr dX9_readingAt_17
theorem uX4_heaviest_4 : ∀ w ∈ u_ws RX4 TX4 2, w ∈ wsX4_heaviest := by decide +kernel
def f_X4_heaviest (L : hL) (X : hX) (this : Nat) : Option (Int32) :=
  if tk L this 4 then
  some ((X.1 this 0) + (X.1 this 1))
  else none
set_option maxRecDepth 100000 in
set_option maxHeartbeats 4000000 in
theorem c_X4_heaviest {l : Launch} {dC : Nat → ClassId} {dI : Nat → Nat → Nat} {cy : Nat → ClassId} {ad : Nat → Nat} {L : hL} {X : hX} {this : Nat} {r : Int32} (h : f_X4_heaviest L X this = some r) : hMet l dC dI cy ad L yX4_heaviest wsX4_heaviest ({ frames := 0, cells := 0, slots := 0, locals := 0 } : Room) [.ref (ad this)] X (some (.int r)) X := by
  unfold f_X4_heaviest at h
  refine hx_enter RX4 (plainFor_of_name (by decide)) rfl rfl (Nat.le_of_ble_eq_true rfl) (fun p e s m args below meth c C hr hnm ls hl => ?_)
  have hl : lv_has ls 1 [(0, .ref (ad this))] := hl
  refine hx_aload_n C dX4_heaviest_0 rfl (lv_at hl 0 rfl) ?_
  obtain ⟨g1, h⟩ := hx_gd h
  refine hx_geti C (ci := 4) (j := 0) g1 uX4_heaviest_4 (by decide) rfl (by decide) rfl (by decide +kernel) rfl dX4_heaviest_1 ?_
  refine hx_aload_n C dX4_heaviest_4 rfl (lv_at hl 0 rfl) ?_
  refine hx_geti C (ci := 4) (j := 1) g1 uX4_heaviest_4 (by decide) rfl (by decide) rfl (by decide +kernel) rfl dX4_heaviest_5 ?_
  refine hx_iadd C dX4_heaviest_8 ?_
  obtain rfl := hx_some1 h
  exact hx_iret C hr dX4_heaviest_9
theorem uX7_loadFrom_7 : ∀ w ∈ u_ws RX7 TX7 3, w ∈ wsX7_loadFrom := by decide +kernel
def f_X7_loadFrom (L : hL) (X : hX) (this : Nat) (a1 : Int32) : Option (Int32) :=
  if tk L this 7 then
  some (a1 - ((X.1 this 0) / 2))
  else none
set_option maxRecDepth 100000 in
set_option maxHeartbeats 4000000 in
theorem c_X7_loadFrom {l : Launch} {dC : Nat → ClassId} {dI : Nat → Nat → Nat} {cy : Nat → ClassId} {ad : Nat → Nat} {L : hL} {X : hX} {this : Nat} {a1 : Int32} {r : Int32} (h : f_X7_loadFrom L X this a1 = some r) : hMet l dC dI cy ad L yX7_loadFrom wsX7_loadFrom ({ frames := 0, cells := 0, slots := 0, locals := 0 } : Room) [.ref (ad this), .int a1] X (some (.int r)) X := by
  unfold f_X7_loadFrom at h
  refine hx_enter RX7 (plainFor_of_name (by decide)) rfl rfl (Nat.le_of_ble_eq_true rfl) (fun p e s m args below meth c C hr hnm ls hl => ?_)
  have hl : lv_has ls 2 [(0, .ref (ad this)), (1, .int a1)] := hl
  refine hx_iload_n C dX7_loadFrom_0 rfl (lv_at hl 1 rfl) ?_
  refine hx_aload_n C dX7_loadFrom_1 rfl (lv_at hl 0 rfl) ?_
  obtain ⟨g1, h⟩ := hx_gd h
  refine hx_geti C (ci := 7) (j := 0) g1 uX7_loadFrom_7 (by decide) rfl (by decide) rfl (by decide +kernel) rfl dX7_loadFrom_2 ?_
  refine hx_iconst (v := 2) C dX7_loadFrom_5 (by decide) ?_
  refine hx_idiv C dX7_loadFrom_6 (by decide) ?_
  refine hx_isub C dX7_loadFrom_7 ?_
  obtain rfl := hx_some1 h
  exact hx_iret C hr dX7_loadFrom_8
theorem uX7_leastCount_7 : ∀ w ∈ u_ws RX7 TX7 3, w ∈ wsX7_leastCount := by decide +kernel
def f_X7_leastCount (L : hL) (X : hX) (this : Nat) (a1 : Int32) (a2 : Nat) : Option (Int32) :=
  (f_X4_heaviest L X a2).bind fun r1 =>
  if tk L a2 4 then
  (f_X7_loadFrom L X this a1).bind fun r4 =>
  if tk L this 7 then
  (f_X9_quotient L X (((r4 - (X.1 this 1)) + r1) - 1) r1).bind fun r7 =>
  some (if 0 < r7 then r7 else 0)
  else none
  else none
set_option maxRecDepth 100000 in
set_option maxHeartbeats 4000000 in
theorem c_X7_leastCount {l : Launch} {dC : Nat → ClassId} {dI : Nat → Nat → Nat} {cy : Nat → ClassId} {ad : Nat → Nat} {L : hL} {X : hX} {this : Nat} {a1 : Int32} {a2 : Nat} {r : Int32} (h : f_X7_leastCount L X this a1 a2 = some r) : hMet l dC dI cy ad L yX7_leastCount wsX7_leastCount ({ frames := 2, cells := 0, slots := 0, locals := 43 } : Room) [.ref (ad this), .int a1, .ref (ad a2)] X (some (.int r)) X := by
  unfold f_X7_leastCount at h
  refine hx_enter RX7 (plainFor_of_name (by decide)) rfl rfl (Nat.le_of_ble_eq_true rfl) (fun p e s m args below meth c C hr hnm ls hl => ?_)
  have hl : lv_has ls 5 [(0, .ref (ad this)), (1, .int a1), (2, .ref (ad a2))] := hl
  refine hx_aload_n C dX7_leastCount_0 rfl (lv_at hl 2 rfl) ?_
  obtain ⟨r1, e2, h⟩ := hx_bind h
  obtain ⟨g3, h⟩ := hx_gd h
  refine hx_callV (As := []) (rest := []) (n := 0) (Cn := RX4) C (c_X4_heaviest e2) gX7_leastCount_X4_heaviest g3 (by decide) rfl (by decide +kernel) ⟨Nat.le_of_ble_eq_true rfl, Nat.le_of_ble_eq_true rfl⟩ rfl rfl rfl ⟨Nat.zero_le _, Nat.zero_le _⟩ hl.1 rfl rfl (Nat.le_of_ble_eq_true rfl) dX7_leastCount_1 ?_
  refine hx_istore_n (lv' := [(3, .int r1), (0, .ref (ad this)), (1, .int a1), (2, .ref (ad a2))]) C dX7_leastCount_4 rfl hl (by decide) rfl (fun ls hl => ?_)
  refine hx_aload_n C dX7_leastCount_5 rfl (lv_at hl 1 rfl) ?_
  refine hx_iload_n C dX7_leastCount_6 rfl (lv_at hl 2 rfl) ?_
  obtain ⟨r4, e5, h⟩ := hx_bind h
  obtain ⟨g6, h⟩ := hx_gd h
  refine hx_callV (As := [.int a1]) (rest := []) (n := 1) (Cn := RX7) C (c_X7_loadFrom e5) gX7_leastCount_X7_loadFrom g6 (by decide) rfl (by decide +kernel) ⟨Nat.le_of_ble_eq_true rfl, Nat.le_of_ble_eq_true rfl⟩ rfl rfl rfl ⟨Nat.zero_le _, Nat.zero_le _⟩ hl.1 rfl rfl (Nat.le_of_ble_eq_true rfl) dX7_leastCount_7 ?_
  refine hx_aload_n C dX7_leastCount_10 rfl (lv_at hl 1 rfl) ?_
  refine hx_geti C (ci := 7) (j := 1) g6 uX7_leastCount_7 (by decide) rfl (by decide) rfl (by decide +kernel) rfl dX7_leastCount_11 ?_
  refine hx_isub C dX7_leastCount_14 ?_
  refine hx_istore (lv' := [(4, .int (r4 - (X.1 this 1))), (3, .int r1), (0, .ref (ad this)), (1, .int a1), (2, .ref (ad a2))]) C dX7_leastCount_15 hl (by decide) rfl (fun ls hl => ?_)
  refine hx_iconst (v := 0) C dX7_leastCount_17 (by decide) ?_
  refine hx_iload C dX7_leastCount_18 (lv_at hl 0 rfl) ?_
  refine hx_iload_n C dX7_leastCount_20 rfl (lv_at hl 1 rfl) ?_
  refine hx_iadd C dX7_leastCount_21 ?_
  refine hx_iconst (v := 1) C dX7_leastCount_22 (by decide) ?_
  refine hx_isub C dX7_leastCount_23 ?_
  refine hx_iload_n C dX7_leastCount_24 rfl (lv_at hl 1 rfl) ?_
  obtain ⟨r7, e8, h⟩ := hx_bind h
  refine hx_callSN (As := [.int (((r4 - (X.1 this 1)) + r1) - 1), .int r1]) (rest := [.int 0]) (n := 2) (host := "TicketScales") C (c_X9_quotient e8) gX7_leastCount_X9_quotient_n31 (by decide) (by decide +kernel) (by decide +kernel) (by decide +kernel) ⟨Nat.le_of_ble_eq_true rfl, Nat.le_of_ble_eq_true rfl⟩ rfl rfl rfl ⟨Nat.zero_le _, Nat.zero_le _⟩ hl.1 rfl rfl (Nat.le_of_ble_eq_true rfl) dX7_leastCount_25 ?_
  refine hx_mmax C (by decide +kernel) (by decide +kernel) (by decide +kernel) (by decide +kernel) hl.1 (Nat.le_of_ble_eq_true rfl) (Nat.le_of_ble_eq_true rfl) (Nat.zero_le _) (Nat.zero_le _) dX7_leastCount_28 ?_
  obtain rfl := hx_some1 h
  exact hx_iret C hr dX7_leastCount_31
theorem uX7_shows_7 : ∀ w ∈ u_ws RX7 TX7 3, w ∈ wsX7_shows := by decide +kernel
def f_X7_shows (L : hL) (X : hX) (this : Nat) (a1 : Int32) : Option (Int32) :=
  if tk L this 7 then
  if (X.1 this 0) < 1 then
    some 0
  else
    if ¬ (X.1 this 0) = 0 then
    if (a1 - a1 / (X.1 this 0) * (X.1 this 0)) = 0 then
      some 1
    else
      some 0
    else none
  else none
set_option maxRecDepth 100000 in
set_option maxHeartbeats 4000000 in
theorem c_X7_shows {l : Launch} {dC : Nat → ClassId} {dI : Nat → Nat → Nat} {cy : Nat → ClassId} {ad : Nat → Nat} {L : hL} {X : hX} {this : Nat} {a1 : Int32} {r : Int32} (h : f_X7_shows L X this a1 = some r) : hMet l dC dI cy ad L yX7_shows wsX7_shows ({ frames := 0, cells := 0, slots := 0, locals := 0 } : Room) [.ref (ad this), .int a1] X (some (.int r)) X := by
  unfold f_X7_shows at h
  refine hx_enter RX7 (plainFor_of_name (by decide)) rfl rfl (Nat.le_of_ble_eq_true rfl) (fun p e s m args below meth c C hr hnm ls hl => ?_)
  have hl : lv_has ls 2 [(0, .ref (ad this)), (1, .int a1)] := hl
  refine hx_aload_n C dX7_shows_0 rfl (lv_at hl 0 rfl) ?_
  obtain ⟨g1, h⟩ := hx_gd h
  refine hx_geti C (ci := 7) (j := 0) g1 uX7_shows_7 (by decide) rfl (by decide) rfl (by decide +kernel) rfl dX7_shows_1 ?_
  refine hx_iconst (v := 1) C dX7_shows_4 (by decide) ?_
  refine hx_icmp_lt (tgt := 21) C dX7_shows_5 (by decide) (fun c2 => ?_) (fun c2 => ?_)
  · have h := hx_pos c2 h
    refine hx_iconst (v := 0) C dX7_shows_21 (by decide) ?_
    obtain rfl := hx_some1 h
    exact hx_zret C hr rfl dX7_shows_22
  · have h := hx_neg c2 h
    refine hx_iload_n C dX7_shows_8 rfl (lv_at hl 1 rfl) ?_
    refine hx_aload_n C dX7_shows_9 rfl (lv_at hl 0 rfl) ?_
    refine hx_geti C (ci := 7) (j := 0) g1 uX7_shows_7 (by decide) rfl (by decide) rfl (by decide +kernel) rfl dX7_shows_10 ?_
    obtain ⟨g3, h⟩ := hx_gd h
    refine hx_irem C dX7_shows_13 g3 ?_
    refine hx_if_ne (tgt := 21) C dX7_shows_14 (by decide) (fun c4 => ?_) (fun c4 => ?_)
    · have h := hx_neg c4 h
      refine hx_iconst (v := 0) C dX7_shows_21 (by decide) ?_
      obtain rfl := hx_some1 h
      exact hx_zret C hr rfl dX7_shows_22
    · have h := hx_pos c4 h
      refine hx_iconst (v := 1) C dX7_shows_17 (by decide) ?_
      refine hx_goto (tgt := 22) C dX7_shows_18 (by decide) ?_
      obtain rfl := hx_some1 h
      exact hx_zret C hr rfl dX7_shows_22
theorem uX7_loadTo_7 : ∀ w ∈ u_ws RX7 TX7 3, w ∈ wsX7_loadTo := by decide +kernel
def f_X7_loadTo (L : hL) (X : hX) (this : Nat) (a1 : Int32) : Option (Int32) :=
  if tk L this 7 then
  some (a1 + (((X.1 this 0) - 1) / 2))
  else none
set_option maxRecDepth 100000 in
set_option maxHeartbeats 4000000 in
theorem c_X7_loadTo {l : Launch} {dC : Nat → ClassId} {dI : Nat → Nat → Nat} {cy : Nat → ClassId} {ad : Nat → Nat} {L : hL} {X : hX} {this : Nat} {a1 : Int32} {r : Int32} (h : f_X7_loadTo L X this a1 = some r) : hMet l dC dI cy ad L yX7_loadTo wsX7_loadTo ({ frames := 0, cells := 0, slots := 0, locals := 0 } : Room) [.ref (ad this), .int a1] X (some (.int r)) X := by
  unfold f_X7_loadTo at h
  refine hx_enter RX7 (plainFor_of_name (by decide)) rfl rfl (Nat.le_of_ble_eq_true rfl) (fun p e s m args below meth c C hr hnm ls hl => ?_)
  have hl : lv_has ls 2 [(0, .ref (ad this)), (1, .int a1)] := hl
  refine hx_iload_n C dX7_loadTo_0 rfl (lv_at hl 1 rfl) ?_
  refine hx_aload_n C dX7_loadTo_1 rfl (lv_at hl 0 rfl) ?_
  obtain ⟨g1, h⟩ := hx_gd h
  refine hx_geti C (ci := 7) (j := 0) g1 uX7_loadTo_7 (by decide) rfl (by decide) rfl (by decide +kernel) rfl dX7_loadTo_2 ?_
  refine hx_iconst (v := 1) C dX7_loadTo_5 (by decide) ?_
  refine hx_isub C dX7_loadTo_6 ?_
  refine hx_iconst (v := 2) C dX7_loadTo_7 (by decide) ?_
  refine hx_idiv C dX7_loadTo_8 (by decide) ?_
  refine hx_iadd C dX7_loadTo_9 ?_
  obtain rfl := hx_some1 h
  exact hx_iret C hr dX7_loadTo_10
theorem uX4_lightest_4 : ∀ w ∈ u_ws RX4 TX4 2, w ∈ wsX4_lightest := by decide +kernel
def f_X4_lightest (L : hL) (X : hX) (this : Nat) : Option (Int32) :=
  if tk L this 4 then
  some ((X.1 this 0) - (X.1 this 1))
  else none
set_option maxRecDepth 100000 in
set_option maxHeartbeats 4000000 in
theorem c_X4_lightest {l : Launch} {dC : Nat → ClassId} {dI : Nat → Nat → Nat} {cy : Nat → ClassId} {ad : Nat → Nat} {L : hL} {X : hX} {this : Nat} {r : Int32} (h : f_X4_lightest L X this = some r) : hMet l dC dI cy ad L yX4_lightest wsX4_lightest ({ frames := 0, cells := 0, slots := 0, locals := 0 } : Room) [.ref (ad this)] X (some (.int r)) X := by
  unfold f_X4_lightest at h
  refine hx_enter RX4 (plainFor_of_name (by decide)) rfl rfl (Nat.le_of_ble_eq_true rfl) (fun p e s m args below meth c C hr hnm ls hl => ?_)
  have hl : lv_has ls 1 [(0, .ref (ad this))] := hl
  refine hx_aload_n C dX4_lightest_0 rfl (lv_at hl 0 rfl) ?_
  obtain ⟨g1, h⟩ := hx_gd h
  refine hx_geti C (ci := 4) (j := 0) g1 uX4_lightest_4 (by decide) rfl (by decide) rfl (by decide +kernel) rfl dX4_lightest_1 ?_
  refine hx_aload_n C dX4_lightest_4 rfl (lv_at hl 0 rfl) ?_
  refine hx_geti C (ci := 4) (j := 1) g1 uX4_lightest_4 (by decide) rfl (by decide) rfl (by decide +kernel) rfl dX4_lightest_5 ?_
  refine hx_isub C dX4_lightest_8 ?_
  obtain rfl := hx_some1 h
  exact hx_iret C hr dX4_lightest_9
theorem uX7_greatestCount_7 : ∀ w ∈ u_ws RX7 TX7 3, w ∈ wsX7_greatestCount := by decide +kernel
def f_X7_greatestCount (L : hL) (X : hX) (this : Nat) (a1 : Int32) (a2 : Nat) : Option (Int32) :=
  (f_X7_shows L X this a1).bind fun r1 =>
  if tk L this 7 then
  if r1 = 0 then
    some (-1)
  else
    (f_X7_loadTo L X this a1).bind fun r5 =>
    (f_X4_lightest L X a2).bind fun r7 =>
    if tk L a2 4 then
    (f_X9_quotient L X (r5 + (X.1 this 1)) r7).bind fun r10 =>
    some r10
    else none
  else none
set_option maxRecDepth 100000 in
set_option maxHeartbeats 4000000 in
theorem c_X7_greatestCount {l : Launch} {dC : Nat → ClassId} {dI : Nat → Nat → Nat} {cy : Nat → ClassId} {ad : Nat → Nat} {L : hL} {X : hX} {this : Nat} {a1 : Int32} {a2 : Nat} {r : Int32} (h : f_X7_greatestCount L X this a1 a2 = some r) : hMet l dC dI cy ad L yX7_greatestCount wsX7_greatestCount ({ frames := 2, cells := 0, slots := 0, locals := 43 } : Room) [.ref (ad this), .int a1, .ref (ad a2)] X (some (.int r)) X := by
  unfold f_X7_greatestCount at h
  refine hx_enter RX7 (plainFor_of_name (by decide)) rfl rfl (Nat.le_of_ble_eq_true rfl) (fun p e s m args below meth c C hr hnm ls hl => ?_)
  have hl : lv_has ls 3 [(0, .ref (ad this)), (1, .int a1), (2, .ref (ad a2))] := hl
  refine hx_aload_n C dX7_greatestCount_0 rfl (lv_at hl 0 rfl) ?_
  refine hx_iload_n C dX7_greatestCount_1 rfl (lv_at hl 1 rfl) ?_
  obtain ⟨r1, e2, h⟩ := hx_bind h
  obtain ⟨g3, h⟩ := hx_gd h
  refine hx_callV (As := [.int a1]) (rest := []) (n := 1) (Cn := RX7) C (c_X7_shows e2) gX7_greatestCount_X7_shows g3 (by decide) rfl (by decide +kernel) ⟨Nat.le_of_ble_eq_true rfl, Nat.le_of_ble_eq_true rfl⟩ rfl rfl rfl ⟨Nat.zero_le _, Nat.zero_le _⟩ hl.1 rfl rfl (Nat.le_of_ble_eq_true rfl) dX7_greatestCount_2 ?_
  refine hx_if_ne (tgt := 10) C dX7_greatestCount_5 (by decide) (fun c4 => ?_) (fun c4 => ?_)
  · have h := hx_neg c4 h
    refine hx_aload_n C dX7_greatestCount_10 rfl (lv_at hl 0 rfl) ?_
    refine hx_iload_n C dX7_greatestCount_11 rfl (lv_at hl 1 rfl) ?_
    obtain ⟨r5, e6, h⟩ := hx_bind h
    refine hx_callV (As := [.int a1]) (rest := []) (n := 1) (Cn := RX7) C (c_X7_loadTo e6) gX7_greatestCount_X7_loadTo g3 (by decide) rfl (by decide +kernel) ⟨Nat.le_of_ble_eq_true rfl, Nat.le_of_ble_eq_true rfl⟩ rfl rfl rfl ⟨Nat.zero_le _, Nat.zero_le _⟩ hl.1 rfl rfl (Nat.le_of_ble_eq_true rfl) dX7_greatestCount_12 ?_
    refine hx_aload_n C dX7_greatestCount_15 rfl (lv_at hl 0 rfl) ?_
    refine hx_geti C (ci := 7) (j := 1) g3 uX7_greatestCount_7 (by decide) rfl (by decide) rfl (by decide +kernel) rfl dX7_greatestCount_16 ?_
    refine hx_iadd C dX7_greatestCount_19 ?_
    refine hx_aload_n C dX7_greatestCount_20 rfl (lv_at hl 2 rfl) ?_
    obtain ⟨r7, e8, h⟩ := hx_bind h
    obtain ⟨g9, h⟩ := hx_gd h
    refine hx_callV (As := []) (rest := [.int (r5 + (X.1 this 1))]) (n := 0) (Cn := RX4) C (c_X4_lightest e8) gX7_greatestCount_X4_lightest g9 (by decide) rfl (by decide +kernel) ⟨Nat.le_of_ble_eq_true rfl, Nat.le_of_ble_eq_true rfl⟩ rfl rfl rfl ⟨Nat.zero_le _, Nat.zero_le _⟩ hl.1 rfl rfl (Nat.le_of_ble_eq_true rfl) dX7_greatestCount_21 ?_
    obtain ⟨r10, e11, h⟩ := hx_bind h
    refine hx_callSN (As := [.int (r5 + (X.1 this 1)), .int r7]) (rest := []) (n := 2) (host := "TicketScales") C (c_X9_quotient e11) gX7_greatestCount_X9_quotient_n31 (by decide) (by decide +kernel) (by decide +kernel) (by decide +kernel) ⟨Nat.le_of_ble_eq_true rfl, Nat.le_of_ble_eq_true rfl⟩ rfl rfl rfl ⟨Nat.zero_le _, Nat.zero_le _⟩ hl.1 rfl rfl (Nat.le_of_ble_eq_true rfl) dX7_greatestCount_24 ?_
    obtain rfl := hx_some1 h
    exact hx_iret C hr dX7_greatestCount_27
  · have h := hx_pos c4 h
    refine hx_iconst (v := (-1)) C dX7_greatestCount_8 (by decide) ?_
    obtain rfl := hx_some1 h
    exact hx_iret C hr dX7_greatestCount_9
def f_X7_nearestCount (L : hL) (X : hX) (this : Nat) (a1 : Int32) (a2 : Int32) : Option (Int32) :=
  (f_X9_quotient L X a1 a2).bind fun r1 =>
  if (a2 - (a1 - (r1 * a2))) < (a1 - (r1 * a2)) then
    some (r1 + 1)
  else
    some r1
set_option maxRecDepth 100000 in
set_option maxHeartbeats 4000000 in
theorem c_X7_nearestCount {l : Launch} {dC : Nat → ClassId} {dI : Nat → Nat → Nat} {cy : Nat → ClassId} {ad : Nat → Nat} {L : hL} {X : hX} {this : Nat} {a1 : Int32} {a2 : Int32} {r : Int32} (h : f_X7_nearestCount L X this a1 a2 = some r) : hMet l dC dI cy ad L yX7_nearestCount wsX7_nearestCount ({ frames := 2, cells := 0, slots := 0, locals := 43 } : Room) [.ref (ad this), .int a1, .int a2] X (some (.int r)) X := by
  unfold f_X7_nearestCount at h
  refine hx_enter RX7 (plainFor_of_name (by decide)) rfl rfl (Nat.le_of_ble_eq_true rfl) (fun p e s m args below meth c C hr hnm ls hl => ?_)
  have hl : lv_has ls 5 [(0, .ref (ad this)), (1, .int a1), (2, .int a2)] := hl
  refine hx_iload_n C dX7_nearestCount_0 rfl (lv_at hl 1 rfl) ?_
  refine hx_iload_n C dX7_nearestCount_1 rfl (lv_at hl 2 rfl) ?_
  obtain ⟨r1, e2, h⟩ := hx_bind h
  refine hx_callSN (As := [.int a1, .int a2]) (rest := []) (n := 2) (host := "TicketScales") C (c_X9_quotient e2) gX7_nearestCount_X9_quotient_n31 (by decide) (by decide +kernel) (by decide +kernel) (by decide +kernel) ⟨Nat.le_of_ble_eq_true rfl, Nat.le_of_ble_eq_true rfl⟩ rfl rfl rfl ⟨Nat.zero_le _, Nat.zero_le _⟩ hl.1 rfl rfl (Nat.le_of_ble_eq_true rfl) dX7_nearestCount_2 ?_
  refine hx_istore_n (lv' := [(3, .int r1), (0, .ref (ad this)), (1, .int a1), (2, .int a2)]) C dX7_nearestCount_5 rfl hl (by decide) rfl (fun ls hl => ?_)
  refine hx_iload_n C dX7_nearestCount_6 rfl (lv_at hl 2 rfl) ?_
  refine hx_iload_n C dX7_nearestCount_7 rfl (lv_at hl 0 rfl) ?_
  refine hx_iload_n C dX7_nearestCount_8 rfl (lv_at hl 3 rfl) ?_
  refine hx_imul C dX7_nearestCount_9 ?_
  refine hx_isub C dX7_nearestCount_10 ?_
  refine hx_istore (lv' := [(4, .int (a1 - (r1 * a2))), (3, .int r1), (0, .ref (ad this)), (1, .int a1), (2, .int a2)]) C dX7_nearestCount_11 hl (by decide) rfl (fun ls hl => ?_)
  refine hx_iload C dX7_nearestCount_13 (lv_at hl 0 rfl) ?_
  refine hx_iload_n C dX7_nearestCount_15 rfl (lv_at hl 4 rfl) ?_
  refine hx_iload C dX7_nearestCount_16 (lv_at hl 0 rfl) ?_
  refine hx_isub C dX7_nearestCount_18 ?_
  refine hx_icmp_gt (tgt := 26) C dX7_nearestCount_19 (by decide) (fun c3 => ?_) (fun c3 => ?_)
  · have h := hx_pos c3 h
    refine hx_iload_n C dX7_nearestCount_26 rfl (lv_at hl 1 rfl) ?_
    refine hx_iconst (v := 1) C dX7_nearestCount_27 (by decide) ?_
    refine hx_iadd C dX7_nearestCount_28 ?_
    obtain rfl := hx_some1 h
    exact hx_iret C hr dX7_nearestCount_29
  · have h := hx_neg c3 h
    refine hx_iload_n C dX7_nearestCount_22 rfl (lv_at hl 1 rfl) ?_
    refine hx_goto (tgt := 29) C dX7_nearestCount_23 (by decide) ?_
    obtain rfl := hx_some1 h
    exact hx_iret C hr dX7_nearestCount_29
theorem uX7_guessFrom_4 : ∀ w ∈ u_ws RX4 TX4 2, w ∈ wsX7_guessFrom := by decide +kernel
def f_X7_guessFrom (L : hL) (X : hX) (this : Nat) (a1 : Int32) (a2 : Nat) (a3 : Int32) : Option (Int32) :=
  (f_X7_leastCount L X this a1 a2).bind fun r1 =>
  if tk L this 7 then
  (f_X7_greatestCount L X this a1 a2).bind fun r4 =>
  if r1 ≤ r4 then
    if a3 = 1 then
      some r1
    else
    if a3 = 2 then
      some r4
    else
    if a3 = 3 then
      some ((r1 + r4) / 2)
    else
    if tk L a2 4 then
    (f_X7_nearestCount L X this a1 (X.1 a2 0)).bind fun r11 =>
    some (if r1 < (if r11 < r4 then r11 else r4) then (if r11 < r4 then r11 else r4) else r1)
    else none
  else
    some (-100009)
  else none
set_option maxRecDepth 100000 in
set_option maxHeartbeats 4000000 in
theorem c_X7_guessFrom {l : Launch} {dC : Nat → ClassId} {dI : Nat → Nat → Nat} {cy : Nat → ClassId} {ad : Nat → Nat} {L : hL} {X : hX} {this : Nat} {a1 : Int32} {a2 : Nat} {a3 : Int32} {r : Int32} (h : f_X7_guessFrom L X this a1 a2 a3 = some r) : hMet l dC dI cy ad L yX7_guessFrom wsX7_guessFrom ({ frames := 3, cells := 0, slots := 0, locals := 67 } : Room) [.ref (ad this), .int a1, .ref (ad a2), .int a3] X (some (.int r)) X := by
  unfold f_X7_guessFrom at h
  refine hx_enter RX7 (plainFor_of_name (by decide)) rfl rfl (Nat.le_of_ble_eq_true rfl) (fun p e s m args below meth c C hr hnm ls hl => ?_)
  have hl : lv_has ls 6 [(0, .ref (ad this)), (1, .int a1), (2, .ref (ad a2)), (3, .int a3)] := hl
  refine hx_aload_n C dX7_guessFrom_0 rfl (lv_at hl 0 rfl) ?_
  refine hx_iload_n C dX7_guessFrom_1 rfl (lv_at hl 1 rfl) ?_
  refine hx_aload_n C dX7_guessFrom_2 rfl (lv_at hl 2 rfl) ?_
  obtain ⟨r1, e2, h⟩ := hx_bind h
  obtain ⟨g3, h⟩ := hx_gd h
  refine hx_callV (As := [.int a1, .ref (ad a2)]) (rest := []) (n := 2) (Cn := RX7) C (c_X7_leastCount e2) gX7_guessFrom_X7_leastCount g3 (by decide) rfl (by decide +kernel) ⟨Nat.le_of_ble_eq_true rfl, Nat.le_of_ble_eq_true rfl⟩ rfl rfl rfl ⟨Nat.zero_le _, Nat.zero_le _⟩ hl.1 rfl rfl (Nat.le_of_ble_eq_true rfl) dX7_guessFrom_3 ?_
  refine hx_istore (lv' := [(4, .int r1), (0, .ref (ad this)), (1, .int a1), (2, .ref (ad a2)), (3, .int a3)]) C dX7_guessFrom_6 hl (by decide) rfl (fun ls hl => ?_)
  refine hx_aload_n C dX7_guessFrom_8 rfl (lv_at hl 1 rfl) ?_
  refine hx_iload_n C dX7_guessFrom_9 rfl (lv_at hl 2 rfl) ?_
  refine hx_aload_n C dX7_guessFrom_10 rfl (lv_at hl 3 rfl) ?_
  obtain ⟨r4, e5, h⟩ := hx_bind h
  refine hx_callV (As := [.int a1, .ref (ad a2)]) (rest := []) (n := 2) (Cn := RX7) C (c_X7_greatestCount e5) gX7_guessFrom_X7_greatestCount g3 (by decide) rfl (by decide +kernel) ⟨Nat.le_of_ble_eq_true rfl, Nat.le_of_ble_eq_true rfl⟩ rfl rfl rfl ⟨Nat.zero_le _, Nat.zero_le _⟩ hl.1 rfl rfl (Nat.le_of_ble_eq_true rfl) dX7_guessFrom_11 ?_
  refine hx_istore (lv' := [(5, .int r4), (4, .int r1), (0, .ref (ad this)), (1, .int a1), (2, .ref (ad a2)), (3, .int a3)]) C dX7_guessFrom_14 hl (by decide) rfl (fun ls hl => ?_)
  refine hx_iload C dX7_guessFrom_16 (lv_at hl 1 rfl) ?_
  refine hx_iload C dX7_guessFrom_18 (lv_at hl 0 rfl) ?_
  refine hx_icmp_le (tgt := 26) C dX7_guessFrom_20 (by decide) (fun c6 => ?_) (fun c6 => ?_)
  · have h := hx_pos c6 h
    refine hx_iload_n C dX7_guessFrom_26 rfl (lv_at hl 5 rfl) ?_
    by_cases c7 : a3 = 1
    · have h := hx_pos c7 h
      have hz : Int32.toInt a3 = 1 := by rw [c7]; rfl
      refine hx_tableIn (tgt := 52) C dX7_guessFrom_27 (by rw [hz] <;> decide) (by rw [hz] <;> decide) (off := 25) (by rw [hz] <;> rfl) (by decide) ?_
      refine hx_iload C dX7_guessFrom_52 (lv_at hl 1 rfl) ?_
      obtain rfl := hx_some1 h
      exact hx_iret C hr dX7_guessFrom_54
    have h := hx_neg c7 h
    have zc7 : Int32.toInt a3 ≠ 1 := fun z => c7 (Int32.toInt_inj.mp (z.trans rfl))
    by_cases c8 : a3 = 2
    · have h := hx_pos c8 h
      have hz : Int32.toInt a3 = 2 := by rw [c8]; rfl
      refine hx_tableIn (tgt := 55) C dX7_guessFrom_27 (by rw [hz] <;> decide) (by rw [hz] <;> decide) (off := 28) (by rw [hz] <;> rfl) (by decide) ?_
      refine hx_iload C dX7_guessFrom_55 (lv_at hl 0 rfl) ?_
      obtain rfl := hx_some1 h
      exact hx_iret C hr dX7_guessFrom_57
    have h := hx_neg c8 h
    have zc8 : Int32.toInt a3 ≠ 2 := fun z => c8 (Int32.toInt_inj.mp (z.trans rfl))
    by_cases c9 : a3 = 3
    · have h := hx_pos c9 h
      have hz : Int32.toInt a3 = 3 := by rw [c9]; rfl
      refine hx_tableIn (tgt := 58) C dX7_guessFrom_27 (by rw [hz] <;> decide) (by rw [hz] <;> decide) (off := 31) (by rw [hz] <;> rfl) (by decide) ?_
      refine hx_iload C dX7_guessFrom_58 (lv_at hl 1 rfl) ?_
      refine hx_iload C dX7_guessFrom_60 (lv_at hl 0 rfl) ?_
      refine hx_iadd C dX7_guessFrom_62 ?_
      refine hx_iconst (v := 2) C dX7_guessFrom_63 (by decide) ?_
      refine hx_idiv C dX7_guessFrom_64 (by decide) ?_
      obtain rfl := hx_some1 h
      exact hx_iret C hr dX7_guessFrom_65
    have h := hx_neg c9 h
    have zc9 : Int32.toInt a3 ≠ 3 := fun z => c9 (Int32.toInt_inj.mp (z.trans rfl))
    refine hx_tableOut (tgt := 66) C dX7_guessFrom_27 (by omega) (by decide) ?_
    refine hx_iload C dX7_guessFrom_66 (lv_at hl 1 rfl) ?_
    refine hx_iload C dX7_guessFrom_68 (lv_at hl 0 rfl) ?_
    refine hx_aload_n C dX7_guessFrom_70 rfl (lv_at hl 2 rfl) ?_
    refine hx_iload_n C dX7_guessFrom_71 rfl (lv_at hl 3 rfl) ?_
    refine hx_aload_n C dX7_guessFrom_72 rfl (lv_at hl 4 rfl) ?_
    obtain ⟨g10, h⟩ := hx_gd h
    refine hx_geti C (ci := 4) (j := 0) g10 uX7_guessFrom_4 (by decide) rfl (by decide) rfl (by decide +kernel) rfl dX7_guessFrom_73 ?_
    obtain ⟨r11, e12, h⟩ := hx_bind h
    refine hx_callV (As := [.int a1, .int (X.1 a2 0)]) (rest := [.int r4, .int r1]) (n := 2) (Cn := RX7) C (c_X7_nearestCount e12) gX7_guessFrom_X7_nearestCount g3 (by decide) rfl (by decide +kernel) ⟨Nat.le_of_ble_eq_true rfl, Nat.le_of_ble_eq_true rfl⟩ rfl rfl rfl ⟨Nat.zero_le _, Nat.zero_le _⟩ hl.1 rfl rfl (Nat.le_of_ble_eq_true rfl) dX7_guessFrom_76 ?_
    refine hx_mmin C (by decide +kernel) (by decide +kernel) (by decide +kernel) (by decide +kernel) hl.1 (Nat.le_of_ble_eq_true rfl) (Nat.le_of_ble_eq_true rfl) (Nat.zero_le _) (Nat.zero_le _) dX7_guessFrom_79 ?_
    refine hx_mmax C (by decide +kernel) (by decide +kernel) (by decide +kernel) (by decide +kernel) hl.1 (Nat.le_of_ble_eq_true rfl) (Nat.le_of_ble_eq_true rfl) (Nat.zero_le _) (Nat.zero_le _) dX7_guessFrom_82 ?_
    obtain rfl := hx_some1 h
    exact hx_iret C hr dX7_guessFrom_85
  · have h := hx_neg c6 h
    refine hx_ldc (v := (-100009)) C (by decide +kernel) dX7_guessFrom_23 ?_
    obtain rfl := hx_some1 h
    exact hx_iret C hr dX7_guessFrom_25
theorem uX1_gain_1 : ∀ w ∈ u_ws RX1 TX1 6, w ∈ wsX1_gain := by decide +kernel
def f_X1_gain (L : hL) (X : hX) (this : Nat) (a1 : Int32) : Option (hX) :=
  if tk L this 1 then
  some (smi X this 0 (if 0 < ((X.1 this 0) + a1) then ((X.1 this 0) + a1) else 0))
  else none
set_option maxRecDepth 100000 in
set_option maxHeartbeats 4000000 in
theorem c_X1_gain {l : Launch} {dC : Nat → ClassId} {dI : Nat → Nat → Nat} {cy : Nat → ClassId} {ad : Nat → Nat} {L : hL} {X : hX} {this : Nat} {a1 : Int32} {X' : hX} (h : f_X1_gain L X this a1 = some X') : hMet l dC dI cy ad L yX1_gain wsX1_gain ({ frames := 1, cells := 0, slots := 0, locals := 24 } : Room) [.ref (ad this), .int a1] X none X' := by
  unfold f_X1_gain at h
  refine hx_enter RX1 (plainFor_of_name (by decide)) rfl rfl (Nat.le_of_ble_eq_true rfl) (fun p e s m args below meth c C hr hnm ls hl => ?_)
  have hl : lv_has ls 2 [(0, .ref (ad this)), (1, .int a1)] := hl
  refine hx_aload_n C dX1_gain_0 rfl (lv_at hl 0 rfl) ?_
  refine hx_iconst (v := 0) C dX1_gain_1 (by decide) ?_
  refine hx_aload_n C dX1_gain_2 rfl (lv_at hl 0 rfl) ?_
  obtain ⟨g1, h⟩ := hx_gd h
  refine hx_geti C (ci := 1) (j := 0) g1 uX1_gain_1 (by decide) rfl (by decide) rfl (by decide +kernel) rfl dX1_gain_3 ?_
  refine hx_iload_n C dX1_gain_6 rfl (lv_at hl 1 rfl) ?_
  refine hx_iadd C dX1_gain_7 ?_
  refine hx_mmax C (by decide +kernel) (by decide +kernel) (by decide +kernel) (by decide +kernel) hl.1 (Nat.le_of_ble_eq_true rfl) (Nat.le_of_ble_eq_true rfl) (Nat.zero_le _) (Nat.zero_le _) dX1_gain_8 ?_
  refine hx_puti C (ci := 1) (j := 0) tyX1 tyX1_ok nmX1 g1 uX1_gain_1 (by decide) rfl (by decide) rfl (by decide +kernel) rfl rfl (tyX1_ok 0 (by decide)) dX1_gain_11 rfl rfl ?_
  obtain rfl := hx_some1 h
  exact hx_vret C hr dX1_gain_14
theorem uX1_keep_1 : ∀ w ∈ u_ws RX1 TX1 6, w ∈ wsX1_keep := by decide +kernel
def f_X1_keep (L : hL) (X : hX) (this : Nat) (a1 : Int32) (a2 : Int32) (a3 : Int32) (a4 : Int32) : Option (hX) :=
  if tk L this 1 then
  some (smi (smi (smi (smi (smi X this 1 1) this 2 a1) this 3 a2) this 4 a3) this 5 a4)
  else none
set_option maxRecDepth 100000 in
set_option maxHeartbeats 4000000 in
theorem c_X1_keep {l : Launch} {dC : Nat → ClassId} {dI : Nat → Nat → Nat} {cy : Nat → ClassId} {ad : Nat → Nat} {L : hL} {X : hX} {this : Nat} {a1 : Int32} {a2 : Int32} {a3 : Int32} {a4 : Int32} {X' : hX} (h : f_X1_keep L X this a1 a2 a3 a4 = some X') : hMet l dC dI cy ad L yX1_keep wsX1_keep ({ frames := 0, cells := 0, slots := 0, locals := 0 } : Room) [.ref (ad this), .int a1, .int a2, .int a3, .int a4] X none X' := by
  unfold f_X1_keep at h
  refine hx_enter RX1 (plainFor_of_name (by decide)) rfl rfl (Nat.le_of_ble_eq_true rfl) (fun p e s m args below meth c C hr hnm ls hl => ?_)
  have hl : lv_has ls 5 [(0, .ref (ad this)), (1, .int a1), (2, .int a2), (3, .int a3), (4, .int a4)] := hl
  refine hx_aload_n C dX1_keep_0 rfl (lv_at hl 0 rfl) ?_
  refine hx_iconst (v := 1) C dX1_keep_1 (by decide) ?_
  obtain ⟨g1, h⟩ := hx_gd h
  refine hx_puti C (ci := 1) (j := 1) tyX1 tyX1_ok nmX1 g1 uX1_keep_1 (by decide) rfl (by decide) rfl (by decide +kernel) rfl rfl (tyX1_ok 1 (by decide)) dX1_keep_2 rfl rfl ?_
  refine hx_aload_n C dX1_keep_5 rfl (lv_at hl 0 rfl) ?_
  refine hx_iload_n C dX1_keep_6 rfl (lv_at hl 1 rfl) ?_
  refine hx_puti C (ci := 1) (j := 2) tyX1 tyX1_ok nmX1 g1 uX1_keep_1 (by decide) rfl (by decide) rfl (by decide +kernel) rfl rfl (tyX1_ok 2 (by decide)) dX1_keep_7 rfl rfl ?_
  refine hx_aload_n C dX1_keep_10 rfl (lv_at hl 0 rfl) ?_
  refine hx_iload_n C dX1_keep_11 rfl (lv_at hl 2 rfl) ?_
  refine hx_puti C (ci := 1) (j := 3) tyX1 tyX1_ok nmX1 g1 uX1_keep_1 (by decide) rfl (by decide) rfl (by decide +kernel) rfl rfl (tyX1_ok 3 (by decide)) dX1_keep_12 rfl rfl ?_
  refine hx_aload_n C dX1_keep_15 rfl (lv_at hl 0 rfl) ?_
  refine hx_iload_n C dX1_keep_16 rfl (lv_at hl 3 rfl) ?_
  refine hx_puti C (ci := 1) (j := 4) tyX1 tyX1_ok nmX1 g1 uX1_keep_1 (by decide) rfl (by decide) rfl (by decide +kernel) rfl rfl (tyX1_ok 4 (by decide)) dX1_keep_17 rfl rfl ?_
  refine hx_aload_n C dX1_keep_20 rfl (lv_at hl 0 rfl) ?_
  refine hx_iload C dX1_keep_21 (lv_at hl 4 rfl) ?_
  refine hx_puti C (ci := 1) (j := 5) tyX1 tyX1_ok nmX1 g1 uX1_keep_1 (by decide) rfl (by decide) rfl (by decide +kernel) rfl rfl (tyX1_ok 5 (by decide)) dX1_keep_23 rfl rfl ?_
  obtain rfl := hx_some1 h
  exact hx_vret C hr dX1_keep_26
theorem uX0_weighBundle_0 : ∀ w ∈ u_ws RX0 TX0 9, w ∈ wsX0_weighBundle := by decide +kernel
theorem uX0_weighBundle_4 : ∀ w ∈ u_ws RX4 TX4 2, w ∈ wsX0_weighBundle := by decide +kernel
theorem uX0_weighBundle_7 : ∀ w ∈ u_ws RX7 TX7 3, w ∈ wsX0_weighBundle := by decide +kernel
def f_X0_weighBundle (L : hL) (X : hX) (this : Nat) (a1 : Int32) (a2 : Int32) (a3 : Int32) (a4 : Int32) : Option (Int32 × hX) :=
  (f_X0_customerAt L X this a1).bind fun r1 =>
  if tk L this 0 then
  Option.elim r1
  (
    (f_X0_kindAt L X this a2).bind fun r5 =>
    Option.elim r5
    (
      some ((-100001), X))
    fun i7 =>
      some ((-100001), X))
  fun i4 =>
    (f_X0_kindAt L X this a2).bind fun r8 =>
    Option.elim r8
    (
      some ((-100001), X))
    fun i10 =>
      (f_X9_within L X a3 1 500).bind fun r11 =>
      if r11 = 0 then
        some ((-100001), X)
      else
        if tk L i10 4 then
        (f_X9_within L X a4 (-(a3 * (X.1 i10 1))) (a3 * (X.1 i10 1))).bind fun r15 =>
        if r15 = 0 then
          some ((-100001), X)
        else
          (X.2 this 1).bind fun q18 =>
          if tk L q18 7 then
          (f_X9_readingAt L X (X.1 q18 0) (((a3 * (X.1 i10 0)) + a4) + (X.1 q18 2))).bind fun r21 =>
          (f_X7_guessFrom L X q18 r21 i10 (X.1 this 6)).bind fun r23 =>
          (f_X1_gain L X i4 r23).bind fun r25 =>
          if tk L i4 1 then
          (f_X1_keep L r25 i4 a2 a3 r21 r23).bind fun r28 =>
          some (r23, smi r28 this 8 ((r28.1 this 8) + (r23 - a3)))
          else none
          else none
        else none
  else none
set_option maxRecDepth 100000 in
set_option maxHeartbeats 4000000 in
theorem c_X0_weighBundle {l : Launch} {dC : Nat → ClassId} {dI : Nat → Nat → Nat} {cy : Nat → ClassId} {ad : Nat → Nat} {L : hL} {X : hX} {this : Nat} {a1 : Int32} {a2 : Int32} {a3 : Int32} {a4 : Int32} {r : Int32} {X' : hX} (h : f_X0_weighBundle L X this a1 a2 a3 a4 = some (r, X')) : hMet l dC dI cy ad L yX0_weighBundle wsX0_weighBundle ({ frames := 4, cells := 0, slots := 0, locals := 92 } : Room) [.ref (ad this), .int a1, .int a2, .int a3, .int a4] X (some (.int r)) X' := by
  unfold f_X0_weighBundle at h
  refine hx_enter RX0 (plainFor_of_name (by decide)) rfl rfl (Nat.le_of_ble_eq_true rfl) (fun p e s m args below meth c C hr hnm ls hl => ?_)
  have hl : lv_has ls 10 [(0, .ref (ad this)), (1, .int a1), (2, .int a2), (3, .int a3), (4, .int a4)] := hl
  refine hx_aload_n C dX0_weighBundle_0 rfl (lv_at hl 0 rfl) ?_
  refine hx_iload_n C dX0_weighBundle_1 rfl (lv_at hl 1 rfl) ?_
  obtain ⟨r1, e2, h⟩ := hx_bind h
  obtain ⟨g3, h⟩ := hx_gd h
  refine hx_callV (As := [.int a1]) (rest := []) (n := 1) (Cn := RX0) C (c_X0_customerAt e2) gX0_weighBundle_X0_customerAt g3 (by decide) rfl (by decide +kernel) ⟨Nat.le_of_ble_eq_true rfl, Nat.le_of_ble_eq_true rfl⟩ rfl rfl rfl ⟨Nat.zero_le _, Nat.zero_le _⟩ hl.1 rfl rfl (Nat.le_of_ble_eq_true rfl) dX0_weighBundle_2 ?_
  rcases r1 with _ | i4
  · have h := hx_eln h
    refine hx_astoreN (lv' := [(5, .null), (0, .ref (ad this)), (1, .int a1), (2, .int a2), (3, .int a3), (4, .int a4)]) C dX0_weighBundle_5 hl (by decide) rfl (fun ls hl => ?_)
    refine hx_aload_n C dX0_weighBundle_7 rfl (lv_at hl 1 rfl) ?_
    refine hx_iload_n C dX0_weighBundle_8 rfl (lv_at hl 3 rfl) ?_
    obtain ⟨r5, e6, h⟩ := hx_bind h
    refine hx_callV (As := [.int a2]) (rest := []) (n := 1) (Cn := RX0) C (c_X0_kindAt e6) gX0_weighBundle_X0_kindAt g3 (by decide) rfl (by decide +kernel) ⟨Nat.le_of_ble_eq_true rfl, Nat.le_of_ble_eq_true rfl⟩ rfl rfl rfl ⟨Nat.zero_le _, Nat.zero_le _⟩ hl.1 rfl rfl (Nat.le_of_ble_eq_true rfl) dX0_weighBundle_9 ?_
    rcases r5 with _ | i7
    · have h := hx_eln h
      refine hx_astoreN (lv' := [(6, .null), (5, .null), (0, .ref (ad this)), (1, .int a1), (2, .int a2), (3, .int a3), (4, .int a4)]) C dX0_weighBundle_12 hl (by decide) rfl (fun ls hl => ?_)
      refine hx_aloadN C dX0_weighBundle_14 (lv_at hl 1 rfl) ?_
      refine hx_ifnullN (tgt := 35) C dX0_weighBundle_16 (by decide) ?_
      refine hx_ldc (v := (-100001)) C (by decide +kernel) dX0_weighBundle_35 ?_
      obtain ⟨rfl, rfl⟩ := hx_some2 h
      exact hx_iret C hr dX0_weighBundle_37
    · have h := hx_els h
      refine hx_astore (lv' := [(6, .ref (ad i7)), (5, .null), (0, .ref (ad this)), (1, .int a1), (2, .int a2), (3, .int a3), (4, .int a4)]) C dX0_weighBundle_12 hl (by decide) rfl (fun ls hl => ?_)
      refine hx_aloadN C dX0_weighBundle_14 (lv_at hl 1 rfl) ?_
      refine hx_ifnullN (tgt := 35) C dX0_weighBundle_16 (by decide) ?_
      refine hx_ldc (v := (-100001)) C (by decide +kernel) dX0_weighBundle_35 ?_
      obtain ⟨rfl, rfl⟩ := hx_some2 h
      exact hx_iret C hr dX0_weighBundle_37
  · have h := hx_els h
    refine hx_astore (lv' := [(5, .ref (ad i4)), (0, .ref (ad this)), (1, .int a1), (2, .int a2), (3, .int a3), (4, .int a4)]) C dX0_weighBundle_5 hl (by decide) rfl (fun ls hl => ?_)
    refine hx_aload_n C dX0_weighBundle_7 rfl (lv_at hl 1 rfl) ?_
    refine hx_iload_n C dX0_weighBundle_8 rfl (lv_at hl 3 rfl) ?_
    obtain ⟨r8, e9, h⟩ := hx_bind h
    refine hx_callV (As := [.int a2]) (rest := []) (n := 1) (Cn := RX0) C (c_X0_kindAt e9) gX0_weighBundle_X0_kindAt g3 (by decide) rfl (by decide +kernel) ⟨Nat.le_of_ble_eq_true rfl, Nat.le_of_ble_eq_true rfl⟩ rfl rfl rfl ⟨Nat.zero_le _, Nat.zero_le _⟩ hl.1 rfl rfl (Nat.le_of_ble_eq_true rfl) dX0_weighBundle_9 ?_
    rcases r8 with _ | i10
    · have h := hx_eln h
      refine hx_astoreN (lv' := [(6, .null), (5, .ref (ad i4)), (0, .ref (ad this)), (1, .int a1), (2, .int a2), (3, .int a3), (4, .int a4)]) C dX0_weighBundle_12 hl (by decide) rfl (fun ls hl => ?_)
      refine hx_aload C dX0_weighBundle_14 (lv_at hl 1 rfl) ?_
      refine hx_ifnull C dX0_weighBundle_16 ?_
      refine hx_aloadN C dX0_weighBundle_19 (lv_at hl 0 rfl) ?_
      refine hx_ifnullN (tgt := 35) C dX0_weighBundle_21 (by decide) ?_
      refine hx_ldc (v := (-100001)) C (by decide +kernel) dX0_weighBundle_35 ?_
      obtain ⟨rfl, rfl⟩ := hx_some2 h
      exact hx_iret C hr dX0_weighBundle_37
    · have h := hx_els h
      refine hx_astore (lv' := [(6, .ref (ad i10)), (5, .ref (ad i4)), (0, .ref (ad this)), (1, .int a1), (2, .int a2), (3, .int a3), (4, .int a4)]) C dX0_weighBundle_12 hl (by decide) rfl (fun ls hl => ?_)
      refine hx_aload C dX0_weighBundle_14 (lv_at hl 1 rfl) ?_
      refine hx_ifnull C dX0_weighBundle_16 ?_
      refine hx_aload C dX0_weighBundle_19 (lv_at hl 0 rfl) ?_
      refine hx_ifnull C dX0_weighBundle_21 ?_
      refine hx_iload_n C dX0_weighBundle_24 rfl (lv_at hl 5 rfl) ?_
      refine hx_iconst (v := 1) C dX0_weighBundle_25 (by decide) ?_
      refine hx_sipush (v := 500) C dX0_weighBundle_26 (by decide) ?_
      obtain ⟨r11, e12, h⟩ := hx_bind h
      refine hx_callSN (As := [.int a3, .int 1, .int 500]) (rest := []) (n := 3) (host := "TicketScales") C (c_X9_within e12) gX0_weighBundle_X9_within_n68 (by decide) (by decide +kernel) (by decide +kernel) (by decide +kernel) ⟨Nat.le_of_ble_eq_true rfl, Nat.le_of_ble_eq_true rfl⟩ rfl rfl rfl ⟨Nat.zero_le _, Nat.zero_le _⟩ hl.1 rfl rfl (Nat.le_of_ble_eq_true rfl) dX0_weighBundle_29 ?_
      refine hx_if_ne (tgt := 38) C dX0_weighBundle_32 (by decide) (fun c13 => ?_) (fun c13 => ?_)
      · have h := hx_neg c13 h
        refine hx_iload_n C dX0_weighBundle_38 rfl (lv_at hl 5 rfl) ?_
        refine hx_aload C dX0_weighBundle_39 (lv_at hl 0 rfl) ?_
        obtain ⟨g14, h⟩ := hx_gd h
        refine hx_geti C (ci := 4) (j := 1) g14 uX0_weighBundle_4 (by decide) rfl (by decide) rfl (by decide +kernel) rfl dX0_weighBundle_41 ?_
        refine hx_imul C dX0_weighBundle_44 ?_
        refine hx_istore (lv' := [(7, .int (a3 * (X.1 i10 1))), (6, .ref (ad i10)), (5, .ref (ad i4)), (0, .ref (ad this)), (1, .int a1), (2, .int a2), (3, .int a3), (4, .int a4)]) C dX0_weighBundle_45 hl (by decide) rfl (fun ls hl => ?_)
        refine hx_iload C dX0_weighBundle_47 (lv_at hl 7 rfl) ?_
        refine hx_iload C dX0_weighBundle_49 (lv_at hl 0 rfl) ?_
        refine hx_ineg C dX0_weighBundle_51 ?_
        refine hx_iload C dX0_weighBundle_52 (lv_at hl 0 rfl) ?_
        obtain ⟨r15, e16, h⟩ := hx_bind h
        refine hx_callSN (As := [.int a4, .int (-(a3 * (X.1 i10 1))), .int (a3 * (X.1 i10 1))]) (rest := []) (n := 3) (host := "TicketScales") C (c_X9_within e16) gX0_weighBundle_X9_within_n68 (by decide) (by decide +kernel) (by decide +kernel) (by decide +kernel) ⟨Nat.le_of_ble_eq_true rfl, Nat.le_of_ble_eq_true rfl⟩ rfl rfl rfl ⟨Nat.zero_le _, Nat.zero_le _⟩ hl.1 rfl rfl (Nat.le_of_ble_eq_true rfl) dX0_weighBundle_54 ?_
        refine hx_if_ne (tgt := 63) C dX0_weighBundle_57 (by decide) (fun c17 => ?_) (fun c17 => ?_)
        · have h := hx_neg c17 h
          refine hx_aload_n C dX0_weighBundle_63 rfl (lv_at hl 3 rfl) ?_
          obtain ⟨q18, e19, h⟩ := hx_bind h
          refine hx_getr C (ci := 0) (j := 1) g3 uX0_weighBundle_0 (by decide) rfl (by decide) rfl (by decide +kernel) rfl dX0_weighBundle_64 e19 ?_
          obtain ⟨g20, h⟩ := hx_gd h
          refine hx_geti C (ci := 7) (j := 0) g20 uX0_weighBundle_7 (by decide) rfl (by decide) rfl (by decide +kernel) rfl dX0_weighBundle_67 ?_
          refine hx_iload_n C dX0_weighBundle_70 rfl (lv_at hl 6 rfl) ?_
          refine hx_aload C dX0_weighBundle_71 (lv_at hl 1 rfl) ?_
          refine hx_geti C (ci := 4) (j := 0) g14 uX0_weighBundle_4 (by decide) rfl (by decide) rfl (by decide +kernel) rfl dX0_weighBundle_73 ?_
          refine hx_imul C dX0_weighBundle_76 ?_
          refine hx_iload C dX0_weighBundle_77 (lv_at hl 7 rfl) ?_
          refine hx_iadd C dX0_weighBundle_79 ?_
          refine hx_aload_n C dX0_weighBundle_80 rfl (lv_at hl 3 rfl) ?_
          refine hx_getr C (ci := 0) (j := 1) g3 uX0_weighBundle_0 (by decide) rfl (by decide) rfl (by decide +kernel) rfl dX0_weighBundle_81 e19 ?_
          refine hx_geti C (ci := 7) (j := 2) g20 uX0_weighBundle_7 (by decide) rfl (by decide) rfl (by decide +kernel) rfl dX0_weighBundle_84 ?_
          refine hx_iadd C dX0_weighBundle_87 ?_
          obtain ⟨r21, e22, h⟩ := hx_bind h
          refine hx_callSN (As := [.int (X.1 q18 0), .int (((a3 * (X.1 i10 0)) + a4) + (X.1 q18 2))]) (rest := []) (n := 2) (host := "TicketScales") C (c_X9_readingAt e22) gX0_weighBundle_X9_readingAt_n113 (by decide) (by decide +kernel) (by decide +kernel) (by decide +kernel) ⟨Nat.le_of_ble_eq_true rfl, Nat.le_of_ble_eq_true rfl⟩ rfl rfl rfl ⟨Nat.zero_le _, Nat.zero_le _⟩ hl.1 rfl rfl (Nat.le_of_ble_eq_true rfl) dX0_weighBundle_88 ?_
          refine hx_istore (lv' := [(8, .int r21), (7, .int (a3 * (X.1 i10 1))), (6, .ref (ad i10)), (5, .ref (ad i4)), (0, .ref (ad this)), (1, .int a1), (2, .int a2), (3, .int a3), (4, .int a4)]) C dX0_weighBundle_91 hl (by decide) rfl (fun ls hl => ?_)
          refine hx_aload_n C dX0_weighBundle_93 rfl (lv_at hl 4 rfl) ?_
          refine hx_getr C (ci := 0) (j := 1) g3 uX0_weighBundle_0 (by decide) rfl (by decide) rfl (by decide +kernel) rfl dX0_weighBundle_94 e19 ?_
          refine hx_iload C dX0_weighBundle_97 (lv_at hl 0 rfl) ?_
          refine hx_aload C dX0_weighBundle_99 (lv_at hl 2 rfl) ?_
          refine hx_aload_n C dX0_weighBundle_101 rfl (lv_at hl 4 rfl) ?_
          refine hx_geti C (ci := 0) (j := 6) g3 uX0_weighBundle_0 (by decide) rfl (by decide) rfl (by decide +kernel) rfl dX0_weighBundle_102 ?_
          obtain ⟨r23, e24, h⟩ := hx_bind h
          refine hx_callV (As := [.int r21, .ref (ad i10), .int (X.1 this 6)]) (rest := []) (n := 3) (Cn := RX7) C (c_X7_guessFrom e24) gX0_weighBundle_X7_guessFrom g20 (by decide) rfl (by decide +kernel) ⟨Nat.le_of_ble_eq_true rfl, Nat.le_of_ble_eq_true rfl⟩ rfl rfl rfl ⟨Nat.zero_le _, Nat.zero_le _⟩ hl.1 rfl rfl (Nat.le_of_ble_eq_true rfl) dX0_weighBundle_105 ?_
          refine hx_istore (lv' := [(9, .int r23), (8, .int r21), (7, .int (a3 * (X.1 i10 1))), (6, .ref (ad i10)), (5, .ref (ad i4)), (0, .ref (ad this)), (1, .int a1), (2, .int a2), (3, .int a3), (4, .int a4)]) C dX0_weighBundle_108 hl (by decide) rfl (fun ls hl => ?_)
          refine hx_aload C dX0_weighBundle_110 (lv_at hl 4 rfl) ?_
          refine hx_iload C dX0_weighBundle_112 (lv_at hl 0 rfl) ?_
          obtain ⟨r25, e26, h⟩ := hx_bind h
          obtain ⟨g27, h⟩ := hx_gd h
          refine hx_callV (As := [.int r23]) (rest := []) (n := 1) (Cn := RX1) C (c_X1_gain e26) gX0_weighBundle_X1_gain g27 (by decide) rfl (by decide +kernel) ⟨Nat.le_of_ble_eq_true rfl, Nat.le_of_ble_eq_true rfl⟩ rfl rfl rfl ⟨Nat.zero_le _, Nat.zero_le _⟩ hl.1 rfl rfl (Nat.le_of_ble_eq_true rfl) dX0_weighBundle_114 ?_
          refine hx_aload C dX0_weighBundle_117 (lv_at hl 4 rfl) ?_
          refine hx_iload_n C dX0_weighBundle_119 rfl (lv_at hl 7 rfl) ?_
          refine hx_iload_n C dX0_weighBundle_120 rfl (lv_at hl 8 rfl) ?_
          refine hx_iload C dX0_weighBundle_121 (lv_at hl 1 rfl) ?_
          refine hx_iload C dX0_weighBundle_123 (lv_at hl 0 rfl) ?_
          obtain ⟨r28, e29, h⟩ := hx_bind h
          refine hx_callV (As := [.int a2, .int a3, .int r21, .int r23]) (rest := []) (n := 4) (Cn := RX1) C (c_X1_keep e29) gX0_weighBundle_X1_keep g27 (by decide) rfl (by decide +kernel) ⟨Nat.le_of_ble_eq_true rfl, Nat.le_of_ble_eq_true rfl⟩ rfl rfl rfl ⟨Nat.zero_le _, Nat.zero_le _⟩ hl.1 rfl rfl (Nat.le_of_ble_eq_true rfl) dX0_weighBundle_125 ?_
          refine hx_aload_n C dX0_weighBundle_128 rfl (lv_at hl 5 rfl) ?_
          refine hx_dup C dX0_weighBundle_129 rfl ?_
          refine hx_geti C (ci := 0) (j := 8) g3 uX0_weighBundle_0 (by decide) rfl (by decide) rfl (by decide +kernel) rfl dX0_weighBundle_130 ?_
          refine hx_iload C dX0_weighBundle_133 (lv_at hl 0 rfl) ?_
          refine hx_iload_n C dX0_weighBundle_135 rfl (lv_at hl 8 rfl) ?_
          refine hx_isub C dX0_weighBundle_136 ?_
          refine hx_iadd C dX0_weighBundle_137 ?_
          refine hx_puti C (ci := 0) (j := 8) tyX0 tyX0_ok nmX0 g3 uX0_weighBundle_0 (by decide) rfl (by decide) rfl (by decide +kernel) rfl rfl (tyX0_ok 8 (by decide)) dX0_weighBundle_138 rfl rfl ?_
          refine hx_iload C dX0_weighBundle_141 (lv_at hl 0 rfl) ?_
          obtain ⟨rfl, rfl⟩ := hx_some2 h
          exact hx_iret C hr dX0_weighBundle_143
        · have h := hx_pos c17 h
          refine hx_ldc (v := (-100001)) C (by decide +kernel) dX0_weighBundle_60 ?_
          obtain ⟨rfl, rfl⟩ := hx_some2 h
          exact hx_iret C hr dX0_weighBundle_62
      · have h := hx_pos c13 h
        refine hx_ldc (v := (-100001)) C (by decide +kernel) dX0_weighBundle_35 ?_
        obtain ⟨rfl, rfl⟩ := hx_some2 h
        exact hx_iret C hr dX0_weighBundle_37
theorem uX0_allows_0 : ∀ w ∈ u_ws RX0 TX0 9, w ∈ wsX0_allows := by decide +kernel
def f_X0_allows (L : hL) (X : hX) (this : Nat) (a1 : Int32) (a2 : Nat) (a3 : Int32) : Option (Int32) :=
  if tk L this 0 then
  (X.2 this 1).bind fun q2 =>
  (f_X7_leastCount L X q2 a1 a2).bind fun r4 =>
  if tk L q2 7 then
  (f_X7_greatestCount L X q2 a1 a2).bind fun r7 =>
  (f_X9_within L X a3 r4 r7).bind fun r9 =>
  if r9 = 0 ∨ r9 = 1 then
  some r9
  else none
  else none
  else none
set_option maxRecDepth 100000 in
set_option maxHeartbeats 4000000 in
theorem c_X0_allows {l : Launch} {dC : Nat → ClassId} {dI : Nat → Nat → Nat} {cy : Nat → ClassId} {ad : Nat → Nat} {L : hL} {X : hX} {this : Nat} {a1 : Int32} {a2 : Nat} {a3 : Int32} {r : Int32} (h : f_X0_allows L X this a1 a2 a3 = some r) : hMet l dC dI cy ad L yX0_allows wsX0_allows ({ frames := 3, cells := 0, slots := 0, locals := 67 } : Room) [.ref (ad this), .int a1, .ref (ad a2), .int a3] X (some (.int r)) X := by
  unfold f_X0_allows at h
  refine hx_enter RX0 (plainFor_of_name (by decide)) rfl rfl (Nat.le_of_ble_eq_true rfl) (fun p e s m args below meth c C hr hnm ls hl => ?_)
  have hl : lv_has ls 4 [(0, .ref (ad this)), (1, .int a1), (2, .ref (ad a2)), (3, .int a3)] := hl
  refine hx_iload_n C dX0_allows_0 rfl (lv_at hl 3 rfl) ?_
  refine hx_aload_n C dX0_allows_1 rfl (lv_at hl 0 rfl) ?_
  obtain ⟨g1, h⟩ := hx_gd h
  obtain ⟨q2, e3, h⟩ := hx_bind h
  refine hx_getr C (ci := 0) (j := 1) g1 uX0_allows_0 (by decide) rfl (by decide) rfl (by decide +kernel) rfl dX0_allows_2 e3 ?_
  refine hx_iload_n C dX0_allows_5 rfl (lv_at hl 1 rfl) ?_
  refine hx_aload_n C dX0_allows_6 rfl (lv_at hl 2 rfl) ?_
  obtain ⟨r4, e5, h⟩ := hx_bind h
  obtain ⟨g6, h⟩ := hx_gd h
  refine hx_callV (As := [.int a1, .ref (ad a2)]) (rest := [.int a3]) (n := 2) (Cn := RX7) C (c_X7_leastCount e5) gX0_allows_X7_leastCount g6 (by decide) rfl (by decide +kernel) ⟨Nat.le_of_ble_eq_true rfl, Nat.le_of_ble_eq_true rfl⟩ rfl rfl rfl ⟨Nat.zero_le _, Nat.zero_le _⟩ hl.1 rfl rfl (Nat.le_of_ble_eq_true rfl) dX0_allows_7 ?_
  refine hx_aload_n C dX0_allows_10 rfl (lv_at hl 0 rfl) ?_
  refine hx_getr C (ci := 0) (j := 1) g1 uX0_allows_0 (by decide) rfl (by decide) rfl (by decide +kernel) rfl dX0_allows_11 e3 ?_
  refine hx_iload_n C dX0_allows_14 rfl (lv_at hl 1 rfl) ?_
  refine hx_aload_n C dX0_allows_15 rfl (lv_at hl 2 rfl) ?_
  obtain ⟨r7, e8, h⟩ := hx_bind h
  refine hx_callV (As := [.int a1, .ref (ad a2)]) (rest := [.int r4, .int a3]) (n := 2) (Cn := RX7) C (c_X7_greatestCount e8) gX0_allows_X7_greatestCount g6 (by decide) rfl (by decide +kernel) ⟨Nat.le_of_ble_eq_true rfl, Nat.le_of_ble_eq_true rfl⟩ rfl rfl rfl ⟨Nat.zero_le _, Nat.zero_le _⟩ hl.1 rfl rfl (Nat.le_of_ble_eq_true rfl) dX0_allows_16 ?_
  obtain ⟨r9, e10, h⟩ := hx_bind h
  refine hx_callSN (As := [.int a3, .int r4, .int r7]) (rest := []) (n := 3) (host := "TicketScales") C (c_X9_within e10) gX0_allows_X9_within_n68 (by decide) (by decide +kernel) (by decide +kernel) (by decide +kernel) ⟨Nat.le_of_ble_eq_true rfl, Nat.le_of_ble_eq_true rfl⟩ rfl rfl rfl ⟨Nat.zero_le _, Nat.zero_le _⟩ hl.1 rfl rfl (Nat.le_of_ble_eq_true rfl) dX0_allows_19 ?_
  obtain ⟨g11, h⟩ := hx_gd h
  obtain rfl := hx_some1 h
  exact hx_zret C hr (hx_nb g11).1 dX0_allows_22
theorem uX1_isNearer_1 : ∀ w ∈ u_ws RX1 TX1 6, w ∈ wsX1_isNearer := by decide +kernel
def f_X1_isNearer (L : hL) (X : hX) (this : Nat) (a1 : Int32) : Option (Int32) :=
  if tk L this 1 then
  if (if 0 ≤ ((X.1 this 5) - (X.1 this 3)) then ((X.1 this 5) - (X.1 this 3)) else 0 - ((X.1 this 5) - (X.1 this 3))) ≤ (if 0 ≤ (a1 - (X.1 this 3)) then (a1 - (X.1 this 3)) else 0 - (a1 - (X.1 this 3))) then
    some 0
  else
    some 1
  else none
set_option maxRecDepth 100000 in
set_option maxHeartbeats 4000000 in
theorem c_X1_isNearer {l : Launch} {dC : Nat → ClassId} {dI : Nat → Nat → Nat} {cy : Nat → ClassId} {ad : Nat → Nat} {L : hL} {X : hX} {this : Nat} {a1 : Int32} {r : Int32} (h : f_X1_isNearer L X this a1 = some r) : hMet l dC dI cy ad L yX1_isNearer wsX1_isNearer ({ frames := 1, cells := 0, slots := 0, locals := 24 } : Room) [.ref (ad this), .int a1] X (some (.int r)) X := by
  unfold f_X1_isNearer at h
  refine hx_enter RX1 (plainFor_of_name (by decide)) rfl rfl (Nat.le_of_ble_eq_true rfl) (fun p e s m args below meth c C hr hnm ls hl => ?_)
  have hl : lv_has ls 2 [(0, .ref (ad this)), (1, .int a1)] := hl
  refine hx_iload_n C dX1_isNearer_0 rfl (lv_at hl 1 rfl) ?_
  refine hx_aload_n C dX1_isNearer_1 rfl (lv_at hl 0 rfl) ?_
  obtain ⟨g1, h⟩ := hx_gd h
  refine hx_geti C (ci := 1) (j := 3) g1 uX1_isNearer_1 (by decide) rfl (by decide) rfl (by decide +kernel) rfl dX1_isNearer_2 ?_
  refine hx_isub C dX1_isNearer_5 ?_
  refine hx_mabs C (by decide +kernel) (by decide +kernel) (by decide +kernel) (by decide +kernel) hl.1 (Nat.le_of_ble_eq_true rfl) (Nat.le_of_ble_eq_true rfl) (Nat.zero_le _) (Nat.zero_le _) dX1_isNearer_6 ?_
  refine hx_aload_n C dX1_isNearer_9 rfl (lv_at hl 0 rfl) ?_
  refine hx_geti C (ci := 1) (j := 5) g1 uX1_isNearer_1 (by decide) rfl (by decide) rfl (by decide +kernel) rfl dX1_isNearer_10 ?_
  refine hx_aload_n C dX1_isNearer_13 rfl (lv_at hl 0 rfl) ?_
  refine hx_geti C (ci := 1) (j := 3) g1 uX1_isNearer_1 (by decide) rfl (by decide) rfl (by decide +kernel) rfl dX1_isNearer_14 ?_
  refine hx_isub C dX1_isNearer_17 ?_
  refine hx_mabs C (by decide +kernel) (by decide +kernel) (by decide +kernel) (by decide +kernel) hl.1 (Nat.le_of_ble_eq_true rfl) (Nat.le_of_ble_eq_true rfl) (Nat.zero_le _) (Nat.zero_le _) dX1_isNearer_18 ?_
  refine hx_icmp_ge (tgt := 28) C dX1_isNearer_21 (by decide) (fun c2 => ?_) (fun c2 => ?_)
  · have h := hx_pos c2 h
    refine hx_iconst (v := 0) C dX1_isNearer_28 (by decide) ?_
    obtain rfl := hx_some1 h
    exact hx_zret C hr rfl dX1_isNearer_29
  · have h := hx_neg c2 h
    refine hx_iconst (v := 1) C dX1_isNearer_24 (by decide) ?_
    refine hx_goto (tgt := 29) C dX1_isNearer_25 (by decide) ?_
    obtain rfl := hx_some1 h
    exact hx_zret C hr rfl dX1_isNearer_29
