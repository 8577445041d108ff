theorem uX3_recordSpare_3 : ∀ w ∈ u_ws RX3 TX3 4, w ∈ wsX3_recordSpare := by decide +kernel
def f_X3_recordSpare_12 (L : hL) (v0 : Nat) (X : hX) : Option (hX) :=
  if tk L v0 3 then
  (f_X9_within L X (X.1 v0 3) 0 4).bind fun r2 =>
  if r2 = 0 then
    some X
  else
    (X.2 v0 0).bind fun q5 =>
    if tk L q5 18 then
    if hin (X.1 v0 3) (L.2.2 q5) then
    (X.2 q5 (Int32.toNatClampNeg (X.1 v0 3))).bind fun q9 =>
    (X.2 v0 2).bind fun q11 =>
    if tk L q11 8 then
    some (smi (smr (smr X q5 (Int32.toNatClampNeg (X.1 v0 3)) (some q11)) v0 2 (some q9)) v0 3 (((smr (smr X q5 (Int32.toNatClampNeg (X.1 v0 3)) (some q11)) v0 2 (some q9)).1 v0 3) + 1))
    else none
    else none
    else none
  else none
set_option maxRecDepth 100000 in
set_option maxHeartbeats 4000000 in
theorem w_X3_recordSpare_12 {p : Program} {l : Launch} {e : Env} {s : State} {m : MethodId} {args : Array Value} {below : List Frame} {meth : Method} {c : Code} {dC : Nat → ClassId} {dI : Nat → Nat → Nat} {cy : Nat → ClassId} {ad : Nat → Nat} {L : hL} {X' : hX} (C : hC p s m args meth c dC dI cy ad L (hA ad L s.heap.size) cX3_recordSpare 2 wsX3_recordSpare RX3) (hr : meth.sig.returnType = none) : ∀ (v0 : Nat) (X : hX) (ls : Array Slot), f_X3_recordSpare_12 L v0 X = some X' → lv_has ls 2 [(0, .ref (ad v0))] → hG p l e (headSpec wsX3_recordSpare ({ frames := 1, cells := 0, slots := 0, locals := 22 } : Room)).room s m args below meth c dC dI cy ad L (hA ad L s.heap.size) 0 0 (MQ below (hQ dC dI cy ad L s.heap.size none X') args s 0 0 (hA ad L s.heap.size)) X 12 ls [] := by
  intro v0 X ls h hl
  unfold f_X3_recordSpare_12 at h
  refine hx_aload_n C dX3_recordSpare_12 rfl (lv_at hl 0 rfl) ?_
  obtain ⟨g1, h⟩ := hx_gd h
  refine hx_geti C (ci := 3) (j := 3) g1 uX3_recordSpare_3 (by decide) rfl (by decide) rfl (by decide +kernel) rfl dX3_recordSpare_13 ?_
  refine hx_iconst (v := 0) C dX3_recordSpare_16 (by decide) ?_
  refine hx_iconst (v := 4) C dX3_recordSpare_17 (by decide) ?_
  obtain ⟨r2, e3, h⟩ := hx_bind h
  refine hx_callSN (As := [.int (X.1 v0 3), .int 0, .int 4]) (rest := []) (n := 3) (host := "TicketScales") C (c_X9_within e3) gX3_recordSpare_X9_within_n43 (by decide) (by decide +kernel) (by decide +kernel) (by decide +kernel) ⟨Nat.le_of_ble_eq_true rfl, Nat.le_of_ble_eq_true rfl⟩ rfl rfl rfl ⟨Nat.zero_le _, Nat.zero_le _⟩ hl.1 rfl rfl (Nat.le_of_ble_eq_true rfl) dX3_recordSpare_18 ?_
  refine hx_if_eq (tgt := 62) C dX3_recordSpare_21 (by decide) (fun c4 => ?_) (fun c4 => ?_)
  · have h := hx_pos c4 h
    obtain rfl := hx_some1 h
    exact hx_vret C hr dX3_recordSpare_62
  · have h := hx_neg c4 h
    refine hx_aload_n C dX3_recordSpare_24 rfl (lv_at hl 0 rfl) ?_
    obtain ⟨q5, e6, h⟩ := hx_bind h
    refine hx_getr C (ci := 3) (j := 0) g1 uX3_recordSpare_3 (by decide) rfl (by decide) rfl (by decide +kernel) rfl dX3_recordSpare_25 e6 ?_
    refine hx_aload_n C dX3_recordSpare_28 rfl (lv_at hl 0 rfl) ?_
    refine hx_geti C (ci := 3) (j := 3) g1 uX3_recordSpare_3 (by decide) rfl (by decide) rfl (by decide +kernel) rfl dX3_recordSpare_29 ?_
    obtain ⟨g7, h⟩ := hx_gd h
    obtain ⟨g8, h⟩ := hx_gd h
    obtain ⟨q9, e10, h⟩ := hx_bind h
    refine hx_aald (t0 := 7) C g7 (by decide) rfl g8 rfl e10 dX3_recordSpare_32 ?_
    refine hx_astore_n (lv' := [(1, .ref (ad q9)), (0, .ref (ad v0))]) C dX3_recordSpare_33 rfl hl (by decide) rfl (fun ls hl => ?_)
    refine hx_aload_n C dX3_recordSpare_34 rfl (lv_at hl 1 rfl) ?_
    refine hx_getr C (ci := 3) (j := 0) g1 uX3_recordSpare_3 (by decide) rfl (by decide) rfl (by decide +kernel) rfl dX3_recordSpare_35 e6 ?_
    refine hx_aload_n C dX3_recordSpare_38 rfl (lv_at hl 1 rfl) ?_
    refine hx_geti C (ci := 3) (j := 3) g1 uX3_recordSpare_3 (by decide) rfl (by decide) rfl (by decide +kernel) rfl dX3_recordSpare_39 ?_
    refine hx_aload_n C dX3_recordSpare_42 rfl (lv_at hl 1 rfl) ?_
    obtain ⟨q11, e12, h⟩ := hx_bind h
    refine hx_getr C (ci := 3) (j := 2) g1 uX3_recordSpare_3 (by decide) rfl (by decide) rfl (by decide +kernel) rfl dX3_recordSpare_43 e12 ?_
    obtain ⟨g13, h⟩ := hx_gd h
    refine hx_aast (t0 := 7) (n := (Int32.toNatClampNeg (X.1 v0 3))) C g7 (by decide) rfl g13 (by decide) rfl g8 rfl dX3_recordSpare_46 ?_
    refine hx_aload_n C dX3_recordSpare_47 rfl (lv_at hl 1 rfl) ?_
    refine hx_aload_n C dX3_recordSpare_48 rfl (lv_at hl 0 rfl) ?_
    refine hx_putr C (ci := 3) (j := 2) tyX3 tyX3_ok nmX3 g1 uX3_recordSpare_3 (by decide) rfl (by decide) rfl (by decide +kernel) rfl rfl (tyX3_ok 2 (by decide)) dX3_recordSpare_49 rfl rfl ?_
    refine hx_aload_n C dX3_recordSpare_52 rfl (lv_at hl 1 rfl) ?_
    refine hx_dup C dX3_recordSpare_53 rfl ?_
    refine hx_geti C (ci := 3) (j := 3) g1 uX3_recordSpare_3 (by decide) rfl (by decide) rfl (by decide +kernel) rfl dX3_recordSpare_54 ?_
    refine hx_iconst (v := 1) C dX3_recordSpare_57 (by decide) ?_
    refine hx_iadd C dX3_recordSpare_58 ?_
    refine hx_puti C (ci := 3) (j := 3) tyX3 tyX3_ok nmX3 g1 uX3_recordSpare_3 (by decide) rfl (by decide) rfl (by decide +kernel) rfl rfl (tyX3_ok 3 (by decide)) dX3_recordSpare_59 rfl rfl ?_
    obtain rfl := hx_some1 h
    exact hx_vret C hr dX3_recordSpare_62
def f_X3_recordSpare (L : hL) (X : hX) (this : Nat) : Option (hX) :=
  if tk L this 3 then
  if (X.1 this 3) < 5 then
    f_X3_recordSpare_12 L this X
  else
    (f_X3_dropOldest L X this).bind fun r16 =>
    f_X3_recordSpare_12 L this r16
  else none
set_option maxRecDepth 100000 in
set_option maxHeartbeats 4000000 in
theorem c_X3_recordSpare {l : Launch} {dC : Nat → ClassId} {dI : Nat → Nat → Nat} {cy : Nat → ClassId} {ad : Nat → Nat} {L : hL} {X : hX} {this : Nat} {X' : hX} (h : f_X3_recordSpare L X this = some X') : hMet l dC dI cy ad L yX3_recordSpare wsX3_recordSpare ({ frames := 1, cells := 0, slots := 0, locals := 22 } : Room) [.ref (ad this)] X none X' := by
  unfold f_X3_recordSpare at h
  refine hx_enter RX3 (plainFor_of_name (by decide)) rfl rfl (Nat.le_of_ble_eq_true rfl) (fun p e s m args below meth c C hr hnm ls hl => ?_)
  have hl : lv_has ls 2 [(0, .ref (ad this))] := hl
  refine hx_aload_n C dX3_recordSpare_0 rfl (lv_at hl 0 rfl) ?_
  obtain ⟨g14, h⟩ := hx_gd h
  refine hx_geti C (ci := 3) (j := 3) g14 uX3_recordSpare_3 (by decide) rfl (by decide) rfl (by decide +kernel) rfl dX3_recordSpare_1 ?_
  refine hx_iconst (v := 5) C dX3_recordSpare_4 (by decide) ?_
  refine hx_icmp_lt (tgt := 12) C dX3_recordSpare_5 (by decide) (fun c15 => ?_) (fun c15 => ?_)
  · have h := hx_pos c15 h
    exact w_X3_recordSpare_12 C hr this X ls h (lv_sub hl [0] rfl)
  · have h := hx_neg c15 h
    refine hx_aload_n C dX3_recordSpare_8 rfl (lv_at hl 0 rfl) ?_
    obtain ⟨r16, e17, h⟩ := hx_bind h
    refine hx_callV (As := []) (rest := []) (n := 0) (Cn := RX3) C (c_X3_dropOldest e17) gX3_recordSpare_X3_dropOldest g14 (by decide) rfl (by decide +kernel) ⟨Nat.le_of_ble_eq_true rfl, Nat.le_of_ble_eq_true rfl⟩ rfl rfl rfl ⟨Nat.zero_le _, Nat.zero_le _⟩ hl.1 rfl rfl (Nat.le_of_ble_eq_true rfl) dX3_recordSpare_9 ?_
    exact w_X3_recordSpare_12 C hr this r16 ls h (lv_sub hl [0] rfl)
def f_X3_settle (L : hL) (X : hX) (this : Nat) (a1 : Int32) : Option (Int32 × hX) :=
  (f_X9_isError L X a1).bind fun r1 =>
  if r1 = 0 then
    (f_X3_recordSpare L X this).bind fun r4 =>
    if tk L this 3 then
    some (a1, r4)
    else none
  else
    some (a1, X)
set_option maxRecDepth 100000 in
set_option maxHeartbeats 4000000 in
theorem c_X3_settle {l : Launch} {dC : Nat → ClassId} {dI : Nat → Nat → Nat} {cy : Nat → ClassId} {ad : Nat → Nat} {L : hL} {X : hX} {this : Nat} {a1 : Int32} {r : Int32} {X' : hX} (h : f_X3_settle L X this a1 = some (r, X')) : hMet l dC dI cy ad L yX3_settle wsX3_settle ({ frames := 2, cells := 0, slots := 0, locals := 43 } : Room) [.ref (ad this), .int a1] X (some (.int r)) X' := by
  unfold f_X3_settle at h
  refine hx_enter RX3 (plainFor_of_name (by decide)) rfl rfl (Nat.le_of_ble_eq_true rfl) (fun p e s m args below meth c C hr hnm ls hl => ?_)
  have hl : lv_has ls 2 [(0, .ref (ad this)), (1, .int a1)] := hl
  refine hx_iload_n C dX3_settle_0 rfl (lv_at hl 1 rfl) ?_
  obtain ⟨r1, e2, h⟩ := hx_bind h
  refine hx_callSN (As := [.int a1]) (rest := []) (n := 1) (host := "TicketScales") C (c_X9_isError e2) gX3_settle_X9_isError_n29 (by decide) (by decide +kernel) (by decide +kernel) (by decide +kernel) ⟨Nat.le_of_ble_eq_true rfl, Nat.le_of_ble_eq_true rfl⟩ rfl rfl rfl ⟨Nat.zero_le _, Nat.zero_le _⟩ hl.1 rfl rfl (Nat.le_of_ble_eq_true rfl) dX3_settle_1 ?_
  refine hx_if_ne (tgt := 11) C dX3_settle_4 (by decide) (fun c3 => ?_) (fun c3 => ?_)
  · have h := hx_neg c3 h
    refine hx_iload_n C dX3_settle_11 rfl (lv_at hl 1 rfl) ?_
    obtain ⟨rfl, rfl⟩ := hx_some2 h
    exact hx_iret C hr dX3_settle_12
  · have h := hx_pos c3 h
    refine hx_aload_n C dX3_settle_7 rfl (lv_at hl 0 rfl) ?_
    obtain ⟨r4, e5, h⟩ := hx_bind h
    obtain ⟨g6, h⟩ := hx_gd h
    refine hx_callV (As := []) (rest := []) (n := 0) (Cn := RX3) C (c_X3_recordSpare e5) gX3_settle_X3_recordSpare g6 (by decide) rfl (by decide +kernel) ⟨Nat.le_of_ble_eq_true rfl, Nat.le_of_ble_eq_true rfl⟩ rfl rfl rfl ⟨Nat.zero_le _, Nat.zero_le _⟩ hl.1 rfl rfl (Nat.le_of_ble_eq_true rfl) dX3_settle_8 ?_
    refine hx_iload_n C dX3_settle_11 rfl (lv_at hl 1 rfl) ?_
    obtain ⟨rfl, rfl⟩ := hx_some2 h
    exact hx_iret C hr dX3_settle_12
theorem uX3_stepBack_3 : ∀ w ∈ u_ws RX3 TX3 4, w ∈ wsX3_stepBack := by decide +kernel
def f_X3_stepBack (L : hL) (X : hX) (this : Nat) : Option (Int32 × hX) :=
  if tk L this 3 then
  (f_X9_within L X ((X.1 this 3) - 1) 0 4).bind fun r2 =>
  if r2 = 0 then
    some ((-100002), X)
  else
    (X.2 this 1).bind fun q5 =>
    (X.2 this 0).bind fun q7 =>
    if tk L q7 18 then
    if hin ((X.1 this 3) - 1) (L.2.2 q7) then
    (X.2 q7 (Int32.toNatClampNeg ((X.1 this 3) - 1))).bind fun q11 =>
    ((smr X this 1 (some q11)).2 this 0).bind fun q13 =>
    if tk L q13 18 then
    if hin ((X.1 this 3) - 1) (L.2.2 q13) then
    if tk L q5 8 then
    some ((smi (smr (smr X this 1 (some q11)) q13 (Int32.toNatClampNeg ((X.1 this 3) - 1)) (some q5)) this 3 ((X.1 this 3) - 1)).1 this 3, smi (smr (smr X this 1 (some q11)) q13 (Int32.toNatClampNeg ((X.1 this 3) - 1)) (some q5)) this 3 ((X.1 this 3) - 1))
    else none
    else none
    else none
    else none
    else none
  else none
set_option maxRecDepth 100000 in
set_option maxHeartbeats 4000000 in
theorem c_X3_stepBack {l : Launch} {dC : Nat → ClassId} {dI : Nat → Nat → Nat} {cy : Nat → ClassId} {ad : Nat → Nat} {L : hL} {X : hX} {this : Nat} {r : Int32} {X' : hX} (h : f_X3_stepBack L X this = some (r, X')) : hMet l dC dI cy ad L yX3_stepBack wsX3_stepBack ({ frames := 1, cells := 0, slots := 0, locals := 22 } : Room) [.ref (ad this)] X (some (.int r)) X' := by
  unfold f_X3_stepBack at h
  refine hx_enter RX3 (plainFor_of_name (by decide)) rfl rfl (Nat.le_of_ble_eq_true rfl) (fun p e s m args below meth c C hr hnm ls hl => ?_)
  have hl : lv_has ls 3 [(0, .ref (ad this))] := hl
  refine hx_aload_n C dX3_stepBack_0 rfl (lv_at hl 0 rfl) ?_
  obtain ⟨g1, h⟩ := hx_gd h
  refine hx_geti C (ci := 3) (j := 3) g1 uX3_stepBack_3 (by decide) rfl (by decide) rfl (by decide +kernel) rfl dX3_stepBack_1 ?_
  refine hx_iconst (v := 1) C dX3_stepBack_4 (by decide) ?_
  refine hx_isub C dX3_stepBack_5 ?_
  refine hx_istore_n (lv' := [(1, .int ((X.1 this 3) - 1)), (0, .ref (ad this))]) C dX3_stepBack_6 rfl hl (by decide) rfl (fun ls hl => ?_)
  refine hx_iload_n C dX3_stepBack_7 rfl (lv_at hl 0 rfl) ?_
  refine hx_iconst (v := 0) C dX3_stepBack_8 (by decide) ?_
  refine hx_iconst (v := 4) C dX3_stepBack_9 (by decide) ?_
  obtain ⟨r2, e3, h⟩ := hx_bind h
  refine hx_callSN (As := [.int ((X.1 this 3) - 1), .int 0, .int 4]) (rest := []) (n := 3) (host := "TicketScales") C (c_X9_within e3) gX3_stepBack_X9_within_n43 (by decide) (by decide +kernel) (by decide +kernel) (by decide +kernel) ⟨Nat.le_of_ble_eq_true rfl, Nat.le_of_ble_eq_true rfl⟩ rfl rfl rfl ⟨Nat.zero_le _, Nat.zero_le _⟩ hl.1 rfl rfl (Nat.le_of_ble_eq_true rfl) dX3_stepBack_10 ?_
  refine hx_if_ne (tgt := 19) C dX3_stepBack_13 (by decide) (fun c4 => ?_) (fun c4 => ?_)
  · have h := hx_neg c4 h
    refine hx_aload_n C dX3_stepBack_19 rfl (lv_at hl 1 rfl) ?_
    obtain ⟨q5, e6, h⟩ := hx_bind h
    refine hx_getr C (ci := 3) (j := 1) g1 uX3_stepBack_3 (by decide) rfl (by decide) rfl (by decide +kernel) rfl dX3_stepBack_20 e6 ?_
    refine hx_astore_n (lv' := [(2, .ref (ad q5)), (1, .int ((X.1 this 3) - 1)), (0, .ref (ad this))]) C dX3_stepBack_23 rfl hl (by decide) rfl (fun ls hl => ?_)
    refine hx_aload_n C dX3_stepBack_24 rfl (lv_at hl 2 rfl) ?_
    refine hx_aload_n C dX3_stepBack_25 rfl (lv_at hl 2 rfl) ?_
    obtain ⟨q7, e8, h⟩ := hx_bind h
    refine hx_getr C (ci := 3) (j := 0) g1 uX3_stepBack_3 (by decide) rfl (by decide) rfl (by decide +kernel) rfl dX3_stepBack_26 e8 ?_
    refine hx_iload_n C dX3_stepBack_29 rfl (lv_at hl 1 rfl) ?_
    obtain ⟨g9, h⟩ := hx_gd h
    obtain ⟨g10, h⟩ := hx_gd h
    obtain ⟨q11, e12, h⟩ := hx_bind h
    refine hx_aald (t0 := 7) C g9 (by decide) rfl g10 rfl e12 dX3_stepBack_30 ?_
    refine hx_putr C (ci := 3) (j := 1) tyX3 tyX3_ok nmX3 g1 uX3_stepBack_3 (by decide) rfl (by decide) rfl (by decide +kernel) rfl rfl (tyX3_ok 1 (by decide)) dX3_stepBack_31 rfl rfl ?_
    refine hx_aload_n C dX3_stepBack_34 rfl (lv_at hl 2 rfl) ?_
    obtain ⟨q13, e14, h⟩ := hx_bind h
    refine hx_getr C (ci := 3) (j := 0) g1 uX3_stepBack_3 (by decide) rfl (by decide) rfl (by decide +kernel) rfl dX3_stepBack_35 e14 ?_
    refine hx_iload_n C dX3_stepBack_38 rfl (lv_at hl 1 rfl) ?_
    refine hx_aload_n C dX3_stepBack_39 rfl (lv_at hl 0 rfl) ?_
    obtain ⟨g15, h⟩ := hx_gd h
    obtain ⟨g16, h⟩ := hx_gd h
    obtain ⟨g17, h⟩ := hx_gd h
    refine hx_aast (t0 := 7) (n := (Int32.toNatClampNeg ((X.1 this 3) - 1))) C g15 (by decide) rfl g17 (by decide) rfl g16 rfl dX3_stepBack_40 ?_
    refine hx_aload_n C dX3_stepBack_41 rfl (lv_at hl 2 rfl) ?_
    refine hx_iload_n C dX3_stepBack_42 rfl (lv_at hl 1 rfl) ?_
    refine hx_puti C (ci := 3) (j := 3) tyX3 tyX3_ok nmX3 g1 uX3_stepBack_3 (by decide) rfl (by decide) rfl (by decide +kernel) rfl rfl (tyX3_ok 3 (by decide)) dX3_stepBack_43 rfl rfl ?_
    refine hx_aload_n C dX3_stepBack_46 rfl (lv_at hl 2 rfl) ?_
    refine hx_geti C (ci := 3) (j := 3) g1 uX3_stepBack_3 (by decide) rfl (by decide) rfl (by decide +kernel) rfl dX3_stepBack_47 ?_
    obtain ⟨rfl, rfl⟩ := hx_some2 h
    exact hx_iret C hr dX3_stepBack_50
  · have h := hx_pos c4 h
    refine hx_ldc (v := (-100002)) C (by decide +kernel) dX3_stepBack_16 ?_
    obtain ⟨rfl, rfl⟩ := hx_some2 h
    exact hx_iret C hr dX3_stepBack_18
theorem uX5_sellOut_5 : ∀ w ∈ u_ws RX5 TX5 7, w ∈ wsX5_sellOut := by decide +kernel
def f_X5_sellOut_2 (L : hL) : Nat → Nat → Int32 → hX → Option (Int32 × hX)
  | 0, _, _, _ => none
  | n + 1, v0, v1, X =>
    if 999 < v1 then
      some ((-100009), X)
    else
      if tk L v0 5 then
      if (X.1 v0 2) = 0 then
        some (v1, X)
      else
        (f_X5_sell L X v0 1).bind fun r4 =>
        f_X5_sellOut_2 L n v0 (v1 + 1) r4
      else none
set_option maxRecDepth 100000 in
set_option maxHeartbeats 4000000 in
theorem w_X5_sellOut_2 {p : Program} {l : Launch} {e : Env} {s : State} {m : MethodId} {args : Array Value} {below : List Frame} {meth : Method} {c : Code} {dC : Nat → ClassId} {dI : Nat → Nat → Nat} {cy : Nat → ClassId} {ad : Nat → Nat} {L : hL} {r : Int32} {X' : hX} (C : hC p s m args meth c dC dI cy ad L (hA ad L s.heap.size) cX5_sellOut 2 wsX5_sellOut RX5) (hr : meth.sig.returnType = (some .int)) : ∀ (n : Nat) (v0 : Nat) (v1 : Int32) (X : hX) (ls : Array Slot), f_X5_sellOut_2 L n v0 v1 X = some (r, X') → lv_has ls 2 [(0, .ref (ad v0)), (1, .int v1)] → hG p l e (headSpec wsX5_sellOut ({ frames := 3, cells := 0, slots := 0, locals := 65 } : Room)).room s m args below meth c dC dI cy ad L (hA ad L s.heap.size) 0 0 (MQ below (hQ dC dI cy ad L s.heap.size (some (.int r)) X') args s 0 0 (hA ad L s.heap.size)) X 2 ls [] := by
  intro n
  induction n with
  | zero => intro v0 v1 X ls h; cases h
  | succ n ih =>
    intro v0 v1 X ls h hl
    rw [f_X5_sellOut_2] at h
    refine hx_iload_n C dX5_sellOut_2 rfl (lv_at hl 1 rfl) ?_
    refine hx_sipush (v := 999) C dX5_sellOut_3 (by decide) ?_
    refine hx_icmp_gt (tgt := 29) C dX5_sellOut_6 (by decide) (fun c1 => ?_) (fun c1 => ?_)
    · have h := hx_pos c1 h
      refine hx_ldc (v := (-100009)) C (by decide +kernel) dX5_sellOut_29 ?_
      obtain ⟨rfl, rfl⟩ := hx_some2 h
      exact hx_iret C hr dX5_sellOut_31
    · have h := hx_neg c1 h
      refine hx_aload_n C dX5_sellOut_9 rfl (lv_at hl 0 rfl) ?_
      obtain ⟨g2, h⟩ := hx_gd h
      refine hx_geti C (ci := 5) (j := 2) g2 uX5_sellOut_5 (by decide) rfl (by decide) rfl (by decide +kernel) rfl dX5_sellOut_10 ?_
      refine hx_if_ne (tgt := 18) C dX5_sellOut_13 (by decide) (fun c3 => ?_) (fun c3 => ?_)
      · have h := hx_neg c3 h
        refine hx_aload_n C dX5_sellOut_18 rfl (lv_at hl 0 rfl) ?_
        refine hx_iconst (v := 1) C dX5_sellOut_19 (by decide) ?_
        obtain ⟨r4, e5, h⟩ := hx_bind h
        refine hx_callV (As := [.int 1]) (rest := []) (n := 1) (Cn := RX5) C (c_X5_sell e5) gX5_sellOut_X5_sell g2 (by decide) rfl (by decide +kernel) ⟨Nat.le_of_ble_eq_true rfl, Nat.le_of_ble_eq_true rfl⟩ rfl rfl rfl ⟨Nat.zero_le _, Nat.zero_le _⟩ hl.1 rfl rfl (Nat.le_of_ble_eq_true rfl) dX5_sellOut_20 ?_
        refine hx_iinc (v := v1 + 1) (lv' := [(1, .int (v1 + 1)), (0, .ref (ad v0))]) C dX5_sellOut_23 hl (k := 1) rfl rfl (by decide) rfl (fun ls hl => ?_)
        refine hx_goto (tgt := 2) C dX5_sellOut_26 (by decide) ?_
        exact ih v0 (v1 + 1) r4 ls h (lv_sub hl [1, 0] rfl)
      · have h := hx_pos c3 h
        refine hx_iload_n C dX5_sellOut_16 rfl (lv_at hl 1 rfl) ?_
        obtain ⟨rfl, rfl⟩ := hx_some2 h
        exact hx_iret C hr dX5_sellOut_17
def f_X5_sellOut (L : hL) (X : hX) (this : Nat) : Option (Int32 × hX) :=
  f_X5_sellOut_2 L u_fuel this 0 X
set_option maxRecDepth 100000 in
set_option maxHeartbeats 4000000 in
theorem c_X5_sellOut {l : Launch} {dC : Nat → ClassId} {dI : Nat → Nat → Nat} {cy : Nat → ClassId} {ad : Nat → Nat} {L : hL} {X : hX} {this : Nat} {r : Int32} {X' : hX} (h : f_X5_sellOut L X this = some (r, X')) : hMet l dC dI cy ad L yX5_sellOut wsX5_sellOut ({ frames := 3, cells := 0, slots := 0, locals := 65 } : Room) [.ref (ad this)] X (some (.int r)) X' := by
  unfold f_X5_sellOut at h
  refine hx_enter RX5 (plainFor_of_name (by decide)) rfl rfl (Nat.le_of_ble_eq_true rfl) (fun p e s m args below meth c C hr hnm ls hl => ?_)
  have hl : lv_has ls 2 [(0, .ref (ad this))] := hl
  refine hx_iconst (v := 0) C dX5_sellOut_0 (by decide) ?_
  refine hx_istore_n (lv' := [(1, .int 0), (0, .ref (ad this))]) C dX5_sellOut_1 rfl hl (by decide) rfl (fun ls hl => ?_)
  exact w_X5_sellOut_2 C hr u_fuel this 0 X ls h (lv_sub hl [1, 0] rfl)
theorem uX5_part_5 : ∀ w ∈ u_ws RX5 TX5 7, w ∈ wsX5_part := by decide +kernel
def f_X5_part (L : hL) (X : hX) (this : Nat) (a1 : Int32) : Option (Int32) :=
  if a1 = 0 then
    if tk L this 5 then
    some (X.1 this 0)
    else none
  else
  if a1 = 1 then
    if tk L this 5 then
    some (X.1 this 1)
    else none
  else
  if a1 = 2 then
    if tk L this 5 then
    some (X.1 this 2)
    else none
  else
  if a1 = 3 then
    if tk L this 5 then
    some (X.1 this 3)
    else none
  else
  if a1 = 4 then
    if tk L this 5 then
    some (X.1 this 4)
    else none
  else
  if a1 = 5 then
    if tk L this 5 then
    some (X.1 this 5)
    else none
  else
  if a1 = 6 then
    if tk L this 5 then
    some (X.1 this 6)
    else none
  else
  some (-100001)
set_option maxRecDepth 100000 in
set_option maxHeartbeats 4000000 in
theorem c_X5_part {l : Launch} {dC : Nat → ClassId} {dI : Nat → Nat → Nat} {cy : Nat → ClassId} {ad : Nat → Nat} {L : hL} {X : hX} {this : Nat} {a1 : Int32} {r : Int32} (h : f_X5_part L X this a1 = some r) : hMet l dC dI cy ad L yX5_part wsX5_part ({ frames := 0, cells := 0, slots := 0, locals := 0 } : Room) [.ref (ad this), .int a1] X (some (.int r)) X := by
  unfold f_X5_part at h
  refine hx_enter RX5 (plainFor_of_name (by decide)) rfl rfl (Nat.le_of_ble_eq_true rfl) (fun p e s m args below meth c C hr hnm ls hl => ?_)
  have hl : lv_has ls 2 [(0, .ref (ad this)), (1, .int a1)] := hl
  refine hx_iload_n C dX5_part_0 rfl (lv_at hl 1 rfl) ?_
  by_cases c1 : a1 = 0
  · have h := hx_pos c1 h
    have hz : Int32.toInt a1 = 0 := by rw [c1]; rfl
    refine hx_tableIn (tgt := 44) C dX5_part_1 (by rw [hz] <;> decide) (by rw [hz] <;> decide) (off := 43) (by rw [hz] <;> rfl) (by decide) ?_
    refine hx_aload_n C dX5_part_44 rfl (lv_at hl 0 rfl) ?_
    obtain ⟨g2, h⟩ := hx_gd h
    refine hx_geti C (ci := 5) (j := 0) g2 uX5_part_5 (by decide) rfl (by decide) rfl (by decide +kernel) rfl dX5_part_45 ?_
    obtain rfl := hx_some1 h
    exact hx_iret C hr dX5_part_48
  have h := hx_neg c1 h
  have zc1 : Int32.toInt a1 ≠ 0 := fun z => c1 (Int32.toInt_inj.mp (z.trans rfl))
  by_cases c3 : a1 = 1
  · have h := hx_pos c3 h
    have hz : Int32.toInt a1 = 1 := by rw [c3]; rfl
    refine hx_tableIn (tgt := 49) C dX5_part_1 (by rw [hz] <;> decide) (by rw [hz] <;> decide) (off := 48) (by rw [hz] <;> rfl) (by decide) ?_
    refine hx_aload_n C dX5_part_49 rfl (lv_at hl 0 rfl) ?_
    obtain ⟨g4, h⟩ := hx_gd h
    refine hx_geti C (ci := 5) (j := 1) g4 uX5_part_5 (by decide) rfl (by decide) rfl (by decide +kernel) rfl dX5_part_50 ?_
    obtain rfl := hx_some1 h
    exact hx_iret C hr dX5_part_53
  have h := hx_neg c3 h
  have zc3 : Int32.toInt a1 ≠ 1 := fun z => c3 (Int32.toInt_inj.mp (z.trans rfl))
  by_cases c5 : a1 = 2
  · have h := hx_pos c5 h
    have hz : Int32.toInt a1 = 2 := by rw [c5]; rfl
    refine hx_tableIn (tgt := 54) C dX5_part_1 (by rw [hz] <;> decide) (by rw [hz] <;> decide) (off := 53) (by rw [hz] <;> rfl) (by decide) ?_
    refine hx_aload_n C dX5_part_54 rfl (lv_at hl 0 rfl) ?_
    obtain ⟨g6, h⟩ := hx_gd h
    refine hx_geti C (ci := 5) (j := 2) g6 uX5_part_5 (by decide) rfl (by decide) rfl (by decide +kernel) rfl dX5_part_55 ?_
    obtain rfl := hx_some1 h
    exact hx_iret C hr dX5_part_58
  have h := hx_neg c5 h
  have zc5 : Int32.toInt a1 ≠ 2 := fun z => c5 (Int32.toInt_inj.mp (z.trans rfl))
  by_cases c7 : a1 = 3
  · have h := hx_pos c7 h
    have hz : Int32.toInt a1 = 3 := by rw [c7]; rfl
    refine hx_tableIn (tgt := 59) C dX5_part_1 (by rw [hz] <;> decide) (by rw [hz] <;> decide) (off := 58) (by rw [hz] <;> rfl) (by decide) ?_
    refine hx_aload_n C dX5_part_59 rfl (lv_at hl 0 rfl) ?_
    obtain ⟨g8, h⟩ := hx_gd h
    refine hx_geti C (ci := 5) (j := 3) g8 uX5_part_5 (by decide) rfl (by decide) rfl (by decide +kernel) rfl dX5_part_60 ?_
    obtain rfl := hx_some1 h
    exact hx_iret C hr dX5_part_63
  have h := hx_neg c7 h
  have zc7 : Int32.toInt a1 ≠ 3 := fun z => c7 (Int32.toInt_inj.mp (z.trans rfl))
  by_cases c9 : a1 = 4
  · have h := hx_pos c9 h
    have hz : Int32.toInt a1 = 4 := by rw [c9]; rfl
    refine hx_tableIn (tgt := 64) C dX5_part_1 (by rw [hz] <;> decide) (by rw [hz] <;> decide) (off := 63) (by rw [hz] <;> rfl) (by decide) ?_
    refine hx_aload_n C dX5_part_64 rfl (lv_at hl 0 rfl) ?_
    obtain ⟨g10, h⟩ := hx_gd h
    refine hx_geti C (ci := 5) (j := 4) g10 uX5_part_5 (by decide) rfl (by decide) rfl (by decide +kernel) rfl dX5_part_65 ?_
    obtain rfl := hx_some1 h
    exact hx_iret C hr dX5_part_68
  have h := hx_neg c9 h
  have zc9 : Int32.toInt a1 ≠ 4 := fun z => c9 (Int32.toInt_inj.mp (z.trans rfl))
  by_cases c11 : a1 = 5
  · have h := hx_pos c11 h
    have hz : Int32.toInt a1 = 5 := by rw [c11]; rfl
    refine hx_tableIn (tgt := 69) C dX5_part_1 (by rw [hz] <;> decide) (by rw [hz] <;> decide) (off := 68) (by rw [hz] <;> rfl) (by decide) ?_
    refine hx_aload_n C dX5_part_69 rfl (lv_at hl 0 rfl) ?_
    obtain ⟨g12, h⟩ := hx_gd h
    refine hx_geti C (ci := 5) (j := 5) g12 uX5_part_5 (by decide) rfl (by decide) rfl (by decide +kernel) rfl dX5_part_70 ?_
    obtain rfl := hx_some1 h
    exact hx_iret C hr dX5_part_73
  have h := hx_neg c11 h
  have zc11 : Int32.toInt a1 ≠ 5 := fun z => c11 (Int32.toInt_inj.mp (z.trans rfl))
  by_cases c13 : a1 = 6
  · have h := hx_pos c13 h
    have hz : Int32.toInt a1 = 6 := by rw [c13]; rfl
    refine hx_tableIn (tgt := 74) C dX5_part_1 (by rw [hz] <;> decide) (by rw [hz] <;> decide) (off := 73) (by rw [hz] <;> rfl) (by decide) ?_
    refine hx_aload_n C dX5_part_74 rfl (lv_at hl 0 rfl) ?_
    obtain ⟨g14, h⟩ := hx_gd h
    refine hx_geti C (ci := 5) (j := 6) g14 uX5_part_5 (by decide) rfl (by decide) rfl (by decide +kernel) rfl dX5_part_75 ?_
    obtain rfl := hx_some1 h
    exact hx_iret C hr dX5_part_78
  have h := hx_neg c13 h
  have zc13 : Int32.toInt a1 ≠ 6 := fun z => c13 (Int32.toInt_inj.mp (z.trans rfl))
  refine hx_tableOut (tgt := 79) C dX5_part_1 (by omega) (by decide) ?_
  refine hx_ldc (v := (-100001)) C (by decide +kernel) dX5_part_79 ?_
  obtain rfl := hx_some1 h
  exact hx_iret C hr dX5_part_81
theorem uX7_apartFromNext_7 : ∀ w ∈ u_ws RX7 TX7 3, w ∈ wsX7_apartFromNext := by decide +kernel
def f_X7_apartFromNext (L : hL) (X : hX) (this : Nat) (a1 : Int32) (a2 : Nat) (a3 : Int32) : Option (Int32) :=
  (f_X4_heaviest L X a2).bind fun r1 =>
  if tk L a2 4 then
  if tk L this 7 then
  (f_X9_readingAt L X a1 ((a3 * r1) + (X.1 this 1))).bind fun r5 =>
  (f_X4_lightest L X a2).bind fun r7 =>
  (f_X9_readingAt L X a1 (((a3 + 1) * r7) - (X.1 this 1))).bind fun r9 =>
  if r9 ≤ r5 then
    some 0
  else
    some 1
  else none
  else none
set_option maxRecDepth 100000 in
set_option maxHeartbeats 4000000 in
theorem c_X7_apartFromNext {l : Launch} {dC : Nat → ClassId} {dI : Nat → Nat → Nat} {cy : Nat → ClassId} {ad : Nat → Nat} {L : hL} {X : hX} {this : Nat} {a1 : Int32} {a2 : Nat} {a3 : Int32} {r : Int32} (h : f_X7_apartFromNext L X this a1 a2 a3 = some r) : hMet l dC dI cy ad L yX7_apartFromNext wsX7_apartFromNext ({ frames := 3, cells := 0, slots := 0, locals := 64 } : Room) [.ref (ad this), .int a1, .ref (ad a2), .int a3] X (some (.int r)) X := by
  unfold f_X7_apartFromNext at h
  refine hx_enter RX7 (plainFor_of_name (by decide)) rfl rfl (Nat.le_of_ble_eq_true rfl) (fun p e s m args below meth c C hr hnm ls hl => ?_)
  have hl : lv_has ls 6 [(0, .ref (ad this)), (1, .int a1), (2, .ref (ad a2)), (3, .int a3)] := hl
  refine hx_iload_n C dX7_apartFromNext_0 rfl (lv_at hl 1 rfl) ?_
  refine hx_iload_n C dX7_apartFromNext_1 rfl (lv_at hl 3 rfl) ?_
  refine hx_aload_n C dX7_apartFromNext_2 rfl (lv_at hl 2 rfl) ?_
  obtain ⟨r1, e2, h⟩ := hx_bind h
  obtain ⟨g3, h⟩ := hx_gd h
  refine hx_callV (As := []) (rest := [.int a3, .int a1]) (n := 0) (Cn := RX4) C (c_X4_heaviest e2) gX7_apartFromNext_X4_heaviest g3 (by decide) rfl (by decide +kernel) ⟨Nat.le_of_ble_eq_true rfl, Nat.le_of_ble_eq_true rfl⟩ rfl rfl rfl ⟨Nat.zero_le _, Nat.zero_le _⟩ hl.1 rfl rfl (Nat.le_of_ble_eq_true rfl) dX7_apartFromNext_3 ?_
  refine hx_imul C dX7_apartFromNext_6 ?_
  refine hx_aload_n C dX7_apartFromNext_7 rfl (lv_at hl 0 rfl) ?_
  obtain ⟨g4, h⟩ := hx_gd h
  refine hx_geti C (ci := 7) (j := 1) g4 uX7_apartFromNext_7 (by decide) rfl (by decide) rfl (by decide +kernel) rfl dX7_apartFromNext_8 ?_
  refine hx_iadd C dX7_apartFromNext_11 ?_
  obtain ⟨r5, e6, h⟩ := hx_bind h
  refine hx_callSN (As := [.int a1, .int ((a3 * r1) + (X.1 this 1))]) (rest := []) (n := 2) (host := "TicketScales") C (c_X9_readingAt e6) gX7_apartFromNext_X9_readingAt_n67 (by decide) (by decide +kernel) (by decide +kernel) (by decide +kernel) ⟨Nat.le_of_ble_eq_true rfl, Nat.le_of_ble_eq_true rfl⟩ rfl rfl rfl ⟨Nat.zero_le _, Nat.zero_le _⟩ hl.1 rfl rfl (Nat.le_of_ble_eq_true rfl) dX7_apartFromNext_12 ?_
  refine hx_istore (lv' := [(4, .int r5), (0, .ref (ad this)), (1, .int a1), (2, .ref (ad a2)), (3, .int a3)]) C dX7_apartFromNext_15 hl (by decide) rfl (fun ls hl => ?_)
  refine hx_iload_n C dX7_apartFromNext_17 rfl (lv_at hl 2 rfl) ?_
  refine hx_iload_n C dX7_apartFromNext_18 rfl (lv_at hl 4 rfl) ?_
  refine hx_iconst (v := 1) C dX7_apartFromNext_19 (by decide) ?_
  refine hx_iadd C dX7_apartFromNext_20 ?_
  refine hx_aload_n C dX7_apartFromNext_21 rfl (lv_at hl 3 rfl) ?_
  obtain ⟨r7, e8, h⟩ := hx_bind h
  refine hx_callV (As := []) (rest := [.int (a3 + 1), .int a1]) (n := 0) (Cn := RX4) C (c_X4_lightest e8) gX7_apartFromNext_X4_lightest g3 (by decide) rfl (by decide +kernel) ⟨Nat.le_of_ble_eq_true rfl, Nat.le_of_ble_eq_true rfl⟩ rfl rfl rfl ⟨Nat.zero_le _, Nat.zero_le _⟩ hl.1 rfl rfl (Nat.le_of_ble_eq_true rfl) dX7_apartFromNext_22 ?_
  refine hx_imul C dX7_apartFromNext_25 ?_
  refine hx_aload_n C dX7_apartFromNext_26 rfl (lv_at hl 1 rfl) ?_
  refine hx_geti C (ci := 7) (j := 1) g4 uX7_apartFromNext_7 (by decide) rfl (by decide) rfl (by decide +kernel) rfl dX7_apartFromNext_27 ?_
  refine hx_isub C dX7_apartFromNext_30 ?_
  obtain ⟨r9, e10, h⟩ := hx_bind h
  refine hx_callSN (As := [.int a1, .int (((a3 + 1) * r7) - (X.1 this 1))]) (rest := []) (n := 2) (host := "TicketScales") C (c_X9_readingAt e10) gX7_apartFromNext_X9_readingAt_n67 (by decide) (by decide +kernel) (by decide +kernel) (by decide +kernel) ⟨Nat.le_of_ble_eq_true rfl, Nat.le_of_ble_eq_true rfl⟩ rfl rfl rfl ⟨Nat.zero_le _, Nat.zero_le _⟩ hl.1 rfl rfl (Nat.le_of_ble_eq_true rfl) dX7_apartFromNext_31 ?_
  refine hx_istore (lv' := [(5, .int r9), (4, .int r5), (0, .ref (ad this)), (1, .int a1), (2, .ref (ad a2)), (3, .int a3)]) C dX7_apartFromNext_34 hl (by decide) rfl (fun ls hl => ?_)
  refine hx_iload C dX7_apartFromNext_36 (lv_at hl 1 rfl) ?_
  refine hx_iload C dX7_apartFromNext_38 (lv_at hl 0 rfl) ?_
  refine hx_icmp_ge (tgt := 47) C dX7_apartFromNext_40 (by decide) (fun c11 => ?_) (fun c11 => ?_)
  · have h := hx_pos c11 h
    refine hx_iconst (v := 0) C dX7_apartFromNext_47 (by decide) ?_
    obtain rfl := hx_some1 h
    exact hx_zret C hr rfl dX7_apartFromNext_48
  · have h := hx_neg c11 h
    refine hx_iconst (v := 1) C dX7_apartFromNext_43 (by decide) ?_
    refine hx_goto (tgt := 48) C dX7_apartFromNext_44 (by decide) ?_
    obtain rfl := hx_some1 h
    exact hx_zret C hr rfl dX7_apartFromNext_48
theorem uX7_lastApart_7 : ∀ w ∈ u_ws RX7 TX7 3, w ∈ wsX7_lastApart := by decide +kernel
def f_X7_lastApart_2 (L : hL) : Nat → Nat → Nat → Int32 → hX → Option (Int32)
  | 0, _, _, _, _ => none
  | n + 1, v0, v1, v2, X =>
    if 999 ≤ v2 then
      some 999
    else
      if tk L v0 7 then
      (f_X7_apartFromNext L X v0 (X.1 v0 0) v1 v2).bind fun r3 =>
      if r3 = 0 then
        some v2
      else
        f_X7_lastApart_2 L n v0 v1 (v2 + 1) X
      else none
set_option maxRecDepth 100000 in
set_option maxHeartbeats 4000000 in
theorem w_X7_lastApart_2 {p : Program} {l : Launch} {e : Env} {s : State} {m : MethodId} {args : Array Value} {below : List Frame} {meth : Method} {c : Code} {dC : Nat → ClassId} {dI : Nat → Nat → Nat} {cy : Nat → ClassId} {ad : Nat → Nat} {L : hL} {r : Int32} (C : hC p s m args meth c dC dI cy ad L (hA ad L s.heap.size) cX7_lastApart 3 wsX7_lastApart RX7) (hr : meth.sig.returnType = (some .int)) : ∀ (n : Nat) (v0 : Nat) (v1 : Nat) (v2 : Int32) (X : hX) (ls : Array Slot), f_X7_lastApart_2 L n v0 v1 v2 X = some r → lv_has ls 3 [(0, .ref (ad v0)), (1, .ref (ad v1)), (2, .int v2)] → hG p l e (headSpec wsX7_lastApart ({ frames := 4, cells := 0, slots := 0, locals := 89 } : Room)).room s m args below meth c dC dI cy ad L (hA ad L s.heap.size) 0 0 (MQ below (hQ dC dI cy ad L s.heap.size (some (.int r)) X) args s 0 0 (hA ad L s.heap.size)) X 2 ls [] := by
  intro n
  induction n with
  | zero => intro v0 v1 v2 X ls h; cases h
  | succ n ih =>
    intro v0 v1 v2 X ls h hl
    rw [f_X7_lastApart_2] at h
    refine hx_iload_n C dX7_lastApart_2 rfl (lv_at hl 2 rfl) ?_
    refine hx_sipush (v := 999) C dX7_lastApart_3 (by decide) ?_
    refine hx_icmp_ge (tgt := 30) C dX7_lastApart_6 (by decide) (fun c1 => ?_) (fun c1 => ?_)
    · have h := hx_pos c1 h
      refine hx_sipush (v := 999) C dX7_lastApart_30 (by decide) ?_
      obtain rfl := hx_some1 h
      exact hx_iret C hr dX7_lastApart_33
    · have h := hx_neg c1 h
      refine hx_aload_n C dX7_lastApart_9 rfl (lv_at hl 0 rfl) ?_
      refine hx_aload_n C dX7_lastApart_10 rfl (lv_at hl 0 rfl) ?_
      obtain ⟨g2, h⟩ := hx_gd h
      refine hx_geti C (ci := 7) (j := 0) g2 uX7_lastApart_7 (by decide) rfl (by decide) rfl (by decide +kernel) rfl dX7_lastApart_11 ?_
      refine hx_aload_n C dX7_lastApart_14 rfl (lv_at hl 1 rfl) ?_
      refine hx_iload_n C dX7_lastApart_15 rfl (lv_at hl 2 rfl) ?_
      obtain ⟨r3, e4, h⟩ := hx_bind h
      refine hx_callV (As := [.int (X.1 v0 0), .ref (ad v1), .int v2]) (rest := []) (n := 3) (Cn := RX7) C (c_X7_apartFromNext e4) gX7_lastApart_X7_apartFromNext g2 (by decide) rfl (by decide +kernel) ⟨Nat.le_of_ble_eq_true rfl, Nat.le_of_ble_eq_true rfl⟩ rfl rfl rfl ⟨Nat.zero_le _, Nat.zero_le _⟩ hl.1 rfl rfl (Nat.le_of_ble_eq_true rfl) dX7_lastApart_16 ?_
      refine hx_if_ne (tgt := 24) C dX7_lastApart_19 (by decide) (fun c5 => ?_) (fun c5 => ?_)
      · have h := hx_neg c5 h
        refine hx_iinc (v := v2 + 1) (lv' := [(2, .int (v2 + 1)), (0, .ref (ad v0)), (1, .ref (ad v1))]) C dX7_lastApart_24 hl (k := 2) rfl rfl (by decide) rfl (fun ls hl => ?_)
        refine hx_goto (tgt := 2) C dX7_lastApart_27 (by decide) ?_
        exact ih v0 v1 (v2 + 1) X ls h (lv_sub hl [1, 2, 0] rfl)
      · have h := hx_pos c5 h
        refine hx_iload_n C dX7_lastApart_22 rfl (lv_at hl 2 rfl) ?_
        obtain rfl := hx_some1 h
        exact hx_iret C hr dX7_lastApart_23
def f_X7_lastApart (L : hL) (X : hX) (this : Nat) (a1 : Nat) : Option (Int32) :=
  f_X7_lastApart_2 L u_fuel this a1 0 X
set_option maxRecDepth 100000 in
set_option maxHeartbeats 4000000 in
theorem c_X7_lastApart {l : Launch} {dC : Nat → ClassId} {dI : Nat → Nat → Nat} {cy : Nat → ClassId} {ad : Nat → Nat} {L : hL} {X : hX} {this : Nat} {a1 : Nat} {r : Int32} (h : f_X7_lastApart L X this a1 = some r) : hMet l dC dI cy ad L yX7_lastApart wsX7_lastApart ({ frames := 4, cells := 0, slots := 0, locals := 89 } : Room) [.ref (ad this), .ref (ad a1)] X (some (.int r)) X := by
  unfold f_X7_lastApart at h
  refine hx_enter RX7 (plainFor_of_name (by decide)) rfl rfl (Nat.le_of_ble_eq_true rfl) (fun p e s m args below meth c C hr hnm ls hl => ?_)
  have hl : lv_has ls 3 [(0, .ref (ad this)), (1, .ref (ad a1))] := hl
  refine hx_iconst (v := 0) C dX7_lastApart_0 (by decide) ?_
  refine hx_istore_n (lv' := [(2, .int 0), (0, .ref (ad this)), (1, .ref (ad a1))]) C dX7_lastApart_1 rfl hl (by decide) rfl (fun ls hl => ?_)
  exact w_X7_lastApart_2 C hr u_fuel this a1 0 X ls h (lv_sub hl [1, 2, 0] rfl)
def f_X7_allApart_5 (L : hL) : Nat → Nat → Int32 → Nat → Int32 → hX → Option (Int32)
  | 0, _, _, _, _, _ => none
  | n + 1, v0, v1, v2, v4, X =>
    if v4 < 0 then
      some 1
    else
      (f_X7_apartFromNext L X v0 v1 v2 v4).bind fun r2 =>
      if tk L v0 7 then
      if r2 = 0 then
        some 0
      else
        f_X7_allApart_5 L n v0 v1 v2 (v4 + (-1)) X
      else none
set_option maxRecDepth 100000 in
set_option maxHeartbeats 4000000 in
theorem w_X7_allApart_5 {p : Program} {l : Launch} {e : Env} {s : State} {m : MethodId} {args : Array Value} {below : List Frame} {meth : Method} {c : Code} {dC : Nat → ClassId} {dI : Nat → Nat → Nat} {cy : Nat → ClassId} {ad : Nat → Nat} {L : hL} {r : Int32} (C : hC p s m args meth c dC dI cy ad L (hA ad L s.heap.size) cX7_allApart 5 wsX7_allApart RX7) (hr : meth.sig.returnType = (some .boolean)) : ∀ (n : Nat) (v0 : Nat) (v1 : Int32) (v2 : Nat) (v4 : Int32) (X : hX) (ls : Array Slot), f_X7_allApart_5 L n v0 v1 v2 v4 X = some r → lv_has ls 5 [(0, .ref (ad v0)), (1, .int v1), (2, .ref (ad v2)), (4, .int v4)] → hG p l e (headSpec wsX7_allApart ({ frames := 4, cells := 0, slots := 0, locals := 89 } : Room)).room s m args below meth c dC dI cy ad L (hA ad L s.heap.size) 0 0 (MQ below (hQ dC dI cy ad L s.heap.size (some (.int r)) X) args s 0 0 (hA ad L s.heap.size)) X 5 ls [] := by
  intro n
  induction n with
  | zero => intro v0 v1 v2 v4 X ls h; cases h
  | succ n ih =>
    intro v0 v1 v2 v4 X ls h hl
    rw [f_X7_allApart_5] at h
    refine hx_iload C dX7_allApart_5 (lv_at hl 3 rfl) ?_
    refine hx_if_lt (tgt := 29) C dX7_allApart_7 (by decide) (fun c1 => ?_) (fun c1 => ?_)
    · have h := hx_pos c1 h
      refine hx_iconst (v := 1) C dX7_allApart_29 (by decide) ?_
      obtain rfl := hx_some1 h
      exact hx_zret C hr rfl dX7_allApart_30
    · have h := hx_neg c1 h
      refine hx_aload_n C dX7_allApart_10 rfl (lv_at hl 0 rfl) ?_
      refine hx_iload_n C dX7_allApart_11 rfl (lv_at hl 1 rfl) ?_
      refine hx_aload_n C dX7_allApart_12 rfl (lv_at hl 2 rfl) ?_
      refine hx_iload C dX7_allApart_13 (lv_at hl 3 rfl) ?_
      obtain ⟨r2, e3, h⟩ := hx_bind h
      obtain ⟨g4, h⟩ := hx_gd h
      refine hx_callV (As := [.int v1, .ref (ad v2), .int v4]) (rest := []) (n := 3) (Cn := RX7) C (c_X7_apartFromNext e3) gX7_allApart_X7_apartFromNext g4 (by decide) rfl (by decide +kernel) ⟨Nat.le_of_ble_eq_true rfl, Nat.le_of_ble_eq_true rfl⟩ rfl rfl rfl ⟨Nat.zero_le _, Nat.zero_le _⟩ hl.1 rfl rfl (Nat.le_of_ble_eq_true rfl) dX7_allApart_15 ?_
      refine hx_if_ne (tgt := 23) C dX7_allApart_18 (by decide) (fun c5 => ?_) (fun c5 => ?_)
      · have h := hx_neg c5 h
        refine hx_iinc (v := v4 + (-1)) (lv' := [(4, .int (v4 + (-1))), (0, .ref (ad v0)), (1, .int v1), (2, .ref (ad v2))]) C dX7_allApart_23 hl (k := 3) rfl rfl (by decide) rfl (fun ls hl => ?_)
        refine hx_goto (tgt := 5) C dX7_allApart_26 (by decide) ?_
        exact ih v0 v1 v2 (v4 + (-1)) X ls h (lv_sub hl [1, 2, 3, 0] rfl)
      · have h := hx_pos c5 h
        refine hx_iconst (v := 0) C dX7_allApart_21 (by decide) ?_
        obtain rfl := hx_some1 h
        exact hx_zret C hr rfl dX7_allApart_22
def f_X7_allApart (L : hL) (X : hX) (this : Nat) (a1 : Int32) (a2 : Nat) (a3 : Int32) : Option (Int32) :=
  f_X7_allApart_5 L u_fuel this a1 a2 (a3 - 1) X
set_option maxRecDepth 100000 in
set_option maxHeartbeats 4000000 in
theorem c_X7_allApart {l : Launch} {dC : Nat → ClassId} {dI : Nat → Nat → Nat} {cy : Nat → ClassId} {ad : Nat → Nat} {L : hL} {X : hX} {this : Nat} {a1 : Int32} {a2 : Nat} {a3 : Int32} {r : Int32} (h : f_X7_allApart L X this a1 a2 a3 = some r) : hMet l dC dI cy ad L yX7_allApart wsX7_allApart ({ frames := 4, cells := 0, slots := 0, locals := 89 } : Room) [.ref (ad this), .int a1, .ref (ad a2), .int a3] X (some (.int r)) X := by
  unfold f_X7_allApart at h
  refine hx_enter RX7 (plainFor_of_name (by decide)) rfl rfl (Nat.le_of_ble_eq_true rfl) (fun p e s m args below meth c C hr hnm ls hl => ?_)
  have hl : lv_has ls 5 [(0, .ref (ad this)), (1, .int a1), (2, .ref (ad a2)), (3, .int a3)] := hl
  refine hx_iload_n C dX7_allApart_0 rfl (lv_at hl 3 rfl) ?_
  refine hx_iconst (v := 1) C dX7_allApart_1 (by decide) ?_
  refine hx_isub C dX7_allApart_2 ?_
  refine hx_istore (lv' := [(4, .int (a3 - 1)), (0, .ref (ad this)), (1, .int a1), (2, .ref (ad a2)), (3, .int a3)]) C dX7_allApart_3 hl (by decide) rfl (fun ls hl => ?_)
  exact w_X7_allApart_5 C hr u_fuel this a1 a2 (a3 - 1) X ls h (lv_sub hl [1, 2, 3, 0] rfl)
def f_X7_greatestStep_4 (L : hL) : Nat → Nat → Nat → Int32 → Int32 → hX → Option (Int32)
  | 0, _, _, _, _, _ => none
  | n + 1, v0, v1, v2, v3, X =>
    if v3 < 1 then
      some (-100009)
    else
      (f_X7_allApart L X v0 v3 v1 v2).bind fun r2 =>
      if tk L v0 7 then
      if r2 = 0 then
        f_X7_greatestStep_4 L n v0 v1 v2 (v3 + (-1)) X
      else
        some v3
      else none
set_option maxRecDepth 100000 in
set_option maxHeartbeats 4000000 in
theorem w_X7_greatestStep_4 {p : Program} {l : Launch} {e : Env} {s : State} {m : MethodId} {args : Array Value} {below : List Frame} {meth : Method} {c : Code} {dC : Nat → ClassId} {dI : Nat → Nat → Nat} {cy : Nat → ClassId} {ad : Nat → Nat} {L : hL} {r : Int32} (C : hC p s m args meth c dC dI cy ad L (hA ad L s.heap.size) cX7_greatestStep 4 wsX7_greatestStep RX7) (hr : meth.sig.returnType = (some .int)) : ∀ (n : Nat) (v0 : Nat) (v1 : Nat) (v2 : Int32) (v3 : Int32) (X : hX) (ls : Array Slot), f_X7_greatestStep_4 L n v0 v1 v2 v3 X = some r → lv_has ls 4 [(0, .ref (ad v0)), (1, .ref (ad v1)), (2, .int v2), (3, .int v3)] → hG p l e (headSpec wsX7_greatestStep ({ frames := 5, cells := 0, slots := 0, locals := 113 } : Room)).room s m args below meth c dC dI cy ad L (hA ad L s.heap.size) 0 0 (MQ below (hQ dC dI cy ad L s.heap.size (some (.int r)) X) args s 0 0 (hA ad L s.heap.size)) X 4 ls [] := by
  intro n
  induction n with
  | zero => intro v0 v1 v2 v3 X ls h; cases h
  | succ n ih =>
    intro v0 v1 v2 v3 X ls h hl
    rw [f_X7_greatestStep_4] at h
    refine hx_iload_n C dX7_greatestStep_4 rfl (lv_at hl 3 rfl) ?_
    refine hx_iconst (v := 1) C dX7_greatestStep_5 (by decide) ?_
    refine hx_icmp_lt (tgt := 27) C dX7_greatestStep_6 (by decide) (fun c1 => ?_) (fun c1 => ?_)
    · have h := hx_pos c1 h
      refine hx_ldc (v := (-100009)) C (by decide +kernel) dX7_greatestStep_27 ?_
      obtain rfl := hx_some1 h
      exact hx_iret C hr dX7_greatestStep_29
    · have h := hx_neg c1 h
      refine hx_aload_n C dX7_greatestStep_9 rfl (lv_at hl 0 rfl) ?_
      refine hx_iload_n C dX7_greatestStep_10 rfl (lv_at hl 3 rfl) ?_
      refine hx_aload_n C dX7_greatestStep_11 rfl (lv_at hl 1 rfl) ?_
      refine hx_iload_n C dX7_greatestStep_12 rfl (lv_at hl 2 rfl) ?_
      obtain ⟨r2, e3, h⟩ := hx_bind h
      obtain ⟨g4, h⟩ := hx_gd h
      refine hx_callV (As := [.int v3, .ref (ad v1), .int v2]) (rest := []) (n := 3) (Cn := RX7) C (c_X7_allApart e3) gX7_greatestStep_X7_allApart g4 (by decide) rfl (by decide +kernel) ⟨Nat.le_of_ble_eq_true rfl, Nat.le_of_ble_eq_true rfl⟩ rfl rfl rfl ⟨Nat.zero_le _, Nat.zero_le _⟩ hl.1 rfl rfl (Nat.le_of_ble_eq_true rfl) dX7_greatestStep_13 ?_
      refine hx_if_eq (tgt := 21) C dX7_greatestStep_16 (by decide) (fun c5 => ?_) (fun c5 => ?_)
      · have h := hx_pos c5 h
        refine hx_iinc (v := v3 + (-1)) (lv' := [(3, .int (v3 + (-1))), (0, .ref (ad v0)), (1, .ref (ad v1)), (2, .int v2)]) C dX7_greatestStep_21 hl (k := 3) rfl rfl (by decide) rfl (fun ls hl => ?_)
        refine hx_goto (tgt := 4) C dX7_greatestStep_24 (by decide) ?_
        exact ih v0 v1 v2 (v3 + (-1)) X ls h (lv_sub hl [1, 2, 3, 0] rfl)
      · have h := hx_neg c5 h
        refine hx_iload_n C dX7_greatestStep_19 rfl (lv_at hl 3 rfl) ?_
        obtain rfl := hx_some1 h
        exact hx_iret C hr dX7_greatestStep_20
def f_X7_greatestStep (L : hL) (X : hX) (this : Nat) (a1 : Nat) (a2 : Int32) : Option (Int32) :=
  f_X7_greatestStep_4 L u_fuel this a1 a2 1000 X
set_option maxRecDepth 100000 in
set_option maxHeartbeats 4000000 in
theorem c_X7_greatestStep {l : Launch} {dC : Nat → ClassId} {dI : Nat → Nat → Nat} {cy : Nat → ClassId} {ad : Nat → Nat} {L : hL} {X : hX} {this : Nat} {a1 : Nat} {a2 : Int32} {r : Int32} (h : f_X7_greatestStep L X this a1 a2 = some r) : hMet l dC dI cy ad L yX7_greatestStep wsX7_greatestStep ({ frames := 5, cells := 0, slots := 0, locals := 113 } : Room) [.ref (ad this), .ref (ad a1), .int a2] X (some (.int r)) X := by
  unfold f_X7_greatestStep at h
  refine hx_enter RX7 (plainFor_of_name (by decide)) rfl rfl (Nat.le_of_ble_eq_true rfl) (fun p e s m args below meth c C hr hnm ls hl => ?_)
  have hl : lv_has ls 4 [(0, .ref (ad this)), (1, .ref (ad a1)), (2, .int a2)] := hl
  refine hx_sipush (v := 1000) C dX7_greatestStep_0 (by decide) ?_
  refine hx_istore_n (lv' := [(3, .int 1000), (0, .ref (ad this)), (1, .ref (ad a1)), (2, .int a2)]) C dX7_greatestStep_3 rfl hl (by decide) rfl (fun ls hl => ?_)
  exact w_X7_greatestStep_4 C hr u_fuel this a1 a2 1000 X ls h (lv_sub hl [1, 2, 3, 0] rfl)
theorem uX7_pairsOf_7 : ∀ w ∈ u_ws RX7 TX7 3, w ∈ wsX7_pairsOf := by decide +kernel
def f_X7_pairsOf_98 (L : hL) (k17 : Nat → Int32 → Nat → Nat → Int32 → Int32 → Int32 → hX → Option (Int32)) (v0 : Nat) (v1 : Int32) (v2 : Nat) (v3 : Nat) (v4 : Int32) (v5 : Int32) (v6 : Int32) (X : hX) : Option (Int32) :=
  k17 v0 v1 v2 v3 v4 v5 (v6 + 1) X
set_option maxRecDepth 100000 in
set_option maxHeartbeats 4000000 in
theorem w_X7_pairsOf_98 {p : Program} {l : Launch} {e : Env} {s : State} {m : MethodId} {args : Array Value} {below : List Frame} {meth : Method} {c : Code} {dC : Nat → ClassId} {dI : Nat → Nat → Nat} {cy : Nat → ClassId} {ad : Nat → Nat} {L : hL} {r : Int32} (k17 : Nat → Int32 → Nat → Nat → Int32 → Int32 → Int32 → hX → Option (Int32)) (C : hC p s m args meth c dC dI cy ad L (hA ad L s.heap.size) cX7_pairsOf 10 wsX7_pairsOf RX7) (hr : meth.sig.returnType = (some .int)) (hk17 : ∀ (v0 : Nat) (v1 : Int32) (v2 : Nat) (v3 : Nat) (v4 : Int32) (v5 : Int32) (v6 : Int32) (X : hX) (ls : Array Slot), k17 v0 v1 v2 v3 v4 v5 v6 X = some r → lv_has ls 10 [(0, .ref (ad v0)), (1, .int v1), (2, .ref (ad v2)), (3, .ref (ad v3)), (4, .int v4), (5, .int v5), (6, .int v6)] → hG p l e (headSpec wsX7_pairsOf ({ frames := 1, cells := 0, slots := 0, locals := 21 } : Room)).room s m args below meth c dC dI cy ad L (hA ad L s.heap.size) 0 0 (MQ below (hQ dC dI cy ad L s.heap.size (some (.int r)) X) args s 0 0 (hA ad L s.heap.size)) X 17 ls []) : ∀ (v0 : Nat) (v1 : Int32) (v2 : Nat) (v3 : Nat) (v4 : Int32) (v5 : Int32) (v6 : Int32) (X : hX) (ls : Array Slot), f_X7_pairsOf_98 L k17 v0 v1 v2 v3 v4 v5 v6 X = some r → lv_has ls 10 [(0, .ref (ad v0)), (1, .int v1), (2, .ref (ad v2)), (3, .ref (ad v3)), (4, .int v4), (5, .int v5), (6, .int v6)] → hG p l e (headSpec wsX7_pairsOf ({ frames := 1, cells := 0, slots := 0, locals := 21 } : Room)).room s m args below meth c dC dI cy ad L (hA ad L s.heap.size) 0 0 (MQ below (hQ dC dI cy ad L s.heap.size (some (.int r)) X) args s 0 0 (hA ad L s.heap.size)) X 98 ls [] := by
  intro v0 v1 v2 v3 v4 v5 v6 X ls h hl
  unfold f_X7_pairsOf_98 at h
  refine hx_iinc (v := v6 + 1) (lv' := [(6, .int (v6 + 1)), (0, .ref (ad v0)), (1, .int v1), (2, .ref (ad v2)), (3, .ref (ad v3)), (4, .int v4), (5, .int v5)]) C dX7_pairsOf_98 hl (k := 6) rfl rfl (by decide) rfl (fun ls hl => ?_)
  refine hx_goto (tgt := 17) C dX7_pairsOf_101 (by decide) ?_
  exact hk17 v0 v1 v2 v3 v4 v5 (v6 + 1) X ls h (lv_sub hl [1, 2, 3, 4, 5, 6, 0] rfl)
def f_X7_pairsOf_17 (L : hL) : Nat → Nat → Int32 → Nat → Nat → Int32 → Int32 → Int32 → hX → Option (Int32)
  | 0, _, _, _, _, _, _, _, _ => none
  | n + 1, v0, v1, v2, v3, v4, v5, v6, X =>
    if v1 < v6 then
      some v5
    else
      (f_X4_lightest L X v2).bind fun r2 =>
      if tk L v2 4 then
      (f_X4_lightest L X v3).bind fun r5 =>
      if tk L v3 4 then
      if tk L v0 7 then
      (f_X4_heaviest L X v2).bind fun r9 =>
      (f_X4_heaviest L X v3).bind fun r11 =>
      (f_X7_loadTo L X v0 v4).bind fun r13 =>
      if r13 < (((v6 * r2) + ((v1 - v6) * r5)) - (X.1 v0 1)) then
        f_X7_pairsOf_98 L (f_X7_pairsOf_17 L n) v0 v1 v2 v3 v4 v5 v6 X
      else
        (f_X7_loadFrom L X v0 v4).bind fun r16 =>
        if (((v6 * r9) + ((v1 - v6) * r11)) + (X.1 v0 1)) < r16 then
          f_X7_pairsOf_98 L (f_X7_pairsOf_17 L n) v0 v1 v2 v3 v4 v5 v6 X
        else
          f_X7_pairsOf_98 L (f_X7_pairsOf_17 L n) v0 v1 v2 v3 v4 (v5 + 1) v6 X
      else none
      else none
      else none
set_option maxRecDepth 100000 in
set_option maxHeartbeats 4000000 in
theorem w_X7_pairsOf_17 {p : Program} {l : Launch} {e : Env} {s : State} {m : MethodId} {args : Array Value} {below : List Frame} {meth : Method} {c : Code} {dC : Nat → ClassId} {dI : Nat → Nat → Nat} {cy : Nat → ClassId} {ad : Nat → Nat} {L : hL} {r : Int32} (C : hC p s m args meth c dC dI cy ad L (hA ad L s.heap.size) cX7_pairsOf 10 wsX7_pairsOf RX7) (hr : meth.sig.returnType = (some .int)) : ∀ (n : Nat) (v0 : Nat) (v1 : Int32) (v2 : Nat) (v3 : Nat) (v4 : Int32) (v5 : Int32) (v6 : Int32) (X : hX) (ls : Array Slot), f_X7_pairsOf_17 L n v0 v1 v2 v3 v4 v5 v6 X = some r → lv_has ls 10 [(0, .ref (ad v0)), (1, .int v1), (2, .ref (ad v2)), (3, .ref (ad v3)), (4, .int v4), (5, .int v5), (6, .int v6)] → hG p l e (headSpec wsX7_pairsOf ({ frames := 1, cells := 0, slots := 0, locals := 21 } : Room)).room s m args below meth c dC dI cy ad L (hA ad L s.heap.size) 0 0 (MQ below (hQ dC dI cy ad L s.heap.size (some (.int r)) X) args s 0 0 (hA ad L s.heap.size)) X 17 ls [] := by
  intro n
  induction n with
  | zero => intro v0 v1 v2 v3 v4 v5 v6 X ls h; cases h
  | succ n ih =>
    intro v0 v1 v2 v3 v4 v5 v6 X ls h hl
    rw [f_X7_pairsOf_17] at h
    refine hx_iload C dX7_pairsOf_17 (lv_at hl 6 rfl) ?_
    refine hx_iload_n C dX7_pairsOf_19 rfl (lv_at hl 1 rfl) ?_
    refine hx_icmp_gt (tgt := 104) C dX7_pairsOf_20 (by decide) (fun c1 => ?_) (fun c1 => ?_)
    · have h := hx_pos c1 h
      refine hx_iload C dX7_pairsOf_104 (lv_at hl 5 rfl) ?_
      obtain rfl := hx_some1 h
      exact hx_iret C hr dX7_pairsOf_106
    · have h := hx_neg c1 h
      refine hx_iload_n C dX7_pairsOf_23 rfl (lv_at hl 1 rfl) ?_
      refine hx_iload C dX7_pairsOf_24 (lv_at hl 6 rfl) ?_
      refine hx_isub C dX7_pairsOf_26 ?_
      refine hx_istore (lv' := [(7, .int (v1 - v6)), (0, .ref (ad v0)), (1, .int v1), (2, .ref (ad v2)), (3, .ref (ad v3)), (4, .int v4), (5, .int v5), (6, .int v6)]) C dX7_pairsOf_27 hl (by decide) rfl (fun ls hl => ?_)
      refine hx_iload C dX7_pairsOf_29 (lv_at hl 7 rfl) ?_
      refine hx_aload_n C dX7_pairsOf_31 rfl (lv_at hl 3 rfl) ?_
      obtain ⟨r2, e3, h⟩ := hx_bind h
      obtain ⟨g4, h⟩ := hx_gd h
      refine hx_callV (As := []) (rest := [.int v6]) (n := 0) (Cn := RX4) C (c_X4_lightest e3) gX7_pairsOf_X4_lightest g4 (by decide) rfl (by decide +kernel) ⟨Nat.le_of_ble_eq_true rfl, Nat.le_of_ble_eq_true rfl⟩ rfl rfl rfl ⟨Nat.zero_le _, Nat.zero_le _⟩ hl.1 rfl rfl (Nat.le_of_ble_eq_true rfl) dX7_pairsOf_32 ?_
      refine hx_imul C dX7_pairsOf_35 ?_
      refine hx_iload C dX7_pairsOf_36 (lv_at hl 0 rfl) ?_
      refine hx_aload_n C dX7_pairsOf_38 rfl (lv_at hl 4 rfl) ?_
      obtain ⟨r5, e6, h⟩ := hx_bind h
      obtain ⟨g7, h⟩ := hx_gd h
      refine hx_callV (As := []) (rest := [.int (v1 - v6), .int (v6 * r2)]) (n := 0) (Cn := RX4) C (c_X4_lightest e6) gX7_pairsOf_X4_lightest g7 (by decide) rfl (by decide +kernel) ⟨Nat.le_of_ble_eq_true rfl, Nat.le_of_ble_eq_true rfl⟩ rfl rfl rfl ⟨Nat.zero_le _, Nat.zero_le _⟩ hl.1 rfl rfl (Nat.le_of_ble_eq_true rfl) dX7_pairsOf_39 ?_
      refine hx_imul C dX7_pairsOf_42 ?_
      refine hx_iadd C dX7_pairsOf_43 ?_
      refine hx_aload_n C dX7_pairsOf_44 rfl (lv_at hl 1 rfl) ?_
      obtain ⟨g8, h⟩ := hx_gd h
      refine hx_geti C (ci := 7) (j := 1) g8 uX7_pairsOf_7 (by decide) rfl (by decide) rfl (by decide +kernel) rfl dX7_pairsOf_45 ?_
      refine hx_isub C dX7_pairsOf_48 ?_
      refine hx_istore (lv' := [(8, .int (((v6 * r2) + ((v1 - v6) * r5)) - (X.1 v0 1))), (7, .int (v1 - v6)), (0, .ref (ad v0)), (1, .int v1), (2, .ref (ad v2)), (3, .ref (ad v3)), (4, .int v4), (5, .int v5), (6, .int v6)]) C dX7_pairsOf_49 hl (by decide) rfl (fun ls hl => ?_)
      refine hx_iload C dX7_pairsOf_51 (lv_at hl 8 rfl) ?_
      refine hx_aload_n C dX7_pairsOf_53 rfl (lv_at hl 4 rfl) ?_
      obtain ⟨r9, e10, h⟩ := hx_bind h
      refine hx_callV (As := []) (rest := [.int v6]) (n := 0) (Cn := RX4) C (c_X4_heaviest e10) gX7_pairsOf_X4_heaviest g4 (by decide) rfl (by decide +kernel) ⟨Nat.le_of_ble_eq_true rfl, Nat.le_of_ble_eq_true rfl⟩ rfl rfl rfl ⟨Nat.zero_le _, Nat.zero_le _⟩ hl.1 rfl rfl (Nat.le_of_ble_eq_true rfl) dX7_pairsOf_54 ?_
      refine hx_imul C dX7_pairsOf_57 ?_
      refine hx_iload C dX7_pairsOf_58 (lv_at hl 1 rfl) ?_
      refine hx_aload_n C dX7_pairsOf_60 rfl (lv_at hl 5 rfl) ?_
      obtain ⟨r11, e12, h⟩ := hx_bind h
      refine hx_callV (As := []) (rest := [.int (v1 - v6), .int (v6 * r9)]) (n := 0) (Cn := RX4) C (c_X4_heaviest e12) gX7_pairsOf_X4_heaviest g7 (by decide) rfl (by decide +kernel) ⟨Nat.le_of_ble_eq_true rfl, Nat.le_of_ble_eq_true rfl⟩ rfl rfl rfl ⟨Nat.zero_le _, Nat.zero_le _⟩ hl.1 rfl rfl (Nat.le_of_ble_eq_true rfl) dX7_pairsOf_61 ?_
      refine hx_imul C dX7_pairsOf_64 ?_
      refine hx_iadd C dX7_pairsOf_65 ?_
      refine hx_aload_n C dX7_pairsOf_66 rfl (lv_at hl 2 rfl) ?_
      refine hx_geti C (ci := 7) (j := 1) g8 uX7_pairsOf_7 (by decide) rfl (by decide) rfl (by decide +kernel) rfl dX7_pairsOf_67 ?_
      refine hx_iadd C dX7_pairsOf_70 ?_
      refine hx_istore (lv' := [(9, .int (((v6 * r9) + ((v1 - v6) * r11)) + (X.1 v0 1))), (8, .int (((v6 * r2) + ((v1 - v6) * r5)) - (X.1 v0 1))), (7, .int (v1 - v6)), (0, .ref (ad v0)), (1, .int v1), (2, .ref (ad v2)), (3, .ref (ad v3)), (4, .int v4), (5, .int v5), (6, .int v6)]) C dX7_pairsOf_71 hl (by decide) rfl (fun ls hl => ?_)
      refine hx_iload C dX7_pairsOf_73 (lv_at hl 1 rfl) ?_
      refine hx_aload_n C dX7_pairsOf_75 rfl (lv_at hl 3 rfl) ?_
      refine hx_iload C dX7_pairsOf_76 (lv_at hl 7 rfl) ?_
      obtain ⟨r13, e14, h⟩ := hx_bind h
      refine hx_callV (As := [.int v4]) (rest := [.int (((v6 * r2) + ((v1 - v6) * r5)) - (X.1 v0 1))]) (n := 1) (Cn := RX7) C (c_X7_loadTo e14) gX7_pairsOf_X7_loadTo g8 (by decide) rfl (by decide +kernel) ⟨Nat.le_of_ble_eq_true rfl, Nat.le_of_ble_eq_true rfl⟩ rfl rfl rfl ⟨Nat.zero_le _, Nat.zero_le _⟩ hl.1 rfl rfl (Nat.le_of_ble_eq_true rfl) dX7_pairsOf_78 ?_
      refine hx_icmp_gt (tgt := 98) C dX7_pairsOf_81 (by decide) (fun c15 => ?_) (fun c15 => ?_)
      · have h := hx_pos c15 h
        exact w_X7_pairsOf_98 (f_X7_pairsOf_17 L n) C hr ih v0 v1 v2 v3 v4 v5 v6 X ls h (lv_sub hl [3, 4, 5, 6, 7, 8, 9] rfl)
      · have h := hx_neg c15 h
        refine hx_iload C dX7_pairsOf_84 (lv_at hl 0 rfl) ?_
        refine hx_aload_n C dX7_pairsOf_86 rfl (lv_at hl 3 rfl) ?_
        refine hx_iload C dX7_pairsOf_87 (lv_at hl 7 rfl) ?_
        obtain ⟨r16, e17, h⟩ := hx_bind h
        refine hx_callV (As := [.int v4]) (rest := [.int (((v6 * r9) + ((v1 - v6) * r11)) + (X.1 v0 1))]) (n := 1) (Cn := RX7) C (c_X7_loadFrom e17) gX7_pairsOf_X7_loadFrom g8 (by decide) rfl (by decide +kernel) ⟨Nat.le_of_ble_eq_true rfl, Nat.le_of_ble_eq_true rfl⟩ rfl rfl rfl ⟨Nat.zero_le _, Nat.zero_le _⟩ hl.1 rfl rfl (Nat.le_of_ble_eq_true rfl) dX7_pairsOf_89 ?_
        refine hx_icmp_lt (tgt := 98) C dX7_pairsOf_92 (by decide) (fun c18 => ?_) (fun c18 => ?_)
        · have h := hx_pos c18 h
          exact w_X7_pairsOf_98 (f_X7_pairsOf_17 L n) C hr ih v0 v1 v2 v3 v4 v5 v6 X ls h (lv_sub hl [3, 4, 5, 6, 7, 8, 9] rfl)
        · have h := hx_neg c18 h
          refine hx_iinc (v := v5 + 1) (lv' := [(5, .int (v5 + 1)), (9, .int (((v6 * r9) + ((v1 - v6) * r11)) + (X.1 v0 1))), (8, .int (((v6 * r2) + ((v1 - v6) * r5)) - (X.1 v0 1))), (7, .int (v1 - v6)), (0, .ref (ad v0)), (1, .int v1), (2, .ref (ad v2)), (3, .ref (ad v3)), (4, .int v4), (6, .int v6)]) C dX7_pairsOf_95 hl (k := 8) rfl rfl (by decide) rfl (fun ls hl => ?_)
          exact w_X7_pairsOf_98 (f_X7_pairsOf_17 L n) C hr ih v0 v1 v2 v3 v4 (v5 + 1) v6 X ls h (lv_sub hl [4, 5, 6, 7, 8, 0, 9] rfl)
def f_X7_pairsOf (L : hL) (X : hX) (this : Nat) (a1 : Int32) (a2 : Nat) (a3 : Nat) (a4 : Int32) : Option (Int32) :=
  (f_X7_shows L X this a4).bind fun r19 =>
  if tk L this 7 then
  if r19 = 0 then
    some 0
  else
    f_X7_pairsOf_17 L u_fuel this a1 a2 a3 a4 0 0 X
  else none
set_option maxRecDepth 100000 in
set_option maxHeartbeats 4000000 in
theorem c_X7_pairsOf {l : Launch} {dC : Nat → ClassId} {dI : Nat → Nat → Nat} {cy : Nat → ClassId} {ad : Nat → Nat} {L : hL} {X : hX} {this : Nat} {a1 : Int32} {a2 : Nat} {a3 : Nat} {a4 : Int32} {r : Int32} (h : f_X7_pairsOf L X this a1 a2 a3 a4 = some r) : hMet l dC dI cy ad L yX7_pairsOf wsX7_pairsOf ({ frames := 1, cells := 0, slots := 0, locals := 21 } : Room) [.ref (ad this), .int a1, .ref (ad a2), .ref (ad a3), .int a4] X (some (.int r)) X := by
  unfold f_X7_pairsOf at h
  refine hx_enter RX7 (plainFor_of_name (by decide)) rfl rfl (Nat.le_of_ble_eq_true rfl) (fun p e s m args below meth c C hr hnm ls hl => ?_)
  have hl : lv_has ls 10 [(0, .ref (ad this)), (1, .int a1), (2, .ref (ad a2)), (3, .ref (ad a3)), (4, .int a4)] := hl
  refine hx_aload_n C dX7_pairsOf_0 rfl (lv_at hl 0 rfl) ?_
  refine hx_iload C dX7_pairsOf_1 (lv_at hl 4 rfl) ?_
  obtain ⟨r19, e20, h⟩ := hx_bind h
  obtain ⟨g21, h⟩ := hx_gd h
  refine hx_callV (As := [.int a4]) (rest := []) (n := 1) (Cn := RX7) C (c_X7_shows e20) gX7_pairsOf_X7_shows g21 (by decide) rfl (by decide +kernel) ⟨Nat.le_of_ble_eq_true rfl, Nat.le_of_ble_eq_true rfl⟩ rfl rfl rfl ⟨Nat.zero_le _, Nat.zero_le _⟩ hl.1 rfl rfl (Nat.le_of_ble_eq_true rfl) dX7_pairsOf_3 ?_
  refine hx_if_ne (tgt := 11) C dX7_pairsOf_6 (by decide) (fun c22 => ?_) (fun c22 => ?_)
  · have h := hx_neg c22 h
    refine hx_iconst (v := 0) C dX7_pairsOf_11 (by decide) ?_
    refine hx_istore (lv' := [(5, .int 0), (0, .ref (ad this)), (1, .int a1), (2, .ref (ad a2)), (3, .ref (ad a3)), (4, .int a4)]) C dX7_pairsOf_12 hl (by decide) rfl (fun ls hl => ?_)
    refine hx_iconst (v := 0) C dX7_pairsOf_14 (by decide) ?_
    refine hx_istore (lv' := [(6, .int 0), (5, .int 0), (0, .ref (ad this)), (1, .int a1), (2, .ref (ad a2)), (3, .ref (ad a3)), (4, .int a4)]) C dX7_pairsOf_15 hl (by decide) rfl (fun ls hl => ?_)
    exact w_X7_pairsOf_17 C hr u_fuel this a1 a2 a3 a4 0 0 X ls h (lv_sub hl [2, 3, 4, 5, 6, 1, 0] rfl)
  · have h := hx_pos c22 h
    refine hx_iconst (v := 0) C dX7_pairsOf_9 (by decide) ?_
    obtain rfl := hx_some1 h
    exact hx_iret C hr dX7_pairsOf_10
def f_X7_mixedPairs_59 (L : hL) (k14 : Nat → Nat → Nat → Int32 → Int32 → Int32 → Int32 → Int32 → Int32 → hX → Option (Int32)) (v0 : Nat) (v1 : Nat) (v2 : Nat) (v3 : Int32) (v4 : Int32) (v5 : Int32) (v6 : Int32) (v7 : Int32) (v8 : Int32) (X : hX) : Option (Int32) :=
  k14 v0 v1 v2 v3 v4 v5 v6 v7 (v8 + 1) X
set_option maxRecDepth 100000 in
set_option maxHeartbeats 4000000 in
theorem w_X7_mixedPairs_59 {p : Program} {l : Launch} {e : Env} {s : State} {m : MethodId} {args : Array Value} {below : List Frame} {meth : Method} {c : Code} {dC : Nat → ClassId} {dI : Nat → Nat → Nat} {cy : Nat → ClassId} {ad : Nat → Nat} {L : hL} {r : Int32} (k14 : Nat → Nat → Nat → Int32 → Int32 → Int32 → Int32 → Int32 → Int32 → hX → Option (Int32)) (C : hC p s m args meth c dC dI cy ad L (hA ad L s.heap.size) cX7_mixedPairs 10 wsX7_mixedPairs RX7) (hr : meth.sig.returnType = (some .int)) (hk14 : ∀ (v0 : Nat) (v1 : Nat) (v2 : Nat) (v3 : Int32) (v4 : Int32) (v5 : Int32) (v6 : Int32) (v7 : Int32) (v8 : Int32) (X : hX) (ls : Array Slot), k14 v0 v1 v2 v3 v4 v5 v6 v7 v8 X = some r → lv_has ls 10 [(0, .ref (ad v0)), (1, .ref (ad v1)), (2, .ref (ad v2)), (3, .int v3), (4, .int v4), (5, .int v5), (6, .int v6), (7, .int v7), (8, .int v8)] → hG p l e (headSpec wsX7_mixedPairs ({ frames := 2, cells := 0, slots := 0, locals := 50 } : Room)).room s m args below meth c dC dI cy ad L (hA ad L s.heap.size) 0 0 (MQ below (hQ dC dI cy ad L s.heap.size (some (.int r)) X) args s 0 0 (hA ad L s.heap.size)) X 14 ls []) : ∀ (v0 : Nat) (v1 : Nat) (v2 : Nat) (v3 : Int32) (v4 : Int32) (v5 : Int32) (v6 : Int32) (v7 : Int32) (v8 : Int32) (X : hX) (ls : Array Slot), f_X7_mixedPairs_59 L k14 v0 v1 v2 v3 v4 v5 v6 v7 v8 X = some r → lv_has ls 10 [(0, .ref (ad v0)), (1, .ref (ad v1)), (2, .ref (ad v2)), (3, .int v3), (4, .int v4), (5, .int v5), (6, .int v6), (7, .int v7), (8, .int v8)] → hG p l e (headSpec wsX7_mixedPairs ({ frames := 2, cells := 0, slots := 0, locals := 50 } : Room)).room s m args below meth c dC dI cy ad L (hA ad L s.heap.size) 0 0 (MQ below (hQ dC dI cy ad L s.heap.size (some (.int r)) X) args s 0 0 (hA ad L s.heap.size)) X 59 ls [] := by
  intro v0 v1 v2 v3 v4 v5 v6 v7 v8 X ls h hl
  unfold f_X7_mixedPairs_59 at h
  refine hx_iinc (v := v8 + 1) (lv' := [(8, .int (v8 + 1)), (0, .ref (ad v0)), (1, .ref (ad v1)), (2, .ref (ad v2)), (3, .int v3), (4, .int v4), (5, .int v5), (6, .int v6), (7, .int v7)]) C dX7_mixedPairs_59 hl (k := 8) rfl rfl (by decide) rfl (fun ls hl => ?_)
  refine hx_goto (tgt := 14) C dX7_mixedPairs_62 (by decide) ?_
  exact hk14 v0 v1 v2 v3 v4 v5 v6 v7 (v8 + 1) X ls h (lv_sub hl [1, 2, 3, 4, 5, 6, 7, 8, 0] rfl)
def f_X7_mixedPairs_14 (L : hL) : Nat → Nat → Nat → Nat → Int32 → Int32 → Int32 → Int32 → Int32 → Int32 → hX → Option (Int32)
  | 0, _, _, _, _, _, _, _, _, _, _ => none
  | n + 1, v0, v1, v2, v3, v4, v5, v6, v7, v8, X =>
    if 60 < v8 then
      if v4 = 0 then
        some v5
      else
      if v4 = 1 then
        some v6
      else
      some v7
    else
      (f_X7_pairsOf L X v0 v8 v1 v2 v3).bind fun r4 =>
      if tk L v0 7 then
      if r4 ≤ 0 then
        f_X7_mixedPairs_59 L (f_X7_mixedPairs_14 L n) v0 v1 v2 v3 v4 v5 v6 v7 v8 X
      else
        if v6 = (-100009) then
          f_X7_mixedPairs_59 L (f_X7_mixedPairs_14 L n) v0 v1 v2 v3 v4 (v5 + r4) v8 v8 v8 X
        else
          f_X7_mixedPairs_59 L (f_X7_mixedPairs_14 L n) v0 v1 v2 v3 v4 (v5 + r4) v6 v8 v8 X
      else none
set_option maxRecDepth 100000 in
set_option maxHeartbeats 4000000 in
theorem w_X7_mixedPairs_14 {p : Program} {l : Launch} {e : Env} {s : State} {m : MethodId} {args : Array Value} {below : List Frame} {meth : Method} {c : Code} {dC : Nat → ClassId} {dI : Nat → Nat → Nat} {cy : Nat → ClassId} {ad : Nat → Nat} {L : hL} {r : Int32} (C : hC p s m args meth c dC dI cy ad L (hA ad L s.heap.size) cX7_mixedPairs 10 wsX7_mixedPairs RX7) (hr : meth.sig.returnType = (some .int)) : ∀ (n : Nat) (v0 : Nat) (v1 : Nat) (v2 : Nat) (v3 : Int32) (v4 : Int32) (v5 : Int32) (v6 : Int32) (v7 : Int32) (v8 : Int32) (X : hX) (ls : Array Slot), f_X7_mixedPairs_14 L n v0 v1 v2 v3 v4 v5 v6 v7 v8 X = some r → lv_has ls 10 [(0, .ref (ad v0)), (1, .ref (ad v1)), (2, .ref (ad v2)), (3, .int v3), (4, .int v4), (5, .int v5), (6, .int v6), (7, .int v7), (8, .int v8)] → hG p l e (headSpec wsX7_mixedPairs ({ frames := 2, cells := 0, slots := 0, locals := 50 } : Room)).room s m args below meth c dC dI cy ad L (hA ad L s.heap.size) 0 0 (MQ below (hQ dC dI cy ad L s.heap.size (some (.int r)) X) args s 0 0 (hA ad L s.heap.size)) X 14 ls [] := by
  intro n
  induction n with
  | zero => intro v0 v1 v2 v3 v4 v5 v6 v7 v8 X ls h; cases h
  | succ n ih =>
    intro v0 v1 v2 v3 v4 v5 v6 v7 v8 X ls h hl
    rw [f_X7_mixedPairs_14] at h
    refine hx_iload C dX7_mixedPairs_14 (lv_at hl 8 rfl) ?_
    refine hx_bipush (v := 60) C dX7_mixedPairs_16 (by decide) ?_
    refine hx_icmp_gt (tgt := 65) C dX7_mixedPairs_18 (by decide) (fun c1 => ?_) (fun c1 => ?_)
    · have h := hx_pos c1 h
      refine hx_iload C dX7_mixedPairs_65 (lv_at hl 4 rfl) ?_
      by_cases c2 : v4 = 0
      · have h := hx_pos c2 h
        have hz : Int32.toInt v4 = 0 := by rw [c2]; rfl
        refine hx_look (tgt := 92) (off := 25) C [(0, 25), (1, 28)] dX7_mixedPairs_67 rfl (by decide) (by rw [hz] <;> decide) (by decide) ?_
        refine hx_iload C dX7_mixedPairs_92 (lv_at hl 5 rfl) ?_
        obtain rfl := hx_some1 h
        exact hx_iret C hr dX7_mixedPairs_94
      have h := hx_neg c2 h
      have zc2 : Int32.toInt v4 ≠ 0 := fun z => c2 (Int32.toInt_inj.mp (z.trans rfl))
      by_cases c3 : v4 = 1
      · have h := hx_pos c3 h
        have hz : Int32.toInt v4 = 1 := by rw [c3]; rfl
        refine hx_look (tgt := 95) (off := 28) C [(0, 25), (1, 28)] dX7_mixedPairs_67 rfl (by decide) (by rw [hz] <;> decide) (by decide) ?_
        refine hx_iload C dX7_mixedPairs_95 (lv_at hl 6 rfl) ?_
        obtain rfl := hx_some1 h
        exact hx_iret C hr dX7_mixedPairs_97
      have h := hx_neg c3 h
      have zc3 : Int32.toInt v4 ≠ 1 := fun z => c3 (Int32.toInt_inj.mp (z.trans rfl))
      refine hx_look (tgt := 98) (off := 31) C [(0, 25), (1, 28)] dX7_mixedPairs_67 rfl (by decide) (by simp only [Op.lookupswitch.offset, if_neg (Ne.symm zc2), if_neg (Ne.symm zc3)]) (by decide) ?_
      refine hx_iload C dX7_mixedPairs_98 (lv_at hl 7 rfl) ?_
      obtain rfl := hx_some1 h
      exact hx_iret C hr dX7_mixedPairs_100
    · have h := hx_neg c1 h
      refine hx_aload_n C dX7_mixedPairs_21 rfl (lv_at hl 0 rfl) ?_
      refine hx_iload C dX7_mixedPairs_22 (lv_at hl 8 rfl) ?_
      refine hx_aload_n C dX7_mixedPairs_24 rfl (lv_at hl 1 rfl) ?_
      refine hx_aload_n C dX7_mixedPairs_25 rfl (lv_at hl 2 rfl) ?_
      refine hx_iload_n C dX7_mixedPairs_26 rfl (lv_at hl 3 rfl) ?_
      obtain ⟨r4, e5, h⟩ := hx_bind h
      obtain ⟨g6, h⟩ := hx_gd h
      refine hx_callV (As := [.int v8, .ref (ad v1), .ref (ad v2), .int v3]) (rest := []) (n := 4) (Cn := RX7) C (c_X7_pairsOf e5) gX7_mixedPairs_X7_pairsOf g6 (by decide) rfl (by decide +kernel) ⟨Nat.le_of_ble_eq_true rfl, Nat.le_of_ble_eq_true rfl⟩ rfl rfl rfl ⟨Nat.zero_le _, Nat.zero_le _⟩ hl.1 rfl rfl (Nat.le_of_ble_eq_true rfl) dX7_mixedPairs_27 ?_
      refine hx_istore (lv' := [(9, .int r4), (0, .ref (ad v0)), (1, .ref (ad v1)), (2, .ref (ad v2)), (3, .int v3), (4, .int v4), (5, .int v5), (6, .int v6), (7, .int v7), (8, .int v8)]) C dX7_mixedPairs_30 hl (by decide) rfl (fun ls hl => ?_)
      refine hx_iload C dX7_mixedPairs_32 (lv_at hl 0 rfl) ?_
      refine hx_if_le (tgt := 59) C dX7_mixedPairs_34 (by decide) (fun c7 => ?_) (fun c7 => ?_)
      · have h := hx_pos c7 h
        exact w_X7_mixedPairs_59 (f_X7_mixedPairs_14 L n) C hr ih v0 v1 v2 v3 v4 v5 v6 v7 v8 X ls h (lv_sub hl [1, 2, 3, 4, 5, 6, 7, 8, 9] rfl)
      · have h := hx_neg c7 h
        refine hx_iload C dX7_mixedPairs_37 (lv_at hl 6 rfl) ?_
        refine hx_iload C dX7_mixedPairs_39 (lv_at hl 0 rfl) ?_
        refine hx_iadd C dX7_mixedPairs_41 ?_
        refine hx_istore (lv' := [(5, .int (v5 + r4)), (9, .int r4), (0, .ref (ad v0)), (1, .ref (ad v1)), (2, .ref (ad v2)), (3, .int v3), (4, .int v4), (6, .int v6), (7, .int v7), (8, .int v8)]) C dX7_mixedPairs_42 hl (by decide) rfl (fun ls hl => ?_)
        refine hx_iload C dX7_mixedPairs_44 (lv_at hl 9 rfl) ?_
        refine hx_istore (lv' := [(7, .int v8), (5, .int (v5 + r4)), (9, .int r4), (0, .ref (ad v0)), (1, .ref (ad v1)), (2, .ref (ad v2)), (3, .int v3), (4, .int v4), (6, .int v6), (8, .int v8)]) C dX7_mixedPairs_46 hl (by decide) rfl (fun ls hl => ?_)
        refine hx_iload C dX7_mixedPairs_48 (lv_at hl 8 rfl) ?_
        refine hx_ldc (v := (-100009)) C (by decide +kernel) dX7_mixedPairs_50 ?_
        refine hx_icmp_ne (tgt := 59) C dX7_mixedPairs_52 (by decide) (fun c8 => ?_) (fun c8 => ?_)
        · have h := hx_neg c8 h
          exact w_X7_mixedPairs_59 (f_X7_mixedPairs_14 L n) C hr ih v0 v1 v2 v3 v4 (v5 + r4) v6 v8 v8 X ls h (lv_sub hl [3, 4, 5, 6, 7, 1, 8, 0, 9] rfl)
        · have h := hx_pos c8 h
          refine hx_iload C dX7_mixedPairs_55 (lv_at hl 9 rfl) ?_
          refine hx_istore (lv' := [(6, .int v8), (7, .int v8), (5, .int (v5 + r4)), (9, .int r4), (0, .ref (ad v0)), (1, .ref (ad v1)), (2, .ref (ad v2)), (3, .int v3), (4, .int v4), (8, .int v8)]) C dX7_mixedPairs_57 hl (by decide) rfl (fun ls hl => ?_)
          exact w_X7_mixedPairs_59 (f_X7_mixedPairs_14 L n) C hr ih v0 v1 v2 v3 v4 (v5 + r4) v8 v8 v8 X ls h (lv_sub hl [4, 5, 6, 7, 8, 2, 0, 1, 9] rfl)
def f_X7_mixedPairs (L : hL) (X : hX) (this : Nat) (a1 : Nat) (a2 : Nat) (a3 : Int32) (a4 : Int32) : Option (Int32) :=
  f_X7_mixedPairs_14 L u_fuel this a1 a2 a3 a4 0 (-100009) (-100009) 0 X
set_option maxRecDepth 100000 in
set_option maxHeartbeats 4000000 in
theorem c_X7_mixedPairs {l : Launch} {dC : Nat → ClassId} {dI : Nat → Nat → Nat} {cy : Nat → ClassId} {ad : Nat → Nat} {L : hL} {X : hX} {this : Nat} {a1 : Nat} {a2 : Nat} {a3 : Int32} {a4 : Int32} {r : Int32} (h : f_X7_mixedPairs L X this a1 a2 a3 a4 = some r) : hMet l dC dI cy ad L yX7_mixedPairs wsX7_mixedPairs ({ frames := 2, cells := 0, slots := 0, locals := 50 } : Room) [.ref (ad this), .ref (ad a1), .ref (ad a2), .int a3, .int a4] X (some (.int r)) X := by
  unfold f_X7_mixedPairs at h
  refine hx_enter RX7 (plainFor_of_name (by decide)) rfl rfl (Nat.le_of_ble_eq_true rfl) (fun p e s m args below meth c C hr hnm ls hl => ?_)
  have hl : lv_has ls 10 [(0, .ref (ad this)), (1, .ref (ad a1)), (2, .ref (ad a2)), (3, .int a3), (4, .int a4)] := hl
  refine hx_iconst (v := 0) C dX7_mixedPairs_0 (by decide) ?_
  refine hx_istore (lv' := [(5, .int 0), (0, .ref (ad this)), (1, .ref (ad a1)), (2, .ref (ad a2)), (3, .int a3), (4, .int a4)]) C dX7_mixedPairs_1 hl (by decide) rfl (fun ls hl => ?_)
  refine hx_ldc (v := (-100009)) C (by decide +kernel) dX7_mixedPairs_3 ?_
  refine hx_istore (lv' := [(6, .int (-100009)), (5, .int 0), (0, .ref (ad this)), (1, .ref (ad a1)), (2, .ref (ad a2)), (3, .int a3), (4, .int a4)]) C dX7_mixedPairs_5 hl (by decide) rfl (fun ls hl => ?_)
  refine hx_ldc (v := (-100009)) C (by decide +kernel) dX7_mixedPairs_7 ?_
  refine hx_istore (lv' := [(7, .int (-100009)), (6, .int (-100009)), (5, .int 0), (0, .ref (ad this)), (1, .ref (ad a1)), (2, .ref (ad a2)), (3, .int a3), (4, .int a4)]) C dX7_mixedPairs_9 hl (by decide) rfl (fun ls hl => ?_)
  refine hx_iconst (v := 0) C dX7_mixedPairs_11 (by decide) ?_
  refine hx_istore (lv' := [(8, .int 0), (7, .int (-100009)), (6, .int (-100009)), (5, .int 0), (0, .ref (ad this)), (1, .ref (ad a1)), (2, .ref (ad a2)), (3, .int a3), (4, .int a4)]) C dX7_mixedPairs_12 hl (by decide) rfl (fun ls hl => ?_)
  exact w_X7_mixedPairs_14 C hr u_fuel this a1 a2 a3 a4 0 (-100009) (-100009) 0 X ls h (lv_sub hl [4, 5, 6, 7, 8, 3, 2, 1, 0] rfl)
theorem uX8_slotsInUse_8 : ∀ w ∈ u_ws RX8 TX8 3, w ∈ wsX8_slotsInUse := by decide +kernel
def f_X8_slotsInUse_33 (L : hL) (k13 : Int32 → Nat → Int32 → Int32 → hX → Option (Int32)) (v1 : Int32) (v2 : Nat) (v3 : Int32) (v4 : Int32) (X : hX) : Option (Int32) :=
  k13 v1 v2 v3 (v4 + 1) X
set_option maxRecDepth 100000 in
set_option maxHeartbeats 4000000 in
theorem w_X8_slotsInUse_33 {p : Program} {l : Launch} {e : Env} {s : State} {m : MethodId} {args : Array Value} {below : List Frame} {meth : Method} {c : Code} {dC : Nat → ClassId} {dI : Nat → Nat → Nat} {cy : Nat → ClassId} {ad : Nat → Nat} {L : hL} {r : Int32} (k13 : Int32 → Nat → Int32 → Int32 → hX → Option (Int32)) (C : hC p s m args meth c dC dI cy ad L (hA ad L s.heap.size) cX8_slotsInUse 6 wsX8_slotsInUse RX8) (hr : meth.sig.returnType = (some .int)) (hk13 : ∀ (v1 : Int32) (v2 : Nat) (v3 : Int32) (v4 : Int32) (X : hX) (ls : Array Slot), k13 v1 v2 v3 v4 X = some r → lv_has ls 6 [(1, .int v1), (2, .ref (ad v2)), (3, .int v3), (4, .int v4)] → hG p l e (headSpec wsX8_slotsInUse ({ frames := 0, cells := 0, slots := 0, locals := 0 } : Room)).room s m args below meth c dC dI cy ad L (hA ad L s.heap.size) 0 0 (MQ below (hQ dC dI cy ad L s.heap.size (some (.int r)) X) args s 0 0 (hA ad L s.heap.size)) X 13 ls []) : ∀ (v1 : Int32) (v2 : Nat) (v3 : Int32) (v4 : Int32) (X : hX) (ls : Array Slot), f_X8_slotsInUse_33 L k13 v1 v2 v3 v4 X = some r → lv_has ls 6 [(1, .int v1), (2, .ref (ad v2)), (3, .int v3), (4, .int v4)] → hG p l e (headSpec wsX8_slotsInUse ({ frames := 0, cells := 0, slots := 0, locals := 0 } : Room)).room s m args below meth c dC dI cy ad L (hA ad L s.heap.size) 0 0 (MQ below (hQ dC dI cy ad L s.heap.size (some (.int r)) X) args s 0 0 (hA ad L s.heap.size)) X 33 ls [] := by
  intro v1 v2 v3 v4 X ls h hl
  unfold f_X8_slotsInUse_33 at h
  refine hx_iinc (v := v4 + 1) (lv' := [(4, .int (v4 + 1)), (1, .int v1), (2, .ref (ad v2)), (3, .int v3)]) C dX8_slotsInUse_33 hl (k := 3) rfl rfl (by decide) rfl (fun ls hl => ?_)
  refine hx_goto (tgt := 13) C dX8_slotsInUse_36 (by decide) ?_
  exact hk13 v1 v2 v3 (v4 + 1) X ls h (lv_sub hl [1, 2, 3, 0] rfl)
def f_X8_slotsInUse_13 (L : hL) : Nat → Int32 → Nat → Int32 → Int32 → hX → Option (Int32)
  | 0, _, _, _, _, _ => none
  | n + 1, v1, v2, v3, v4, X =>
    if v3 ≤ v4 then
      some v1
    else
      if tk L v2 13 then
      if hin v4 (L.2.2 v2) then
      if (X.1 v2 (Int32.toNatClampNeg v4)) = 0 then
        f_X8_slotsInUse_33 L (f_X8_slotsInUse_13 L n) v1 v2 v3 v4 X
      else
        f_X8_slotsInUse_33 L (f_X8_slotsInUse_13 L n) (v1 + 1) v2 v3 v4 X
      else none
      else none
set_option maxRecDepth 100000 in
set_option maxHeartbeats 4000000 in
theorem w_X8_slotsInUse_13 {p : Program} {l : Launch} {e : Env} {s : State} {m : MethodId} {args : Array Value} {below : List Frame} {meth : Method} {c : Code} {dC : Nat → ClassId} {dI : Nat → Nat → Nat} {cy : Nat → ClassId} {ad : Nat → Nat} {L : hL} {r : Int32} (C : hC p s m args meth c dC dI cy ad L (hA ad L s.heap.size) cX8_slotsInUse 6 wsX8_slotsInUse RX8) (hr : meth.sig.returnType = (some .int)) : ∀ (n : Nat) (v1 : Int32) (v2 : Nat) (v3 : Int32) (v4 : Int32) (X : hX) (ls : Array Slot), f_X8_slotsInUse_13 L n v1 v2 v3 v4 X = some r → lv_has ls 6 [(1, .int v1), (2, .ref (ad v2)), (3, .int v3), (4, .int v4)] → hG p l e (headSpec wsX8_slotsInUse ({ frames := 0, cells := 0, slots := 0, locals := 0 } : Room)).room s m args below meth c dC dI cy ad L (hA ad L s.heap.size) 0 0 (MQ below (hQ dC dI cy ad L s.heap.size (some (.int r)) X) args s 0 0 (hA ad L s.heap.size)) X 13 ls [] := by
  intro n
  induction n with
  | zero => intro v1 v2 v3 v4 X ls h; cases h
  | succ n ih =>
    intro v1 v2 v3 v4 X ls h hl
    rw [f_X8_slotsInUse_13] at h
    refine hx_iload C dX8_slotsInUse_13 (lv_at hl 3 rfl) ?_
    refine hx_iload_n C dX8_slotsInUse_15 rfl (lv_at hl 2 rfl) ?_
    refine hx_icmp_ge (tgt := 39) C dX8_slotsInUse_16 (by decide) (fun c1 => ?_) (fun c1 => ?_)
    · have h := hx_pos c1 h
      refine hx_iload_n C dX8_slotsInUse_39 rfl (lv_at hl 0 rfl) ?_
      obtain rfl := hx_some1 h
      exact hx_iret C hr dX8_slotsInUse_40
    · have h := hx_neg c1 h
      refine hx_aload_n C dX8_slotsInUse_19 rfl (lv_at hl 1 rfl) ?_
      refine hx_iload C dX8_slotsInUse_20 (lv_at hl 3 rfl) ?_
      obtain ⟨g2, h⟩ := hx_gd h
      obtain ⟨g3, h⟩ := hx_gd h
      refine hx_zald (n := (Int32.toNatClampNeg v4)) C g2 g3 rfl dX8_slotsInUse_22 ?_
      refine hx_istore (lv' := [(5, .int (X.1 v2 (Int32.toNatClampNeg v4))), (1, .int v1), (2, .ref (ad v2)), (3, .int v3), (4, .int v4)]) C dX8_slotsInUse_23 hl (by decide) rfl (fun ls hl => ?_)
      refine hx_iload C dX8_slotsInUse_25 (lv_at hl 0 rfl) ?_
      refine hx_if_eq (tgt := 33) C dX8_slotsInUse_27 (by decide) (fun c4 => ?_) (fun c4 => ?_)
      · have h := hx_pos c4 h
        exact w_X8_slotsInUse_33 (f_X8_slotsInUse_13 L n) C hr ih v1 v2 v3 v4 X ls h (lv_sub hl [1, 2, 3, 4] rfl)
      · have h := hx_neg c4 h
        refine hx_iinc (v := v1 + 1) (lv' := [(1, .int (v1 + 1)), (5, .int (X.1 v2 (Int32.toNatClampNeg v4))), (2, .ref (ad v2)), (3, .int v3), (4, .int v4)]) C dX8_slotsInUse_30 hl (k := 1) rfl rfl (by decide) rfl (fun ls hl => ?_)
        exact w_X8_slotsInUse_33 (f_X8_slotsInUse_13 L n) C hr ih (v1 + 1) v2 v3 v4 X ls h (lv_sub hl [0, 2, 3, 4] rfl)
def f_X8_slotsInUse (L : hL) (X : hX) (this : Nat) : Option (Int32) :=
  if tk L this 8 then
  (X.2 this 2).bind fun q6 =>
  if tk L q6 13 then
  f_X8_slotsInUse_13 L u_fuel 0 q6 (Int32.ofNat (L.2.2 q6)) 0 X
  else none
  else none
set_option maxRecDepth 100000 in
set_option maxHeartbeats 4000000 in
theorem c_X8_slotsInUse {l : Launch} {dC : Nat → ClassId} {dI : Nat → Nat → Nat} {cy : Nat → ClassId} {ad : Nat → Nat} {L : hL} {X : hX} {this : Nat} {r : Int32} (h : f_X8_slotsInUse L X this = some r) : hMet l dC dI cy ad L yX8_slotsInUse wsX8_slotsInUse ({ frames := 0, cells := 0, slots := 0, locals := 0 } : Room) [.ref (ad this)] X (some (.int r)) X := by
  unfold f_X8_slotsInUse at h
  refine hx_enter RX8 (plainFor_of_name (by decide)) rfl rfl (Nat.le_of_ble_eq_true rfl) (fun p e s m args below meth c C hr hnm ls hl => ?_)
  have hl : lv_has ls 6 [(0, .ref (ad this))] := hl
  refine hx_iconst (v := 0) C dX8_slotsInUse_0 (by decide) ?_
  refine hx_istore_n (lv' := [(1, .int 0), (0, .ref (ad this))]) C dX8_slotsInUse_1 rfl hl (by decide) rfl (fun ls hl => ?_)
  refine hx_aload_n C dX8_slotsInUse_2 rfl (lv_at hl 1 rfl) ?_
  obtain ⟨g5, h⟩ := hx_gd h
  obtain ⟨q6, e7, h⟩ := hx_bind h
  refine hx_getr C (ci := 8) (j := 2) g5 uX8_slotsInUse_8 (by decide) rfl (by decide) rfl (by decide +kernel) rfl dX8_slotsInUse_3 e7 ?_
  refine hx_astore_n (lv' := [(2, .ref (ad q6)), (1, .int 0), (0, .ref (ad this))]) C dX8_slotsInUse_6 rfl hl (by decide) rfl (fun ls hl => ?_)
  refine hx_aload_n C dX8_slotsInUse_7 rfl (lv_at hl 0 rfl) ?_
  obtain ⟨g8, h⟩ := hx_gd h
  refine hx_alen13 C g8 dX8_slotsInUse_8 ?_
  refine hx_istore_n (lv' := [(3, .int (Int32.ofNat (L.2.2 q6))), (2, .ref (ad q6)), (1, .int 0), (0, .ref (ad this))]) C dX8_slotsInUse_9 rfl hl (by decide) rfl (fun ls hl => ?_)
  refine hx_iconst (v := 0) C dX8_slotsInUse_10 (by decide) ?_
  refine hx_istore (lv' := [(4, .int 0), (3, .int (Int32.ofNat (L.2.2 q6))), (2, .ref (ad q6)), (1, .int 0), (0, .ref (ad this))]) C dX8_slotsInUse_11 hl (by decide) rfl (fun ls hl => ?_)
  exact w_X8_slotsInUse_13 C hr u_fuel 0 q6 (Int32.ofNat (L.2.2 q6)) 0 X ls h (lv_sub hl [3, 2, 1, 0] rfl)
theorem uX9_counter_3 : ∀ w ∈ u_ws RX3 TX3 4, w ∈ wsX9_counter := by decide +kernel
theorem uX9_counter_8 : ∀ w ∈ u_ws RX8 TX8 3, w ∈ wsX9_counter := by decide +kernel
theorem uX9_counter_9 : ∀ w ∈ u_ws RX9 TX9 3, w ∈ wsX9_counter := by decide +kernel
def f_X9_counter (L : hL) (X : hX) (this : Nat) : Option (Option Nat) :=
  if tk L this 9 then
  (X.2 this 0).bind fun q2 =>
  if tk L q2 3 then
  (X.2 q2 1).bind fun q5 =>
  if tk L q5 8 then
  (X.2 q5 0).bind fun q8 =>
  some (some q8)
  else none
  else none
  else none
set_option maxRecDepth 100000 in
set_option maxHeartbeats 4000000 in
theorem c_X9_counter {l : Launch} {dC : Nat → ClassId} {dI : Nat → Nat → Nat} {cy : Nat → ClassId} {ad : Nat → Nat} {L : hL} {X : hX} {this : Nat} {r : Option Nat} (h : f_X9_counter L X this = some r) : hMet l dC dI cy ad L yX9_counter wsX9_counter ({ frames := 0, cells := 0, slots := 0, locals := 0 } : Room) [.ref (ad this)] X (some (va_re ad r)) X := by
  unfold f_X9_counter at h
  refine hx_enter RX9 (plainFor_of_name (by decide)) rfl rfl (Nat.le_of_ble_eq_true rfl) (fun p e s m args below meth c C hr hnm ls hl => ?_)
  have hl : lv_has ls 1 [(0, .ref (ad this))] := hl
  refine hx_aload_n C dX9_counter_0 rfl (lv_at hl 0 rfl) ?_
  obtain ⟨g1, h⟩ := hx_gd h
  obtain ⟨q2, e3, h⟩ := hx_bind h
  refine hx_getr C (ci := 9) (j := 0) g1 uX9_counter_9 (by decide) rfl (by decide) rfl (by decide +kernel) rfl dX9_counter_1 e3 ?_
  obtain ⟨g4, h⟩ := hx_gd h
  obtain ⟨q5, e6, h⟩ := hx_bind h
  refine hx_getr C (ci := 3) (j := 1) g4 uX9_counter_3 (by decide) rfl (by decide) rfl (by decide +kernel) rfl dX9_counter_4 e6 ?_
  obtain ⟨g7, h⟩ := hx_gd h
  obtain ⟨q8, e9, h⟩ := hx_bind h
  refine hx_getr C (ci := 8) (j := 0) g7 uX9_counter_8 (by decide) rfl (by decide) rfl (by decide +kernel) rfl dX9_counter_7 e9 ?_
  obtain rfl := hx_some1 h
  exact hx_aret C hr (Or.inl ⟨_, rfl⟩) dX9_counter_10
theorem uX9_setKind_9 : ∀ w ∈ u_ws RX9 TX9 3, w ∈ wsX9_setKind := by decide +kernel
def f_X9_setKind (L : hL) (X : hX) (this : Nat) (a1 : Int32) (a2 : Int32) (a3 : Int32) : Option (Int32 × hX) :=
  if tk L this 9 then
  (X.2 this 0).bind fun q2 =>
  (f_X3_prepare L X q2).bind fun r4 =>
  if tk L q2 3 then
  (r4.2 this 0).bind fun q7 =>
  (f_X9_counter L r4 this).bind fun r9 =>
  Option.elim r9
  (
    none)
  fun i11 =>
    (f_X0_changeKind L r4 i11 a1 a2 a3).bind fun r12 =>
    if tk L i11 0 then
    (f_X3_settle L r12.2 q7 r12.1).bind fun r15 =>
    if tk L q7 3 then
    some (r15.1, r15.2)
    else none
    else none
  else none
  else none
set_option maxRecDepth 100000 in
set_option maxHeartbeats 4000000 in
theorem c_X9_setKind {l : Launch} {dC : Nat → ClassId} {dI : Nat → Nat → Nat} {cy : Nat → ClassId} {ad : Nat → Nat} {L : hL} {X : hX} {this : Nat} {a1 : Int32} {a2 : Int32} {a3 : Int32} {r : Int32} {X' : hX} (h : f_X9_setKind L X this a1 a2 a3 = some (r, X')) : hMet l dC dI cy ad L yX9_setKind wsX9_setKind ({ frames := 4, cells := 0, slots := 0, locals := 85 } : Room) [.ref (ad this), .int a1, .int a2, .int a3] X (some (.int r)) X' := by
  unfold f_X9_setKind at h
  refine hx_enter RX9 (plainFor_of_name (by decide)) rfl rfl (Nat.le_of_ble_eq_true rfl) (fun p e s m args below meth c C hr hnm ls hl => ?_)
  have hl : lv_has ls 4 [(0, .ref (ad this)), (1, .int a1), (2, .int a2), (3, .int a3)] := hl
  refine hx_aload_n C dX9_setKind_0 rfl (lv_at hl 0 rfl) ?_
  obtain ⟨g1, h⟩ := hx_gd h
  obtain ⟨q2, e3, h⟩ := hx_bind h
  refine hx_getr C (ci := 9) (j := 0) g1 uX9_setKind_9 (by decide) rfl (by decide) rfl (by decide +kernel) rfl dX9_setKind_1 e3 ?_
  obtain ⟨r4, e5, h⟩ := hx_bind h
  obtain ⟨g6, h⟩ := hx_gd h
  refine hx_callV (As := []) (rest := []) (n := 0) (Cn := RX3) C (c_X3_prepare e5) gX9_setKind_X3_prepare g6 (by decide) rfl (by decide +kernel) ⟨Nat.le_of_ble_eq_true rfl, Nat.le_of_ble_eq_true rfl⟩ rfl rfl rfl ⟨Nat.zero_le _, Nat.zero_le _⟩ hl.1 rfl rfl (Nat.le_of_ble_eq_true rfl) dX9_setKind_4 ?_
  refine hx_aload_n C dX9_setKind_7 rfl (lv_at hl 0 rfl) ?_
  obtain ⟨q7, e8, h⟩ := hx_bind h
  refine hx_getr C (ci := 9) (j := 0) g1 uX9_setKind_9 (by decide) rfl (by decide) rfl (by decide +kernel) rfl dX9_setKind_8 e8 ?_
  refine hx_aload_n C dX9_setKind_11 rfl (lv_at hl 0 rfl) ?_
  obtain ⟨r9, e10, h⟩ := hx_bind h
  refine hx_callV (As := []) (rest := [.ref (ad q7)]) (n := 0) (Cn := RX9) C (c_X9_counter e10) gX9_setKind_X9_counter g1 (by decide) rfl (by decide +kernel) ⟨Nat.le_of_ble_eq_true rfl, Nat.le_of_ble_eq_true rfl⟩ rfl rfl rfl ⟨Nat.zero_le _, Nat.zero_le _⟩ hl.1 rfl rfl (Nat.le_of_ble_eq_true rfl) dX9_setKind_12 ?_
  rcases r9 with _ | i11
  · have h := hx_eln h
    refine hx_iload_n C dX9_setKind_15 rfl (lv_at hl 1 rfl) ?_
    refine hx_iload_n C dX9_setKind_16 rfl (lv_at hl 2 rfl) ?_
    refine hx_iload_n C dX9_setKind_17 rfl (lv_at hl 3 rfl) ?_
    cases h
  · have h := hx_els h
    refine hx_iload_n C dX9_setKind_15 rfl (lv_at hl 1 rfl) ?_
    refine hx_iload_n C dX9_setKind_16 rfl (lv_at hl 2 rfl) ?_
    refine hx_iload_n C dX9_setKind_17 rfl (lv_at hl 3 rfl) ?_
    obtain ⟨r12, e13, h⟩ := hx_bind h
    obtain ⟨g14, h⟩ := hx_gd h
    refine hx_callV (As := [.int a1, .int a2, .int a3]) (rest := [.ref (ad q7)]) (n := 3) (Cn := RX0) C (c_X0_changeKind e13) gX9_setKind_X0_changeKind g14 (by decide) rfl (by decide +kernel) ⟨Nat.le_of_ble_eq_true rfl, Nat.le_of_ble_eq_true rfl⟩ rfl rfl rfl ⟨Nat.zero_le _, Nat.zero_le _⟩ hl.1 rfl rfl (Nat.le_of_ble_eq_true rfl) dX9_setKind_18 ?_
    obtain ⟨r15, e16, h⟩ := hx_bind h
    obtain ⟨g17, h⟩ := hx_gd h
    refine hx_callV (As := [.int r12.1]) (rest := []) (n := 1) (Cn := RX3) C (c_X3_settle e16) gX9_setKind_X3_settle g17 (by decide) rfl (by decide +kernel) ⟨Nat.le_of_ble_eq_true rfl, Nat.le_of_ble_eq_true rfl⟩ rfl rfl rfl ⟨Nat.zero_le _, Nat.zero_le _⟩ hl.1 rfl rfl (Nat.le_of_ble_eq_true rfl) dX9_setKind_21 ?_
    obtain ⟨rfl, rfl⟩ := hx_some2 h
    exact hx_iret C hr dX9_setKind_24
theorem uX9_setScale_9 : ∀ w ∈ u_ws RX9 TX9 3, w ∈ wsX9_setScale := by decide +kernel
def f_X9_setScale (L : hL) (X : hX) (this : Nat) (a1 : Int32) (a2 : Int32) : Option (Int32 × hX) :=
  if tk L this 9 then
  (X.2 this 0).bind fun q2 =>
  (f_X3_prepare L X q2).bind fun r4 =>
  if tk L q2 3 then
  (r4.2 this 0).bind fun q7 =>
  (f_X9_counter L r4 this).bind fun r9 =>
  Option.elim r9
  (
    none)
  fun i11 =>
    (f_X0_changeScale L r4 i11 a1 a2).bind fun r12 =>
    if tk L i11 0 then
    (f_X3_settle L r12.2 q7 r12.1).bind fun r15 =>
    if tk L q7 3 then
    some (r15.1, r15.2)
    else none
    else none
  else none
  else none
set_option maxRecDepth 100000 in
set_option maxHeartbeats 4000000 in
theorem c_X9_setScale {l : Launch} {dC : Nat → ClassId} {dI : Nat → Nat → Nat} {cy : Nat → ClassId} {ad : Nat → Nat} {L : hL} {X : hX} {this : Nat} {a1 : Int32} {a2 : Int32} {r : Int32} {X' : hX} (h : f_X9_setScale L X this a1 a2 = some (r, X')) : hMet l dC dI cy ad L yX9_setScale wsX9_setScale ({ frames := 4, cells := 0, slots := 0, locals := 85 } : Room) [.ref (ad this), .int a1, .int a2] X (some (.int r)) X' := by
  unfold f_X9_setScale at h
  refine hx_enter RX9 (plainFor_of_name (by decide)) rfl rfl (Nat.le_of_ble_eq_true rfl) (fun p e s m args below meth c C hr hnm ls hl => ?_)
  have hl : lv_has ls 3 [(0, .ref (ad this)), (1, .int a1), (2, .int a2)] := hl
  refine hx_aload_n C dX9_setScale_0 rfl (lv_at hl 0 rfl) ?_
  obtain ⟨g1, h⟩ := hx_gd h
  obtain ⟨q2, e3, h⟩ := hx_bind h
  refine hx_getr C (ci := 9) (j := 0) g1 uX9_setScale_9 (by decide) rfl (by decide) rfl (by decide +kernel) rfl dX9_setScale_1 e3 ?_
  obtain ⟨r4, e5, h⟩ := hx_bind h
  obtain ⟨g6, h⟩ := hx_gd h
  refine hx_callV (As := []) (rest := []) (n := 0) (Cn := RX3) C (c_X3_prepare e5) gX9_setScale_X3_prepare g6 (by decide) rfl (by decide +kernel) ⟨Nat.le_of_ble_eq_true rfl, Nat.le_of_ble_eq_true rfl⟩ rfl rfl rfl ⟨Nat.zero_le _, Nat.zero_le _⟩ hl.1 rfl rfl (Nat.le_of_ble_eq_true rfl) dX9_setScale_4 ?_
  refine hx_aload_n C dX9_setScale_7 rfl (lv_at hl 0 rfl) ?_
  obtain ⟨q7, e8, h⟩ := hx_bind h
  refine hx_getr C (ci := 9) (j := 0) g1 uX9_setScale_9 (by decide) rfl (by decide) rfl (by decide +kernel) rfl dX9_setScale_8 e8 ?_
  refine hx_aload_n C dX9_setScale_11 rfl (lv_at hl 0 rfl) ?_
  obtain ⟨r9, e10, h⟩ := hx_bind h
  refine hx_callV (As := []) (rest := [.ref (ad q7)]) (n := 0) (Cn := RX9) C (c_X9_counter e10) gX9_setScale_X9_counter g1 (by decide) rfl (by decide +kernel) ⟨Nat.le_of_ble_eq_true rfl, Nat.le_of_ble_eq_true rfl⟩ rfl rfl rfl ⟨Nat.zero_le _, Nat.zero_le _⟩ hl.1 rfl rfl (Nat.le_of_ble_eq_true rfl) dX9_setScale_12 ?_
  rcases r9 with _ | i11
  · have h := hx_eln h
    refine hx_iload_n C dX9_setScale_15 rfl (lv_at hl 1 rfl) ?_
    refine hx_iload_n C dX9_setScale_16 rfl (lv_at hl 2 rfl) ?_
    cases h
  · have h := hx_els h
    refine hx_iload_n C dX9_setScale_15 rfl (lv_at hl 1 rfl) ?_
    refine hx_iload_n C dX9_setScale_16 rfl (lv_at hl 2 rfl) ?_
    obtain ⟨r12, e13, h⟩ := hx_bind h
    obtain ⟨g14, h⟩ := hx_gd h
    refine hx_callV (As := [.int a1, .int a2]) (rest := [.ref (ad q7)]) (n := 2) (Cn := RX0) C (c_X0_changeScale e13) gX9_setScale_X0_changeScale g14 (by decide) rfl (by decide +kernel) ⟨Nat.le_of_ble_eq_true rfl, Nat.le_of_ble_eq_true rfl⟩ rfl rfl rfl ⟨Nat.zero_le _, Nat.zero_le _⟩ hl.1 rfl rfl (Nat.le_of_ble_eq_true rfl) dX9_setScale_17 ?_
    obtain ⟨r15, e16, h⟩ := hx_bind h
    obtain ⟨g17, h⟩ := hx_gd h
    refine hx_callV (As := [.int r12.1]) (rest := []) (n := 1) (Cn := RX3) C (c_X3_settle e16) gX9_setScale_X3_settle g17 (by decide) rfl (by decide +kernel) ⟨Nat.le_of_ble_eq_true rfl, Nat.le_of_ble_eq_true rfl⟩ rfl rfl rfl ⟨Nat.zero_le _, Nat.zero_le _⟩ hl.1 rfl rfl (Nat.le_of_ble_eq_true rfl) dX9_setScale_20 ?_
    obtain ⟨rfl, rfl⟩ := hx_some2 h
    exact hx_iret C hr dX9_setScale_23
theorem uX9_setBias_9 : ∀ w ∈ u_ws RX9 TX9 3, w ∈ wsX9_setBias := by decide +kernel
def f_X9_setBias (L : hL) (X : hX) (this : Nat) (a1 : Int32) : Option (Int32 × hX) :=
  if tk L this 9 then
  (X.2 this 0).bind fun q2 =>
  (f_X3_prepare L X q2).bind fun r4 =>
  if tk L q2 3 then
  (r4.2 this 0).bind fun q7 =>
  (f_X9_counter L r4 this).bind fun r9 =>
  Option.elim r9
  (
    none)
  fun i11 =>
    (f_X0_changeBias L r4 i11 a1).bind fun r12 =>
    if tk L i11 0 then
    (f_X3_settle L r12.2 q7 r12.1).bind fun r15 =>
    if tk L q7 3 then
    some (r15.1, r15.2)
    else none
    else none
  else none
  else none
set_option maxRecDepth 100000 in
set_option maxHeartbeats 4000000 in
theorem c_X9_setBias {l : Launch} {dC : Nat → ClassId} {dI : Nat → Nat → Nat} {cy : Nat → ClassId} {ad : Nat → Nat} {L : hL} {X : hX} {this : Nat} {a1 : Int32} {r : Int32} {X' : hX} (h : f_X9_setBias L X this a1 = some (r, X')) : hMet l dC dI cy ad L yX9_setBias wsX9_setBias ({ frames := 4, cells := 0, slots := 0, locals := 85 } : Room) [.ref (ad this), .int a1] X (some (.int r)) X' := by
  unfold f_X9_setBias at h
  refine hx_enter RX9 (plainFor_of_name (by decide)) rfl rfl (Nat.le_of_ble_eq_true rfl) (fun p e s m args below meth c C hr hnm ls hl => ?_)
  have hl : lv_has ls 2 [(0, .ref (ad this)), (1, .int a1)] := hl
  refine hx_aload_n C dX9_setBias_0 rfl (lv_at hl 0 rfl) ?_
  obtain ⟨g1, h⟩ := hx_gd h
  obtain ⟨q2, e3, h⟩ := hx_bind h
  refine hx_getr C (ci := 9) (j := 0) g1 uX9_setBias_9 (by decide) rfl (by decide) rfl (by decide +kernel) rfl dX9_setBias_1 e3 ?_
  obtain ⟨r4, e5, h⟩ := hx_bind h
  obtain ⟨g6, h⟩ := hx_gd h
  refine hx_callV (As := []) (rest := []) (n := 0) (Cn := RX3) C (c_X3_prepare e5) gX9_setBias_X3_prepare g6 (by decide) rfl (by decide +kernel) ⟨Nat.le_of_ble_eq_true rfl, Nat.le_of_ble_eq_true rfl⟩ rfl rfl rfl ⟨Nat.zero_le _, Nat.zero_le _⟩ hl.1 rfl rfl (Nat.le_of_ble_eq_true rfl) dX9_setBias_4 ?_
  refine hx_aload_n C dX9_setBias_7 rfl (lv_at hl 0 rfl) ?_
  obtain ⟨q7, e8, h⟩ := hx_bind h
  refine hx_getr C (ci := 9) (j := 0) g1 uX9_setBias_9 (by decide) rfl (by decide) rfl (by decide +kernel) rfl dX9_setBias_8 e8 ?_
  refine hx_aload_n C dX9_setBias_11 rfl (lv_at hl 0 rfl) ?_
  obtain ⟨r9, e10, h⟩ := hx_bind h
  refine hx_callV (As := []) (rest := [.ref (ad q7)]) (n := 0) (Cn := RX9) C (c_X9_counter e10) gX9_setBias_X9_counter g1 (by decide) rfl (by decide +kernel) ⟨Nat.le_of_ble_eq_true rfl, Nat.le_of_ble_eq_true rfl⟩ rfl rfl rfl ⟨Nat.zero_le _, Nat.zero_le _⟩ hl.1 rfl rfl (Nat.le_of_ble_eq_true rfl) dX9_setBias_12 ?_
  rcases r9 with _ | i11
  · have h := hx_eln h
    refine hx_iload_n C dX9_setBias_15 rfl (lv_at hl 1 rfl) ?_
    cases h
  · have h := hx_els h
    refine hx_iload_n C dX9_setBias_15 rfl (lv_at hl 1 rfl) ?_
    obtain ⟨r12, e13, h⟩ := hx_bind h
    obtain ⟨g14, h⟩ := hx_gd h
    refine hx_callV (As := [.int a1]) (rest := [.ref (ad q7)]) (n := 1) (Cn := RX0) C (c_X0_changeBias e13) gX9_setBias_X0_changeBias g14 (by decide) rfl (by decide +kernel) ⟨Nat.le_of_ble_eq_true rfl, Nat.le_of_ble_eq_true rfl⟩ rfl rfl rfl ⟨Nat.zero_le _, Nat.zero_le _⟩ hl.1 rfl rfl (Nat.le_of_ble_eq_true rfl) dX9_setBias_16 ?_
    obtain ⟨r15, e16, h⟩ := hx_bind h
    obtain ⟨g17, h⟩ := hx_gd h
    refine hx_callV (As := [.int r12.1]) (rest := []) (n := 1) (Cn := RX3) C (c_X3_settle e16) gX9_setBias_X3_settle g17 (by decide) rfl (by decide +kernel) ⟨Nat.le_of_ble_eq_true rfl, Nat.le_of_ble_eq_true rfl⟩ rfl rfl rfl ⟨Nat.zero_le _, Nat.zero_le _⟩ hl.1 rfl rfl (Nat.le_of_ble_eq_true rfl) dX9_setBias_19 ?_
    obtain ⟨rfl, rfl⟩ := hx_some2 h
    exact hx_iret C hr dX9_setBias_22
theorem uX9_setRule_9 : ∀ w ∈ u_ws RX9 TX9 3, w ∈ wsX9_setRule := by decide +kernel
def f_X9_setRule (L : hL) (X : hX) (this : Nat) (a1 : Int32) : Option (Int32 × hX) :=
  if tk L this 9 then
  (X.2 this 0).bind fun q2 =>
  (f_X3_prepare L X q2).bind fun r4 =>
  if tk L q2 3 then
  (r4.2 this 0).bind fun q7 =>
  (f_X9_counter L r4 this).bind fun r9 =>
  Option.elim r9
  (
    none)
  fun i11 =>
    (f_X0_changeRule L r4 i11 a1).bind fun r12 =>
    if tk L i11 0 then
    (f_X3_settle L r12.2 q7 r12.1).bind fun r15 =>
    if tk L q7 3 then
    some (r15.1, r15.2)
    else none
    else none
  else none
  else none
set_option maxRecDepth 100000 in
set_option maxHeartbeats 4000000 in
theorem c_X9_setRule {l : Launch} {dC : Nat → ClassId} {dI : Nat → Nat → Nat} {cy : Nat → ClassId} {ad : Nat → Nat} {L : hL} {X : hX} {this : Nat} {a1 : Int32} {r : Int32} {X' : hX} (h : f_X9_setRule L X this a1 = some (r, X')) : hMet l dC dI cy ad L yX9_setRule wsX9_setRule ({ frames := 4, cells := 0, slots := 0, locals := 85 } : Room) [.ref (ad this), .int a1] X (some (.int r)) X' := by
  unfold f_X9_setRule at h
  refine hx_enter RX9 (plainFor_of_name (by decide)) rfl rfl (Nat.le_of_ble_eq_true rfl) (fun p e s m args below meth c C hr hnm ls hl => ?_)
  have hl : lv_has ls 2 [(0, .ref (ad this)), (1, .int a1)] := hl
  refine hx_aload_n C dX9_setRule_0 rfl (lv_at hl 0 rfl) ?_
  obtain ⟨g1, h⟩ := hx_gd h
  obtain ⟨q2, e3, h⟩ := hx_bind h
  refine hx_getr C (ci := 9) (j := 0) g1 uX9_setRule_9 (by decide) rfl (by decide) rfl (by decide +kernel) rfl dX9_setRule_1 e3 ?_
  obtain ⟨r4, e5, h⟩ := hx_bind h
  obtain ⟨g6, h⟩ := hx_gd h
  refine hx_callV (As := []) (rest := []) (n := 0) (Cn := RX3) C (c_X3_prepare e5) gX9_setRule_X3_prepare g6 (by decide) rfl (by decide +kernel) ⟨Nat.le_of_ble_eq_true rfl, Nat.le_of_ble_eq_true rfl⟩ rfl rfl rfl ⟨Nat.zero_le _, Nat.zero_le _⟩ hl.1 rfl rfl (Nat.le_of_ble_eq_true rfl) dX9_setRule_4 ?_
  refine hx_aload_n C dX9_setRule_7 rfl (lv_at hl 0 rfl) ?_
  obtain ⟨q7, e8, h⟩ := hx_bind h
  refine hx_getr C (ci := 9) (j := 0) g1 uX9_setRule_9 (by decide) rfl (by decide) rfl (by decide +kernel) rfl dX9_setRule_8 e8 ?_
  refine hx_aload_n C dX9_setRule_11 rfl (lv_at hl 0 rfl) ?_
  obtain ⟨r9, e10, h⟩ := hx_bind h
  refine hx_callV (As := []) (rest := [.ref (ad q7)]) (n := 0) (Cn := RX9) C (c_X9_counter e10) gX9_setRule_X9_counter g1 (by decide) rfl (by decide +kernel) ⟨Nat.le_of_ble_eq_true rfl, Nat.le_of_ble_eq_true rfl⟩ rfl rfl rfl ⟨Nat.zero_le _, Nat.zero_le _⟩ hl.1 rfl rfl (Nat.le_of_ble_eq_true rfl) dX9_setRule_12 ?_
  rcases r9 with _ | i11
  · have h := hx_eln h
    refine hx_iload_n C dX9_setRule_15 rfl (lv_at hl 1 rfl) ?_
    cases h
  · have h := hx_els h
    refine hx_iload_n C dX9_setRule_15 rfl (lv_at hl 1 rfl) ?_
    obtain ⟨r12, e13, h⟩ := hx_bind h
    obtain ⟨g14, h⟩ := hx_gd h
    refine hx_callV (As := [.int a1]) (rest := [.ref (ad q7)]) (n := 1) (Cn := RX0) C (c_X0_changeRule e13) gX9_setRule_X0_changeRule g14 (by decide) rfl (by decide +kernel) ⟨Nat.le_of_ble_eq_true rfl, Nat.le_of_ble_eq_true rfl⟩ rfl rfl rfl ⟨Nat.zero_le _, Nat.zero_le _⟩ hl.1 rfl rfl (Nat.le_of_ble_eq_true rfl) dX9_setRule_16 ?_
    obtain ⟨r15, e16, h⟩ := hx_bind h
    obtain ⟨g17, h⟩ := hx_gd h
    refine hx_callV (As := [.int r12.1]) (rest := []) (n := 1) (Cn := RX3) C (c_X3_settle e16) gX9_setRule_X3_settle g17 (by decide) rfl (by decide +kernel) ⟨Nat.le_of_ble_eq_true rfl, Nat.le_of_ble_eq_true rfl⟩ rfl rfl rfl ⟨Nat.zero_le _, Nat.zero_le _⟩ hl.1 rfl rfl (Nat.le_of_ble_eq_true rfl) dX9_setRule_19 ?_
    obtain ⟨rfl, rfl⟩ := hx_some2 h
    exact hx_iret C hr dX9_setRule_22
theorem uX9_come_9 : ∀ w ∈ u_ws RX9 TX9 3, w ∈ wsX9_come := by decide +kernel
def f_X9_come (L : hL) (X : hX) (this : Nat) (a1 : Int32) : Option (Int32 × hX) :=
  if tk L this 9 then
  (X.2 this 0).bind fun q2 =>
  (f_X3_prepare L X q2).bind fun r4 =>
  if tk L q2 3 then
  (r4.2 this 0).bind fun q7 =>
  (f_X9_counter L r4 this).bind fun r9 =>
  Option.elim r9
  (
    none)
  fun i11 =>
    (f_X0_addCustomer L r4 i11 a1).bind fun r12 =>
    if tk L i11 0 then
    (f_X3_settle L r12.2 q7 r12.1).bind fun r15 =>
    if tk L q7 3 then
    some (r15.1, r15.2)
    else none
    else none
  else none
  else none
set_option maxRecDepth 100000 in
set_option maxHeartbeats 4000000 in
theorem c_X9_come {l : Launch} {dC : Nat → ClassId} {dI : Nat → Nat → Nat} {cy : Nat → ClassId} {ad : Nat → Nat} {L : hL} {X : hX} {this : Nat} {a1 : Int32} {r : Int32} {X' : hX} (h : f_X9_come L X this a1 = some (r, X')) : hMet l dC dI cy ad L yX9_come wsX9_come ({ frames := 4, cells := 0, slots := 0, locals := 85 } : Room) [.ref (ad this), .int a1] X (some (.int r)) X' := by
  unfold f_X9_come at h
  refine hx_enter RX9 (plainFor_of_name (by decide)) rfl rfl (Nat.le_of_ble_eq_true rfl) (fun p e s m args below meth c C hr hnm ls hl => ?_)
  have hl : lv_has ls 2 [(0, .ref (ad this)), (1, .int a1)] := hl
  refine hx_aload_n C dX9_come_0 rfl (lv_at hl 0 rfl) ?_
  obtain ⟨g1, h⟩ := hx_gd h
  obtain ⟨q2, e3, h⟩ := hx_bind h
  refine hx_getr C (ci := 9) (j := 0) g1 uX9_come_9 (by decide) rfl (by decide) rfl (by decide +kernel) rfl dX9_come_1 e3 ?_
  obtain ⟨r4, e5, h⟩ := hx_bind h
  obtain ⟨g6, h⟩ := hx_gd h
  refine hx_callV (As := []) (rest := []) (n := 0) (Cn := RX3) C (c_X3_prepare e5) gX9_come_X3_prepare g6 (by decide) rfl (by decide +kernel) ⟨Nat.le_of_ble_eq_true rfl, Nat.le_of_ble_eq_true rfl⟩ rfl rfl rfl ⟨Nat.zero_le _, Nat.zero_le _⟩ hl.1 rfl rfl (Nat.le_of_ble_eq_true rfl) dX9_come_4 ?_
  refine hx_aload_n C dX9_come_7 rfl (lv_at hl 0 rfl) ?_
  obtain ⟨q7, e8, h⟩ := hx_bind h
  refine hx_getr C (ci := 9) (j := 0) g1 uX9_come_9 (by decide) rfl (by decide) rfl (by decide +kernel) rfl dX9_come_8 e8 ?_
  refine hx_aload_n C dX9_come_11 rfl (lv_at hl 0 rfl) ?_
  obtain ⟨r9, e10, h⟩ := hx_bind h
  refine hx_callV (As := []) (rest := [.ref (ad q7)]) (n := 0) (Cn := RX9) C (c_X9_counter e10) gX9_come_X9_counter g1 (by decide) rfl (by decide +kernel) ⟨Nat.le_of_ble_eq_true rfl, Nat.le_of_ble_eq_true rfl⟩ rfl rfl rfl ⟨Nat.zero_le _, Nat.zero_le _⟩ hl.1 rfl rfl (Nat.le_of_ble_eq_true rfl) dX9_come_12 ?_
  rcases r9 with _ | i11
  · have h := hx_eln h
    refine hx_iload_n C dX9_come_15 rfl (lv_at hl 1 rfl) ?_
    cases h
  · have h := hx_els h
    refine hx_iload_n C dX9_come_15 rfl (lv_at hl 1 rfl) ?_
    obtain ⟨r12, e13, h⟩ := hx_bind h
    obtain ⟨g14, h⟩ := hx_gd h
    refine hx_callV (As := [.int a1]) (rest := [.ref (ad q7)]) (n := 1) (Cn := RX0) C (c_X0_addCustomer e13) gX9_come_X0_addCustomer g14 (by decide) rfl (by decide +kernel) ⟨Nat.le_of_ble_eq_true rfl, Nat.le_of_ble_eq_true rfl⟩ rfl rfl rfl ⟨Nat.zero_le _, Nat.zero_le _⟩ hl.1 rfl rfl (Nat.le_of_ble_eq_true rfl) dX9_come_16 ?_
    obtain ⟨r15, e16, h⟩ := hx_bind h
    obtain ⟨g17, h⟩ := hx_gd h
    refine hx_callV (As := [.int r12.1]) (rest := []) (n := 1) (Cn := RX3) C (c_X3_settle e16) gX9_come_X3_settle g17 (by decide) rfl (by decide +kernel) ⟨Nat.le_of_ble_eq_true rfl, Nat.le_of_ble_eq_true rfl⟩ rfl rfl rfl ⟨Nat.zero_le _, Nat.zero_le _⟩ hl.1 rfl rfl (Nat.le_of_ble_eq_true rfl) dX9_come_19 ?_
    obtain ⟨rfl, rfl⟩ := hx_some2 h
    exact hx_iret C hr dX9_come_22
