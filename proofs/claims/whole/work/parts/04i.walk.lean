theorem uX10_isPrize_10 : ∀ w ∈ u_ws RX10 TX10 15, w ∈ wsX10_isPrize := by decide +kernel
def f_X10_isPrize (L : hL) (X : hX) (this : Nat) (a1 : Int32) : Option (Int32) :=
  if tk L this 10 then
  (X.2 this 0).bind fun q2 =>
  if tk L q2 12 then
  if 15 < L.2.2 q2 then
  (f_X10_in L X a1 0 ((X.1 q2 15) - 1)).bind fun r6 =>
  if r6 = 0 ∨ r6 = 1 then
  some r6
  else none
  else none
  else none
  else none
set_option maxRecDepth 100000 in
set_option maxHeartbeats 4000000 in
theorem c_X10_isPrize {l : Launch} {dC : Nat → ClassId} {dI : Nat → Nat → Nat} {cy : Nat → ClassId} {ad : Nat → Nat} {L : hL} {X : hX} {this : Nat} {a1 : Int32} {r : Int32} (h : f_X10_isPrize L X this a1 = some r) : hMet l dC dI cy ad L yX10_isPrize wsX10_isPrize ({ frames := 1, cells := 0, slots := 0, locals := 22 } : Room) [.ref (ad this), .int a1] X (some (.int r)) X := by
  unfold f_X10_isPrize at h
  refine hx_enter RX10 (plainFor_of_name (by decide)) rfl rfl (Nat.le_of_ble_eq_true rfl) (fun p e s m args below meth c C hr hnm ls hl => ?_)
  have hl : lv_has ls 2 [(0, .ref (ad this)), (1, .int a1)] := hl
  refine hx_iload_n C dX10_isPrize_0 rfl (lv_at hl 1 rfl) ?_
  refine hx_iconst (v := 0) C dX10_isPrize_1 (by decide) ?_
  refine hx_aload_n C dX10_isPrize_2 rfl (lv_at hl 0 rfl) ?_
  obtain ⟨g1, h⟩ := hx_gd h
  obtain ⟨q2, e3, h⟩ := hx_bind h
  refine hx_getr C (ci := 10) (j := 0) g1 uX10_isPrize_10 (by decide) rfl (by decide) rfl (by decide +kernel) rfl dX10_isPrize_3 e3 ?_
  refine hx_bipush (v := 15) C dX10_isPrize_6 (by decide) ?_
  obtain ⟨g4, h⟩ := hx_gd h
  obtain ⟨g5, h⟩ := hx_gd h
  refine hx_iald (n := 15) C g4 (hin_lit (i := 15) (by decide) rfl g5) rfl dX10_isPrize_8 ?_
  refine hx_iconst (v := 1) C dX10_isPrize_9 (by decide) ?_
  refine hx_isub C dX10_isPrize_10 ?_
  obtain ⟨r6, e7, h⟩ := hx_bind h
  refine hx_callS (As := [.int a1, .int 0, .int ((X.1 q2 15) - 1)]) (rest := []) (n := 3) C (c_X10_in e7) gX10_isPrize_X10_in (by decide +kernel) ⟨Nat.le_of_ble_eq_true rfl, Nat.le_of_ble_eq_true rfl⟩ rfl rfl rfl ⟨Nat.zero_le _, Nat.zero_le _⟩ hl.1 rfl rfl (Nat.le_of_ble_eq_true rfl) dX10_isPrize_11 ?_
  obtain ⟨g8, h⟩ := hx_gd h
  obtain rfl := hx_some1 h
  exact hx_zret C hr (hx_nb g8).1 dX10_isPrize_14
def f_X10_isKind (L : hL) (X : hX) (a1 : Int32) : Option (Int32) :=
  (f_X10_in L X a1 0 3).bind fun r1 =>
  if r1 = 0 ∨ r1 = 1 then
  some r1
  else none
set_option maxRecDepth 100000 in
set_option maxHeartbeats 4000000 in
theorem c_X10_isKind {l : Launch} {dC : Nat → ClassId} {dI : Nat → Nat → Nat} {cy : Nat → ClassId} {ad : Nat → Nat} {L : hL} {X : hX} {a1 : Int32} {r : Int32} (h : f_X10_isKind L X a1 = some r) : hMet l dC dI cy ad L yX10_isKind wsX10_isKind ({ frames := 1, cells := 0, slots := 0, locals := 22 } : Room) [.int a1] X (some (.int r)) X := by
  unfold f_X10_isKind at h
  refine hx_enter RX10 (plainFor_of_name (by decide)) rfl rfl (Nat.le_of_ble_eq_true rfl) (fun p e s m args below meth c C hr hnm ls hl => ?_)
  have hl : lv_has ls 1 [(0, .int a1)] := hl
  refine hx_iload_n C dX10_isKind_0 rfl (lv_at hl 0 rfl) ?_
  refine hx_iconst (v := 0) C dX10_isKind_1 (by decide) ?_
  refine hx_iconst (v := 3) C dX10_isKind_2 (by decide) ?_
  obtain ⟨r1, e2, h⟩ := hx_bind h
  refine hx_callS (As := [.int a1, .int 0, .int 3]) (rest := []) (n := 3) C (c_X10_in e2) gX10_isKind_X10_in (by decide +kernel) ⟨Nat.le_of_ble_eq_true rfl, Nat.le_of_ble_eq_true rfl⟩ rfl rfl rfl ⟨Nat.zero_le _, Nat.zero_le _⟩ hl.1 rfl rfl (Nat.le_of_ble_eq_true rfl) dX10_isKind_3 ?_
  obtain ⟨g3, h⟩ := hx_gd h
  obtain rfl := hx_some1 h
  exact hx_zret C hr (hx_nb g3).1 dX10_isKind_6
theorem uX10_of_10 : ∀ w ∈ u_ws RX10 TX10 15, w ∈ wsX10_of := by decide +kernel
def f_X10_of (L : hL) (X : hX) (this : Nat) (a1 : Int32) (a2 : Int32) : Option (Int32) :=
  if tk L this 10 then
  (X.2 this 0).bind fun q2 =>
  if tk L q2 12 then
  if hin ((16 + (6 * a1)) + a2) (L.2.2 q2) then
  some (X.1 q2 (Int32.toNatClampNeg ((16 + (6 * a1)) + a2)))
  else none
  else none
  else none
set_option maxRecDepth 100000 in
set_option maxHeartbeats 4000000 in
theorem c_X10_of {l : Launch} {dC : Nat → ClassId} {dI : Nat → Nat → Nat} {cy : Nat → ClassId} {ad : Nat → Nat} {L : hL} {X : hX} {this : Nat} {a1 : Int32} {a2 : Int32} {r : Int32} (h : f_X10_of L X this a1 a2 = some r) : hMet l dC dI cy ad L yX10_of wsX10_of ({ frames := 0, cells := 0, slots := 0, locals := 0 } : Room) [.ref (ad this), .int a1, .int a2] X (some (.int r)) X := by
  unfold f_X10_of at h
  refine hx_enter RX10 (plainFor_of_name (by decide)) rfl rfl (Nat.le_of_ble_eq_true rfl) (fun p e s m args below meth c C hr hnm ls hl => ?_)
  have hl : lv_has ls 3 [(0, .ref (ad this)), (1, .int a1), (2, .int a2)] := hl
  refine hx_aload_n C dX10_of_0 rfl (lv_at hl 0 rfl) ?_
  obtain ⟨g1, h⟩ := hx_gd h
  obtain ⟨q2, e3, h⟩ := hx_bind h
  refine hx_getr C (ci := 10) (j := 0) g1 uX10_of_10 (by decide) rfl (by decide) rfl (by decide +kernel) rfl dX10_of_1 e3 ?_
  refine hx_bipush (v := 16) C dX10_of_4 (by decide) ?_
  refine hx_bipush (v := 6) C dX10_of_6 (by decide) ?_
  refine hx_iload_n C dX10_of_8 rfl (lv_at hl 1 rfl) ?_
  refine hx_imul C dX10_of_9 ?_
  refine hx_iadd C dX10_of_10 ?_
  refine hx_iload_n C dX10_of_11 rfl (lv_at hl 2 rfl) ?_
  refine hx_iadd C dX10_of_12 ?_
  obtain ⟨g4, h⟩ := hx_gd h
  obtain ⟨g5, h⟩ := hx_gd h
  refine hx_iald (n := (Int32.toNatClampNeg ((16 + (6 * a1)) + a2))) C g4 g5 rfl dX10_of_13 ?_
  obtain rfl := hx_some1 h
  exact hx_iret C hr dX10_of_14
theorem uX10_priced_10 : ∀ w ∈ u_ws RX10 TX10 15, w ∈ wsX10_priced := by decide +kernel
def f_X10_priced (L : hL) (X : hX) (this : Nat) (a1 : Int32) (a2 : Int32) : Option (Int32) :=
  if tk L this 10 then
  (X.2 this 0).bind fun q2 =>
  if tk L q2 12 then
  if hin ((52 + (7 * a1)) + a2) (L.2.2 q2) then
  some (X.1 q2 (Int32.toNatClampNeg ((52 + (7 * a1)) + a2)))
  else none
  else none
  else none
set_option maxRecDepth 100000 in
set_option maxHeartbeats 4000000 in
theorem c_X10_priced {l : Launch} {dC : Nat → ClassId} {dI : Nat → Nat → Nat} {cy : Nat → ClassId} {ad : Nat → Nat} {L : hL} {X : hX} {this : Nat} {a1 : Int32} {a2 : Int32} {r : Int32} (h : f_X10_priced L X this a1 a2 = some r) : hMet l dC dI cy ad L yX10_priced wsX10_priced ({ frames := 0, cells := 0, slots := 0, locals := 0 } : Room) [.ref (ad this), .int a1, .int a2] X (some (.int r)) X := by
  unfold f_X10_priced at h
  refine hx_enter RX10 (plainFor_of_name (by decide)) rfl rfl (Nat.le_of_ble_eq_true rfl) (fun p e s m args below meth c C hr hnm ls hl => ?_)
  have hl : lv_has ls 3 [(0, .ref (ad this)), (1, .int a1), (2, .int a2)] := hl
  refine hx_aload_n C dX10_priced_0 rfl (lv_at hl 0 rfl) ?_
  obtain ⟨g1, h⟩ := hx_gd h
  obtain ⟨q2, e3, h⟩ := hx_bind h
  refine hx_getr C (ci := 10) (j := 0) g1 uX10_priced_10 (by decide) rfl (by decide) rfl (by decide +kernel) rfl dX10_priced_1 e3 ?_
  refine hx_bipush (v := 52) C dX10_priced_4 (by decide) ?_
  refine hx_bipush (v := 7) C dX10_priced_6 (by decide) ?_
  refine hx_iload_n C dX10_priced_8 rfl (lv_at hl 1 rfl) ?_
  refine hx_imul C dX10_priced_9 ?_
  refine hx_iadd C dX10_priced_10 ?_
  refine hx_iload_n C dX10_priced_11 rfl (lv_at hl 2 rfl) ?_
  refine hx_iadd C dX10_priced_12 ?_
  obtain ⟨g4, h⟩ := hx_gd h
  obtain ⟨g5, h⟩ := hx_gd h
  refine hx_iald (n := (Int32.toNatClampNeg ((52 + (7 * a1)) + a2))) C g4 g5 rfl dX10_priced_13 ?_
  obtain rfl := hx_some1 h
  exact hx_iret C hr dX10_priced_14
theorem uX10_pushes_10 : ∀ w ∈ u_ws RX10 TX10 15, w ∈ wsX10_pushes := by decide +kernel
def f_X10_pushes_51 (L : hL) : Nat → Nat → Nat → Int32 → hX → Option (hX)
  | 0, _, _, _, _ => none
  | n + 1, v0, v1, v2, X =>
    if 284 ≤ v2 then
      if tk L v0 10 then
      some (smi X v0 4 ((X.1 v0 4) + 1))
      else none
    else
      if tk L v0 10 then
      (X.2 v0 3).bind fun q4 =>
      if tk L v1 12 then
      if hin v2 (L.2.2 v1) then
      if tk L q4 12 then
      if hin ((284 * (X.1 v0 4)) + v2) (L.2.2 q4) then
      f_X10_pushes_51 L n v0 v1 (v2 + 1) (smi X q4 (Int32.toNatClampNeg ((284 * (X.1 v0 4)) + v2)) (X.1 v1 (Int32.toNatClampNeg v2)))
      else none
      else none
      else none
      else none
      else none
set_option maxRecDepth 100000 in
set_option maxHeartbeats 4000000 in
theorem w_X10_pushes_51 {p : Program} {l : Launch} {e : Env} {s : State} {m : MethodId} {args : Array Value} {below : List Frame} {meth : Method} {c : Code} {dC : Nat → ClassId} {dI : Nat → Nat → Nat} {cy : Nat → ClassId} {ad : Nat → Nat} {L : hL} {X' : hX} (C : hC p s m args meth c dC dI cy ad L (hA ad L s.heap.size) cX10_pushes 3 wsX10_pushes RX10) (hr : meth.sig.returnType = none) : ∀ (n : Nat) (v0 : Nat) (v1 : Nat) (v2 : Int32) (X : hX) (ls : Array Slot), f_X10_pushes_51 L n v0 v1 v2 X = some X' → lv_has ls 3 [(0, .ref (ad v0)), (1, .ref (ad v1)), (2, .int v2)] → hG p l e (headSpec wsX10_pushes ({ frames := 0, cells := 0, slots := 0, locals := 0 } : Room)).room s m args below meth c dC dI cy ad L (hA ad L s.heap.size) 0 0 (MQ below (hQ dC dI cy ad L s.heap.size none X') args s 0 0 (hA ad L s.heap.size)) X 51 ls [] := by
  intro n
  induction n with
  | zero => intro v0 v1 v2 X ls h; cases h
  | succ n ih =>
    intro v0 v1 v2 X ls h hl
    rw [f_X10_pushes_51] at h
    refine hx_iload_n C dX10_pushes_51 rfl (lv_at hl 2 rfl) ?_
    refine hx_sipush (v := 284) C dX10_pushes_52 (by decide) ?_
    refine hx_icmp_ge (tgt := 82) C dX10_pushes_55 (by decide) (fun c1 => ?_) (fun c1 => ?_)
    · have h := hx_pos c1 h
      refine hx_aload_n C dX10_pushes_82 rfl (lv_at hl 0 rfl) ?_
      refine hx_dup C dX10_pushes_83 rfl ?_
      obtain ⟨g2, h⟩ := hx_gd h
      refine hx_geti C (ci := 10) (j := 4) g2 uX10_pushes_10 (by decide) rfl (by decide) rfl (by decide +kernel) rfl dX10_pushes_84 ?_
      refine hx_iconst (v := 1) C dX10_pushes_87 (by decide) ?_
      refine hx_iadd C dX10_pushes_88 ?_
      refine hx_puti C (ci := 10) (j := 4) tyX10 tyX10_ok nmX10 g2 uX10_pushes_10 (by decide) rfl (by decide) rfl (by decide +kernel) rfl rfl (tyX10_ok 4 (by decide)) dX10_pushes_89 rfl rfl ?_
      obtain rfl := hx_some1 h
      exact hx_vret C hr dX10_pushes_92
    · have h := hx_neg c1 h
      refine hx_aload_n C dX10_pushes_58 rfl (lv_at hl 0 rfl) ?_
      obtain ⟨g3, h⟩ := hx_gd h
      obtain ⟨q4, e5, h⟩ := hx_bind h
      refine hx_getr C (ci := 10) (j := 3) g3 uX10_pushes_10 (by decide) rfl (by decide) rfl (by decide +kernel) rfl dX10_pushes_59 e5 ?_
      refine hx_sipush (v := 284) C dX10_pushes_62 (by decide) ?_
      refine hx_aload_n C dX10_pushes_65 rfl (lv_at hl 0 rfl) ?_
      refine hx_geti C (ci := 10) (j := 4) g3 uX10_pushes_10 (by decide) rfl (by decide) rfl (by decide +kernel) rfl dX10_pushes_66 ?_
      refine hx_imul C dX10_pushes_69 ?_
      refine hx_iload_n C dX10_pushes_70 rfl (lv_at hl 2 rfl) ?_
      refine hx_iadd C dX10_pushes_71 ?_
      refine hx_aload_n C dX10_pushes_72 rfl (lv_at hl 1 rfl) ?_
      refine hx_iload_n C dX10_pushes_73 rfl (lv_at hl 2 rfl) ?_
      obtain ⟨g6, h⟩ := hx_gd h
      obtain ⟨g7, h⟩ := hx_gd h
      refine hx_iald (n := (Int32.toNatClampNeg v2)) C g6 g7 rfl dX10_pushes_74 ?_
      obtain ⟨g8, h⟩ := hx_gd h
      obtain ⟨g9, h⟩ := hx_gd h
      refine hx_iast (n := (Int32.toNatClampNeg ((284 * (X.1 v0 4)) + v2))) C g8 g9 rfl dX10_pushes_75 ?_
      refine hx_iinc (v := v2 + 1) (lv' := [(2, .int (v2 + 1)), (0, .ref (ad v0)), (1, .ref (ad v1))]) C dX10_pushes_76 hl (k := 2) rfl rfl (by decide) rfl (fun ls hl => ?_)
      refine hx_goto (tgt := 51) C dX10_pushes_79 (by decide) ?_
      exact ih v0 v1 (v2 + 1) (smi X q4 (Int32.toNatClampNeg ((284 * (X.1 v0 4)) + v2)) (X.1 v1 (Int32.toNatClampNeg v2))) ls h (lv_sub hl [1, 2, 0] rfl)
def f_X10_pushes_49 (L : hL) (v0 : Nat) (v1 : Nat) (X : hX) : Option (hX) :=
  f_X10_pushes_51 L u_fuel v0 v1 0 X
set_option maxRecDepth 100000 in
set_option maxHeartbeats 4000000 in
theorem w_X10_pushes_49 {p : Program} {l : Launch} {e : Env} {s : State} {m : MethodId} {args : Array Value} {below : List Frame} {meth : Method} {c : Code} {dC : Nat → ClassId} {dI : Nat → Nat → Nat} {cy : Nat → ClassId} {ad : Nat → Nat} {L : hL} {X' : hX} (C : hC p s m args meth c dC dI cy ad L (hA ad L s.heap.size) cX10_pushes 3 wsX10_pushes RX10) (hr : meth.sig.returnType = none) : ∀ (v0 : Nat) (v1 : Nat) (X : hX) (ls : Array Slot), f_X10_pushes_49 L v0 v1 X = some X' → lv_has ls 3 [(0, .ref (ad v0)), (1, .ref (ad v1))] → hG p l e (headSpec wsX10_pushes ({ frames := 0, cells := 0, slots := 0, locals := 0 } : Room)).room s m args below meth c dC dI cy ad L (hA ad L s.heap.size) 0 0 (MQ below (hQ dC dI cy ad L s.heap.size none X') args s 0 0 (hA ad L s.heap.size)) X 49 ls [] := by
  intro v0 v1 X ls h hl
  unfold f_X10_pushes_49 at h
  refine hx_iconst (v := 0) C dX10_pushes_49 (by decide) ?_
  refine hx_istore_n (lv' := [(2, .int 0), (0, .ref (ad v0)), (1, .ref (ad v1))]) C dX10_pushes_50 rfl hl (by decide) rfl (fun ls hl => ?_)
  exact w_X10_pushes_51 C hr u_fuel v0 v1 0 X ls h (lv_sub hl [1, 2, 0] rfl)
def f_X10_pushes_10 (L : hL) : Nat → Nat → Nat → Int32 → hX → Option (hX)
  | 0, _, _, _, _ => none
  | n + 1, v0, v1, v2, X =>
    if 1136 ≤ v2 then
      if tk L v0 10 then
      f_X10_pushes_49 L v0 v1 (smi X v0 4 ((X.1 v0 4) - 1))
      else none
    else
      if tk L v0 10 then
      (X.2 v0 3).bind fun q13 =>
      if tk L q13 12 then
      if hin (v2 + 284) (L.2.2 q13) then
      if hin v2 (L.2.2 q13) then
      f_X10_pushes_10 L n v0 v1 (v2 + 1) (smi X q13 (Int32.toNatClampNeg v2) (X.1 q13 (Int32.toNatClampNeg (v2 + 284))))
      else none
      else none
      else none
      else none
set_option maxRecDepth 100000 in
set_option maxHeartbeats 4000000 in
theorem w_X10_pushes_10 {p : Program} {l : Launch} {e : Env} {s : State} {m : MethodId} {args : Array Value} {below : List Frame} {meth : Method} {c : Code} {dC : Nat → ClassId} {dI : Nat → Nat → Nat} {cy : Nat → ClassId} {ad : Nat → Nat} {L : hL} {X' : hX} (C : hC p s m args meth c dC dI cy ad L (hA ad L s.heap.size) cX10_pushes 3 wsX10_pushes RX10) (hr : meth.sig.returnType = none) : ∀ (n : Nat) (v0 : Nat) (v1 : Nat) (v2 : Int32) (X : hX) (ls : Array Slot), f_X10_pushes_10 L n v0 v1 v2 X = some X' → lv_has ls 3 [(0, .ref (ad v0)), (1, .ref (ad v1)), (2, .int v2)] → hG p l e (headSpec wsX10_pushes ({ frames := 0, cells := 0, slots := 0, locals := 0 } : Room)).room s m args below meth c dC dI cy ad L (hA ad L s.heap.size) 0 0 (MQ below (hQ dC dI cy ad L s.heap.size none X') args s 0 0 (hA ad L s.heap.size)) X 10 ls [] := by
  intro n
  induction n with
  | zero => intro v0 v1 v2 X ls h; cases h
  | succ n ih =>
    intro v0 v1 v2 X ls h hl
    rw [f_X10_pushes_10] at h
    refine hx_iload_n C dX10_pushes_10 rfl (lv_at hl 2 rfl) ?_
    refine hx_sipush (v := 1136) C dX10_pushes_11 (by decide) ?_
    refine hx_icmp_ge (tgt := 39) C dX10_pushes_14 (by decide) (fun c10 => ?_) (fun c10 => ?_)
    · have h := hx_pos c10 h
      refine hx_aload_n C dX10_pushes_39 rfl (lv_at hl 0 rfl) ?_
      refine hx_dup C dX10_pushes_40 rfl ?_
      obtain ⟨g11, h⟩ := hx_gd h
      refine hx_geti C (ci := 10) (j := 4) g11 uX10_pushes_10 (by decide) rfl (by decide) rfl (by decide +kernel) rfl dX10_pushes_41 ?_
      refine hx_iconst (v := 1) C dX10_pushes_44 (by decide) ?_
      refine hx_isub C dX10_pushes_45 ?_
      refine hx_puti C (ci := 10) (j := 4) tyX10 tyX10_ok nmX10 g11 uX10_pushes_10 (by decide) rfl (by decide) rfl (by decide +kernel) rfl rfl (tyX10_ok 4 (by decide)) dX10_pushes_46 rfl rfl ?_
      exact w_X10_pushes_49 C hr v0 v1 (smi X v0 4 ((X.1 v0 4) - 1)) ls h (lv_sub hl [0, 1] rfl)
    · have h := hx_neg c10 h
      refine hx_aload_n C dX10_pushes_17 rfl (lv_at hl 0 rfl) ?_
      obtain ⟨g12, h⟩ := hx_gd h
      obtain ⟨q13, e14, h⟩ := hx_bind h
      refine hx_getr C (ci := 10) (j := 3) g12 uX10_pushes_10 (by decide) rfl (by decide) rfl (by decide +kernel) rfl dX10_pushes_18 e14 ?_
      refine hx_iload_n C dX10_pushes_21 rfl (lv_at hl 2 rfl) ?_
      refine hx_aload_n C dX10_pushes_22 rfl (lv_at hl 0 rfl) ?_
      refine hx_getr C (ci := 10) (j := 3) g12 uX10_pushes_10 (by decide) rfl (by decide) rfl (by decide +kernel) rfl dX10_pushes_23 e14 ?_
      refine hx_iload_n C dX10_pushes_26 rfl (lv_at hl 2 rfl) ?_
      refine hx_sipush (v := 284) C dX10_pushes_27 (by decide) ?_
      refine hx_iadd C dX10_pushes_30 ?_
      obtain ⟨g15, h⟩ := hx_gd h
      obtain ⟨g16, h⟩ := hx_gd h
      refine hx_iald (n := (Int32.toNatClampNeg (v2 + 284))) C g15 g16 rfl dX10_pushes_31 ?_
      obtain ⟨g17, h⟩ := hx_gd h
      refine hx_iast (n := (Int32.toNatClampNeg v2)) C g15 g17 rfl dX10_pushes_32 ?_
      refine hx_iinc (v := v2 + 1) (lv' := [(2, .int (v2 + 1)), (0, .ref (ad v0)), (1, .ref (ad v1))]) C dX10_pushes_33 hl (k := 2) rfl rfl (by decide) rfl (fun ls hl => ?_)
      refine hx_goto (tgt := 10) C dX10_pushes_36 (by decide) ?_
      exact ih v0 v1 (v2 + 1) (smi X q13 (Int32.toNatClampNeg v2) (X.1 q13 (Int32.toNatClampNeg (v2 + 284)))) ls h (lv_sub hl [1, 2, 0] rfl)
def f_X10_pushes (L : hL) (X : hX) (this : Nat) (a1 : Nat) : Option (hX) :=
  if tk L this 10 then
  if (X.1 this 4) = 5 then
    f_X10_pushes_10 L u_fuel this a1 0 X
  else
    f_X10_pushes_49 L this a1 X
  else none
set_option maxRecDepth 100000 in
set_option maxHeartbeats 4000000 in
theorem c_X10_pushes {l : Launch} {dC : Nat → ClassId} {dI : Nat → Nat → Nat} {cy : Nat → ClassId} {ad : Nat → Nat} {L : hL} {X : hX} {this : Nat} {a1 : Nat} {X' : hX} (h : f_X10_pushes L X this a1 = some X') : hMet l dC dI cy ad L yX10_pushes wsX10_pushes ({ frames := 0, cells := 0, slots := 0, locals := 0 } : Room) [.ref (ad this), .ref (ad a1)] X none X' := by
  unfold f_X10_pushes at h
  refine hx_enter RX10 (plainFor_of_name (by decide)) rfl rfl (Nat.le_of_ble_eq_true rfl) (fun p e s m args below meth c C hr hnm ls hl => ?_)
  have hl : lv_has ls 3 [(0, .ref (ad this)), (1, .ref (ad a1))] := hl
  refine hx_aload_n C dX10_pushes_0 rfl (lv_at hl 0 rfl) ?_
  obtain ⟨g18, h⟩ := hx_gd h
  refine hx_geti C (ci := 10) (j := 4) g18 uX10_pushes_10 (by decide) rfl (by decide) rfl (by decide +kernel) rfl dX10_pushes_1 ?_
  refine hx_iconst (v := 5) C dX10_pushes_4 (by decide) ?_
  refine hx_icmp_ne (tgt := 49) C dX10_pushes_5 (by decide) (fun c19 => ?_) (fun c19 => ?_)
  · have h := hx_neg c19 h
    exact w_X10_pushes_49 C hr this a1 X ls h (lv_sub hl [0, 1] rfl)
  · have h := hx_pos c19 h
    refine hx_iconst (v := 0) C dX10_pushes_8 (by decide) ?_
    refine hx_istore_n (lv' := [(2, .int 0), (0, .ref (ad this)), (1, .ref (ad a1))]) C dX10_pushes_9 rfl hl (by decide) rfl (fun ls hl => ?_)
    exact w_X10_pushes_10 C hr u_fuel this a1 0 X ls h (lv_sub hl [1, 2, 0] rfl)
theorem uX10_keeps_10 : ∀ w ∈ u_ws RX10 TX10 15, w ∈ wsX10_keeps := by decide +kernel
def f_X10_keeps_2 (L : hL) : Nat → Nat → Int32 → hX → Option (hX)
  | 0, _, _, _ => none
  | n + 1, v0, v1, X =>
    if 284 ≤ v1 then
      some X
    else
      if tk L v0 10 then
      (X.2 v0 1).bind fun q3 =>
      (X.2 v0 0).bind fun q5 =>
      if tk L q5 12 then
      if hin v1 (L.2.2 q5) then
      if tk L q3 12 then
      if hin v1 (L.2.2 q3) then
      f_X10_keeps_2 L n v0 (v1 + 1) (smi X q3 (Int32.toNatClampNeg v1) (X.1 q5 (Int32.toNatClampNeg v1)))
      else none
      else none
      else none
      else none
      else none
set_option maxRecDepth 100000 in
set_option maxHeartbeats 4000000 in
theorem w_X10_keeps_2 {p : Program} {l : Launch} {e : Env} {s : State} {m : MethodId} {args : Array Value} {below : List Frame} {meth : Method} {c : Code} {dC : Nat → ClassId} {dI : Nat → Nat → Nat} {cy : Nat → ClassId} {ad : Nat → Nat} {L : hL} {X' : hX} (C : hC p s m args meth c dC dI cy ad L (hA ad L s.heap.size) cX10_keeps 2 wsX10_keeps RX10) (hr : meth.sig.returnType = none) : ∀ (n : Nat) (v0 : Nat) (v1 : Int32) (X : hX) (ls : Array Slot), f_X10_keeps_2 L n v0 v1 X = some X' → lv_has ls 2 [(0, .ref (ad v0)), (1, .int v1)] → hG p l e (headSpec wsX10_keeps ({ frames := 0, cells := 0, slots := 0, locals := 0 } : Room)).room s m args below meth c dC dI cy ad L (hA ad L s.heap.size) 0 0 (MQ below (hQ dC dI cy ad L s.heap.size none X') args s 0 0 (hA ad L s.heap.size)) X 2 ls [] := by
  intro n
  induction n with
  | zero => intro v0 v1 X ls h; cases h
  | succ n ih =>
    intro v0 v1 X ls h hl
    rw [f_X10_keeps_2] at h
    refine hx_iload_n C dX10_keeps_2 rfl (lv_at hl 1 rfl) ?_
    refine hx_sipush (v := 284) C dX10_keeps_3 (by decide) ?_
    refine hx_icmp_ge (tgt := 27) C dX10_keeps_6 (by decide) (fun c1 => ?_) (fun c1 => ?_)
    · have h := hx_pos c1 h
      obtain rfl := hx_some1 h
      exact hx_vret C hr dX10_keeps_27
    · have h := hx_neg c1 h
      refine hx_aload_n C dX10_keeps_9 rfl (lv_at hl 0 rfl) ?_
      obtain ⟨g2, h⟩ := hx_gd h
      obtain ⟨q3, e4, h⟩ := hx_bind h
      refine hx_getr C (ci := 10) (j := 1) g2 uX10_keeps_10 (by decide) rfl (by decide) rfl (by decide +kernel) rfl dX10_keeps_10 e4 ?_
      refine hx_iload_n C dX10_keeps_13 rfl (lv_at hl 1 rfl) ?_
      refine hx_aload_n C dX10_keeps_14 rfl (lv_at hl 0 rfl) ?_
      obtain ⟨q5, e6, h⟩ := hx_bind h
      refine hx_getr C (ci := 10) (j := 0) g2 uX10_keeps_10 (by decide) rfl (by decide) rfl (by decide +kernel) rfl dX10_keeps_15 e6 ?_
      refine hx_iload_n C dX10_keeps_18 rfl (lv_at hl 1 rfl) ?_
      obtain ⟨g7, h⟩ := hx_gd h
      obtain ⟨g8, h⟩ := hx_gd h
      refine hx_iald (n := (Int32.toNatClampNeg v1)) C g7 g8 rfl dX10_keeps_19 ?_
      obtain ⟨g9, h⟩ := hx_gd h
      obtain ⟨g10, h⟩ := hx_gd h
      refine hx_iast (n := (Int32.toNatClampNeg v1)) C g9 g10 rfl dX10_keeps_20 ?_
      refine hx_iinc (v := v1 + 1) (lv' := [(1, .int (v1 + 1)), (0, .ref (ad v0))]) C dX10_keeps_21 hl (k := 1) rfl rfl (by decide) rfl (fun ls hl => ?_)
      refine hx_goto (tgt := 2) C dX10_keeps_24 (by decide) ?_
      exact ih v0 (v1 + 1) (smi X q3 (Int32.toNatClampNeg v1) (X.1 q5 (Int32.toNatClampNeg v1))) ls h (lv_sub hl [1, 0] rfl)
def f_X10_keeps (L : hL) (X : hX) (this : Nat) : Option (hX) :=
  f_X10_keeps_2 L u_fuel this 0 X
set_option maxRecDepth 100000 in
set_option maxHeartbeats 4000000 in
theorem c_X10_keeps {l : Launch} {dC : Nat → ClassId} {dI : Nat → Nat → Nat} {cy : Nat → ClassId} {ad : Nat → Nat} {L : hL} {X : hX} {this : Nat} {X' : hX} (h : f_X10_keeps L X this = some X') : hMet l dC dI cy ad L yX10_keeps wsX10_keeps ({ frames := 0, cells := 0, slots := 0, locals := 0 } : Room) [.ref (ad this)] X none X' := by
  unfold f_X10_keeps at h
  refine hx_enter RX10 (plainFor_of_name (by decide)) rfl rfl (Nat.le_of_ble_eq_true rfl) (fun p e s m args below meth c C hr hnm ls hl => ?_)
  have hl : lv_has ls 2 [(0, .ref (ad this))] := hl
  refine hx_iconst (v := 0) C dX10_keeps_0 (by decide) ?_
  refine hx_istore_n (lv' := [(1, .int 0), (0, .ref (ad this))]) C dX10_keeps_1 rfl hl (by decide) rfl (fun ls hl => ?_)
  exact w_X10_keeps_2 C hr u_fuel this 0 X ls h (lv_sub hl [1, 0] rfl)
theorem uX10_acted_10 : ∀ w ∈ u_ws RX10 TX10 15, w ∈ wsX10_acted := by decide +kernel
def f_X10_acted (L : hL) (X : hX) (this : Nat) (a1 : Int32) : Option (Int32 × hX) :=
  if a1 ≤ (-100001) then
    some (a1, X)
  else
    if tk L this 10 then
    (X.2 this 1).bind fun q3 =>
    (f_X10_pushes L X this q3).bind fun r5 =>
    some (a1, r5)
    else none
set_option maxRecDepth 100000 in
set_option maxHeartbeats 4000000 in
theorem c_X10_acted {l : Launch} {dC : Nat → ClassId} {dI : Nat → Nat → Nat} {cy : Nat → ClassId} {ad : Nat → Nat} {L : hL} {X : hX} {this : Nat} {a1 : Int32} {r : Int32} {X' : hX} (h : f_X10_acted L X this a1 = some (r, X')) : hMet l dC dI cy ad L yX10_acted wsX10_acted ({ frames := 1, cells := 0, slots := 0, locals := 22 } : Room) [.ref (ad this), .int a1] X (some (.int r)) X' := by
  unfold f_X10_acted at h
  refine hx_enter RX10 (plainFor_of_name (by decide)) rfl rfl (Nat.le_of_ble_eq_true rfl) (fun p e s m args below meth c C hr hnm ls hl => ?_)
  have hl : lv_has ls 2 [(0, .ref (ad this)), (1, .int a1)] := hl
  refine hx_iload_n C dX10_acted_0 rfl (lv_at hl 1 rfl) ?_
  refine hx_ldc (v := (-100001)) C (by decide +kernel) dX10_acted_1 ?_
  refine hx_icmp_le (tgt := 14) C dX10_acted_3 (by decide) (fun c1 => ?_) (fun c1 => ?_)
  · have h := hx_pos c1 h
    refine hx_iload_n C dX10_acted_14 rfl (lv_at hl 1 rfl) ?_
    obtain ⟨rfl, rfl⟩ := hx_some2 h
    exact hx_iret C hr dX10_acted_15
  · have h := hx_neg c1 h
    refine hx_aload_n C dX10_acted_6 rfl (lv_at hl 0 rfl) ?_
    refine hx_aload_n C dX10_acted_7 rfl (lv_at hl 0 rfl) ?_
    obtain ⟨g2, h⟩ := hx_gd h
    obtain ⟨q3, e4, h⟩ := hx_bind h
    refine hx_getr C (ci := 10) (j := 1) g2 uX10_acted_10 (by decide) rfl (by decide) rfl (by decide +kernel) rfl dX10_acted_8 e4 ?_
    obtain ⟨r5, e6, h⟩ := hx_bind h
    refine hx_callV (As := [.ref (ad q3)]) (rest := []) (n := 1) (Cn := RX10) C (c_X10_pushes e6) gX10_acted_X10_pushes g2 (by decide) rfl (by decide +kernel) ⟨Nat.le_of_ble_eq_true rfl, Nat.le_of_ble_eq_true rfl⟩ rfl rfl rfl ⟨Nat.zero_le _, Nat.zero_le _⟩ hl.1 rfl rfl (Nat.le_of_ble_eq_true rfl) dX10_acted_11 ?_
    refine hx_iload_n C dX10_acted_14 rfl (lv_at hl 1 rfl) ?_
    obtain ⟨rfl, rfl⟩ := hx_some2 h
    exact hx_iret C hr dX10_acted_15
def f_X10_floors (L : hL) (X : hX) (a1 : Int32) (a2 : Int32) : Option (Int32) :=
  if ¬ a2 = 0 then
  if 0 ≤ (a1 - a1 / a2 * a2) then
    some (a1 / a2)
  else
    some ((a1 / a2) - 1)
  else none
set_option maxRecDepth 100000 in
set_option maxHeartbeats 4000000 in
theorem c_X10_floors {l : Launch} {dC : Nat → ClassId} {dI : Nat → Nat → Nat} {cy : Nat → ClassId} {ad : Nat → Nat} {L : hL} {X : hX} {a1 : Int32} {a2 : Int32} {r : Int32} (h : f_X10_floors L X a1 a2 = some r) : hMet l dC dI cy ad L yX10_floors wsX10_floors ({ frames := 0, cells := 0, slots := 0, locals := 0 } : Room) [.int a1, .int a2] X (some (.int r)) X := by
  unfold f_X10_floors at h
  refine hx_enter RX10 (plainFor_of_name (by decide)) rfl rfl (Nat.le_of_ble_eq_true rfl) (fun p e s m args below meth c C hr hnm ls hl => ?_)
  have hl : lv_has ls 3 [(0, .int a1), (1, .int a2)] := hl
  refine hx_iload_n C dX10_floors_0 rfl (lv_at hl 0 rfl) ?_
  refine hx_iload_n C dX10_floors_1 rfl (lv_at hl 1 rfl) ?_
  obtain ⟨g1, h⟩ := hx_gd h
  refine hx_idiv C dX10_floors_2 g1 ?_
  refine hx_istore_n (lv' := [(2, .int (a1 / a2)), (0, .int a1), (1, .int a2)]) C dX10_floors_3 rfl hl (by decide) rfl (fun ls hl => ?_)
  refine hx_iload_n C dX10_floors_4 rfl (lv_at hl 1 rfl) ?_
  refine hx_iload_n C dX10_floors_5 rfl (lv_at hl 2 rfl) ?_
  refine hx_irem C dX10_floors_6 g1 ?_
  refine hx_if_ge (tgt := 16) C dX10_floors_7 (by decide) (fun c2 => ?_) (fun c2 => ?_)
  · have h := hx_pos c2 h
    refine hx_iload_n C dX10_floors_16 rfl (lv_at hl 0 rfl) ?_
    obtain rfl := hx_some1 h
    exact hx_iret C hr dX10_floors_17
  · have h := hx_neg c2 h
    refine hx_iload_n C dX10_floors_10 rfl (lv_at hl 0 rfl) ?_
    refine hx_iconst (v := 1) C dX10_floors_11 (by decide) ?_
    refine hx_isub C dX10_floors_12 ?_
    refine hx_goto (tgt := 17) C dX10_floors_13 (by decide) ?_
    obtain rfl := hx_some1 h
    exact hx_iret C hr dX10_floors_17
def f_X10_readsBy (L : hL) (X : hX) (this : Nat) (a1 : Int32) (a2 : Int32) : Option (Int32) :=
  (f_X10_floors L X ((2 * a1) + a2) (2 * a2)).bind fun r1 =>
  if 0 ≤ r1 then
    some (r1 * a2)
  else
    some 0
set_option maxRecDepth 100000 in
set_option maxHeartbeats 4000000 in
theorem c_X10_readsBy {l : Launch} {dC : Nat → ClassId} {dI : Nat → Nat → Nat} {cy : Nat → ClassId} {ad : Nat → Nat} {L : hL} {X : hX} {this : Nat} {a1 : Int32} {a2 : Int32} {r : Int32} (h : f_X10_readsBy L X this a1 a2 = some r) : hMet l dC dI cy ad L yX10_readsBy wsX10_readsBy ({ frames := 1, cells := 0, slots := 0, locals := 22 } : Room) [.ref (ad this), .int a1, .int a2] X (some (.int r)) X := by
  unfold f_X10_readsBy at h
  refine hx_enter RX10 (plainFor_of_name (by decide)) rfl rfl (Nat.le_of_ble_eq_true rfl) (fun p e s m args below meth c C hr hnm ls hl => ?_)
  have hl : lv_has ls 4 [(0, .ref (ad this)), (1, .int a1), (2, .int a2)] := hl
  refine hx_iconst (v := 2) C dX10_readsBy_0 (by decide) ?_
  refine hx_iload_n C dX10_readsBy_1 rfl (lv_at hl 1 rfl) ?_
  refine hx_imul C dX10_readsBy_2 ?_
  refine hx_iload_n C dX10_readsBy_3 rfl (lv_at hl 2 rfl) ?_
  refine hx_iadd C dX10_readsBy_4 ?_
  refine hx_iconst (v := 2) C dX10_readsBy_5 (by decide) ?_
  refine hx_iload_n C dX10_readsBy_6 rfl (lv_at hl 2 rfl) ?_
  refine hx_imul C dX10_readsBy_7 ?_
  obtain ⟨r1, e2, h⟩ := hx_bind h
  refine hx_callS (As := [.int ((2 * a1) + a2), .int (2 * a2)]) (rest := []) (n := 2) C (c_X10_floors e2) gX10_readsBy_X10_floors (by decide +kernel) ⟨Nat.le_of_ble_eq_true rfl, Nat.le_of_ble_eq_true rfl⟩ rfl rfl rfl ⟨Nat.zero_le _, Nat.zero_le _⟩ hl.1 rfl rfl (Nat.le_of_ble_eq_true rfl) dX10_readsBy_8 ?_
  refine hx_istore_n (lv' := [(3, .int r1), (0, .ref (ad this)), (1, .int a1), (2, .int a2)]) C dX10_readsBy_11 rfl hl (by decide) rfl (fun ls hl => ?_)
  refine hx_iload_n C dX10_readsBy_12 rfl (lv_at hl 0 rfl) ?_
  refine hx_if_ge (tgt := 20) C dX10_readsBy_13 (by decide) (fun c3 => ?_) (fun c3 => ?_)
  · have h := hx_pos c3 h
    refine hx_iload_n C dX10_readsBy_20 rfl (lv_at hl 0 rfl) ?_
    refine hx_iload_n C dX10_readsBy_21 rfl (lv_at hl 3 rfl) ?_
    refine hx_imul C dX10_readsBy_22 ?_
    obtain rfl := hx_some1 h
    exact hx_iret C hr dX10_readsBy_23
  · have h := hx_neg c3 h
    refine hx_iconst (v := 0) C dX10_readsBy_16 (by decide) ?_
    refine hx_goto (tgt := 23) C dX10_readsBy_17 (by decide) ?_
    obtain rfl := hx_some1 h
    exact hx_iret C hr dX10_readsBy_23
theorem uX10_highest_10 : ∀ w ∈ u_ws RX10 TX10 15, w ∈ wsX10_highest := by decide +kernel
def f_X10_highest (L : hL) (X : hX) (this : Nat) (a1 : Int32) : Option (Int32) :=
  if tk L this 10 then
  (X.2 this 0).bind fun q2 =>
  if tk L q2 12 then
  if 8 < L.2.2 q2 then
  (f_X10_floors L X (((2 * a1) + (X.1 q2 8)) - 1) 2).bind fun r6 =>
  some r6
  else none
  else none
  else none
set_option maxRecDepth 100000 in
set_option maxHeartbeats 4000000 in
theorem c_X10_highest {l : Launch} {dC : Nat → ClassId} {dI : Nat → Nat → Nat} {cy : Nat → ClassId} {ad : Nat → Nat} {L : hL} {X : hX} {this : Nat} {a1 : Int32} {r : Int32} (h : f_X10_highest L X this a1 = some r) : hMet l dC dI cy ad L yX10_highest wsX10_highest ({ frames := 1, cells := 0, slots := 0, locals := 22 } : Room) [.ref (ad this), .int a1] X (some (.int r)) X := by
  unfold f_X10_highest at h
  refine hx_enter RX10 (plainFor_of_name (by decide)) rfl rfl (Nat.le_of_ble_eq_true rfl) (fun p e s m args below meth c C hr hnm ls hl => ?_)
  have hl : lv_has ls 2 [(0, .ref (ad this)), (1, .int a1)] := hl
  refine hx_iconst (v := 2) C dX10_highest_0 (by decide) ?_
  refine hx_iload_n C dX10_highest_1 rfl (lv_at hl 1 rfl) ?_
  refine hx_imul C dX10_highest_2 ?_
  refine hx_aload_n C dX10_highest_3 rfl (lv_at hl 0 rfl) ?_
  obtain ⟨g1, h⟩ := hx_gd h
  obtain ⟨q2, e3, h⟩ := hx_bind h
  refine hx_getr C (ci := 10) (j := 0) g1 uX10_highest_10 (by decide) rfl (by decide) rfl (by decide +kernel) rfl dX10_highest_4 e3 ?_
  refine hx_bipush (v := 8) C dX10_highest_7 (by decide) ?_
  obtain ⟨g4, h⟩ := hx_gd h
  obtain ⟨g5, h⟩ := hx_gd h
  refine hx_iald (n := 8) C g4 (hin_lit (i := 8) (by decide) rfl g5) rfl dX10_highest_9 ?_
  refine hx_iadd C dX10_highest_10 ?_
  refine hx_iconst (v := 1) C dX10_highest_11 (by decide) ?_
  refine hx_isub C dX10_highest_12 ?_
  refine hx_iconst (v := 2) C dX10_highest_13 (by decide) ?_
  obtain ⟨r6, e7, h⟩ := hx_bind h
  refine hx_callS (As := [.int (((2 * a1) + (X.1 q2 8)) - 1), .int 2]) (rest := []) (n := 2) C (c_X10_floors e7) gX10_highest_X10_floors (by decide +kernel) ⟨Nat.le_of_ble_eq_true rfl, Nat.le_of_ble_eq_true rfl⟩ rfl rfl rfl ⟨Nat.zero_le _, Nat.zero_le _⟩ hl.1 rfl rfl (Nat.le_of_ble_eq_true rfl) dX10_highest_14 ?_
  obtain rfl := hx_some1 h
  exact hx_iret C hr dX10_highest_17
theorem uX10_lowest_10 : ∀ w ∈ u_ws RX10 TX10 15, w ∈ wsX10_lowest := by decide +kernel
def f_X10_lowest (L : hL) (X : hX) (this : Nat) (a1 : Int32) : Option (Int32) :=
  if a1 = 0 then
    some (-9000000)
  else
    if tk L this 10 then
    (X.2 this 0).bind fun q3 =>
    if tk L q3 12 then
    if 8 < L.2.2 q3 then
    (f_X10_floors L X (((2 * a1) - (X.1 q3 8)) + 1) 2).bind fun r7 =>
    some r7
    else none
    else none
    else none
set_option maxRecDepth 100000 in
set_option maxHeartbeats 4000000 in
theorem c_X10_lowest {l : Launch} {dC : Nat → ClassId} {dI : Nat → Nat → Nat} {cy : Nat → ClassId} {ad : Nat → Nat} {L : hL} {X : hX} {this : Nat} {a1 : Int32} {r : Int32} (h : f_X10_lowest L X this a1 = some r) : hMet l dC dI cy ad L yX10_lowest wsX10_lowest ({ frames := 1, cells := 0, slots := 0, locals := 22 } : Room) [.ref (ad this), .int a1] X (some (.int r)) X := by
  unfold f_X10_lowest at h
  refine hx_enter RX10 (plainFor_of_name (by decide)) rfl rfl (Nat.le_of_ble_eq_true rfl) (fun p e s m args below meth c C hr hnm ls hl => ?_)
  have hl : lv_has ls 2 [(0, .ref (ad this)), (1, .int a1)] := hl
  refine hx_iload_n C dX10_lowest_0 rfl (lv_at hl 1 rfl) ?_
  refine hx_if_ne (tgt := 9) C dX10_lowest_1 (by decide) (fun c1 => ?_) (fun c1 => ?_)
  · have h := hx_neg c1 h
    refine hx_iconst (v := 2) C dX10_lowest_9 (by decide) ?_
    refine hx_iload_n C dX10_lowest_10 rfl (lv_at hl 1 rfl) ?_
    refine hx_imul C dX10_lowest_11 ?_
    refine hx_aload_n C dX10_lowest_12 rfl (lv_at hl 0 rfl) ?_
    obtain ⟨g2, h⟩ := hx_gd h
    obtain ⟨q3, e4, h⟩ := hx_bind h
    refine hx_getr C (ci := 10) (j := 0) g2 uX10_lowest_10 (by decide) rfl (by decide) rfl (by decide +kernel) rfl dX10_lowest_13 e4 ?_
    refine hx_bipush (v := 8) C dX10_lowest_16 (by decide) ?_
    obtain ⟨g5, h⟩ := hx_gd h
    obtain ⟨g6, h⟩ := hx_gd h
    refine hx_iald (n := 8) C g5 (hin_lit (i := 8) (by decide) rfl g6) rfl dX10_lowest_18 ?_
    refine hx_isub C dX10_lowest_19 ?_
    refine hx_iconst (v := 1) C dX10_lowest_20 (by decide) ?_
    refine hx_iadd C dX10_lowest_21 ?_
    refine hx_iconst (v := 2) C dX10_lowest_22 (by decide) ?_
    obtain ⟨r7, e8, h⟩ := hx_bind h
    refine hx_callS (As := [.int (((2 * a1) - (X.1 q3 8)) + 1), .int 2]) (rest := []) (n := 2) C (c_X10_floors e8) gX10_lowest_X10_floors (by decide +kernel) ⟨Nat.le_of_ble_eq_true rfl, Nat.le_of_ble_eq_true rfl⟩ rfl rfl rfl ⟨Nat.zero_le _, Nat.zero_le _⟩ hl.1 rfl rfl (Nat.le_of_ble_eq_true rfl) dX10_lowest_23 ?_
    obtain rfl := hx_some1 h
    exact hx_iret C hr dX10_lowest_26
  · have h := hx_pos c1 h
    refine hx_ldc (v := (-9000000)) C (by decide +kernel) dX10_lowest_4 ?_
    refine hx_goto (tgt := 26) C dX10_lowest_6 (by decide) ?_
    obtain rfl := hx_some1 h
    exact hx_iret C hr dX10_lowest_26
theorem uX10_allows_10 : ∀ w ∈ u_ws RX10 TX10 15, w ∈ wsX10_allows := by decide +kernel
def f_X10_allows_82 (L : hL) (v0 : Nat) (v1 : Int32) (v3 : Int32) (s0 : Int32) (s1 : Nat) (X : hX) : Option (Int32 × hX) :=
  if tk L s1 10 then
  (f_X10_highest L (smi X s1 13 s0) v0 v1).bind fun r2 =>
  if tk L v0 10 then
  (X.2 v0 0).bind fun q5 =>
  if tk L q5 12 then
  if 9 < L.2.2 q5 then
  if ¬ v3 = 0 then
  if ((smi (smi X s1 13 s0) v0 14 ((r2 + ((smi X s1 13 s0).1 q5 9)) / v3)).1 v0 14) < ((smi (smi X s1 13 s0) v0 14 ((r2 + ((smi X s1 13 s0).1 q5 9)) / v3)).1 v0 13) then
    some (0, smi (smi X s1 13 s0) v0 14 ((r2 + ((smi X s1 13 s0).1 q5 9)) / v3))
  else
    some (1, smi (smi X s1 13 s0) v0 14 ((r2 + ((smi X s1 13 s0).1 q5 9)) / v3))
  else none
  else none
  else none
  else none
  else none
set_option maxRecDepth 100000 in
set_option maxHeartbeats 4000000 in
theorem w_X10_allows_82 {p : Program} {l : Launch} {e : Env} {s : State} {m : MethodId} {args : Array Value} {below : List Frame} {meth : Method} {c : Code} {dC : Nat → ClassId} {dI : Nat → Nat → Nat} {cy : Nat → ClassId} {ad : Nat → Nat} {L : hL} {r : Int32} {X' : hX} (C : hC p s m args meth c dC dI cy ad L (hA ad L s.heap.size) cX10_allows 6 wsX10_allows RX10) (hr : meth.sig.returnType = (some .boolean)) : ∀ (v0 : Nat) (v1 : Int32) (v3 : Int32) (s0 : Int32) (s1 : Nat) (X : hX) (ls : Array Slot), f_X10_allows_82 L v0 v1 v3 s0 s1 X = some (r, X') → lv_has ls 6 [(0, .ref (ad v0)), (1, .int v1), (3, .int v3)] → hG p l e (headSpec wsX10_allows ({ frames := 2, cells := 0, slots := 0, locals := 43 } : Room)).room s m args below meth c dC dI cy ad L (hA ad L s.heap.size) 0 0 (MQ below (hQ dC dI cy ad L s.heap.size (some (.int r)) X') args s 0 0 (hA ad L s.heap.size)) X 82 ls [.int s0, .ref (ad s1)] := by
  intro v0 v1 v3 s0 s1 X ls h hl
  unfold f_X10_allows_82 at h
  obtain ⟨g1, h⟩ := hx_gd h
  refine hx_puti C (ci := 10) (j := 13) tyX10 tyX10_ok nmX10 g1 uX10_allows_10 (by decide) rfl (by decide) rfl (by decide +kernel) rfl rfl (tyX10_ok 13 (by decide)) dX10_allows_82 rfl rfl ?_
  refine hx_aload_n C dX10_allows_85 rfl (lv_at hl 0 rfl) ?_
  refine hx_aload_n C dX10_allows_86 rfl (lv_at hl 0 rfl) ?_
  refine hx_iload_n C dX10_allows_87 rfl (lv_at hl 1 rfl) ?_
  obtain ⟨r2, e3, h⟩ := hx_bind h
  obtain ⟨g4, h⟩ := hx_gd h
  refine hx_callV (As := [.int v1]) (rest := [.ref (ad v0)]) (n := 1) (Cn := RX10) C (c_X10_highest e3) gX10_allows_X10_highest g4 (by decide) rfl (by decide +kernel) ⟨Nat.le_of_ble_eq_true rfl, Nat.le_of_ble_eq_true rfl⟩ rfl rfl rfl ⟨Nat.zero_le _, Nat.zero_le _⟩ hl.1 rfl rfl (Nat.le_of_ble_eq_true rfl) dX10_allows_88 ?_
  refine hx_aload_n C dX10_allows_91 rfl (lv_at hl 0 rfl) ?_
  obtain ⟨q5, e6, h⟩ := hx_bind h
  refine hx_getr C (ci := 10) (j := 0) g4 uX10_allows_10 (by decide) rfl (by decide) rfl (by decide +kernel) rfl dX10_allows_92 e6 ?_
  refine hx_bipush (v := 9) C dX10_allows_95 (by decide) ?_
  obtain ⟨g7, h⟩ := hx_gd h
  obtain ⟨g8, h⟩ := hx_gd h
  refine hx_iald (n := 9) C g7 (hin_lit (i := 9) (by decide) rfl g8) rfl dX10_allows_97 ?_
  refine hx_iadd C dX10_allows_98 ?_
  refine hx_iload_n C dX10_allows_99 rfl (lv_at hl 2 rfl) ?_
  obtain ⟨g9, h⟩ := hx_gd h
  refine hx_idiv C dX10_allows_100 g9 ?_
  refine hx_puti C (ci := 10) (j := 14) tyX10 tyX10_ok nmX10 g4 uX10_allows_10 (by decide) rfl (by decide) rfl (by decide +kernel) rfl rfl (tyX10_ok 14 (by decide)) dX10_allows_101 rfl rfl ?_
  refine hx_aload_n C dX10_allows_104 rfl (lv_at hl 0 rfl) ?_
  refine hx_geti C (ci := 10) (j := 13) g4 uX10_allows_10 (by decide) rfl (by decide) rfl (by decide +kernel) rfl dX10_allows_105 ?_
  refine hx_aload_n C dX10_allows_108 rfl (lv_at hl 0 rfl) ?_
  refine hx_geti C (ci := 10) (j := 14) g4 uX10_allows_10 (by decide) rfl (by decide) rfl (by decide +kernel) rfl dX10_allows_109 ?_
  refine hx_icmp_gt (tgt := 119) C dX10_allows_112 (by decide) (fun c10 => ?_) (fun c10 => ?_)
  · have h := hx_pos c10 h
    refine hx_iconst (v := 0) C dX10_allows_119 (by decide) ?_
    obtain ⟨rfl, rfl⟩ := hx_some2 h
    exact hx_zret C hr rfl dX10_allows_120
  · have h := hx_neg c10 h
    refine hx_iconst (v := 1) C dX10_allows_115 (by decide) ?_
    refine hx_goto (tgt := 120) C dX10_allows_116 (by decide) ?_
    obtain ⟨rfl, rfl⟩ := hx_some2 h
    exact hx_zret C hr rfl dX10_allows_120
def f_X10_allows (L : hL) (X : hX) (this : Nat) (a1 : Int32) (a2 : Int32) : Option (Int32 × hX) :=
  if tk L this 10 then
  (X.2 this 0).bind fun q12 =>
  if tk L q12 12 then
  if 8 < L.2.2 q12 then
  if ¬ (X.1 q12 8) = 0 then
  if (a1 - a1 / (X.1 q12 8) * (X.1 q12 8)) = 0 then
    if hin a2 (L.2.2 q12) then
    if hin (4 + a2) (L.2.2 q12) then
    (f_X10_lowest L X this a1).bind fun r20 =>
    if 9 < L.2.2 q12 then
    if 0 < (r20 - (X.1 q12 9)) then
      if ¬ ((X.1 q12 (Int32.toNatClampNeg a2)) + (X.1 q12 (Int32.toNatClampNeg (4 + a2)))) = 0 then
      f_X10_allows_82 L this a1 ((X.1 q12 (Int32.toNatClampNeg a2)) - (X.1 q12 (Int32.toNatClampNeg (4 + a2)))) ((((r20 - (X.1 q12 9)) + ((X.1 q12 (Int32.toNatClampNeg a2)) + (X.1 q12 (Int32.toNatClampNeg (4 + a2))))) - 1) / ((X.1 q12 (Int32.toNatClampNeg a2)) + (X.1 q12 (Int32.toNatClampNeg (4 + a2))))) this X
      else none
    else
      f_X10_allows_82 L this a1 ((X.1 q12 (Int32.toNatClampNeg a2)) - (X.1 q12 (Int32.toNatClampNeg (4 + a2)))) 0 this X
    else none
    else none
    else none
  else
    some (0, X)
  else none
  else none
  else none
  else none
set_option maxRecDepth 100000 in
set_option maxHeartbeats 4000000 in
theorem c_X10_allows {l : Launch} {dC : Nat → ClassId} {dI : Nat → Nat → Nat} {cy : Nat → ClassId} {ad : Nat → Nat} {L : hL} {X : hX} {this : Nat} {a1 : Int32} {a2 : Int32} {r : Int32} {X' : hX} (h : f_X10_allows L X this a1 a2 = some (r, X')) : hMet l dC dI cy ad L yX10_allows wsX10_allows ({ frames := 2, cells := 0, slots := 0, locals := 43 } : Room) [.ref (ad this), .int a1, .int a2] X (some (.int r)) X' := by
  unfold f_X10_allows at h
  refine hx_enter RX10 (plainFor_of_name (by decide)) rfl rfl (Nat.le_of_ble_eq_true rfl) (fun p e s m args below meth c C hr hnm ls hl => ?_)
  have hl : lv_has ls 6 [(0, .ref (ad this)), (1, .int a1), (2, .int a2)] := hl
  refine hx_iload_n C dX10_allows_0 rfl (lv_at hl 1 rfl) ?_
  refine hx_aload_n C dX10_allows_1 rfl (lv_at hl 0 rfl) ?_
  obtain ⟨g11, h⟩ := hx_gd h
  obtain ⟨q12, e13, h⟩ := hx_bind h
  refine hx_getr C (ci := 10) (j := 0) g11 uX10_allows_10 (by decide) rfl (by decide) rfl (by decide +kernel) rfl dX10_allows_2 e13 ?_
  refine hx_bipush (v := 8) C dX10_allows_5 (by decide) ?_
  obtain ⟨g14, h⟩ := hx_gd h
  obtain ⟨g15, h⟩ := hx_gd h
  refine hx_iald (n := 8) C g14 (hin_lit (i := 8) (by decide) rfl g15) rfl dX10_allows_7 ?_
  obtain ⟨g16, h⟩ := hx_gd h
  refine hx_irem C dX10_allows_8 g16 ?_
  refine hx_if_eq (tgt := 14) C dX10_allows_9 (by decide) (fun c17 => ?_) (fun c17 => ?_)
  · have h := hx_pos c17 h
    refine hx_aload_n C dX10_allows_14 rfl (lv_at hl 0 rfl) ?_
    refine hx_getr C (ci := 10) (j := 0) g11 uX10_allows_10 (by decide) rfl (by decide) rfl (by decide +kernel) rfl dX10_allows_15 e13 ?_
    refine hx_iload_n C dX10_allows_18 rfl (lv_at hl 2 rfl) ?_
    obtain ⟨g18, h⟩ := hx_gd h
    refine hx_iald (n := (Int32.toNatClampNeg a2)) C g14 g18 rfl dX10_allows_19 ?_
    refine hx_aload_n C dX10_allows_20 rfl (lv_at hl 0 rfl) ?_
    refine hx_getr C (ci := 10) (j := 0) g11 uX10_allows_10 (by decide) rfl (by decide) rfl (by decide +kernel) rfl dX10_allows_21 e13 ?_
    refine hx_iconst (v := 4) C dX10_allows_24 (by decide) ?_
    refine hx_iload_n C dX10_allows_25 rfl (lv_at hl 2 rfl) ?_
    refine hx_iadd C dX10_allows_26 ?_
    obtain ⟨g19, h⟩ := hx_gd h
    refine hx_iald (n := (Int32.toNatClampNeg (4 + a2))) C g14 g19 rfl dX10_allows_27 ?_
    refine hx_isub C dX10_allows_28 ?_
    refine hx_istore_n (lv' := [(3, .int ((X.1 q12 (Int32.toNatClampNeg a2)) - (X.1 q12 (Int32.toNatClampNeg (4 + a2))))), (0, .ref (ad this)), (1, .int a1), (2, .int a2)]) C dX10_allows_29 rfl hl (by decide) rfl (fun ls hl => ?_)
    refine hx_aload_n C dX10_allows_30 rfl (lv_at hl 1 rfl) ?_
    refine hx_getr C (ci := 10) (j := 0) g11 uX10_allows_10 (by decide) rfl (by decide) rfl (by decide +kernel) rfl dX10_allows_31 e13 ?_
    refine hx_iload_n C dX10_allows_34 rfl (lv_at hl 3 rfl) ?_
    refine hx_iald (n := (Int32.toNatClampNeg a2)) C g14 g18 rfl dX10_allows_35 ?_
    refine hx_aload_n C dX10_allows_36 rfl (lv_at hl 1 rfl) ?_
    refine hx_getr C (ci := 10) (j := 0) g11 uX10_allows_10 (by decide) rfl (by decide) rfl (by decide +kernel) rfl dX10_allows_37 e13 ?_
    refine hx_iconst (v := 4) C dX10_allows_40 (by decide) ?_
    refine hx_iload_n C dX10_allows_41 rfl (lv_at hl 3 rfl) ?_
    refine hx_iadd C dX10_allows_42 ?_
    refine hx_iald (n := (Int32.toNatClampNeg (4 + a2))) C g14 g19 rfl dX10_allows_43 ?_
    refine hx_iadd C dX10_allows_44 ?_
    refine hx_istore (lv' := [(4, .int ((X.1 q12 (Int32.toNatClampNeg a2)) + (X.1 q12 (Int32.toNatClampNeg (4 + a2))))), (3, .int ((X.1 q12 (Int32.toNatClampNeg a2)) - (X.1 q12 (Int32.toNatClampNeg (4 + a2))))), (0, .ref (ad this)), (1, .int a1), (2, .int a2)]) C dX10_allows_45 hl (by decide) rfl (fun ls hl => ?_)
    refine hx_aload_n C dX10_allows_47 rfl (lv_at hl 2 rfl) ?_
    refine hx_iload_n C dX10_allows_48 rfl (lv_at hl 3 rfl) ?_
    obtain ⟨r20, e21, h⟩ := hx_bind h
    refine hx_callV (As := [.int a1]) (rest := []) (n := 1) (Cn := RX10) C (c_X10_lowest e21) gX10_allows_X10_lowest g11 (by decide) rfl (by decide +kernel) ⟨Nat.le_of_ble_eq_true rfl, Nat.le_of_ble_eq_true rfl⟩ rfl rfl rfl ⟨Nat.zero_le _, Nat.zero_le _⟩ hl.1 rfl rfl (Nat.le_of_ble_eq_true rfl) dX10_allows_49 ?_
    refine hx_aload_n C dX10_allows_52 rfl (lv_at hl 2 rfl) ?_
    refine hx_getr C (ci := 10) (j := 0) g11 uX10_allows_10 (by decide) rfl (by decide) rfl (by decide +kernel) rfl dX10_allows_53 e13 ?_
    refine hx_bipush (v := 9) C dX10_allows_56 (by decide) ?_
    obtain ⟨g22, h⟩ := hx_gd h
    refine hx_iald (n := 9) C g14 (hin_lit (i := 9) (by decide) rfl g22) rfl dX10_allows_58 ?_
    refine hx_isub C dX10_allows_59 ?_
    refine hx_istore (lv' := [(5, .int (r20 - (X.1 q12 9))), (4, .int ((X.1 q12 (Int32.toNatClampNeg a2)) + (X.1 q12 (Int32.toNatClampNeg (4 + a2))))), (3, .int ((X.1 q12 (Int32.toNatClampNeg a2)) - (X.1 q12 (Int32.toNatClampNeg (4 + a2))))), (0, .ref (ad this)), (1, .int a1), (2, .int a2)]) C dX10_allows_60 hl (by decide) rfl (fun ls hl => ?_)
    refine hx_aload_n C dX10_allows_62 rfl (lv_at hl 3 rfl) ?_
    refine hx_iload C dX10_allows_63 (lv_at hl 0 rfl) ?_
    refine hx_if_gt (tgt := 72) C dX10_allows_65 (by decide) (fun c23 => ?_) (fun c23 => ?_)
    · have h := hx_pos c23 h
      refine hx_iload C dX10_allows_72 (lv_at hl 0 rfl) ?_
      refine hx_iload C dX10_allows_74 (lv_at hl 1 rfl) ?_
      refine hx_iadd C dX10_allows_76 ?_
      refine hx_iconst (v := 1) C dX10_allows_77 (by decide) ?_
      refine hx_isub C dX10_allows_78 ?_
      refine hx_iload C dX10_allows_79 (lv_at hl 1 rfl) ?_
      obtain ⟨g24, h⟩ := hx_gd h
      refine hx_idiv C dX10_allows_81 g24 ?_
      exact w_X10_allows_82 C hr this a1 ((X.1 q12 (Int32.toNatClampNeg a2)) - (X.1 q12 (Int32.toNatClampNeg (4 + a2)))) ((((r20 - (X.1 q12 9)) + ((X.1 q12 (Int32.toNatClampNeg a2)) + (X.1 q12 (Int32.toNatClampNeg (4 + a2))))) - 1) / ((X.1 q12 (Int32.toNatClampNeg a2)) + (X.1 q12 (Int32.toNatClampNeg (4 + a2))))) this X ls h (lv_sub hl [3, 4, 2] rfl)
    · have h := hx_neg c23 h
      refine hx_iconst (v := 0) C dX10_allows_68 (by decide) ?_
      refine hx_goto (tgt := 82) C dX10_allows_69 (by decide) ?_
      exact w_X10_allows_82 C hr this a1 ((X.1 q12 (Int32.toNatClampNeg a2)) - (X.1 q12 (Int32.toNatClampNeg (4 + a2)))) 0 this X ls h (lv_sub hl [3, 4, 2] rfl)
  · have h := hx_neg c17 h
    refine hx_iconst (v := 0) C dX10_allows_12 (by decide) ?_
    obtain ⟨rfl, rfl⟩ := hx_some2 h
    exact hx_zret C hr rfl dX10_allows_13
theorem uX10_guesses_10 : ∀ w ∈ u_ws RX10 TX10 15, w ∈ wsX10_guesses := by decide +kernel
def f_X10_guesses_93 (L : hL) (v0 : Nat) (s0 : Int32) (X : hX) : Option (Int32 × hX) :=
  if tk L v0 10 then
  if (X.1 v0 13) ≤ s0 then
    if s0 ≤ (X.1 v0 14) then
      some (s0, X)
    else
      some (X.1 v0 14, X)
  else
    some (X.1 v0 13, X)
  else none
set_option maxRecDepth 100000 in
set_option maxHeartbeats 4000000 in
theorem w_X10_guesses_93 {p : Program} {l : Launch} {e : Env} {s : State} {m : MethodId} {args : Array Value} {below : List Frame} {meth : Method} {c : Code} {dC : Nat → ClassId} {dI : Nat → Nat → Nat} {cy : Nat → ClassId} {ad : Nat → Nat} {L : hL} {r : Int32} {X' : hX} (C : hC p s m args meth c dC dI cy ad L (hA ad L s.heap.size) cX10_guesses 6 wsX10_guesses RX10) (hr : meth.sig.returnType = (some .int)) : ∀ (v0 : Nat) (s0 : Int32) (X : hX) (ls : Array Slot), f_X10_guesses_93 L v0 s0 X = some (r, X') → lv_has ls 6 [(0, .ref (ad v0))] → hG p l e (headSpec wsX10_guesses ({ frames := 3, cells := 0, slots := 0, locals := 68 } : Room)).room s m args below meth c dC dI cy ad L (hA ad L s.heap.size) 0 0 (MQ below (hQ dC dI cy ad L s.heap.size (some (.int r)) X') args s 0 0 (hA ad L s.heap.size)) X 93 ls [.int s0] := by
  intro v0 s0 X ls h hl
  unfold f_X10_guesses_93 at h
  refine hx_istore (lv' := [(5, .int s0), (0, .ref (ad v0))]) C dX10_guesses_93 hl (by decide) rfl (fun ls hl => ?_)
  refine hx_iload C dX10_guesses_95 (lv_at hl 0 rfl) ?_
  refine hx_aload_n C dX10_guesses_97 rfl (lv_at hl 1 rfl) ?_
  obtain ⟨g1, h⟩ := hx_gd h
  refine hx_geti C (ci := 10) (j := 13) g1 uX10_guesses_10 (by decide) rfl (by decide) rfl (by decide +kernel) rfl dX10_guesses_98 ?_
  refine hx_icmp_ge (tgt := 111) C dX10_guesses_101 (by decide) (fun c2 => ?_) (fun c2 => ?_)
  · have h := hx_pos c2 h
    refine hx_iload C dX10_guesses_111 (lv_at hl 0 rfl) ?_
    refine hx_aload_n C dX10_guesses_113 rfl (lv_at hl 1 rfl) ?_
    refine hx_geti C (ci := 10) (j := 14) g1 uX10_guesses_10 (by decide) rfl (by decide) rfl (by decide +kernel) rfl dX10_guesses_114 ?_
    refine hx_icmp_le (tgt := 127) C dX10_guesses_117 (by decide) (fun c3 => ?_) (fun c3 => ?_)
    · have h := hx_pos c3 h
      refine hx_iload C dX10_guesses_127 (lv_at hl 0 rfl) ?_
      obtain ⟨rfl, rfl⟩ := hx_some2 h
      exact hx_iret C hr dX10_guesses_129
    · have h := hx_neg c3 h
      refine hx_aload_n C dX10_guesses_120 rfl (lv_at hl 1 rfl) ?_
      refine hx_geti C (ci := 10) (j := 14) g1 uX10_guesses_10 (by decide) rfl (by decide) rfl (by decide +kernel) rfl dX10_guesses_121 ?_
      refine hx_goto (tgt := 129) C dX10_guesses_124 (by decide) ?_
      obtain ⟨rfl, rfl⟩ := hx_some2 h
      exact hx_iret C hr dX10_guesses_129
  · have h := hx_neg c2 h
    refine hx_aload_n C dX10_guesses_104 rfl (lv_at hl 1 rfl) ?_
    refine hx_geti C (ci := 10) (j := 13) g1 uX10_guesses_10 (by decide) rfl (by decide) rfl (by decide +kernel) rfl dX10_guesses_105 ?_
    refine hx_goto (tgt := 129) C dX10_guesses_108 (by decide) ?_
    obtain ⟨rfl, rfl⟩ := hx_some2 h
    exact hx_iret C hr dX10_guesses_129
def f_X10_guesses (L : hL) (X : hX) (this : Nat) (a1 : Int32) (a2 : Int32) (a3 : Int32) : Option (Int32 × hX) :=
  (f_X10_allows L X this a1 a2).bind fun r4 =>
  if tk L this 10 then
  if r4.1 = 0 then
    some ((-100009), r4.2)
  else
    if a3 = 1 then
      if a3 = 1 then
        some (r4.2.1 this 13, r4.2)
      else
        some (r4.2.1 this 14, r4.2)
    else
      if a3 = 2 then
        if a3 = 1 then
          some (r4.2.1 this 13, r4.2)
        else
          some (r4.2.1 this 14, r4.2)
      else
        if a3 = 3 then
          some (((r4.2.1 this 13) + (r4.2.1 this 14)) / 2, r4.2)
        else
          (r4.2.2 this 0).bind fun q12 =>
          if tk L q12 12 then
          if hin a2 (L.2.2 q12) then
          if ¬ (r4.2.1 q12 (Int32.toNatClampNeg a2)) = 0 then
          if (2 * (a1 - ((a1 / (r4.2.1 q12 (Int32.toNatClampNeg a2))) * (r4.2.1 q12 (Int32.toNatClampNeg a2))))) ≤ (r4.2.1 q12 (Int32.toNatClampNeg a2)) then
            f_X10_guesses_93 L this (a1 / (r4.2.1 q12 (Int32.toNatClampNeg a2))) r4.2
          else
            f_X10_guesses_93 L this ((a1 / (r4.2.1 q12 (Int32.toNatClampNeg a2))) + 1) r4.2
          else none
          else none
          else none
  else none
set_option maxRecDepth 100000 in
set_option maxHeartbeats 4000000 in
theorem c_X10_guesses {l : Launch} {dC : Nat → ClassId} {dI : Nat → Nat → Nat} {cy : Nat → ClassId} {ad : Nat → Nat} {L : hL} {X : hX} {this : Nat} {a1 : Int32} {a2 : Int32} {a3 : Int32} {r : Int32} {X' : hX} (h : f_X10_guesses L X this a1 a2 a3 = some (r, X')) : hMet l dC dI cy ad L yX10_guesses wsX10_guesses ({ frames := 3, cells := 0, slots := 0, locals := 68 } : Room) [.ref (ad this), .int a1, .int a2, .int a3] X (some (.int r)) X' := by
  unfold f_X10_guesses at h
  refine hx_enter RX10 (plainFor_of_name (by decide)) rfl rfl (Nat.le_of_ble_eq_true rfl) (fun p e s m args below meth c C hr hnm ls hl => ?_)
  have hl : lv_has ls 6 [(0, .ref (ad this)), (1, .int a1), (2, .int a2), (3, .int a3)] := hl
  refine hx_aload_n C dX10_guesses_0 rfl (lv_at hl 0 rfl) ?_
  refine hx_iload_n C dX10_guesses_1 rfl (lv_at hl 1 rfl) ?_
  refine hx_iload_n C dX10_guesses_2 rfl (lv_at hl 2 rfl) ?_
  obtain ⟨r4, e5, h⟩ := hx_bind h
  obtain ⟨g6, h⟩ := hx_gd h
  refine hx_callV (As := [.int a1, .int a2]) (rest := []) (n := 2) (Cn := RX10) C (c_X10_allows e5) gX10_guesses_X10_allows g6 (by decide) rfl (by decide +kernel) ⟨Nat.le_of_ble_eq_true rfl, Nat.le_of_ble_eq_true rfl⟩ rfl rfl rfl ⟨Nat.zero_le _, Nat.zero_le _⟩ hl.1 rfl rfl (Nat.le_of_ble_eq_true rfl) dX10_guesses_3 ?_
  refine hx_if_ne (tgt := 12) C dX10_guesses_6 (by decide) (fun c7 => ?_) (fun c7 => ?_)
  · have h := hx_neg c7 h
    refine hx_iload_n C dX10_guesses_12 rfl (lv_at hl 3 rfl) ?_
    refine hx_iconst (v := 1) C dX10_guesses_13 (by decide) ?_
    refine hx_icmp_eq (tgt := 22) C dX10_guesses_14 (by decide) (fun c8 => ?_) (fun c8 => ?_)
    · have h := hx_pos c8 h
      refine hx_iload_n C dX10_guesses_22 rfl (lv_at hl 3 rfl) ?_
      refine hx_iconst (v := 1) C dX10_guesses_23 (by decide) ?_
      refine hx_icmp_ne (tgt := 34) C dX10_guesses_24 (by decide) (fun c9 => ?_) (fun c9 => ?_)
      · have h := hx_neg c9 h
        refine hx_aload_n C dX10_guesses_34 rfl (lv_at hl 0 rfl) ?_
        refine hx_geti C (ci := 10) (j := 14) g6 uX10_guesses_10 (by decide) rfl (by decide) rfl (by decide +kernel) rfl dX10_guesses_35 ?_
        obtain ⟨rfl, rfl⟩ := hx_some2 h
        exact hx_iret C hr dX10_guesses_38
      · have h := hx_pos c9 h
        refine hx_aload_n C dX10_guesses_27 rfl (lv_at hl 0 rfl) ?_
        refine hx_geti C (ci := 10) (j := 13) g6 uX10_guesses_10 (by decide) rfl (by decide) rfl (by decide +kernel) rfl dX10_guesses_28 ?_
        refine hx_goto (tgt := 38) C dX10_guesses_31 (by decide) ?_
        obtain ⟨rfl, rfl⟩ := hx_some2 h
        exact hx_iret C hr dX10_guesses_38
    · have h := hx_neg c8 h
      refine hx_iload_n C dX10_guesses_17 rfl (lv_at hl 3 rfl) ?_
      refine hx_iconst (v := 2) C dX10_guesses_18 (by decide) ?_
      refine hx_icmp_ne (tgt := 39) C dX10_guesses_19 (by decide) (fun c10 => ?_) (fun c10 => ?_)
      · have h := hx_neg c10 h
        refine hx_iload_n C dX10_guesses_39 rfl (lv_at hl 3 rfl) ?_
        refine hx_iconst (v := 3) C dX10_guesses_40 (by decide) ?_
        refine hx_icmp_ne (tgt := 56) C dX10_guesses_41 (by decide) (fun c11 => ?_) (fun c11 => ?_)
        · have h := hx_neg c11 h
          refine hx_aload_n C dX10_guesses_56 rfl (lv_at hl 0 rfl) ?_
          obtain ⟨q12, e13, h⟩ := hx_bind h
          refine hx_getr C (ci := 10) (j := 0) g6 uX10_guesses_10 (by decide) rfl (by decide) rfl (by decide +kernel) rfl dX10_guesses_57 e13 ?_
          refine hx_iload_n C dX10_guesses_60 rfl (lv_at hl 2 rfl) ?_
          obtain ⟨g14, h⟩ := hx_gd h
          obtain ⟨g15, h⟩ := hx_gd h
          refine hx_iald (n := (Int32.toNatClampNeg a2)) C g14 g15 rfl dX10_guesses_61 ?_
          refine hx_istore (lv' := [(4, .int (r4.2.1 q12 (Int32.toNatClampNeg a2))), (0, .ref (ad this)), (1, .int a1), (2, .int a2), (3, .int a3)]) C dX10_guesses_62 hl (by decide) rfl (fun ls hl => ?_)
          refine hx_iload_n C dX10_guesses_64 rfl (lv_at hl 2 rfl) ?_
          refine hx_iload C dX10_guesses_65 (lv_at hl 0 rfl) ?_
          obtain ⟨g16, h⟩ := hx_gd h
          refine hx_idiv C dX10_guesses_67 g16 ?_
          refine hx_istore (lv' := [(5, .int (a1 / (r4.2.1 q12 (Int32.toNatClampNeg a2)))), (4, .int (r4.2.1 q12 (Int32.toNatClampNeg a2))), (0, .ref (ad this)), (1, .int a1), (2, .int a2), (3, .int a3)]) C dX10_guesses_68 hl (by decide) rfl (fun ls hl => ?_)
          refine hx_iconst (v := 2) C dX10_guesses_70 (by decide) ?_
          refine hx_iload_n C dX10_guesses_71 rfl (lv_at hl 3 rfl) ?_
          refine hx_iload C dX10_guesses_72 (lv_at hl 0 rfl) ?_
          refine hx_iload C dX10_guesses_74 (lv_at hl 1 rfl) ?_
          refine hx_imul C dX10_guesses_76 ?_
          refine hx_isub C dX10_guesses_77 ?_
          refine hx_imul C dX10_guesses_78 ?_
          refine hx_iload C dX10_guesses_79 (lv_at hl 1 rfl) ?_
          refine hx_icmp_le (tgt := 91) C dX10_guesses_81 (by decide) (fun c17 => ?_) (fun c17 => ?_)
          · have h := hx_pos c17 h
            refine hx_iload C dX10_guesses_91 (lv_at hl 0 rfl) ?_
            exact w_X10_guesses_93 C hr this (a1 / (r4.2.1 q12 (Int32.toNatClampNeg a2))) r4.2 ls h (lv_sub hl [2] rfl)
          · have h := hx_neg c17 h
            refine hx_iload C dX10_guesses_84 (lv_at hl 0 rfl) ?_
            refine hx_iconst (v := 1) C dX10_guesses_86 (by decide) ?_
            refine hx_iadd C dX10_guesses_87 ?_
            refine hx_goto (tgt := 93) C dX10_guesses_88 (by decide) ?_
            exact w_X10_guesses_93 C hr this ((a1 / (r4.2.1 q12 (Int32.toNatClampNeg a2))) + 1) r4.2 ls h (lv_sub hl [2] rfl)
        · have h := hx_pos c11 h
          refine hx_aload_n C dX10_guesses_44 rfl (lv_at hl 0 rfl) ?_
          refine hx_geti C (ci := 10) (j := 13) g6 uX10_guesses_10 (by decide) rfl (by decide) rfl (by decide +kernel) rfl dX10_guesses_45 ?_
          refine hx_aload_n C dX10_guesses_48 rfl (lv_at hl 0 rfl) ?_
          refine hx_geti C (ci := 10) (j := 14) g6 uX10_guesses_10 (by decide) rfl (by decide) rfl (by decide +kernel) rfl dX10_guesses_49 ?_
          refine hx_iadd C dX10_guesses_52 ?_
          refine hx_iconst (v := 2) C dX10_guesses_53 (by decide) ?_
          refine hx_idiv C dX10_guesses_54 (by decide) ?_
          obtain ⟨rfl, rfl⟩ := hx_some2 h
          exact hx_iret C hr dX10_guesses_55
      · have h := hx_pos c10 h
        refine hx_iload_n C dX10_guesses_22 rfl (lv_at hl 3 rfl) ?_
        refine hx_iconst (v := 1) C dX10_guesses_23 (by decide) ?_
        refine hx_icmp_ne (tgt := 34) C dX10_guesses_24 (by decide) (fun c18 => ?_) (fun c18 => ?_)
        · have h := hx_neg c18 h
          refine hx_aload_n C dX10_guesses_34 rfl (lv_at hl 0 rfl) ?_
          refine hx_geti C (ci := 10) (j := 14) g6 uX10_guesses_10 (by decide) rfl (by decide) rfl (by decide +kernel) rfl dX10_guesses_35 ?_
          obtain ⟨rfl, rfl⟩ := hx_some2 h
          exact hx_iret C hr dX10_guesses_38
        · have h := hx_pos c18 h
          refine hx_aload_n C dX10_guesses_27 rfl (lv_at hl 0 rfl) ?_
          refine hx_geti C (ci := 10) (j := 13) g6 uX10_guesses_10 (by decide) rfl (by decide) rfl (by decide +kernel) rfl dX10_guesses_28 ?_
          refine hx_goto (tgt := 38) C dX10_guesses_31 (by decide) ?_
          obtain ⟨rfl, rfl⟩ := hx_some2 h
          exact hx_iret C hr dX10_guesses_38
  · have h := hx_pos c7 h
    refine hx_ldc (v := (-100009)) C (by decide +kernel) dX10_guesses_9 ?_
    obtain ⟨rfl, rfl⟩ := hx_some2 h
    exact hx_iret C hr dX10_guesses_11
theorem uX10_kinds_10 : ∀ w ∈ u_ws RX10 TX10 15, w ∈ wsX10_kinds := by decide +kernel
def f_X10_kinds (L : hL) (X : hX) (this : Nat) (a1 : Int32) (a2 : Int32) (a3 : Int32) : Option (Int32 × hX) :=
  (f_X10_isKind L X a1).bind fun r1 =>
  if r1 = 0 then
    some ((-100001), X)
  else
    (f_X10_in L X a2 100 5000).bind fun r4 =>
    if r4 = 0 then
      some ((-100001), X)
    else
      (f_X10_in L X a3 0 50).bind fun r7 =>
      if r7 = 0 then
        some ((-100001), X)
      else
        if tk L this 10 then
        (X.2 this 0).bind fun q11 =>
        if tk L q11 12 then
        if hin a1 (L.2.2 q11) then
        if hin (4 + a1) (L.2.2 q11) then
        some (X.1 q11 (Int32.toNatClampNeg a1), smi (smi X q11 (Int32.toNatClampNeg a1) a2) q11 (Int32.toNatClampNeg (4 + a1)) a3)
        else none
        else none
        else none
        else none
set_option maxRecDepth 100000 in
set_option maxHeartbeats 4000000 in
theorem c_X10_kinds {l : Launch} {dC : Nat → ClassId} {dI : Nat → Nat → Nat} {cy : Nat → ClassId} {ad : Nat → Nat} {L : hL} {X : hX} {this : Nat} {a1 : Int32} {a2 : Int32} {a3 : Int32} {r : Int32} {X' : hX} (h : f_X10_kinds L X this a1 a2 a3 = some (r, X')) : hMet l dC dI cy ad L yX10_kinds wsX10_kinds ({ frames := 2, cells := 0, slots := 0, locals := 42 } : Room) [.ref (ad this), .int a1, .int a2, .int a3] X (some (.int r)) X' := by
  unfold f_X10_kinds at h
  refine hx_enter RX10 (plainFor_of_name (by decide)) rfl rfl (Nat.le_of_ble_eq_true rfl) (fun p e s m args below meth c C hr hnm ls hl => ?_)
  have hl : lv_has ls 5 [(0, .ref (ad this)), (1, .int a1), (2, .int a2), (3, .int a3)] := hl
  refine hx_iload_n C dX10_kinds_0 rfl (lv_at hl 1 rfl) ?_
  obtain ⟨r1, e2, h⟩ := hx_bind h
  refine hx_callS (As := [.int a1]) (rest := []) (n := 1) C (c_X10_isKind e2) gX10_kinds_X10_isKind (by decide +kernel) ⟨Nat.le_of_ble_eq_true rfl, Nat.le_of_ble_eq_true rfl⟩ rfl rfl rfl ⟨Nat.zero_le _, Nat.zero_le _⟩ hl.1 rfl rfl (Nat.le_of_ble_eq_true rfl) dX10_kinds_1 ?_
  refine hx_if_eq (tgt := 29) C dX10_kinds_4 (by decide) (fun c3 => ?_) (fun c3 => ?_)
  · have h := hx_pos c3 h
    refine hx_ldc (v := (-100001)) C (by decide +kernel) dX10_kinds_29 ?_
    obtain ⟨rfl, rfl⟩ := hx_some2 h
    exact hx_iret C hr dX10_kinds_31
  · have h := hx_neg c3 h
    refine hx_iload_n C dX10_kinds_7 rfl (lv_at hl 2 rfl) ?_
    refine hx_bipush (v := 100) C dX10_kinds_8 (by decide) ?_
    refine hx_sipush (v := 5000) C dX10_kinds_10 (by decide) ?_
    obtain ⟨r4, e5, h⟩ := hx_bind h
    refine hx_callS (As := [.int a2, .int 100, .int 5000]) (rest := []) (n := 3) C (c_X10_in e5) gX10_kinds_X10_in (by decide +kernel) ⟨Nat.le_of_ble_eq_true rfl, Nat.le_of_ble_eq_true rfl⟩ rfl rfl rfl ⟨Nat.zero_le _, Nat.zero_le _⟩ hl.1 rfl rfl (Nat.le_of_ble_eq_true rfl) dX10_kinds_13 ?_
    refine hx_if_eq (tgt := 29) C dX10_kinds_16 (by decide) (fun c6 => ?_) (fun c6 => ?_)
    · have h := hx_pos c6 h
      refine hx_ldc (v := (-100001)) C (by decide +kernel) dX10_kinds_29 ?_
      obtain ⟨rfl, rfl⟩ := hx_some2 h
      exact hx_iret C hr dX10_kinds_31
    · have h := hx_neg c6 h
      refine hx_iload_n C dX10_kinds_19 rfl (lv_at hl 3 rfl) ?_
      refine hx_iconst (v := 0) C dX10_kinds_20 (by decide) ?_
      refine hx_bipush (v := 50) C dX10_kinds_21 (by decide) ?_
      obtain ⟨r7, e8, h⟩ := hx_bind h
      refine hx_callS (As := [.int a3, .int 0, .int 50]) (rest := []) (n := 3) C (c_X10_in e8) gX10_kinds_X10_in (by decide +kernel) ⟨Nat.le_of_ble_eq_true rfl, Nat.le_of_ble_eq_true rfl⟩ rfl rfl rfl ⟨Nat.zero_le _, Nat.zero_le _⟩ hl.1 rfl rfl (Nat.le_of_ble_eq_true rfl) dX10_kinds_23 ?_
      refine hx_if_ne (tgt := 32) C dX10_kinds_26 (by decide) (fun c9 => ?_) (fun c9 => ?_)
      · have h := hx_neg c9 h
        refine hx_aload_n C dX10_kinds_32 rfl (lv_at hl 0 rfl) ?_
        obtain ⟨g10, h⟩ := hx_gd h
        obtain ⟨q11, e12, h⟩ := hx_bind h
        refine hx_getr C (ci := 10) (j := 0) g10 uX10_kinds_10 (by decide) rfl (by decide) rfl (by decide +kernel) rfl dX10_kinds_33 e12 ?_
        refine hx_iload_n C dX10_kinds_36 rfl (lv_at hl 1 rfl) ?_
        obtain ⟨g13, h⟩ := hx_gd h
        obtain ⟨g14, h⟩ := hx_gd h
        refine hx_iald (n := (Int32.toNatClampNeg a1)) C g13 g14 rfl dX10_kinds_37 ?_
        refine hx_istore (lv' := [(4, .int (X.1 q11 (Int32.toNatClampNeg a1))), (0, .ref (ad this)), (1, .int a1), (2, .int a2), (3, .int a3)]) C dX10_kinds_38 hl (by decide) rfl (fun ls hl => ?_)
        refine hx_aload_n C dX10_kinds_40 rfl (lv_at hl 1 rfl) ?_
        refine hx_getr C (ci := 10) (j := 0) g10 uX10_kinds_10 (by decide) rfl (by decide) rfl (by decide +kernel) rfl dX10_kinds_41 e12 ?_
        refine hx_iload_n C dX10_kinds_44 rfl (lv_at hl 2 rfl) ?_
        refine hx_iload_n C dX10_kinds_45 rfl (lv_at hl 3 rfl) ?_
        refine hx_iast (n := (Int32.toNatClampNeg a1)) C g13 g14 rfl dX10_kinds_46 ?_
        refine hx_aload_n C dX10_kinds_47 rfl (lv_at hl 1 rfl) ?_
        refine hx_getr C (ci := 10) (j := 0) g10 uX10_kinds_10 (by decide) rfl (by decide) rfl (by decide +kernel) rfl dX10_kinds_48 e12 ?_
        refine hx_iconst (v := 4) C dX10_kinds_51 (by decide) ?_
        refine hx_iload_n C dX10_kinds_52 rfl (lv_at hl 2 rfl) ?_
        refine hx_iadd C dX10_kinds_53 ?_
        refine hx_iload_n C dX10_kinds_54 rfl (lv_at hl 4 rfl) ?_
        obtain ⟨g15, h⟩ := hx_gd h
        refine hx_iast (n := (Int32.toNatClampNeg (4 + a1))) C g13 g15 rfl dX10_kinds_55 ?_
        refine hx_iload C dX10_kinds_56 (lv_at hl 0 rfl) ?_
        obtain ⟨rfl, rfl⟩ := hx_some2 h
        exact hx_iret C hr dX10_kinds_58
      · have h := hx_pos c9 h
        refine hx_ldc (v := (-100001)) C (by decide +kernel) dX10_kinds_29 ?_
        obtain ⟨rfl, rfl⟩ := hx_some2 h
        exact hx_iret C hr dX10_kinds_31
def f_X10_setKind (L : hL) (X : hX) (this : Nat) (a1 : Int32) (a2 : Int32) (a3 : Int32) : Option (Int32 × hX) :=
  (f_X10_keeps L X this).bind fun r1 =>
  if tk L this 10 then
  (f_X10_kinds L r1 this a1 a2 a3).bind fun r4 =>
  (f_X10_acted L r4.2 this r4.1).bind fun r6 =>
  some (r6.1, r6.2)
  else none
set_option maxRecDepth 100000 in
set_option maxHeartbeats 4000000 in
theorem c_X10_setKind {l : Launch} {dC : Nat → ClassId} {dI : Nat → Nat → Nat} {cy : Nat → ClassId} {ad : Nat → Nat} {L : hL} {X : hX} {this : Nat} {a1 : Int32} {a2 : Int32} {a3 : Int32} {r : Int32} {X' : hX} (h : f_X10_setKind L X this a1 a2 a3 = some (r, X')) : hMet l dC dI cy ad L yX10_setKind wsX10_setKind ({ frames := 3, cells := 0, slots := 0, locals := 66 } : Room) [.ref (ad this), .int a1, .int a2, .int a3] X (some (.int r)) X' := by
  unfold f_X10_setKind at h
  refine hx_enter RX10 (plainFor_of_name (by decide)) rfl rfl (Nat.le_of_ble_eq_true rfl) (fun p e s m args below meth c C hr hnm ls hl => ?_)
  have hl : lv_has ls 4 [(0, .ref (ad this)), (1, .int a1), (2, .int a2), (3, .int a3)] := hl
  refine hx_aload_n C dX10_setKind_0 rfl (lv_at hl 0 rfl) ?_
  obtain ⟨r1, e2, h⟩ := hx_bind h
  obtain ⟨g3, h⟩ := hx_gd h
  refine hx_callV (As := []) (rest := []) (n := 0) (Cn := RX10) C (c_X10_keeps e2) gX10_setKind_X10_keeps g3 (by decide) rfl (by decide +kernel) ⟨Nat.le_of_ble_eq_true rfl, Nat.le_of_ble_eq_true rfl⟩ rfl rfl rfl ⟨Nat.zero_le _, Nat.zero_le _⟩ hl.1 rfl rfl (Nat.le_of_ble_eq_true rfl) dX10_setKind_1 ?_
  refine hx_aload_n C dX10_setKind_4 rfl (lv_at hl 0 rfl) ?_
  refine hx_aload_n C dX10_setKind_5 rfl (lv_at hl 0 rfl) ?_
  refine hx_iload_n C dX10_setKind_6 rfl (lv_at hl 1 rfl) ?_
  refine hx_iload_n C dX10_setKind_7 rfl (lv_at hl 2 rfl) ?_
  refine hx_iload_n C dX10_setKind_8 rfl (lv_at hl 3 rfl) ?_
  obtain ⟨r4, e5, h⟩ := hx_bind h
  refine hx_callV (As := [.int a1, .int a2, .int a3]) (rest := [.ref (ad this)]) (n := 3) (Cn := RX10) C (c_X10_kinds e5) gX10_setKind_X10_kinds g3 (by decide) rfl (by decide +kernel) ⟨Nat.le_of_ble_eq_true rfl, Nat.le_of_ble_eq_true rfl⟩ rfl rfl rfl ⟨Nat.zero_le _, Nat.zero_le _⟩ hl.1 rfl rfl (Nat.le_of_ble_eq_true rfl) dX10_setKind_9 ?_
  obtain ⟨r6, e7, h⟩ := hx_bind h
  refine hx_callV (As := [.int r4.1]) (rest := []) (n := 1) (Cn := RX10) C (c_X10_acted e7) gX10_setKind_X10_acted g3 (by decide) rfl (by decide +kernel) ⟨Nat.le_of_ble_eq_true rfl, Nat.le_of_ble_eq_true rfl⟩ rfl rfl rfl ⟨Nat.zero_le _, Nat.zero_le _⟩ hl.1 rfl rfl (Nat.le_of_ble_eq_true rfl) dX10_setKind_12 ?_
  obtain ⟨rfl, rfl⟩ := hx_some2 h
  exact hx_iret C hr dX10_setKind_15
