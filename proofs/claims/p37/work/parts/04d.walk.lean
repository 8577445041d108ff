theorem uX0_given_0 : ∀ w ∈ u_ws RX0 TX0 9, w ∈ wsX0_given := by decide +kernel
theorem uX0_given_1 : ∀ w ∈ u_ws RX1 TX1 6, w ∈ wsX0_given := by decide +kernel
def f_X0_given_95 (L : hL) (k15 : Nat → Int32 → Int32 → Nat → Int32 → Int32 → hX → Option (Int32)) (v0 : Nat) (v1 : Int32) (v2 : Int32) (v3 : Nat) (v4 : Int32) (v5 : Int32) (X : hX) : Option (Int32) :=
  k15 v0 v1 v2 v3 v4 (v5 + 1) X
set_option maxRecDepth 100000 in
set_option maxHeartbeats 4000000 in
theorem w_X0_given_95 {p : Program} {l : Launch} {e : Env} {s : State} {m : MethodId} {args : Array Value} {below : List Frame} {meth : Method} {c : Code} {dC : Nat → ClassId} {dI : Nat → Nat → Nat} {cy : Nat → ClassId} {ad : Nat → Nat} {L : hL} {r : Int32} (k15 : Nat → Int32 → Int32 → Nat → Int32 → Int32 → hX → Option (Int32)) (C : hC p s m args meth c dC dI cy ad L (hA ad L s.heap.size) cX0_given 9 wsX0_given RX0) (hr : meth.sig.returnType = (some .int)) (hk15 : ∀ (v0 : Nat) (v1 : Int32) (v2 : Int32) (v3 : Nat) (v4 : Int32) (v5 : Int32) (X : hX) (ls : Array Slot), k15 v0 v1 v2 v3 v4 v5 X = some r → lv_has ls 9 [(0, .ref (ad v0)), (1, .int v1), (2, .int v2), (3, .ref (ad v3)), (4, .int v4), (5, .int v5)] → hG p l e (headSpec wsX0_given ({ frames := 4, cells := 0, slots := 0, locals := 92 } : Room)).room s m args below meth c dC dI cy ad L (hA ad L s.heap.size) 0 0 (MQ below (hQ dC dI cy ad L s.heap.size (some (.int r)) X) args s 0 0 (hA ad L s.heap.size)) X 15 ls []) : ∀ (v0 : Nat) (v1 : Int32) (v2 : Int32) (v3 : Nat) (v4 : Int32) (v5 : Int32) (X : hX) (ls : Array Slot), f_X0_given_95 L k15 v0 v1 v2 v3 v4 v5 X = some r → lv_has ls 9 [(0, .ref (ad v0)), (1, .int v1), (2, .int v2), (3, .ref (ad v3)), (4, .int v4), (5, .int v5)] → hG p l e (headSpec wsX0_given ({ frames := 4, cells := 0, slots := 0, locals := 92 } : Room)).room s m args below meth c dC dI cy ad L (hA ad L s.heap.size) 0 0 (MQ below (hQ dC dI cy ad L s.heap.size (some (.int r)) X) args s 0 0 (hA ad L s.heap.size)) X 95 ls [] := by
  intro v0 v1 v2 v3 v4 v5 X ls h hl
  unfold f_X0_given_95 at h
  refine hx_iinc (v := v5 + 1) (lv' := [(5, .int (v5 + 1)), (0, .ref (ad v0)), (1, .int v1), (2, .int v2), (3, .ref (ad v3)), (4, .int v4)]) C dX0_given_95 hl (k := 5) rfl rfl (by decide) rfl (fun ls hl => ?_)
  refine hx_goto (tgt := 15) C dX0_given_98 (by decide) ?_
  exact hk15 v0 v1 v2 v3 v4 (v5 + 1) X ls h (lv_sub hl [1, 2, 3, 4, 5, 0] rfl)
def f_X0_given_72 (L : hL) (k15 : Nat → Int32 → Int32 → Nat → Int32 → Int32 → hX → Option (Int32)) (v0 : Nat) (v1 : Int32) (v2 : Int32) (v3 : Nat) (v4 : Int32) (v5 : Int32) (v6 : Nat) (s0 : Int32) (X : hX) : Option (Int32) :=
  if s0 = (-100009) then
    some (-100009)
  else
    if tk L v6 1 then
    f_X0_given_95 L k15 v0 v1 (v2 + (s0 - (X.1 v6 3))) v3 v4 v5 X
    else none
set_option maxRecDepth 100000 in
set_option maxHeartbeats 4000000 in
theorem w_X0_given_72 {p : Program} {l : Launch} {e : Env} {s : State} {m : MethodId} {args : Array Value} {below : List Frame} {meth : Method} {c : Code} {dC : Nat → ClassId} {dI : Nat → Nat → Nat} {cy : Nat → ClassId} {ad : Nat → Nat} {L : hL} {r : Int32} (k15 : Nat → Int32 → Int32 → Nat → Int32 → Int32 → hX → Option (Int32)) (C : hC p s m args meth c dC dI cy ad L (hA ad L s.heap.size) cX0_given 9 wsX0_given RX0) (hr : meth.sig.returnType = (some .int)) (hk15 : ∀ (v0 : Nat) (v1 : Int32) (v2 : Int32) (v3 : Nat) (v4 : Int32) (v5 : Int32) (X : hX) (ls : Array Slot), k15 v0 v1 v2 v3 v4 v5 X = some r → lv_has ls 9 [(0, .ref (ad v0)), (1, .int v1), (2, .int v2), (3, .ref (ad v3)), (4, .int v4), (5, .int v5)] → hG p l e (headSpec wsX0_given ({ frames := 4, cells := 0, slots := 0, locals := 92 } : Room)).room s m args below meth c dC dI cy ad L (hA ad L s.heap.size) 0 0 (MQ below (hQ dC dI cy ad L s.heap.size (some (.int r)) X) args s 0 0 (hA ad L s.heap.size)) X 15 ls []) : ∀ (v0 : Nat) (v1 : Int32) (v2 : Int32) (v3 : Nat) (v4 : Int32) (v5 : Int32) (v6 : Nat) (s0 : Int32) (X : hX) (ls : Array Slot), f_X0_given_72 L k15 v0 v1 v2 v3 v4 v5 v6 s0 X = some r → lv_has ls 9 [(0, .ref (ad v0)), (1, .int v1), (2, .int v2), (3, .ref (ad v3)), (4, .int v4), (5, .int v5), (6, .ref (ad v6))] → hG p l e (headSpec wsX0_given ({ frames := 4, cells := 0, slots := 0, locals := 92 } : Room)).room s m args below meth c dC dI cy ad L (hA ad L s.heap.size) 0 0 (MQ below (hQ dC dI cy ad L s.heap.size (some (.int r)) X) args s 0 0 (hA ad L s.heap.size)) X 72 ls [.int s0] := by
  intro v0 v1 v2 v3 v4 v5 v6 s0 X ls h hl
  unfold f_X0_given_72 at h
  refine hx_istore (lv' := [(8, .int s0), (0, .ref (ad v0)), (1, .int v1), (2, .int v2), (3, .ref (ad v3)), (4, .int v4), (5, .int v5), (6, .ref (ad v6))]) C dX0_given_72 hl (by decide) rfl (fun ls hl => ?_)
  refine hx_iload C dX0_given_74 (lv_at hl 0 rfl) ?_
  refine hx_ldc (v := (-100009)) C (by decide +kernel) dX0_given_76 ?_
  refine hx_icmp_ne (tgt := 84) C dX0_given_78 (by decide) (fun c1 => ?_) (fun c1 => ?_)
  · have h := hx_neg c1 h
    refine hx_iload_n C dX0_given_84 rfl (lv_at hl 3 rfl) ?_
    refine hx_iload C dX0_given_85 (lv_at hl 0 rfl) ?_
    refine hx_aload C dX0_given_87 (lv_at hl 7 rfl) ?_
    obtain ⟨g2, h⟩ := hx_gd h
    refine hx_geti C (ci := 1) (j := 3) g2 uX0_given_1 (by decide) rfl (by decide) rfl (by decide +kernel) rfl dX0_given_89 ?_
    refine hx_isub C dX0_given_92 ?_
    refine hx_iadd C dX0_given_93 ?_
    refine hx_istore_n (lv' := [(2, .int (v2 + (s0 - (X.1 v6 3)))), (8, .int s0), (0, .ref (ad v0)), (1, .int v1), (3, .ref (ad v3)), (4, .int v4), (5, .int v5), (6, .ref (ad v6))]) C dX0_given_94 rfl hl (by decide) rfl (fun ls hl => ?_)
    exact w_X0_given_95 k15 C hr hk15 v0 v1 (v2 + (s0 - (X.1 v6 3))) v3 v4 v5 X ls h (lv_sub hl [2, 3, 0, 4, 5, 6] rfl)
  · have h := hx_pos c1 h
    refine hx_ldc (v := (-100009)) C (by decide +kernel) dX0_given_81 ?_
    obtain rfl := hx_some1 h
    exact hx_iret C hr dX0_given_83
def f_X0_given_15 (L : hL) : Nat → Nat → Int32 → Int32 → Nat → Int32 → Int32 → hX → Option (Int32)
  | 0, _, _, _, _, _, _, _ => none
  | n + 1, v0, v1, v2, v3, v4, v5, X =>
    if v4 ≤ v5 then
      some v2
    else
      if tk L v3 15 then
      if hin v5 (L.2.2 v3) then
      (X.2 v3 (Int32.toNatClampNeg v5)).bind fun q6 =>
      if tk L q6 1 then
      if (X.1 q6 1) = 0 then
        f_X0_given_95 L (f_X0_given_15 L n) v0 v1 v2 v3 v4 v5 X
      else
        (f_X0_kindAt L X v0 (X.1 q6 2)).bind fun r10 =>
        if tk L v0 0 then
        Option.elim r10
        (
          f_X0_given_72 L (f_X0_given_15 L n) v0 v1 v2 v3 v4 v5 q6 (-100009) X)
        fun i13 =>
          (X.2 v0 1).bind fun q14 =>
          (f_X7_guessFrom L X q14 (X.1 q6 4) i13 v1).bind fun r16 =>
          if tk L q14 7 then
          f_X0_given_72 L (f_X0_given_15 L n) v0 v1 v2 v3 v4 v5 q6 r16 X
          else none
        else none
      else none
      else none
      else none
set_option maxRecDepth 100000 in
set_option maxHeartbeats 4000000 in
theorem w_X0_given_15 {p : Program} {l : Launch} {e : Env} {s : State} {m : MethodId} {args : Array Value} {below : List Frame} {meth : Method} {c : Code} {dC : Nat → ClassId} {dI : Nat → Nat → Nat} {cy : Nat → ClassId} {ad : Nat → Nat} {L : hL} {r : Int32} (C : hC p s m args meth c dC dI cy ad L (hA ad L s.heap.size) cX0_given 9 wsX0_given RX0) (hr : meth.sig.returnType = (some .int)) : ∀ (n : Nat) (v0 : Nat) (v1 : Int32) (v2 : Int32) (v3 : Nat) (v4 : Int32) (v5 : Int32) (X : hX) (ls : Array Slot), f_X0_given_15 L n v0 v1 v2 v3 v4 v5 X = some r → lv_has ls 9 [(0, .ref (ad v0)), (1, .int v1), (2, .int v2), (3, .ref (ad v3)), (4, .int v4), (5, .int v5)] → hG p l e (headSpec wsX0_given ({ frames := 4, cells := 0, slots := 0, locals := 92 } : Room)).room s m args below meth c dC dI cy ad L (hA ad L s.heap.size) 0 0 (MQ below (hQ dC dI cy ad L s.heap.size (some (.int r)) X) args s 0 0 (hA ad L s.heap.size)) X 15 ls [] := by
  intro n
  induction n with
  | zero => intro v0 v1 v2 v3 v4 v5 X ls h; cases h
  | succ n ih =>
    intro v0 v1 v2 v3 v4 v5 X ls h hl
    rw [f_X0_given_15] at h
    refine hx_iload C dX0_given_15 (lv_at hl 5 rfl) ?_
    refine hx_iload C dX0_given_17 (lv_at hl 4 rfl) ?_
    refine hx_icmp_ge (tgt := 101) C dX0_given_19 (by decide) (fun c3 => ?_) (fun c3 => ?_)
    · have h := hx_pos c3 h
      refine hx_iload_n C dX0_given_101 rfl (lv_at hl 2 rfl) ?_
      obtain rfl := hx_some1 h
      exact hx_iret C hr dX0_given_102
    · have h := hx_neg c3 h
      refine hx_aload_n C dX0_given_22 rfl (lv_at hl 3 rfl) ?_
      refine hx_iload C dX0_given_23 (lv_at hl 5 rfl) ?_
      obtain ⟨g4, h⟩ := hx_gd h
      obtain ⟨g5, h⟩ := hx_gd h
      obtain ⟨q6, e7, h⟩ := hx_bind h
      refine hx_aald (t0 := 4) C g4 (by decide) rfl g5 rfl e7 dX0_given_25 ?_
      refine hx_astore (lv' := [(6, .ref (ad q6)), (0, .ref (ad v0)), (1, .int v1), (2, .int v2), (3, .ref (ad v3)), (4, .int v4), (5, .int v5)]) C dX0_given_26 hl (by decide) rfl (fun ls hl => ?_)
      refine hx_aload C dX0_given_28 (lv_at hl 0 rfl) ?_
      obtain ⟨g8, h⟩ := hx_gd h
      refine hx_geti C (ci := 1) (j := 1) g8 uX0_given_1 (by decide) rfl (by decide) rfl (by decide +kernel) rfl dX0_given_30 ?_
      refine hx_if_eq (tgt := 95) C dX0_given_33 (by decide) (fun c9 => ?_) (fun c9 => ?_)
      · have h := hx_pos c9 h
        exact w_X0_given_95 (f_X0_given_15 L n) C hr ih v0 v1 v2 v3 v4 v5 X ls h (lv_sub hl [1, 2, 3, 4, 5, 6] rfl)
      · have h := hx_neg c9 h
        refine hx_aload_n C dX0_given_36 rfl (lv_at hl 1 rfl) ?_
        refine hx_aload C dX0_given_37 (lv_at hl 0 rfl) ?_
        refine hx_geti C (ci := 1) (j := 2) g8 uX0_given_1 (by decide) rfl (by decide) rfl (by decide +kernel) rfl dX0_given_39 ?_
        obtain ⟨r10, e11, h⟩ := hx_bind h
        obtain ⟨g12, h⟩ := hx_gd h
        refine hx_callV (As := [.int (X.1 q6 2)]) (rest := []) (n := 1) (Cn := RX0) C (c_X0_kindAt e11) gX0_given_X0_kindAt g12 (by decide) rfl (by decide +kernel) ⟨Nat.le_of_ble_eq_true rfl, Nat.le_of_ble_eq_true rfl⟩ rfl rfl rfl ⟨Nat.zero_le _, Nat.zero_le _⟩ hl.1 rfl rfl (Nat.le_of_ble_eq_true rfl) dX0_given_42 ?_
        rcases r10 with _ | i13
        · have h := hx_eln h
          refine hx_astoreN (lv' := [(7, .null), (6, .ref (ad q6)), (0, .ref (ad v0)), (1, .int v1), (2, .int v2), (3, .ref (ad v3)), (4, .int v4), (5, .int v5)]) C dX0_given_45 hl (by decide) rfl (fun ls hl => ?_)
          refine hx_aloadN C dX0_given_47 (lv_at hl 0 rfl) ?_
          refine hx_ifnonnullN C dX0_given_49 ?_
          refine hx_ldc (v := (-100009)) C (by decide +kernel) dX0_given_52 ?_
          refine hx_goto (tgt := 72) C dX0_given_54 (by decide) ?_
          exact w_X0_given_72 (f_X0_given_15 L n) C hr ih v0 v1 v2 v3 v4 v5 q6 (-100009) X ls h (lv_sub hl [2, 3, 4, 5, 6, 7, 1] rfl)
        · have h := hx_els h
          refine hx_astore (lv' := [(7, .ref (ad i13)), (6, .ref (ad q6)), (0, .ref (ad v0)), (1, .int v1), (2, .int v2), (3, .ref (ad v3)), (4, .int v4), (5, .int v5)]) C dX0_given_45 hl (by decide) rfl (fun ls hl => ?_)
          refine hx_aload C dX0_given_47 (lv_at hl 0 rfl) ?_
          refine hx_ifnonnull (tgt := 57) C dX0_given_49 (by decide) ?_
          refine hx_aload_n C dX0_given_57 rfl (lv_at hl 2 rfl) ?_
          obtain ⟨q14, e15, h⟩ := hx_bind h
          refine hx_getr C (ci := 0) (j := 1) g12 uX0_given_0 (by decide) rfl (by decide) rfl (by decide +kernel) rfl dX0_given_58 e15 ?_
          refine hx_aload C dX0_given_61 (lv_at hl 1 rfl) ?_
          refine hx_geti C (ci := 1) (j := 4) g8 uX0_given_1 (by decide) rfl (by decide) rfl (by decide +kernel) rfl dX0_given_63 ?_
          refine hx_aload C dX0_given_66 (lv_at hl 0 rfl) ?_
          refine hx_iload_n C dX0_given_68 rfl (lv_at hl 3 rfl) ?_
          obtain ⟨r16, e17, h⟩ := hx_bind h
          obtain ⟨g18, h⟩ := hx_gd h
          refine hx_callV (As := [.int (X.1 q6 4), .ref (ad i13), .int v1]) (rest := []) (n := 3) (Cn := RX7) C (c_X7_guessFrom e17) gX0_given_X7_guessFrom g18 (by decide) rfl (by decide +kernel) ⟨Nat.le_of_ble_eq_true rfl, Nat.le_of_ble_eq_true rfl⟩ rfl rfl rfl ⟨Nat.zero_le _, Nat.zero_le _⟩ hl.1 rfl rfl (Nat.le_of_ble_eq_true rfl) dX0_given_69 ?_
          exact w_X0_given_72 (f_X0_given_15 L n) C hr ih v0 v1 v2 v3 v4 v5 q6 r16 X ls h (lv_sub hl [2, 3, 4, 5, 6, 7, 1] rfl)
def f_X0_given (L : hL) (X : hX) (this : Nat) (a1 : Int32) : Option (Int32) :=
  if tk L this 0 then
  (X.2 this 2).bind fun q20 =>
  if tk L q20 15 then
  f_X0_given_15 L u_fuel this a1 100000 q20 (Int32.ofNat (L.2.2 q20)) 0 X
  else none
  else none
set_option maxRecDepth 100000 in
set_option maxHeartbeats 4000000 in
theorem c_X0_given {l : Launch} {dC : Nat → ClassId} {dI : Nat → Nat → Nat} {cy : Nat → ClassId} {ad : Nat → Nat} {L : hL} {X : hX} {this : Nat} {a1 : Int32} {r : Int32} (h : f_X0_given L X this a1 = some r) : hMet l dC dI cy ad L yX0_given wsX0_given ({ frames := 4, cells := 0, slots := 0, locals := 92 } : Room) [.ref (ad this), .int a1] X (some (.int r)) X := by
  unfold f_X0_given at h
  refine hx_enter RX0 (plainFor_of_name (by decide)) rfl rfl (Nat.le_of_ble_eq_true rfl) (fun p e s m args below meth c C hr hnm ls hl => ?_)
  have hl : lv_has ls 9 [(0, .ref (ad this)), (1, .int a1)] := hl
  refine hx_ldc (v := 100000) C (by decide +kernel) dX0_given_0 ?_
  refine hx_istore_n (lv' := [(2, .int 100000), (0, .ref (ad this)), (1, .int a1)]) C dX0_given_2 rfl hl (by decide) rfl (fun ls hl => ?_)
  refine hx_aload_n C dX0_given_3 rfl (lv_at hl 1 rfl) ?_
  obtain ⟨g19, h⟩ := hx_gd h
  obtain ⟨q20, e21, h⟩ := hx_bind h
  refine hx_getr C (ci := 0) (j := 2) g19 uX0_given_0 (by decide) rfl (by decide) rfl (by decide +kernel) rfl dX0_given_4 e21 ?_
  refine hx_astore_n (lv' := [(3, .ref (ad q20)), (2, .int 100000), (0, .ref (ad this)), (1, .int a1)]) C dX0_given_7 rfl hl (by decide) rfl (fun ls hl => ?_)
  refine hx_aload_n C dX0_given_8 rfl (lv_at hl 0 rfl) ?_
  obtain ⟨g22, h⟩ := hx_gd h
  refine hx_alenR (t0 := 4) C g22 (by decide) rfl dX0_given_9 ?_
  refine hx_istore (lv' := [(4, .int (Int32.ofNat (L.2.2 q20))), (3, .ref (ad q20)), (2, .int 100000), (0, .ref (ad this)), (1, .int a1)]) C dX0_given_10 hl (by decide) rfl (fun ls hl => ?_)
  refine hx_iconst (v := 0) C dX0_given_12 (by decide) ?_
  refine hx_istore (lv' := [(5, .int 0), (4, .int (Int32.ofNat (L.2.2 q20))), (3, .ref (ad q20)), (2, .int 100000), (0, .ref (ad this)), (1, .int a1)]) C dX0_given_13 hl (by decide) rfl (fun ls hl => ?_)
  exact w_X0_given_15 C hr u_fuel this a1 100000 q20 (Int32.ofNat (L.2.2 q20)) 0 X ls h (lv_sub hl [4, 5, 3, 2, 1, 0] rfl)
def f_X0_fairestRule_56 (L : hL) (k7 : Nat → Int32 → Int32 → Int32 → hX → Option (Int32)) (v0 : Nat) (v1 : Int32) (v2 : Int32) (v3 : Int32) (X : hX) : Option (Int32) :=
  k7 v0 v1 v2 (v3 + 1) X
set_option maxRecDepth 100000 in
set_option maxHeartbeats 4000000 in
theorem w_X0_fairestRule_56 {p : Program} {l : Launch} {e : Env} {s : State} {m : MethodId} {args : Array Value} {below : List Frame} {meth : Method} {c : Code} {dC : Nat → ClassId} {dI : Nat → Nat → Nat} {cy : Nat → ClassId} {ad : Nat → Nat} {L : hL} {r : Int32} (k7 : Nat → Int32 → Int32 → Int32 → hX → Option (Int32)) (C : hC p s m args meth c dC dI cy ad L (hA ad L s.heap.size) cX0_fairestRule 6 wsX0_fairestRule RX0) (hr : meth.sig.returnType = (some .int)) (hk7 : ∀ (v0 : Nat) (v1 : Int32) (v2 : Int32) (v3 : Int32) (X : hX) (ls : Array Slot), k7 v0 v1 v2 v3 X = some r → lv_has ls 6 [(0, .ref (ad v0)), (1, .int v1), (2, .int v2), (3, .int v3)] → hG p l e (headSpec wsX0_fairestRule ({ frames := 5, cells := 0, slots := 0, locals := 120 } : Room)).room s m args below meth c dC dI cy ad L (hA ad L s.heap.size) 0 0 (MQ below (hQ dC dI cy ad L s.heap.size (some (.int r)) X) args s 0 0 (hA ad L s.heap.size)) X 7 ls []) : ∀ (v0 : Nat) (v1 : Int32) (v2 : Int32) (v3 : Int32) (X : hX) (ls : Array Slot), f_X0_fairestRule_56 L k7 v0 v1 v2 v3 X = some r → lv_has ls 6 [(0, .ref (ad v0)), (1, .int v1), (2, .int v2), (3, .int v3)] → hG p l e (headSpec wsX0_fairestRule ({ frames := 5, cells := 0, slots := 0, locals := 120 } : Room)).room s m args below meth c dC dI cy ad L (hA ad L s.heap.size) 0 0 (MQ below (hQ dC dI cy ad L s.heap.size (some (.int r)) X) args s 0 0 (hA ad L s.heap.size)) X 56 ls [] := by
  intro v0 v1 v2 v3 X ls h hl
  unfold f_X0_fairestRule_56 at h
  refine hx_iinc (v := v3 + 1) (lv' := [(3, .int (v3 + 1)), (0, .ref (ad v0)), (1, .int v1), (2, .int v2)]) C dX0_fairestRule_56 hl (k := 3) rfl rfl (by decide) rfl (fun ls hl => ?_)
  refine hx_goto (tgt := 7) C dX0_fairestRule_59 (by decide) ?_
  exact hk7 v0 v1 v2 (v3 + 1) X ls h (lv_sub hl [1, 2, 3, 0] rfl)
def f_X0_fairestRule_51 (L : hL) (k7 : Nat → Int32 → Int32 → Int32 → hX → Option (Int32)) (v0 : Nat) (v3 : Int32) (v5 : Int32) (X : hX) : Option (Int32) :=
  f_X0_fairestRule_56 L k7 v0 v3 v5 v3 X
set_option maxRecDepth 100000 in
set_option maxHeartbeats 4000000 in
theorem w_X0_fairestRule_51 {p : Program} {l : Launch} {e : Env} {s : State} {m : MethodId} {args : Array Value} {below : List Frame} {meth : Method} {c : Code} {dC : Nat → ClassId} {dI : Nat → Nat → Nat} {cy : Nat → ClassId} {ad : Nat → Nat} {L : hL} {r : Int32} (k7 : Nat → Int32 → Int32 → Int32 → hX → Option (Int32)) (C : hC p s m args meth c dC dI cy ad L (hA ad L s.heap.size) cX0_fairestRule 6 wsX0_fairestRule RX0) (hr : meth.sig.returnType = (some .int)) (hk7 : ∀ (v0 : Nat) (v1 : Int32) (v2 : Int32) (v3 : Int32) (X : hX) (ls : Array Slot), k7 v0 v1 v2 v3 X = some r → lv_has ls 6 [(0, .ref (ad v0)), (1, .int v1), (2, .int v2), (3, .int v3)] → hG p l e (headSpec wsX0_fairestRule ({ frames := 5, cells := 0, slots := 0, locals := 120 } : Room)).room s m args below meth c dC dI cy ad L (hA ad L s.heap.size) 0 0 (MQ below (hQ dC dI cy ad L s.heap.size (some (.int r)) X) args s 0 0 (hA ad L s.heap.size)) X 7 ls []) : ∀ (v0 : Nat) (v3 : Int32) (v5 : Int32) (X : hX) (ls : Array Slot), f_X0_fairestRule_51 L k7 v0 v3 v5 X = some r → lv_has ls 6 [(0, .ref (ad v0)), (3, .int v3), (5, .int v5)] → hG p l e (headSpec wsX0_fairestRule ({ frames := 5, cells := 0, slots := 0, locals := 120 } : Room)).room s m args below meth c dC dI cy ad L (hA ad L s.heap.size) 0 0 (MQ below (hQ dC dI cy ad L s.heap.size (some (.int r)) X) args s 0 0 (hA ad L s.heap.size)) X 51 ls [] := by
  intro v0 v3 v5 X ls h hl
  unfold f_X0_fairestRule_51 at h
  refine hx_iload_n C dX0_fairestRule_51 rfl (lv_at hl 1 rfl) ?_
  refine hx_istore_n (lv' := [(1, .int v3), (0, .ref (ad v0)), (3, .int v3), (5, .int v5)]) C dX0_fairestRule_52 rfl hl (by decide) rfl (fun ls hl => ?_)
  refine hx_iload C dX0_fairestRule_53 (lv_at hl 3 rfl) ?_
  refine hx_istore_n (lv' := [(2, .int v5), (1, .int v3), (0, .ref (ad v0)), (3, .int v3), (5, .int v5)]) C dX0_fairestRule_55 rfl hl (by decide) rfl (fun ls hl => ?_)
  exact w_X0_fairestRule_56 k7 C hr hk7 v0 v3 v5 v3 X ls h (lv_sub hl [2, 1, 0, 3] rfl)
def f_X0_fairestRule_7 (L : hL) : Nat → Nat → Int32 → Int32 → Int32 → hX → Option (Int32)
  | 0, _, _, _, _, _ => none
  | n + 1, v0, v1, v2, v3, X =>
    if 4 ≤ v3 then
      some v1
    else
      (f_X0_given L X v0 v3).bind fun r2 =>
      if tk L v0 0 then
      if r2 = (-100009) then
        some (-100009)
      else
        if v1 = (-100009) then
          f_X0_fairestRule_51 L (f_X0_fairestRule_7 L n) v0 v3 (if 0 ≤ (r2 - 100000) then (r2 - 100000) else 0 - (r2 - 100000)) X
        else
          if v2 ≤ (if 0 ≤ (r2 - 100000) then (r2 - 100000) else 0 - (r2 - 100000)) then
            f_X0_fairestRule_56 L (f_X0_fairestRule_7 L n) v0 v1 v2 v3 X
          else
            f_X0_fairestRule_51 L (f_X0_fairestRule_7 L n) v0 v3 (if 0 ≤ (r2 - 100000) then (r2 - 100000) else 0 - (r2 - 100000)) X
      else none
set_option maxRecDepth 100000 in
set_option maxHeartbeats 4000000 in
theorem w_X0_fairestRule_7 {p : Program} {l : Launch} {e : Env} {s : State} {m : MethodId} {args : Array Value} {below : List Frame} {meth : Method} {c : Code} {dC : Nat → ClassId} {dI : Nat → Nat → Nat} {cy : Nat → ClassId} {ad : Nat → Nat} {L : hL} {r : Int32} (C : hC p s m args meth c dC dI cy ad L (hA ad L s.heap.size) cX0_fairestRule 6 wsX0_fairestRule RX0) (hr : meth.sig.returnType = (some .int)) : ∀ (n : Nat) (v0 : Nat) (v1 : Int32) (v2 : Int32) (v3 : Int32) (X : hX) (ls : Array Slot), f_X0_fairestRule_7 L n v0 v1 v2 v3 X = some r → lv_has ls 6 [(0, .ref (ad v0)), (1, .int v1), (2, .int v2), (3, .int v3)] → hG p l e (headSpec wsX0_fairestRule ({ frames := 5, cells := 0, slots := 0, locals := 120 } : Room)).room s m args below meth c dC dI cy ad L (hA ad L s.heap.size) 0 0 (MQ below (hQ dC dI cy ad L s.heap.size (some (.int r)) X) args s 0 0 (hA ad L s.heap.size)) X 7 ls [] := by
  intro n
  induction n with
  | zero => intro v0 v1 v2 v3 X ls h; cases h
  | succ n ih =>
    intro v0 v1 v2 v3 X ls h hl
    rw [f_X0_fairestRule_7] at h
    refine hx_iload_n C dX0_fairestRule_7 rfl (lv_at hl 3 rfl) ?_
    refine hx_iconst (v := 4) C dX0_fairestRule_8 (by decide) ?_
    refine hx_icmp_ge (tgt := 62) C dX0_fairestRule_9 (by decide) (fun c1 => ?_) (fun c1 => ?_)
    · have h := hx_pos c1 h
      refine hx_iload_n C dX0_fairestRule_62 rfl (lv_at hl 1 rfl) ?_
      obtain rfl := hx_some1 h
      exact hx_iret C hr dX0_fairestRule_63
    · have h := hx_neg c1 h
      refine hx_aload_n C dX0_fairestRule_12 rfl (lv_at hl 0 rfl) ?_
      refine hx_iload_n C dX0_fairestRule_13 rfl (lv_at hl 3 rfl) ?_
      obtain ⟨r2, e3, h⟩ := hx_bind h
      obtain ⟨g4, h⟩ := hx_gd h
      refine hx_callV (As := [.int v3]) (rest := []) (n := 1) (Cn := RX0) C (c_X0_given e3) gX0_fairestRule_X0_given g4 (by decide) rfl (by decide +kernel) ⟨Nat.le_of_ble_eq_true rfl, Nat.le_of_ble_eq_true rfl⟩ rfl rfl rfl ⟨Nat.zero_le _, Nat.zero_le _⟩ hl.1 rfl rfl (Nat.le_of_ble_eq_true rfl) dX0_fairestRule_14 ?_
      refine hx_istore (lv' := [(4, .int r2), (0, .ref (ad v0)), (1, .int v1), (2, .int v2), (3, .int v3)]) C dX0_fairestRule_17 hl (by decide) rfl (fun ls hl => ?_)
      refine hx_iload C dX0_fairestRule_19 (lv_at hl 0 rfl) ?_
      refine hx_ldc (v := (-100009)) C (by decide +kernel) dX0_fairestRule_21 ?_
      refine hx_icmp_ne (tgt := 29) C dX0_fairestRule_23 (by decide) (fun c5 => ?_) (fun c5 => ?_)
      · have h := hx_neg c5 h
        refine hx_iload C dX0_fairestRule_29 (lv_at hl 0 rfl) ?_
        refine hx_ldc (v := 100000) C (by decide +kernel) dX0_fairestRule_31 ?_
        refine hx_isub C dX0_fairestRule_33 ?_
        refine hx_mabs C (by decide +kernel) (by decide +kernel) (by decide +kernel) (by decide +kernel) hl.1 (Nat.le_of_ble_eq_true rfl) (Nat.le_of_ble_eq_true rfl) (Nat.zero_le _) (Nat.zero_le _) dX0_fairestRule_34 ?_
        refine hx_istore (lv' := [(5, .int ((if 0 ≤ (r2 - 100000) then (r2 - 100000) else 0 - (r2 - 100000)))), (4, .int r2), (0, .ref (ad v0)), (1, .int v1), (2, .int v2), (3, .int v3)]) C dX0_fairestRule_37 hl (by decide) rfl (fun ls hl => ?_)
        refine hx_iload_n C dX0_fairestRule_39 rfl (lv_at hl 3 rfl) ?_
        refine hx_ldc (v := (-100009)) C (by decide +kernel) dX0_fairestRule_40 ?_
        refine hx_icmp_eq (tgt := 51) C dX0_fairestRule_42 (by decide) (fun c6 => ?_) (fun c6 => ?_)
        · have h := hx_pos c6 h
          exact w_X0_fairestRule_51 (f_X0_fairestRule_7 L n) C hr ih v0 v3 (if 0 ≤ (r2 - 100000) then (r2 - 100000) else 0 - (r2 - 100000)) X ls h (lv_sub hl [2, 5, 0] rfl)
        · have h := hx_neg c6 h
          refine hx_iload C dX0_fairestRule_45 (lv_at hl 0 rfl) ?_
          refine hx_iload_n C dX0_fairestRule_47 rfl (lv_at hl 4 rfl) ?_
          refine hx_icmp_ge (tgt := 56) C dX0_fairestRule_48 (by decide) (fun c7 => ?_) (fun c7 => ?_)
          · have h := hx_pos c7 h
            exact w_X0_fairestRule_56 (f_X0_fairestRule_7 L n) C hr ih v0 v1 v2 v3 X ls h (lv_sub hl [2, 3, 4, 5] rfl)
          · have h := hx_neg c7 h
            exact w_X0_fairestRule_51 (f_X0_fairestRule_7 L n) C hr ih v0 v3 (if 0 ≤ (r2 - 100000) then (r2 - 100000) else 0 - (r2 - 100000)) X ls h (lv_sub hl [2, 5, 0] rfl)
      · have h := hx_pos c5 h
        refine hx_ldc (v := (-100009)) C (by decide +kernel) dX0_fairestRule_26 ?_
        obtain rfl := hx_some1 h
        exact hx_iret C hr dX0_fairestRule_28
def f_X0_fairestRule (L : hL) (X : hX) (this : Nat) : Option (Int32) :=
  f_X0_fairestRule_7 L u_fuel this (-100009) 0 0 X
set_option maxRecDepth 100000 in
set_option maxHeartbeats 4000000 in
theorem c_X0_fairestRule {l : Launch} {dC : Nat → ClassId} {dI : Nat → Nat → Nat} {cy : Nat → ClassId} {ad : Nat → Nat} {L : hL} {X : hX} {this : Nat} {r : Int32} (h : f_X0_fairestRule L X this = some r) : hMet l dC dI cy ad L yX0_fairestRule wsX0_fairestRule ({ frames := 5, cells := 0, slots := 0, locals := 120 } : Room) [.ref (ad this)] X (some (.int r)) X := by
  unfold f_X0_fairestRule at h
  refine hx_enter RX0 (plainFor_of_name (by decide)) rfl rfl (Nat.le_of_ble_eq_true rfl) (fun p e s m args below meth c C hr hnm ls hl => ?_)
  have hl : lv_has ls 6 [(0, .ref (ad this))] := hl
  refine hx_ldc (v := (-100009)) C (by decide +kernel) dX0_fairestRule_0 ?_
  refine hx_istore_n (lv' := [(1, .int (-100009)), (0, .ref (ad this))]) C dX0_fairestRule_2 rfl hl (by decide) rfl (fun ls hl => ?_)
  refine hx_iconst (v := 0) C dX0_fairestRule_3 (by decide) ?_
  refine hx_istore_n (lv' := [(2, .int 0), (1, .int (-100009)), (0, .ref (ad this))]) C dX0_fairestRule_4 rfl hl (by decide) rfl (fun ls hl => ?_)
  refine hx_iconst (v := 0) C dX0_fairestRule_5 (by decide) ?_
  refine hx_istore_n (lv' := [(3, .int 0), (2, .int 0), (1, .int (-100009)), (0, .ref (ad this))]) C dX0_fairestRule_6 rfl hl (by decide) rfl (fun ls hl => ?_)
  exact w_X0_fairestRule_7 C hr u_fuel this (-100009) 0 0 X ls h (lv_sub hl [3, 2, 1, 0] rfl)
theorem uX0_isBehind_5 : ∀ w ∈ u_ws RX5 TX5 7, w ∈ wsX0_isBehind := by decide +kernel
def f_X0_isBehind (L : hL) (X : hX) (this : Nat) (a1 : Int32) (a2 : Int32) : Option (Int32) :=
  (f_X0_prizeAt L X this a1).bind fun r1 =>
  if tk L this 0 then
  Option.elim r1
  (
    (f_X0_prizeAt L X this a2).bind fun r5 =>
    Option.elim r5
    (
      some 0)
    fun i7 =>
      some 0)
  fun i4 =>
    (f_X0_prizeAt L X this a2).bind fun r8 =>
    Option.elim r8
    (
      if 0 ≤ a2 then
        some 0
      else
        some 1)
    fun i10 =>
      if tk L i4 5 then
      if tk L i10 5 then
      if (X.1 i10 0) < (X.1 i4 0) then
        some 1
      else
        if (X.1 i4 0) = (X.1 i10 0) then
          if a1 ≤ a2 then
            some 0
          else
            some 1
        else
          some 0
      else none
      else none
  else none
set_option maxRecDepth 100000 in
set_option maxHeartbeats 4000000 in
theorem c_X0_isBehind {l : Launch} {dC : Nat → ClassId} {dI : Nat → Nat → Nat} {cy : Nat → ClassId} {ad : Nat → Nat} {L : hL} {X : hX} {this : Nat} {a1 : Int32} {a2 : Int32} {r : Int32} (h : f_X0_isBehind L X this a1 a2 = some r) : hMet l dC dI cy ad L yX0_isBehind wsX0_isBehind ({ frames := 2, cells := 0, slots := 0, locals := 44 } : Room) [.ref (ad this), .int a1, .int a2] X (some (.int r)) X := by
  unfold f_X0_isBehind at h
  refine hx_enter RX0 (plainFor_of_name (by decide)) rfl rfl (Nat.le_of_ble_eq_true rfl) (fun p e s m args below meth c C hr hnm ls hl => ?_)
  have hl : lv_has ls 5 [(0, .ref (ad this)), (1, .int a1), (2, .int a2)] := hl
  refine hx_aload_n C dX0_isBehind_0 rfl (lv_at hl 0 rfl) ?_
  refine hx_iload_n C dX0_isBehind_1 rfl (lv_at hl 1 rfl) ?_
  obtain ⟨r1, e2, h⟩ := hx_bind h
  obtain ⟨g3, h⟩ := hx_gd h
  refine hx_callV (As := [.int a1]) (rest := []) (n := 1) (Cn := RX0) C (c_X0_prizeAt e2) gX0_isBehind_X0_prizeAt g3 (by decide) rfl (by decide +kernel) ⟨Nat.le_of_ble_eq_true rfl, Nat.le_of_ble_eq_true rfl⟩ rfl rfl rfl ⟨Nat.zero_le _, Nat.zero_le _⟩ hl.1 rfl rfl (Nat.le_of_ble_eq_true rfl) dX0_isBehind_2 ?_
  rcases r1 with _ | i4
  · have h := hx_eln h
    refine hx_astore_nN (lv' := [(3, .null), (0, .ref (ad this)), (1, .int a1), (2, .int a2)]) C dX0_isBehind_5 rfl hl (by decide) rfl (fun ls hl => ?_)
    refine hx_aload_n C dX0_isBehind_6 rfl (lv_at hl 1 rfl) ?_
    refine hx_iload_n C dX0_isBehind_7 rfl (lv_at hl 3 rfl) ?_
    obtain ⟨r5, e6, h⟩ := hx_bind h
    refine hx_callV (As := [.int a2]) (rest := []) (n := 1) (Cn := RX0) C (c_X0_prizeAt e6) gX0_isBehind_X0_prizeAt g3 (by decide) rfl (by decide +kernel) ⟨Nat.le_of_ble_eq_true rfl, Nat.le_of_ble_eq_true rfl⟩ rfl rfl rfl ⟨Nat.zero_le _, Nat.zero_le _⟩ hl.1 rfl rfl (Nat.le_of_ble_eq_true rfl) dX0_isBehind_8 ?_
    rcases r5 with _ | i7
    · have h := hx_eln h
      refine hx_astoreN (lv' := [(4, .null), (3, .null), (0, .ref (ad this)), (1, .int a1), (2, .int a2)]) C dX0_isBehind_11 hl (by decide) rfl (fun ls hl => ?_)
      refine hx_aload_nN C dX0_isBehind_13 rfl (lv_at hl 1 rfl) ?_
      refine hx_ifnonnullN C dX0_isBehind_14 ?_
      refine hx_iconst (v := 0) C dX0_isBehind_17 (by decide) ?_
      obtain rfl := hx_some1 h
      exact hx_zret C hr rfl dX0_isBehind_18
    · have h := hx_els h
      refine hx_astore (lv' := [(4, .ref (ad i7)), (3, .null), (0, .ref (ad this)), (1, .int a1), (2, .int a2)]) C dX0_isBehind_11 hl (by decide) rfl (fun ls hl => ?_)
      refine hx_aload_nN C dX0_isBehind_13 rfl (lv_at hl 1 rfl) ?_
      refine hx_ifnonnullN C dX0_isBehind_14 ?_
      refine hx_iconst (v := 0) C dX0_isBehind_17 (by decide) ?_
      obtain rfl := hx_some1 h
      exact hx_zret C hr rfl dX0_isBehind_18
  · have h := hx_els h
    refine hx_astore_n (lv' := [(3, .ref (ad i4)), (0, .ref (ad this)), (1, .int a1), (2, .int a2)]) C dX0_isBehind_5 rfl hl (by decide) rfl (fun ls hl => ?_)
    refine hx_aload_n C dX0_isBehind_6 rfl (lv_at hl 1 rfl) ?_
    refine hx_iload_n C dX0_isBehind_7 rfl (lv_at hl 3 rfl) ?_
    obtain ⟨r8, e9, h⟩ := hx_bind h
    refine hx_callV (As := [.int a2]) (rest := []) (n := 1) (Cn := RX0) C (c_X0_prizeAt e9) gX0_isBehind_X0_prizeAt g3 (by decide) rfl (by decide +kernel) ⟨Nat.le_of_ble_eq_true rfl, Nat.le_of_ble_eq_true rfl⟩ rfl rfl rfl ⟨Nat.zero_le _, Nat.zero_le _⟩ hl.1 rfl rfl (Nat.le_of_ble_eq_true rfl) dX0_isBehind_8 ?_
    rcases r8 with _ | i10
    · have h := hx_eln h
      refine hx_astoreN (lv' := [(4, .null), (3, .ref (ad i4)), (0, .ref (ad this)), (1, .int a1), (2, .int a2)]) C dX0_isBehind_11 hl (by decide) rfl (fun ls hl => ?_)
      refine hx_aload_n C dX0_isBehind_13 rfl (lv_at hl 1 rfl) ?_
      refine hx_ifnonnull (tgt := 19) C dX0_isBehind_14 (by decide) ?_
      refine hx_aloadN C dX0_isBehind_19 (lv_at hl 0 rfl) ?_
      refine hx_ifnonnullN C dX0_isBehind_21 ?_
      refine hx_iload_n C dX0_isBehind_24 rfl (lv_at hl 4 rfl) ?_
      refine hx_if_ge (tgt := 32) C dX0_isBehind_25 (by decide) (fun c11 => ?_) (fun c11 => ?_)
      · have h := hx_pos c11 h
        refine hx_iconst (v := 0) C dX0_isBehind_32 (by decide) ?_
        obtain rfl := hx_some1 h
        exact hx_zret C hr rfl dX0_isBehind_33
      · have h := hx_neg c11 h
        refine hx_iconst (v := 1) C dX0_isBehind_28 (by decide) ?_
        refine hx_goto (tgt := 33) C dX0_isBehind_29 (by decide) ?_
        obtain rfl := hx_some1 h
        exact hx_zret C hr rfl dX0_isBehind_33
    · have h := hx_els h
      refine hx_astore (lv' := [(4, .ref (ad i10)), (3, .ref (ad i4)), (0, .ref (ad this)), (1, .int a1), (2, .int a2)]) C dX0_isBehind_11 hl (by decide) rfl (fun ls hl => ?_)
      refine hx_aload_n C dX0_isBehind_13 rfl (lv_at hl 1 rfl) ?_
      refine hx_ifnonnull (tgt := 19) C dX0_isBehind_14 (by decide) ?_
      refine hx_aload C dX0_isBehind_19 (lv_at hl 0 rfl) ?_
      refine hx_ifnonnull (tgt := 34) C dX0_isBehind_21 (by decide) ?_
      refine hx_aload_n C dX0_isBehind_34 rfl (lv_at hl 1 rfl) ?_
      obtain ⟨g12, h⟩ := hx_gd h
      refine hx_geti C (ci := 5) (j := 0) g12 uX0_isBehind_5 (by decide) rfl (by decide) rfl (by decide +kernel) rfl dX0_isBehind_35 ?_
      refine hx_aload C dX0_isBehind_38 (lv_at hl 0 rfl) ?_
      obtain ⟨g13, h⟩ := hx_gd h
      refine hx_geti C (ci := 5) (j := 0) g13 uX0_isBehind_5 (by decide) rfl (by decide) rfl (by decide +kernel) rfl dX0_isBehind_40 ?_
      refine hx_icmp_gt (tgt := 63) C dX0_isBehind_43 (by decide) (fun c14 => ?_) (fun c14 => ?_)
      · have h := hx_pos c14 h
        refine hx_iconst (v := 1) C dX0_isBehind_63 (by decide) ?_
        refine hx_goto (tgt := 68) C dX0_isBehind_64 (by decide) ?_
        obtain rfl := hx_some1 h
        exact hx_zret C hr rfl dX0_isBehind_68
      · have h := hx_neg c14 h
        refine hx_aload_n C dX0_isBehind_46 rfl (lv_at hl 1 rfl) ?_
        refine hx_geti C (ci := 5) (j := 0) g12 uX0_isBehind_5 (by decide) rfl (by decide) rfl (by decide +kernel) rfl dX0_isBehind_47 ?_
        refine hx_aload C dX0_isBehind_50 (lv_at hl 0 rfl) ?_
        refine hx_geti C (ci := 5) (j := 0) g13 uX0_isBehind_5 (by decide) rfl (by decide) rfl (by decide +kernel) rfl dX0_isBehind_52 ?_
        refine hx_icmp_ne (tgt := 67) C dX0_isBehind_55 (by decide) (fun c15 => ?_) (fun c15 => ?_)
        · have h := hx_neg c15 h
          refine hx_iconst (v := 0) C dX0_isBehind_67 (by decide) ?_
          obtain rfl := hx_some1 h
          exact hx_zret C hr rfl dX0_isBehind_68
        · have h := hx_pos c15 h
          refine hx_iload_n C dX0_isBehind_58 rfl (lv_at hl 3 rfl) ?_
          refine hx_iload_n C dX0_isBehind_59 rfl (lv_at hl 4 rfl) ?_
          refine hx_icmp_le (tgt := 67) C dX0_isBehind_60 (by decide) (fun c16 => ?_) (fun c16 => ?_)
          · have h := hx_pos c16 h
            refine hx_iconst (v := 0) C dX0_isBehind_67 (by decide) ?_
            obtain rfl := hx_some1 h
            exact hx_zret C hr rfl dX0_isBehind_68
          · have h := hx_neg c16 h
            refine hx_iconst (v := 1) C dX0_isBehind_63 (by decide) ?_
            refine hx_goto (tgt := 68) C dX0_isBehind_64 (by decide) ?_
            obtain rfl := hx_some1 h
            exact hx_zret C hr rfl dX0_isBehind_68
theorem uX0_nextByPrice_0 : ∀ w ∈ u_ws RX0 TX0 9, w ∈ wsX0_nextByPrice := by decide +kernel
def f_X0_nextByPrice_41 (L : hL) (k7 : Nat → Int32 → Int32 → Int32 → hX → Option (Int32)) (v0 : Nat) (v1 : Int32) (v2 : Int32) (v3 : Int32) (X : hX) : Option (Int32) :=
  k7 v0 v1 v2 (v3 + 1) X
set_option maxRecDepth 100000 in
set_option maxHeartbeats 4000000 in
theorem w_X0_nextByPrice_41 {p : Program} {l : Launch} {e : Env} {s : State} {m : MethodId} {args : Array Value} {below : List Frame} {meth : Method} {c : Code} {dC : Nat → ClassId} {dI : Nat → Nat → Nat} {cy : Nat → ClassId} {ad : Nat → Nat} {L : hL} {r : Int32} (k7 : Nat → Int32 → Int32 → Int32 → hX → Option (Int32)) (C : hC p s m args meth c dC dI cy ad L (hA ad L s.heap.size) cX0_nextByPrice 4 wsX0_nextByPrice RX0) (hr : meth.sig.returnType = (some .int)) (hk7 : ∀ (v0 : Nat) (v1 : Int32) (v2 : Int32) (v3 : Int32) (X : hX) (ls : Array Slot), k7 v0 v1 v2 v3 X = some r → lv_has ls 4 [(0, .ref (ad v0)), (1, .int v1), (2, .int v2), (3, .int v3)] → hG p l e (headSpec wsX0_nextByPrice ({ frames := 3, cells := 0, slots := 0, locals := 68 } : Room)).room s m args below meth c dC dI cy ad L (hA ad L s.heap.size) 0 0 (MQ below (hQ dC dI cy ad L s.heap.size (some (.int r)) X) args s 0 0 (hA ad L s.heap.size)) X 7 ls []) : ∀ (v0 : Nat) (v1 : Int32) (v2 : Int32) (v3 : Int32) (X : hX) (ls : Array Slot), f_X0_nextByPrice_41 L k7 v0 v1 v2 v3 X = some r → lv_has ls 4 [(0, .ref (ad v0)), (1, .int v1), (2, .int v2), (3, .int v3)] → hG p l e (headSpec wsX0_nextByPrice ({ frames := 3, cells := 0, slots := 0, locals := 68 } : Room)).room s m args below meth c dC dI cy ad L (hA ad L s.heap.size) 0 0 (MQ below (hQ dC dI cy ad L s.heap.size (some (.int r)) X) args s 0 0 (hA ad L s.heap.size)) X 41 ls [] := by
  intro v0 v1 v2 v3 X ls h hl
  unfold f_X0_nextByPrice_41 at h
  refine hx_iinc (v := v3 + 1) (lv' := [(3, .int (v3 + 1)), (0, .ref (ad v0)), (1, .int v1), (2, .int v2)]) C dX0_nextByPrice_41 hl (k := 3) rfl rfl (by decide) rfl (fun ls hl => ?_)
  refine hx_goto (tgt := 7) C dX0_nextByPrice_44 (by decide) ?_
  exact hk7 v0 v1 v2 (v3 + 1) X ls h (lv_sub hl [1, 2, 3, 0] rfl)
def f_X0_nextByPrice_39 (L : hL) (k7 : Nat → Int32 → Int32 → Int32 → hX → Option (Int32)) (v0 : Nat) (v1 : Int32) (v3 : Int32) (X : hX) : Option (Int32) :=
  f_X0_nextByPrice_41 L k7 v0 v1 v3 v3 X
set_option maxRecDepth 100000 in
set_option maxHeartbeats 4000000 in
theorem w_X0_nextByPrice_39 {p : Program} {l : Launch} {e : Env} {s : State} {m : MethodId} {args : Array Value} {below : List Frame} {meth : Method} {c : Code} {dC : Nat → ClassId} {dI : Nat → Nat → Nat} {cy : Nat → ClassId} {ad : Nat → Nat} {L : hL} {r : Int32} (k7 : Nat → Int32 → Int32 → Int32 → hX → Option (Int32)) (C : hC p s m args meth c dC dI cy ad L (hA ad L s.heap.size) cX0_nextByPrice 4 wsX0_nextByPrice RX0) (hr : meth.sig.returnType = (some .int)) (hk7 : ∀ (v0 : Nat) (v1 : Int32) (v2 : Int32) (v3 : Int32) (X : hX) (ls : Array Slot), k7 v0 v1 v2 v3 X = some r → lv_has ls 4 [(0, .ref (ad v0)), (1, .int v1), (2, .int v2), (3, .int v3)] → hG p l e (headSpec wsX0_nextByPrice ({ frames := 3, cells := 0, slots := 0, locals := 68 } : Room)).room s m args below meth c dC dI cy ad L (hA ad L s.heap.size) 0 0 (MQ below (hQ dC dI cy ad L s.heap.size (some (.int r)) X) args s 0 0 (hA ad L s.heap.size)) X 7 ls []) : ∀ (v0 : Nat) (v1 : Int32) (v3 : Int32) (X : hX) (ls : Array Slot), f_X0_nextByPrice_39 L k7 v0 v1 v3 X = some r → lv_has ls 4 [(0, .ref (ad v0)), (1, .int v1), (3, .int v3)] → hG p l e (headSpec wsX0_nextByPrice ({ frames := 3, cells := 0, slots := 0, locals := 68 } : Room)).room s m args below meth c dC dI cy ad L (hA ad L s.heap.size) 0 0 (MQ below (hQ dC dI cy ad L s.heap.size (some (.int r)) X) args s 0 0 (hA ad L s.heap.size)) X 39 ls [] := by
  intro v0 v1 v3 X ls h hl
  unfold f_X0_nextByPrice_39 at h
  refine hx_iload_n C dX0_nextByPrice_39 rfl (lv_at hl 2 rfl) ?_
  refine hx_istore_n (lv' := [(2, .int v3), (0, .ref (ad v0)), (1, .int v1), (3, .int v3)]) C dX0_nextByPrice_40 rfl hl (by decide) rfl (fun ls hl => ?_)
  exact w_X0_nextByPrice_41 k7 C hr hk7 v0 v1 v3 v3 X ls h (lv_sub hl [1, 2, 0, 3] rfl)
def f_X0_nextByPrice_7 (L : hL) : Nat → Nat → Int32 → Int32 → Int32 → hX → Option (Int32)
  | 0, _, _, _, _, _ => none
  | n + 1, v0, v1, v2, v3, X =>
    if 6 ≤ v3 then
      some v2
    else
      (f_X0_isBehind L X v0 v3 v1).bind fun r2 =>
      if tk L v0 0 then
      if r2 = 0 then
        f_X0_nextByPrice_41 L (f_X0_nextByPrice_7 L n) v0 v1 v2 v3 X
      else
        if v2 = (X.1 v0 5) then
          f_X0_nextByPrice_39 L (f_X0_nextByPrice_7 L n) v0 v1 v3 X
        else
          (f_X0_isBehind L X v0 v2 v3).bind fun r7 =>
          if r7 = 0 then
            f_X0_nextByPrice_41 L (f_X0_nextByPrice_7 L n) v0 v1 v2 v3 X
          else
            f_X0_nextByPrice_39 L (f_X0_nextByPrice_7 L n) v0 v1 v3 X
      else none
set_option maxRecDepth 100000 in
set_option maxHeartbeats 4000000 in
theorem w_X0_nextByPrice_7 {p : Program} {l : Launch} {e : Env} {s : State} {m : MethodId} {args : Array Value} {below : List Frame} {meth : Method} {c : Code} {dC : Nat → ClassId} {dI : Nat → Nat → Nat} {cy : Nat → ClassId} {ad : Nat → Nat} {L : hL} {r : Int32} (C : hC p s m args meth c dC dI cy ad L (hA ad L s.heap.size) cX0_nextByPrice 4 wsX0_nextByPrice RX0) (hr : meth.sig.returnType = (some .int)) : ∀ (n : Nat) (v0 : Nat) (v1 : Int32) (v2 : Int32) (v3 : Int32) (X : hX) (ls : Array Slot), f_X0_nextByPrice_7 L n v0 v1 v2 v3 X = some r → lv_has ls 4 [(0, .ref (ad v0)), (1, .int v1), (2, .int v2), (3, .int v3)] → hG p l e (headSpec wsX0_nextByPrice ({ frames := 3, cells := 0, slots := 0, locals := 68 } : Room)).room s m args below meth c dC dI cy ad L (hA ad L s.heap.size) 0 0 (MQ below (hQ dC dI cy ad L s.heap.size (some (.int r)) X) args s 0 0 (hA ad L s.heap.size)) X 7 ls [] := by
  intro n
  induction n with
  | zero => intro v0 v1 v2 v3 X ls h; cases h
  | succ n ih =>
    intro v0 v1 v2 v3 X ls h hl
    rw [f_X0_nextByPrice_7] at h
    refine hx_iload_n C dX0_nextByPrice_7 rfl (lv_at hl 3 rfl) ?_
    refine hx_bipush (v := 6) C dX0_nextByPrice_8 (by decide) ?_
    refine hx_icmp_ge (tgt := 47) C dX0_nextByPrice_10 (by decide) (fun c1 => ?_) (fun c1 => ?_)
    · have h := hx_pos c1 h
      refine hx_iload_n C dX0_nextByPrice_47 rfl (lv_at hl 2 rfl) ?_
      obtain rfl := hx_some1 h
      exact hx_iret C hr dX0_nextByPrice_48
    · have h := hx_neg c1 h
      refine hx_aload_n C dX0_nextByPrice_13 rfl (lv_at hl 0 rfl) ?_
      refine hx_iload_n C dX0_nextByPrice_14 rfl (lv_at hl 3 rfl) ?_
      refine hx_iload_n C dX0_nextByPrice_15 rfl (lv_at hl 1 rfl) ?_
      obtain ⟨r2, e3, h⟩ := hx_bind h
      obtain ⟨g4, h⟩ := hx_gd h
      refine hx_callV (As := [.int v3, .int v1]) (rest := []) (n := 2) (Cn := RX0) C (c_X0_isBehind e3) gX0_nextByPrice_X0_isBehind g4 (by decide) rfl (by decide +kernel) ⟨Nat.le_of_ble_eq_true rfl, Nat.le_of_ble_eq_true rfl⟩ rfl rfl rfl ⟨Nat.zero_le _, Nat.zero_le _⟩ hl.1 rfl rfl (Nat.le_of_ble_eq_true rfl) dX0_nextByPrice_16 ?_
      refine hx_if_eq (tgt := 41) C dX0_nextByPrice_19 (by decide) (fun c5 => ?_) (fun c5 => ?_)
      · have h := hx_pos c5 h
        exact w_X0_nextByPrice_41 (f_X0_nextByPrice_7 L n) C hr ih v0 v1 v2 v3 X ls h (lv_sub hl [0, 1, 2, 3] rfl)
      · have h := hx_neg c5 h
        refine hx_iload_n C dX0_nextByPrice_22 rfl (lv_at hl 2 rfl) ?_
        refine hx_aload_n C dX0_nextByPrice_23 rfl (lv_at hl 0 rfl) ?_
        refine hx_geti C (ci := 0) (j := 5) g4 uX0_nextByPrice_0 (by decide) rfl (by decide) rfl (by decide +kernel) rfl dX0_nextByPrice_24 ?_
        refine hx_icmp_eq (tgt := 39) C dX0_nextByPrice_27 (by decide) (fun c6 => ?_) (fun c6 => ?_)
        · have h := hx_pos c6 h
          exact w_X0_nextByPrice_39 (f_X0_nextByPrice_7 L n) C hr ih v0 v1 v3 X ls h (lv_sub hl [0, 1, 3] rfl)
        · have h := hx_neg c6 h
          refine hx_aload_n C dX0_nextByPrice_30 rfl (lv_at hl 0 rfl) ?_
          refine hx_iload_n C dX0_nextByPrice_31 rfl (lv_at hl 2 rfl) ?_
          refine hx_iload_n C dX0_nextByPrice_32 rfl (lv_at hl 3 rfl) ?_
          obtain ⟨r7, e8, h⟩ := hx_bind h
          refine hx_callV (As := [.int v2, .int v3]) (rest := []) (n := 2) (Cn := RX0) C (c_X0_isBehind e8) gX0_nextByPrice_X0_isBehind g4 (by decide) rfl (by decide +kernel) ⟨Nat.le_of_ble_eq_true rfl, Nat.le_of_ble_eq_true rfl⟩ rfl rfl rfl ⟨Nat.zero_le _, Nat.zero_le _⟩ hl.1 rfl rfl (Nat.le_of_ble_eq_true rfl) dX0_nextByPrice_33 ?_
          refine hx_if_eq (tgt := 41) C dX0_nextByPrice_36 (by decide) (fun c9 => ?_) (fun c9 => ?_)
          · have h := hx_pos c9 h
            exact w_X0_nextByPrice_41 (f_X0_nextByPrice_7 L n) C hr ih v0 v1 v2 v3 X ls h (lv_sub hl [0, 1, 2, 3] rfl)
          · have h := hx_neg c9 h
            exact w_X0_nextByPrice_39 (f_X0_nextByPrice_7 L n) C hr ih v0 v1 v3 X ls h (lv_sub hl [0, 1, 3] rfl)
def f_X0_nextByPrice (L : hL) (X : hX) (this : Nat) (a1 : Int32) : Option (Int32) :=
  if tk L this 0 then
  f_X0_nextByPrice_7 L u_fuel this a1 (X.1 this 5) 0 X
  else none
set_option maxRecDepth 100000 in
set_option maxHeartbeats 4000000 in
theorem c_X0_nextByPrice {l : Launch} {dC : Nat → ClassId} {dI : Nat → Nat → Nat} {cy : Nat → ClassId} {ad : Nat → Nat} {L : hL} {X : hX} {this : Nat} {a1 : Int32} {r : Int32} (h : f_X0_nextByPrice L X this a1 = some r) : hMet l dC dI cy ad L yX0_nextByPrice wsX0_nextByPrice ({ frames := 3, cells := 0, slots := 0, locals := 68 } : Room) [.ref (ad this), .int a1] X (some (.int r)) X := by
  unfold f_X0_nextByPrice at h
  refine hx_enter RX0 (plainFor_of_name (by decide)) rfl rfl (Nat.le_of_ble_eq_true rfl) (fun p e s m args below meth c C hr hnm ls hl => ?_)
  have hl : lv_has ls 4 [(0, .ref (ad this)), (1, .int a1)] := hl
  refine hx_aload_n C dX0_nextByPrice_0 rfl (lv_at hl 0 rfl) ?_
  obtain ⟨g10, h⟩ := hx_gd h
  refine hx_geti C (ci := 0) (j := 5) g10 uX0_nextByPrice_0 (by decide) rfl (by decide) rfl (by decide +kernel) rfl dX0_nextByPrice_1 ?_
  refine hx_istore_n (lv' := [(2, .int (X.1 this 5)), (0, .ref (ad this)), (1, .int a1)]) C dX0_nextByPrice_4 rfl hl (by decide) rfl (fun ls hl => ?_)
  refine hx_iconst (v := 0) C dX0_nextByPrice_5 (by decide) ?_
  refine hx_istore_n (lv' := [(3, .int 0), (2, .int (X.1 this 5)), (0, .ref (ad this)), (1, .int a1)]) C dX0_nextByPrice_6 rfl hl (by decide) rfl (fun ls hl => ?_)
  exact w_X0_nextByPrice_7 C hr u_fuel this a1 (X.1 this 5) 0 X ls h (lv_sub hl [2, 3, 1, 0] rfl)
theorem uX0_shopWith_5 : ∀ w ∈ u_ws RX5 TX5 7, w ∈ wsX0_shopWith := by decide +kernel
def f_X0_shopWith_92 (L : hL) (k14 : Nat → Int32 → Int32 → Int32 → Int32 → Int32 → Int32 → hX → Option (Int32)) (v0 : Nat) (v2 : Int32) (v3 : Int32) (v4 : Int32) (v5 : Int32) (v6 : Int32) (v7 : Int32) (X : hX) : Option (Int32) :=
  k14 v0 v2 v3 v4 v5 v6 (v7 + 1) X
set_option maxRecDepth 100000 in
set_option maxHeartbeats 4000000 in
theorem w_X0_shopWith_92 {p : Program} {l : Launch} {e : Env} {s : State} {m : MethodId} {args : Array Value} {below : List Frame} {meth : Method} {c : Code} {dC : Nat → ClassId} {dI : Nat → Nat → Nat} {cy : Nat → ClassId} {ad : Nat → Nat} {L : hL} {r : Int32} (k14 : Nat → Int32 → Int32 → Int32 → Int32 → Int32 → Int32 → hX → Option (Int32)) (C : hC p s m args meth c dC dI cy ad L (hA ad L s.heap.size) cX0_shopWith 10 wsX0_shopWith RX0) (hr : meth.sig.returnType = (some .int)) (hk14 : ∀ (v0 : Nat) (v2 : Int32) (v3 : Int32) (v4 : Int32) (v5 : Int32) (v6 : Int32) (v7 : Int32) (X : hX) (ls : Array Slot), k14 v0 v2 v3 v4 v5 v6 v7 X = some r → lv_has ls 10 [(0, .ref (ad v0)), (2, .int v2), (3, .int v3), (4, .int v4), (5, .int v5), (6, .int v6), (7, .int v7)] → hG p l e (headSpec wsX0_shopWith ({ frames := 4, cells := 0, slots := 0, locals := 91 } : Room)).room s m args below meth c dC dI cy ad L (hA ad L s.heap.size) 0 0 (MQ below (hQ dC dI cy ad L s.heap.size (some (.int r)) X) args s 0 0 (hA ad L s.heap.size)) X 14 ls []) : ∀ (v0 : Nat) (v2 : Int32) (v3 : Int32) (v4 : Int32) (v5 : Int32) (v6 : Int32) (v7 : Int32) (X : hX) (ls : Array Slot), f_X0_shopWith_92 L k14 v0 v2 v3 v4 v5 v6 v7 X = some r → lv_has ls 10 [(0, .ref (ad v0)), (2, .int v2), (3, .int v3), (4, .int v4), (5, .int v5), (6, .int v6), (7, .int v7)] → hG p l e (headSpec wsX0_shopWith ({ frames := 4, cells := 0, slots := 0, locals := 91 } : Room)).room s m args below meth c dC dI cy ad L (hA ad L s.heap.size) 0 0 (MQ below (hQ dC dI cy ad L s.heap.size (some (.int r)) X) args s 0 0 (hA ad L s.heap.size)) X 92 ls [] := by
  intro v0 v2 v3 v4 v5 v6 v7 X ls h hl
  unfold f_X0_shopWith_92 at h
  refine hx_iinc (v := v7 + 1) (lv' := [(7, .int (v7 + 1)), (0, .ref (ad v0)), (2, .int v2), (3, .int v3), (4, .int v4), (5, .int v5), (6, .int v6)]) C dX0_shopWith_92 hl (k := 6) rfl rfl (by decide) rfl (fun ls hl => ?_)
  refine hx_goto (tgt := 14) C dX0_shopWith_95 (by decide) ?_
  exact hk14 v0 v2 v3 v4 v5 v6 (v7 + 1) X ls h (lv_sub hl [1, 2, 3, 4, 5, 6, 0] rfl)
def f_X0_shopWith_14 (L : hL) : Nat → Nat → Int32 → Int32 → Int32 → Int32 → Int32 → Int32 → hX → Option (Int32)
  | 0, _, _, _, _, _, _, _, _ => none
  | n + 1, v0, v2, v3, v4, v5, v6, v7, X =>
    if 6 ≤ v7 then
      if v2 = 0 then
        some v4
      else
      if v2 = 1 then
        some v3
      else
      some v5
    else
      (f_X0_nextByPrice L X v0 v6).bind fun r4 =>
      if tk L v0 0 then
      (f_X0_prizeAt L X v0 r4).bind fun r7 =>
      Option.elim r7
      (
        f_X0_shopWith_92 L (f_X0_shopWith_14 L n) v0 v2 v3 v4 v5 r4 v7 X)
      fun i9 =>
        if tk L i9 5 then
        (f_X9_quotient L X v3 (X.1 i9 0)).bind fun r11 =>
        f_X0_shopWith_92 L (f_X0_shopWith_14 L n) v0 v2 (v3 - ((if r11 < (X.1 i9 2) then r11 else (X.1 i9 2)) * (X.1 i9 0))) (v4 + (if r11 < (X.1 i9 2) then r11 else (X.1 i9 2))) (v5 + ((if r11 < (X.1 i9 2) then r11 else (X.1 i9 2)) * (X.1 i9 1))) r4 v7 X
        else none
      else none
set_option maxRecDepth 100000 in
set_option maxHeartbeats 4000000 in
theorem w_X0_shopWith_14 {p : Program} {l : Launch} {e : Env} {s : State} {m : MethodId} {args : Array Value} {below : List Frame} {meth : Method} {c : Code} {dC : Nat → ClassId} {dI : Nat → Nat → Nat} {cy : Nat → ClassId} {ad : Nat → Nat} {L : hL} {r : Int32} (C : hC p s m args meth c dC dI cy ad L (hA ad L s.heap.size) cX0_shopWith 10 wsX0_shopWith RX0) (hr : meth.sig.returnType = (some .int)) : ∀ (n : Nat) (v0 : Nat) (v2 : Int32) (v3 : Int32) (v4 : Int32) (v5 : Int32) (v6 : Int32) (v7 : Int32) (X : hX) (ls : Array Slot), f_X0_shopWith_14 L n v0 v2 v3 v4 v5 v6 v7 X = some r → lv_has ls 10 [(0, .ref (ad v0)), (2, .int v2), (3, .int v3), (4, .int v4), (5, .int v5), (6, .int v6), (7, .int v7)] → hG p l e (headSpec wsX0_shopWith ({ frames := 4, cells := 0, slots := 0, locals := 91 } : Room)).room s m args below meth c dC dI cy ad L (hA ad L s.heap.size) 0 0 (MQ below (hQ dC dI cy ad L s.heap.size (some (.int r)) X) args s 0 0 (hA ad L s.heap.size)) X 14 ls [] := by
  intro n
  induction n with
  | zero => intro v0 v2 v3 v4 v5 v6 v7 X ls h; cases h
  | succ n ih =>
    intro v0 v2 v3 v4 v5 v6 v7 X ls h hl
    rw [f_X0_shopWith_14] at h
    refine hx_iload C dX0_shopWith_14 (lv_at hl 6 rfl) ?_
    refine hx_bipush (v := 6) C dX0_shopWith_16 (by decide) ?_
    refine hx_icmp_ge (tgt := 98) C dX0_shopWith_18 (by decide) (fun c1 => ?_) (fun c1 => ?_)
    · have h := hx_pos c1 h
      refine hx_iload_n C dX0_shopWith_98 rfl (lv_at hl 1 rfl) ?_
      by_cases c2 : v2 = 0
      · have h := hx_pos c2 h
        have hz : Int32.toInt v2 = 0 := by rw [c2]; rfl
        refine hx_look (tgt := 124) (off := 25) C [(0, 25), (1, 28)] dX0_shopWith_99 rfl (by decide) (by rw [hz] <;> decide) (by decide) ?_
        refine hx_iload C dX0_shopWith_124 (lv_at hl 3 rfl) ?_
        obtain rfl := hx_some1 h
        exact hx_iret C hr dX0_shopWith_126
      have h := hx_neg c2 h
      have zc2 : Int32.toInt v2 ≠ 0 := fun z => c2 (Int32.toInt_inj.mp (z.trans rfl))
      by_cases c3 : v2 = 1
      · have h := hx_pos c3 h
        have hz : Int32.toInt v2 = 1 := by rw [c3]; rfl
        refine hx_look (tgt := 127) (off := 28) C [(0, 25), (1, 28)] dX0_shopWith_99 rfl (by decide) (by rw [hz] <;> decide) (by decide) ?_
        refine hx_iload_n C dX0_shopWith_127 rfl (lv_at hl 2 rfl) ?_
        obtain rfl := hx_some1 h
        exact hx_iret C hr dX0_shopWith_128
      have h := hx_neg c3 h
      have zc3 : Int32.toInt v2 ≠ 1 := fun z => c3 (Int32.toInt_inj.mp (z.trans rfl))
      refine hx_look (tgt := 129) (off := 30) C [(0, 25), (1, 28)] dX0_shopWith_99 rfl (by decide) (by simp only [Op.lookupswitch.offset, if_neg (Ne.symm zc2), if_neg (Ne.symm zc3)]) (by decide) ?_
      refine hx_iload C dX0_shopWith_129 (lv_at hl 4 rfl) ?_
      obtain rfl := hx_some1 h
      exact hx_iret C hr dX0_shopWith_131
    · have h := hx_neg c1 h
      refine hx_aload_n C dX0_shopWith_21 rfl (lv_at hl 0 rfl) ?_
      refine hx_iload C dX0_shopWith_22 (lv_at hl 5 rfl) ?_
      obtain ⟨r4, e5, h⟩ := hx_bind h
      obtain ⟨g6, h⟩ := hx_gd h
      refine hx_callV (As := [.int v6]) (rest := []) (n := 1) (Cn := RX0) C (c_X0_nextByPrice e5) gX0_shopWith_X0_nextByPrice g6 (by decide) rfl (by decide +kernel) ⟨Nat.le_of_ble_eq_true rfl, Nat.le_of_ble_eq_true rfl⟩ rfl rfl rfl ⟨Nat.zero_le _, Nat.zero_le _⟩ hl.1 rfl rfl (Nat.le_of_ble_eq_true rfl) dX0_shopWith_24 ?_
      refine hx_istore (lv' := [(6, .int r4), (0, .ref (ad v0)), (2, .int v2), (3, .int v3), (4, .int v4), (5, .int v5), (7, .int v7)]) C dX0_shopWith_27 hl (by decide) rfl (fun ls hl => ?_)
      refine hx_aload_n C dX0_shopWith_29 rfl (lv_at hl 1 rfl) ?_
      refine hx_iload C dX0_shopWith_30 (lv_at hl 0 rfl) ?_
      obtain ⟨r7, e8, h⟩ := hx_bind h
      refine hx_callV (As := [.int r4]) (rest := []) (n := 1) (Cn := RX0) C (c_X0_prizeAt e8) gX0_shopWith_X0_prizeAt g6 (by decide) rfl (by decide +kernel) ⟨Nat.le_of_ble_eq_true rfl, Nat.le_of_ble_eq_true rfl⟩ rfl rfl rfl ⟨Nat.zero_le _, Nat.zero_le _⟩ hl.1 rfl rfl (Nat.le_of_ble_eq_true rfl) dX0_shopWith_32 ?_
      rcases r7 with _ | i9
      · have h := hx_eln h
        refine hx_astoreN (lv' := [(8, .null), (6, .int r4), (0, .ref (ad v0)), (2, .int v2), (3, .int v3), (4, .int v4), (5, .int v5), (7, .int v7)]) C dX0_shopWith_35 hl (by decide) rfl (fun ls hl => ?_)
        refine hx_aloadN C dX0_shopWith_37 (lv_at hl 0 rfl) ?_
        refine hx_ifnullN (tgt := 92) C dX0_shopWith_39 (by decide) ?_
        exact w_X0_shopWith_92 (f_X0_shopWith_14 L n) C hr ih v0 v2 v3 v4 v5 r4 v7 X ls h (lv_sub hl [2, 3, 4, 5, 6, 1, 7] rfl)
      · have h := hx_els h
        refine hx_astore (lv' := [(8, .ref (ad i9)), (6, .int r4), (0, .ref (ad v0)), (2, .int v2), (3, .int v3), (4, .int v4), (5, .int v5), (7, .int v7)]) C dX0_shopWith_35 hl (by decide) rfl (fun ls hl => ?_)
        refine hx_aload C dX0_shopWith_37 (lv_at hl 0 rfl) ?_
        refine hx_ifnull C dX0_shopWith_39 ?_
        refine hx_aload C dX0_shopWith_42 (lv_at hl 0 rfl) ?_
        obtain ⟨g10, h⟩ := hx_gd h
        refine hx_geti C (ci := 5) (j := 2) g10 uX0_shopWith_5 (by decide) rfl (by decide) rfl (by decide +kernel) rfl dX0_shopWith_44 ?_
        refine hx_iload_n C dX0_shopWith_47 rfl (lv_at hl 4 rfl) ?_
        refine hx_aload C dX0_shopWith_48 (lv_at hl 0 rfl) ?_
        refine hx_geti C (ci := 5) (j := 0) g10 uX0_shopWith_5 (by decide) rfl (by decide) rfl (by decide +kernel) rfl dX0_shopWith_50 ?_
        obtain ⟨r11, e12, h⟩ := hx_bind h
        refine hx_callSN (As := [.int v3, .int (X.1 i9 0)]) (rest := [.int (X.1 i9 2)]) (n := 2) (host := "TicketScales") C (c_X9_quotient e12) gX0_shopWith_X9_quotient_n197 (by decide) (by decide +kernel) (by decide +kernel) (by decide +kernel) ⟨Nat.le_of_ble_eq_true rfl, Nat.le_of_ble_eq_true rfl⟩ rfl rfl rfl ⟨Nat.zero_le _, Nat.zero_le _⟩ hl.1 rfl rfl (Nat.le_of_ble_eq_true rfl) dX0_shopWith_53 ?_
        refine hx_mmin C (by decide +kernel) (by decide +kernel) (by decide +kernel) (by decide +kernel) hl.1 (Nat.le_of_ble_eq_true rfl) (Nat.le_of_ble_eq_true rfl) (Nat.zero_le _) (Nat.zero_le _) dX0_shopWith_56 ?_
        refine hx_istore (lv' := [(9, .int ((if r11 < (X.1 i9 2) then r11 else (X.1 i9 2)))), (8, .ref (ad i9)), (6, .int r4), (0, .ref (ad v0)), (2, .int v2), (3, .int v3), (4, .int v4), (5, .int v5), (7, .int v7)]) C dX0_shopWith_59 hl (by decide) rfl (fun ls hl => ?_)
        refine hx_iload_n C dX0_shopWith_61 rfl (lv_at hl 5 rfl) ?_
        refine hx_iload C dX0_shopWith_62 (lv_at hl 0 rfl) ?_
        refine hx_aload C dX0_shopWith_64 (lv_at hl 1 rfl) ?_
        refine hx_geti C (ci := 5) (j := 0) g10 uX0_shopWith_5 (by decide) rfl (by decide) rfl (by decide +kernel) rfl dX0_shopWith_66 ?_
        refine hx_imul C dX0_shopWith_69 ?_
        refine hx_isub C dX0_shopWith_70 ?_
        refine hx_istore_n (lv' := [(3, .int (v3 - ((if r11 < (X.1 i9 2) then r11 else (X.1 i9 2)) * (X.1 i9 0)))), (9, .int ((if r11 < (X.1 i9 2) then r11 else (X.1 i9 2)))), (8, .ref (ad i9)), (6, .int r4), (0, .ref (ad v0)), (2, .int v2), (4, .int v4), (5, .int v5), (7, .int v7)]) C dX0_shopWith_71 rfl hl (by decide) rfl (fun ls hl => ?_)
        refine hx_iload C dX0_shopWith_72 (lv_at hl 6 rfl) ?_
        refine hx_iload C dX0_shopWith_74 (lv_at hl 1 rfl) ?_
        refine hx_iadd C dX0_shopWith_76 ?_
        refine hx_istore (lv' := [(4, .int (v4 + (if r11 < (X.1 i9 2) then r11 else (X.1 i9 2)))), (3, .int (v3 - ((if r11 < (X.1 i9 2) then r11 else (X.1 i9 2)) * (X.1 i9 0)))), (9, .int ((if r11 < (X.1 i9 2) then r11 else (X.1 i9 2)))), (8, .ref (ad i9)), (6, .int r4), (0, .ref (ad v0)), (2, .int v2), (5, .int v5), (7, .int v7)]) C dX0_shopWith_77 hl (by decide) rfl (fun ls hl => ?_)
        refine hx_iload C dX0_shopWith_79 (lv_at hl 7 rfl) ?_
        refine hx_iload C dX0_shopWith_81 (lv_at hl 2 rfl) ?_
        refine hx_aload C dX0_shopWith_83 (lv_at hl 3 rfl) ?_
        refine hx_geti C (ci := 5) (j := 1) g10 uX0_shopWith_5 (by decide) rfl (by decide) rfl (by decide +kernel) rfl dX0_shopWith_85 ?_
        refine hx_imul C dX0_shopWith_88 ?_
        refine hx_iadd C dX0_shopWith_89 ?_
        refine hx_istore (lv' := [(5, .int (v5 + ((if r11 < (X.1 i9 2) then r11 else (X.1 i9 2)) * (X.1 i9 1)))), (4, .int (v4 + (if r11 < (X.1 i9 2) then r11 else (X.1 i9 2)))), (3, .int (v3 - ((if r11 < (X.1 i9 2) then r11 else (X.1 i9 2)) * (X.1 i9 0)))), (9, .int ((if r11 < (X.1 i9 2) then r11 else (X.1 i9 2)))), (8, .ref (ad i9)), (6, .int r4), (0, .ref (ad v0)), (2, .int v2), (7, .int v7)]) C dX0_shopWith_90 hl (by decide) rfl (fun ls hl => ?_)
        exact w_X0_shopWith_92 (f_X0_shopWith_14 L n) C hr ih v0 v2 (v3 - ((if r11 < (X.1 i9 2) then r11 else (X.1 i9 2)) * (X.1 i9 0))) (v4 + (if r11 < (X.1 i9 2) then r11 else (X.1 i9 2))) (v5 + ((if r11 < (X.1 i9 2) then r11 else (X.1 i9 2)) * (X.1 i9 1))) r4 v7 X ls h (lv_sub hl [6, 7, 2, 1, 0, 5, 8] rfl)
def f_X0_shopWith (L : hL) (X : hX) (this : Nat) (a1 : Int32) (a2 : Int32) : Option (Int32) :=
  f_X0_shopWith_14 L u_fuel this a2 a1 0 0 (-1) 0 X
set_option maxRecDepth 100000 in
set_option maxHeartbeats 4000000 in
theorem c_X0_shopWith {l : Launch} {dC : Nat → ClassId} {dI : Nat → Nat → Nat} {cy : Nat → ClassId} {ad : Nat → Nat} {L : hL} {X : hX} {this : Nat} {a1 : Int32} {a2 : Int32} {r : Int32} (h : f_X0_shopWith L X this a1 a2 = some r) : hMet l dC dI cy ad L yX0_shopWith wsX0_shopWith ({ frames := 4, cells := 0, slots := 0, locals := 91 } : Room) [.ref (ad this), .int a1, .int a2] X (some (.int r)) X := by
  unfold f_X0_shopWith at h
  refine hx_enter RX0 (plainFor_of_name (by decide)) rfl rfl (Nat.le_of_ble_eq_true rfl) (fun p e s m args below meth c C hr hnm ls hl => ?_)
  have hl : lv_has ls 10 [(0, .ref (ad this)), (1, .int a1), (2, .int a2)] := hl
  refine hx_iload_n C dX0_shopWith_0 rfl (lv_at hl 1 rfl) ?_
  refine hx_istore_n (lv' := [(3, .int a1), (0, .ref (ad this)), (1, .int a1), (2, .int a2)]) C dX0_shopWith_1 rfl hl (by decide) rfl (fun ls hl => ?_)
  refine hx_iconst (v := 0) C dX0_shopWith_2 (by decide) ?_
  refine hx_istore (lv' := [(4, .int 0), (3, .int a1), (0, .ref (ad this)), (1, .int a1), (2, .int a2)]) C dX0_shopWith_3 hl (by decide) rfl (fun ls hl => ?_)
  refine hx_iconst (v := 0) C dX0_shopWith_5 (by decide) ?_
  refine hx_istore (lv' := [(5, .int 0), (4, .int 0), (3, .int a1), (0, .ref (ad this)), (1, .int a1), (2, .int a2)]) C dX0_shopWith_6 hl (by decide) rfl (fun ls hl => ?_)
  refine hx_iconst (v := (-1)) C dX0_shopWith_8 (by decide) ?_
  refine hx_istore (lv' := [(6, .int (-1)), (5, .int 0), (4, .int 0), (3, .int a1), (0, .ref (ad this)), (1, .int a1), (2, .int a2)]) C dX0_shopWith_9 hl (by decide) rfl (fun ls hl => ?_)
  refine hx_iconst (v := 0) C dX0_shopWith_11 (by decide) ?_
  refine hx_istore (lv' := [(7, .int 0), (6, .int (-1)), (5, .int 0), (4, .int 0), (3, .int a1), (0, .ref (ad this)), (1, .int a1), (2, .int a2)]) C dX0_shopWith_12 hl (by decide) rfl (fun ls hl => ?_)
  exact w_X0_shopWith_14 C hr u_fuel this a2 a1 0 0 (-1) 0 X ls h (lv_sub hl [5, 7, 4, 3, 2, 1, 0] rfl)
theorem uX1_part_1 : ∀ w ∈ u_ws RX1 TX1 6, w ∈ wsX1_part := by decide +kernel
def f_X1_part (L : hL) (X : hX) (this : Nat) (a1 : Int32) : Option (Int32) :=
  (f_X9_within L X a1 0 4).bind fun r1 =>
  if r1 = 0 then
    some (-100001)
  else
    if a1 = 0 then
      if tk L this 1 then
      some (X.1 this 0)
      else none
    else
      if tk L this 1 then
      if (X.1 this 1) = 0 then
        some (-100009)
      else
        if a1 = 1 then
          some (X.1 this 2)
        else
        if a1 = 2 then
          some (X.1 this 3)
        else
        if a1 = 3 then
          some (X.1 this 4)
        else
        some (X.1 this 5)
      else none
set_option maxRecDepth 100000 in
set_option maxHeartbeats 4000000 in
theorem c_X1_part {l : Launch} {dC : Nat → ClassId} {dI : Nat → Nat → Nat} {cy : Nat → ClassId} {ad : Nat → Nat} {L : hL} {X : hX} {this : Nat} {a1 : Int32} {r : Int32} (h : f_X1_part L X this a1 = some r) : hMet l dC dI cy ad L yX1_part wsX1_part ({ frames := 1, cells := 0, slots := 0, locals := 22 } : Room) [.ref (ad this), .int a1] X (some (.int r)) X := by
  unfold f_X1_part at h
  refine hx_enter RX1 (plainFor_of_name (by decide)) rfl rfl (Nat.le_of_ble_eq_true rfl) (fun p e s m args below meth c C hr hnm ls hl => ?_)
  have hl : lv_has ls 2 [(0, .ref (ad this)), (1, .int a1)] := hl
  refine hx_iload_n C dX1_part_0 rfl (lv_at hl 1 rfl) ?_
  refine hx_iconst (v := 0) C dX1_part_1 (by decide) ?_
  refine hx_iconst (v := 4) C dX1_part_2 (by decide) ?_
  obtain ⟨r1, e2, h⟩ := hx_bind h
  refine hx_callSN (As := [.int a1, .int 0, .int 4]) (rest := []) (n := 3) (host := "TicketScales") C (c_X9_within e2) gX1_part_X9_within_n41 (by decide) (by decide +kernel) (by decide +kernel) (by decide +kernel) ⟨Nat.le_of_ble_eq_true rfl, Nat.le_of_ble_eq_true rfl⟩ rfl rfl rfl ⟨Nat.zero_le _, Nat.zero_le _⟩ hl.1 rfl rfl (Nat.le_of_ble_eq_true rfl) dX1_part_3 ?_
  refine hx_if_ne (tgt := 12) C dX1_part_6 (by decide) (fun c3 => ?_) (fun c3 => ?_)
  · have h := hx_neg c3 h
    refine hx_iload_n C dX1_part_12 rfl (lv_at hl 1 rfl) ?_
    refine hx_if_ne (tgt := 21) C dX1_part_13 (by decide) (fun c4 => ?_) (fun c4 => ?_)
    · have h := hx_neg c4 h
      refine hx_aload_n C dX1_part_21 rfl (lv_at hl 0 rfl) ?_
      obtain ⟨g5, h⟩ := hx_gd h
      refine hx_geti C (ci := 1) (j := 1) g5 uX1_part_1 (by decide) rfl (by decide) rfl (by decide +kernel) rfl dX1_part_22 ?_
      refine hx_if_ne (tgt := 31) C dX1_part_25 (by decide) (fun c6 => ?_) (fun c6 => ?_)
      · have h := hx_neg c6 h
        refine hx_iload_n C dX1_part_31 rfl (lv_at hl 1 rfl) ?_
        by_cases c7 : a1 = 1
        · have h := hx_pos c7 h
          have hz : Int32.toInt a1 = 1 := by rw [c7]; rfl
          refine hx_tableIn (tgt := 60) C dX1_part_32 (by rw [hz] <;> decide) (by rw [hz] <;> decide) (off := 28) (by rw [hz] <;> rfl) (by decide) ?_
          refine hx_aload_n C dX1_part_60 rfl (lv_at hl 0 rfl) ?_
          refine hx_geti C (ci := 1) (j := 2) g5 uX1_part_1 (by decide) rfl (by decide) rfl (by decide +kernel) rfl dX1_part_61 ?_
          obtain rfl := hx_some1 h
          exact hx_iret C hr dX1_part_64
        have h := hx_neg c7 h
        have zc7 : Int32.toInt a1 ≠ 1 := fun z => c7 (Int32.toInt_inj.mp (z.trans rfl))
        by_cases c8 : a1 = 2
        · have h := hx_pos c8 h
          have hz : Int32.toInt a1 = 2 := by rw [c8]; rfl
          refine hx_tableIn (tgt := 65) C dX1_part_32 (by rw [hz] <;> decide) (by rw [hz] <;> decide) (off := 33) (by rw [hz] <;> rfl) (by decide) ?_
          refine hx_aload_n C dX1_part_65 rfl (lv_at hl 0 rfl) ?_
          refine hx_geti C (ci := 1) (j := 3) g5 uX1_part_1 (by decide) rfl (by decide) rfl (by decide +kernel) rfl dX1_part_66 ?_
          obtain rfl := hx_some1 h
          exact hx_iret C hr dX1_part_69
        have h := hx_neg c8 h
        have zc8 : Int32.toInt a1 ≠ 2 := fun z => c8 (Int32.toInt_inj.mp (z.trans rfl))
        by_cases c9 : a1 = 3
        · have h := hx_pos c9 h
          have hz : Int32.toInt a1 = 3 := by rw [c9]; rfl
          refine hx_tableIn (tgt := 70) C dX1_part_32 (by rw [hz] <;> decide) (by rw [hz] <;> decide) (off := 38) (by rw [hz] <;> rfl) (by decide) ?_
          refine hx_aload_n C dX1_part_70 rfl (lv_at hl 0 rfl) ?_
          refine hx_geti C (ci := 1) (j := 4) g5 uX1_part_1 (by decide) rfl (by decide) rfl (by decide +kernel) rfl dX1_part_71 ?_
          obtain rfl := hx_some1 h
          exact hx_iret C hr dX1_part_74
        have h := hx_neg c9 h
        have zc9 : Int32.toInt a1 ≠ 3 := fun z => c9 (Int32.toInt_inj.mp (z.trans rfl))
        refine hx_tableOut (tgt := 75) C dX1_part_32 (by omega) (by decide) ?_
        refine hx_aload_n C dX1_part_75 rfl (lv_at hl 0 rfl) ?_
        refine hx_geti C (ci := 1) (j := 5) g5 uX1_part_1 (by decide) rfl (by decide) rfl (by decide +kernel) rfl dX1_part_76 ?_
        obtain rfl := hx_some1 h
        exact hx_iret C hr dX1_part_79
      · have h := hx_pos c6 h
        refine hx_ldc (v := (-100009)) C (by decide +kernel) dX1_part_28 ?_
        obtain rfl := hx_some1 h
        exact hx_iret C hr dX1_part_30
    · have h := hx_pos c4 h
      refine hx_aload_n C dX1_part_16 rfl (lv_at hl 0 rfl) ?_
      obtain ⟨g10, h⟩ := hx_gd h
      refine hx_geti C (ci := 1) (j := 0) g10 uX1_part_1 (by decide) rfl (by decide) rfl (by decide +kernel) rfl dX1_part_17 ?_
      obtain rfl := hx_some1 h
      exact hx_iret C hr dX1_part_20
  · have h := hx_pos c3 h
    refine hx_ldc (v := (-100001)) C (by decide +kernel) dX1_part_9 ?_
    obtain rfl := hx_some1 h
    exact hx_iret C hr dX1_part_11
def f_X2_init (L : hL) (X : hX) (this : Nat) : Option (Unit) :=
  some ()
set_option maxRecDepth 100000 in
set_option maxHeartbeats 4000000 in
theorem c_X2_init {l : Launch} {dC : Nat → ClassId} {dI : Nat → Nat → Nat} {cy : Nat → ClassId} {ad : Nat → Nat} {L : hL} {X : hX} {this : Nat} (h : f_X2_init L X this = some ()) : hMet l dC dI cy ad L yX2_init wsX2_init ({ frames := 1, cells := 0, slots := 0, locals := 24 } : Room) [.ref (ad this)] X none X := by
  unfold f_X2_init at h
  refine hx_enter RX2 (plainFor_of_name (by decide)) rfl rfl (Nat.le_of_ble_eq_true rfl) (fun p e s m args below meth c C hr hnm ls hl => ?_)
  have hl : lv_has ls 1 [(0, .ref (ad this))] := hl
  refine hx_aload_n C dX2_init_0 rfl (lv_at hl 0 rfl) ?_
  refine hx_objInit C (by decide +kernel) (by decide +kernel) (by decide +kernel) hl.1 dX2_init_1 (Nat.le_of_ble_eq_true rfl) (Nat.le_of_ble_eq_true rfl) ?_
  exact hx_vret C hr dX2_init_4
theorem uX8_copyFrom_8 : ∀ w ∈ u_ws RX8 TX8 3, w ∈ wsX8_copyFrom := by decide +kernel
def f_X8_copyFrom_54 (L : hL) (k13 : Nat → Nat → Int32 → hX → Option (hX)) (v0 : Nat) (v1 : Nat) (v2 : Int32) (X : hX) : Option (hX) :=
  k13 v0 v1 (v2 + 1) X
set_option maxRecDepth 100000 in
set_option maxHeartbeats 4000000 in
theorem w_X8_copyFrom_54 {p : Program} {l : Launch} {e : Env} {s : State} {m : MethodId} {args : Array Value} {below : List Frame} {meth : Method} {c : Code} {dC : Nat → ClassId} {dI : Nat → Nat → Nat} {cy : Nat → ClassId} {ad : Nat → Nat} {L : hL} {X' : hX} (k13 : Nat → Nat → Int32 → hX → Option (hX)) (C : hC p s m args meth c dC dI cy ad L (hA ad L s.heap.size) cX8_copyFrom 3 wsX8_copyFrom RX8) (hr : meth.sig.returnType = none) (hk13 : ∀ (v0 : Nat) (v1 : Nat) (v2 : Int32) (X : hX) (ls : Array Slot), k13 v0 v1 v2 X = some X' → lv_has ls 3 [(0, .ref (ad v0)), (1, .ref (ad v1)), (2, .int v2)] → hG p l e (headSpec wsX8_copyFrom ({ frames := 2, cells := 0, slots := 0, locals := 43 } : Room)).room s m args below meth c dC dI cy ad L (hA ad L s.heap.size) 0 0 (MQ below (hQ dC dI cy ad L s.heap.size none X') args s 0 0 (hA ad L s.heap.size)) X 13 ls []) : ∀ (v0 : Nat) (v1 : Nat) (v2 : Int32) (X : hX) (ls : Array Slot), f_X8_copyFrom_54 L k13 v0 v1 v2 X = some X' → lv_has ls 3 [(0, .ref (ad v0)), (1, .ref (ad v1)), (2, .int v2)] → hG p l e (headSpec wsX8_copyFrom ({ frames := 2, cells := 0, slots := 0, locals := 43 } : Room)).room s m args below meth c dC dI cy ad L (hA ad L s.heap.size) 0 0 (MQ below (hQ dC dI cy ad L s.heap.size none X') args s 0 0 (hA ad L s.heap.size)) X 54 ls [] := by
  intro v0 v1 v2 X ls h hl
  unfold f_X8_copyFrom_54 at h
  refine hx_iinc (v := v2 + 1) (lv' := [(2, .int (v2 + 1)), (0, .ref (ad v0)), (1, .ref (ad v1))]) C dX8_copyFrom_54 hl (k := 2) rfl rfl (by decide) rfl (fun ls hl => ?_)
  refine hx_goto (tgt := 13) C dX8_copyFrom_57 (by decide) ?_
  exact hk13 v0 v1 (v2 + 1) X ls h (lv_sub hl [1, 2, 0] rfl)
def f_X8_copyFrom_13 (L : hL) : Nat → Nat → Nat → Int32 → hX → Option (hX)
  | 0, _, _, _, _ => none
  | n + 1, v0, v1, v2, X =>
    if 2 ≤ v2 then
      some X
    else
      if tk L v0 8 then
      (X.2 v0 2).bind fun q3 =>
      if tk L v1 8 then
      (X.2 v1 2).bind fun q6 =>
      if tk L q6 13 then
      if hin v2 (L.2.2 q6) then
      if tk L q3 13 then
      if hin v2 (L.2.2 q3) then
      if ((smi X q3 (Int32.toNatClampNeg v2) (vp_nar .boolean (X.1 q6 (Int32.toNatClampNeg v2)))).1 q3 (Int32.toNatClampNeg v2)) = 0 then
        f_X8_copyFrom_54 L (f_X8_copyFrom_13 L n) v0 v1 v2 (smi X q3 (Int32.toNatClampNeg v2) (vp_nar .boolean (X.1 q6 (Int32.toNatClampNeg v2))))
      else
        (X.2 v0 1).bind fun q13 =>
        if tk L q13 14 then
        if hin v2 (L.2.2 q13) then
        (X.2 q13 (Int32.toNatClampNeg v2)).bind fun q17 =>
        (X.2 v1 1).bind fun q19 =>
        if tk L q19 14 then
        if hin v2 (L.2.2 q19) then
        (X.2 q19 (Int32.toNatClampNeg v2)).bind fun q23 =>
        (f_X0_copyFrom L (smi X q3 (Int32.toNatClampNeg v2) (vp_nar .boolean (X.1 q6 (Int32.toNatClampNeg v2)))) q17 q23).bind fun r25 =>
        if tk L q17 0 then
        f_X8_copyFrom_54 L (f_X8_copyFrom_13 L n) v0 v1 v2 r25
        else none
        else none
        else none
        else none
        else none
      else none
      else none
      else none
      else none
      else none
      else none
set_option maxRecDepth 100000 in
set_option maxHeartbeats 4000000 in
theorem w_X8_copyFrom_13 {p : Program} {l : Launch} {e : Env} {s : State} {m : MethodId} {args : Array Value} {below : List Frame} {meth : Method} {c : Code} {dC : Nat → ClassId} {dI : Nat → Nat → Nat} {cy : Nat → ClassId} {ad : Nat → Nat} {L : hL} {X' : hX} (C : hC p s m args meth c dC dI cy ad L (hA ad L s.heap.size) cX8_copyFrom 3 wsX8_copyFrom RX8) (hr : meth.sig.returnType = none) : ∀ (n : Nat) (v0 : Nat) (v1 : Nat) (v2 : Int32) (X : hX) (ls : Array Slot), f_X8_copyFrom_13 L n v0 v1 v2 X = some X' → lv_has ls 3 [(0, .ref (ad v0)), (1, .ref (ad v1)), (2, .int v2)] → hG p l e (headSpec wsX8_copyFrom ({ frames := 2, cells := 0, slots := 0, locals := 43 } : Room)).room s m args below meth c dC dI cy ad L (hA ad L s.heap.size) 0 0 (MQ below (hQ dC dI cy ad L s.heap.size none X') args s 0 0 (hA ad L s.heap.size)) X 13 ls [] := by
  intro n
  induction n with
  | zero => intro v0 v1 v2 X ls h; cases h
  | succ n ih =>
    intro v0 v1 v2 X ls h hl
    rw [f_X8_copyFrom_13] at h
    refine hx_iload_n C dX8_copyFrom_13 rfl (lv_at hl 2 rfl) ?_
    refine hx_iconst (v := 2) C dX8_copyFrom_14 (by decide) ?_
    refine hx_icmp_ge (tgt := 60) C dX8_copyFrom_15 (by decide) (fun c1 => ?_) (fun c1 => ?_)
    · have h := hx_pos c1 h
      obtain rfl := hx_some1 h
      exact hx_vret C hr dX8_copyFrom_60
    · have h := hx_neg c1 h
      refine hx_aload_n C dX8_copyFrom_18 rfl (lv_at hl 0 rfl) ?_
      obtain ⟨g2, h⟩ := hx_gd h
      obtain ⟨q3, e4, h⟩ := hx_bind h
      refine hx_getr C (ci := 8) (j := 2) g2 uX8_copyFrom_8 (by decide) rfl (by decide) rfl (by decide +kernel) rfl dX8_copyFrom_19 e4 ?_
      refine hx_iload_n C dX8_copyFrom_22 rfl (lv_at hl 2 rfl) ?_
      refine hx_aload_n C dX8_copyFrom_23 rfl (lv_at hl 1 rfl) ?_
      obtain ⟨g5, h⟩ := hx_gd h
      obtain ⟨q6, e7, h⟩ := hx_bind h
      refine hx_getr C (ci := 8) (j := 2) g5 uX8_copyFrom_8 (by decide) rfl (by decide) rfl (by decide +kernel) rfl dX8_copyFrom_24 e7 ?_
      refine hx_iload_n C dX8_copyFrom_27 rfl (lv_at hl 2 rfl) ?_
      obtain ⟨g8, h⟩ := hx_gd h
      obtain ⟨g9, h⟩ := hx_gd h
      refine hx_zald (n := (Int32.toNatClampNeg v2)) C g8 g9 rfl dX8_copyFrom_28 ?_
      obtain ⟨g10, h⟩ := hx_gd h
      obtain ⟨g11, h⟩ := hx_gd h
      refine hx_zast (n := (Int32.toNatClampNeg v2)) C g10 g11 rfl dX8_copyFrom_29 ?_
      refine hx_aload_n C dX8_copyFrom_30 rfl (lv_at hl 0 rfl) ?_
      refine hx_getr C (ci := 8) (j := 2) g2 uX8_copyFrom_8 (by decide) rfl (by decide) rfl (by decide +kernel) rfl dX8_copyFrom_31 e4 ?_
      refine hx_iload_n C dX8_copyFrom_34 rfl (lv_at hl 2 rfl) ?_
      refine hx_zald (n := (Int32.toNatClampNeg v2)) C g10 g11 rfl dX8_copyFrom_35 ?_
      refine hx_if_eq (tgt := 54) C dX8_copyFrom_36 (by decide) (fun c12 => ?_) (fun c12 => ?_)
      · have h := hx_pos c12 h
        exact w_X8_copyFrom_54 (f_X8_copyFrom_13 L n) C hr ih v0 v1 v2 (smi X q3 (Int32.toNatClampNeg v2) (vp_nar .boolean (X.1 q6 (Int32.toNatClampNeg v2)))) ls h (lv_sub hl [0, 1, 2] rfl)
      · have h := hx_neg c12 h
        refine hx_aload_n C dX8_copyFrom_39 rfl (lv_at hl 0 rfl) ?_
        obtain ⟨q13, e14, h⟩ := hx_bind h
        refine hx_getr C (ci := 8) (j := 1) g2 uX8_copyFrom_8 (by decide) rfl (by decide) rfl (by decide +kernel) rfl dX8_copyFrom_40 e14 ?_
        refine hx_iload_n C dX8_copyFrom_43 rfl (lv_at hl 2 rfl) ?_
        obtain ⟨g15, h⟩ := hx_gd h
        obtain ⟨g16, h⟩ := hx_gd h
        obtain ⟨q17, e18, h⟩ := hx_bind h
        refine hx_aald (t0 := 3) C g15 (by decide) rfl g16 rfl e18 dX8_copyFrom_44 ?_
        refine hx_aload_n C dX8_copyFrom_45 rfl (lv_at hl 1 rfl) ?_
        obtain ⟨q19, e20, h⟩ := hx_bind h
        refine hx_getr C (ci := 8) (j := 1) g5 uX8_copyFrom_8 (by decide) rfl (by decide) rfl (by decide +kernel) rfl dX8_copyFrom_46 e20 ?_
        refine hx_iload_n C dX8_copyFrom_49 rfl (lv_at hl 2 rfl) ?_
        obtain ⟨g21, h⟩ := hx_gd h
        obtain ⟨g22, h⟩ := hx_gd h
        obtain ⟨q23, e24, h⟩ := hx_bind h
        refine hx_aald (t0 := 3) C g21 (by decide) rfl g22 rfl e24 dX8_copyFrom_50 ?_
        obtain ⟨r25, e26, h⟩ := hx_bind h
        obtain ⟨g27, h⟩ := hx_gd h
        refine hx_callV (As := [.ref (ad q23)]) (rest := []) (n := 1) (Cn := RX0) C (c_X0_copyFrom e26) gX8_copyFrom_X0_copyFrom g27 (by decide) rfl (by decide +kernel) ⟨Nat.le_of_ble_eq_true rfl, Nat.le_of_ble_eq_true rfl⟩ rfl rfl rfl ⟨Nat.zero_le _, Nat.zero_le _⟩ hl.1 rfl rfl (Nat.le_of_ble_eq_true rfl) dX8_copyFrom_51 ?_
        exact w_X8_copyFrom_54 (f_X8_copyFrom_13 L n) C hr ih v0 v1 v2 r25 ls h (lv_sub hl [0, 1, 2] rfl)
def f_X8_copyFrom (L : hL) (X : hX) (this : Nat) (a1 : Nat) : Option (hX) :=
  if tk L this 8 then
  (X.2 this 0).bind fun q29 =>
  if tk L a1 8 then
  (X.2 a1 0).bind fun q32 =>
  (f_X0_copyFrom L X q29 q32).bind fun r34 =>
  if tk L q29 0 then
  f_X8_copyFrom_13 L u_fuel this a1 0 r34
  else none
  else none
  else none
set_option maxRecDepth 100000 in
set_option maxHeartbeats 4000000 in
theorem c_X8_copyFrom {l : Launch} {dC : Nat → ClassId} {dI : Nat → Nat → Nat} {cy : Nat → ClassId} {ad : Nat → Nat} {L : hL} {X : hX} {this : Nat} {a1 : Nat} {X' : hX} (h : f_X8_copyFrom L X this a1 = some X') : hMet l dC dI cy ad L yX8_copyFrom wsX8_copyFrom ({ frames := 2, cells := 0, slots := 0, locals := 43 } : Room) [.ref (ad this), .ref (ad a1)] X none X' := by
  unfold f_X8_copyFrom at h
  refine hx_enter RX8 (plainFor_of_name (by decide)) rfl rfl (Nat.le_of_ble_eq_true rfl) (fun p e s m args below meth c C hr hnm ls hl => ?_)
  have hl : lv_has ls 3 [(0, .ref (ad this)), (1, .ref (ad a1))] := hl
  refine hx_aload_n C dX8_copyFrom_0 rfl (lv_at hl 0 rfl) ?_
  obtain ⟨g28, h⟩ := hx_gd h
  obtain ⟨q29, e30, h⟩ := hx_bind h
  refine hx_getr C (ci := 8) (j := 0) g28 uX8_copyFrom_8 (by decide) rfl (by decide) rfl (by decide +kernel) rfl dX8_copyFrom_1 e30 ?_
  refine hx_aload_n C dX8_copyFrom_4 rfl (lv_at hl 1 rfl) ?_
  obtain ⟨g31, h⟩ := hx_gd h
  obtain ⟨q32, e33, h⟩ := hx_bind h
  refine hx_getr C (ci := 8) (j := 0) g31 uX8_copyFrom_8 (by decide) rfl (by decide) rfl (by decide +kernel) rfl dX8_copyFrom_5 e33 ?_
  obtain ⟨r34, e35, h⟩ := hx_bind h
  obtain ⟨g36, h⟩ := hx_gd h
  refine hx_callV (As := [.ref (ad q32)]) (rest := []) (n := 1) (Cn := RX0) C (c_X0_copyFrom e35) gX8_copyFrom_X0_copyFrom g36 (by decide) rfl (by decide +kernel) ⟨Nat.le_of_ble_eq_true rfl, Nat.le_of_ble_eq_true rfl⟩ rfl rfl rfl ⟨Nat.zero_le _, Nat.zero_le _⟩ hl.1 rfl rfl (Nat.le_of_ble_eq_true rfl) dX8_copyFrom_8 ?_
  refine hx_iconst (v := 0) C dX8_copyFrom_11 (by decide) ?_
  refine hx_istore_n (lv' := [(2, .int 0), (0, .ref (ad this)), (1, .ref (ad a1))]) C dX8_copyFrom_12 rfl hl (by decide) rfl (fun ls hl => ?_)
  exact w_X8_copyFrom_13 C hr u_fuel this a1 0 r34 ls h (lv_sub hl [1, 2, 0] rfl)
theorem uX3_prepare_3 : ∀ w ∈ u_ws RX3 TX3 4, w ∈ wsX3_prepare := by decide +kernel
def f_X3_prepare (L : hL) (X : hX) (this : Nat) : Option (hX) :=
  if tk L this 3 then
  (X.2 this 2).bind fun q2 =>
  (X.2 this 1).bind fun q4 =>
  (f_X8_copyFrom L X q2 q4).bind fun r6 =>
  if tk L q2 8 then
  some r6
  else none
  else none
set_option maxRecDepth 100000 in
set_option maxHeartbeats 4000000 in
theorem c_X3_prepare {l : Launch} {dC : Nat → ClassId} {dI : Nat → Nat → Nat} {cy : Nat → ClassId} {ad : Nat → Nat} {L : hL} {X : hX} {this : Nat} {X' : hX} (h : f_X3_prepare L X this = some X') : hMet l dC dI cy ad L yX3_prepare wsX3_prepare ({ frames := 3, cells := 0, slots := 0, locals := 65 } : Room) [.ref (ad this)] X none X' := by
  unfold f_X3_prepare at h
  refine hx_enter RX3 (plainFor_of_name (by decide)) rfl rfl (Nat.le_of_ble_eq_true rfl) (fun p e s m args below meth c C hr hnm ls hl => ?_)
  have hl : lv_has ls 1 [(0, .ref (ad this))] := hl
  refine hx_aload_n C dX3_prepare_0 rfl (lv_at hl 0 rfl) ?_
  obtain ⟨g1, h⟩ := hx_gd h
  obtain ⟨q2, e3, h⟩ := hx_bind h
  refine hx_getr C (ci := 3) (j := 2) g1 uX3_prepare_3 (by decide) rfl (by decide) rfl (by decide +kernel) rfl dX3_prepare_1 e3 ?_
  refine hx_aload_n C dX3_prepare_4 rfl (lv_at hl 0 rfl) ?_
  obtain ⟨q4, e5, h⟩ := hx_bind h
  refine hx_getr C (ci := 3) (j := 1) g1 uX3_prepare_3 (by decide) rfl (by decide) rfl (by decide +kernel) rfl dX3_prepare_5 e5 ?_
  obtain ⟨r6, e7, h⟩ := hx_bind h
  obtain ⟨g8, h⟩ := hx_gd h
  refine hx_callV (As := [.ref (ad q4)]) (rest := []) (n := 1) (Cn := RX8) C (c_X8_copyFrom e7) gX3_prepare_X8_copyFrom g8 (by decide) rfl (by decide +kernel) ⟨Nat.le_of_ble_eq_true rfl, Nat.le_of_ble_eq_true rfl⟩ rfl rfl rfl ⟨Nat.zero_le _, Nat.zero_le _⟩ hl.1 rfl rfl (Nat.le_of_ble_eq_true rfl) dX3_prepare_8 ?_
  obtain rfl := hx_some1 h
  exact hx_vret C hr dX3_prepare_11
def f_X9_isError (L : hL) (X : hX) (a1 : Int32) : Option (Int32) :=
  if a1 = (-100001) then
    some 1
  else
    if a1 = (-100002) then
      some 1
    else
      if a1 = (-100003) then
        some 1
      else
        some 0
set_option maxRecDepth 100000 in
set_option maxHeartbeats 4000000 in
theorem c_X9_isError {l : Launch} {dC : Nat → ClassId} {dI : Nat → Nat → Nat} {cy : Nat → ClassId} {ad : Nat → Nat} {L : hL} {X : hX} {a1 : Int32} {r : Int32} (h : f_X9_isError L X a1 = some r) : hMet l dC dI cy ad L yX9_isError wsX9_isError ({ frames := 0, cells := 0, slots := 0, locals := 0 } : Room) [.int a1] X (some (.int r)) X := by
  unfold f_X9_isError at h
  refine hx_enter RX9 (plainFor_of_name (by decide)) rfl rfl (Nat.le_of_ble_eq_true rfl) (fun p e s m args below meth c C hr hnm ls hl => ?_)
  have hl : lv_has ls 1 [(0, .int a1)] := hl
  refine hx_iload_n C dX9_isError_0 rfl (lv_at hl 0 rfl) ?_
  refine hx_ldc (v := (-100001)) C (by decide +kernel) dX9_isError_1 ?_
  refine hx_icmp_eq (tgt := 18) C dX9_isError_3 (by decide) (fun c1 => ?_) (fun c1 => ?_)
  · have h := hx_pos c1 h
    refine hx_iconst (v := 1) C dX9_isError_18 (by decide) ?_
    refine hx_goto (tgt := 23) C dX9_isError_19 (by decide) ?_
    obtain rfl := hx_some1 h
    exact hx_zret C hr rfl dX9_isError_23
  · have h := hx_neg c1 h
    refine hx_iload_n C dX9_isError_6 rfl (lv_at hl 0 rfl) ?_
    refine hx_ldc (v := (-100002)) C (by decide +kernel) dX9_isError_7 ?_
    refine hx_icmp_eq (tgt := 18) C dX9_isError_9 (by decide) (fun c2 => ?_) (fun c2 => ?_)
    · have h := hx_pos c2 h
      refine hx_iconst (v := 1) C dX9_isError_18 (by decide) ?_
      refine hx_goto (tgt := 23) C dX9_isError_19 (by decide) ?_
      obtain rfl := hx_some1 h
      exact hx_zret C hr rfl dX9_isError_23
    · have h := hx_neg c2 h
      refine hx_iload_n C dX9_isError_12 rfl (lv_at hl 0 rfl) ?_
      refine hx_ldc (v := (-100003)) C (by decide +kernel) dX9_isError_13 ?_
      refine hx_icmp_ne (tgt := 22) C dX9_isError_15 (by decide) (fun c3 => ?_) (fun c3 => ?_)
      · have h := hx_neg c3 h
        refine hx_iconst (v := 0) C dX9_isError_22 (by decide) ?_
        obtain rfl := hx_some1 h
        exact hx_zret C hr rfl dX9_isError_23
      · have h := hx_pos c3 h
        refine hx_iconst (v := 1) C dX9_isError_18 (by decide) ?_
        refine hx_goto (tgt := 23) C dX9_isError_19 (by decide) ?_
        obtain rfl := hx_some1 h
        exact hx_zret C hr rfl dX9_isError_23
theorem uX3_dropOldest_3 : ∀ w ∈ u_ws RX3 TX3 4, w ∈ wsX3_dropOldest := by decide +kernel
def f_X3_dropOldest_9 (L : hL) : Nat → Nat → Nat → Int32 → hX → Option (hX)
  | 0, _, _, _, _ => none
  | n + 1, v0, v1, v2, X =>
    if 4 ≤ v2 then
      if tk L v0 3 then
      (X.2 v0 0).bind fun q3 =>
      if tk L q3 18 then
      if 4 < L.2.2 q3 then
      if tk L v1 8 then
      some (smi (smr X q3 4 (some v1)) v0 3 4)
      else none
      else none
      else none
      else none
    else
      if tk L v0 3 then
      (X.2 v0 0).bind fun q9 =>
      if tk L q9 18 then
      if hin (v2 + 1) (L.2.2 q9) then
      (X.2 q9 (Int32.toNatClampNeg (v2 + 1))).bind fun q13 =>
      if hin v2 (L.2.2 q9) then
      if tk L q13 8 then
      f_X3_dropOldest_9 L n v0 v1 (v2 + 1) (smr X q9 (Int32.toNatClampNeg v2) (some q13))
      else none
      else none
      else none
      else none
      else none
set_option maxRecDepth 100000 in
set_option maxHeartbeats 4000000 in
theorem w_X3_dropOldest_9 {p : Program} {l : Launch} {e : Env} {s : State} {m : MethodId} {args : Array Value} {below : List Frame} {meth : Method} {c : Code} {dC : Nat → ClassId} {dI : Nat → Nat → Nat} {cy : Nat → ClassId} {ad : Nat → Nat} {L : hL} {X' : hX} (C : hC p s m args meth c dC dI cy ad L (hA ad L s.heap.size) cX3_dropOldest 3 wsX3_dropOldest RX3) (hr : meth.sig.returnType = none) : ∀ (n : Nat) (v0 : Nat) (v1 : Nat) (v2 : Int32) (X : hX) (ls : Array Slot), f_X3_dropOldest_9 L n v0 v1 v2 X = some X' → lv_has ls 3 [(0, .ref (ad v0)), (1, .ref (ad v1)), (2, .int v2)] → hG p l e (headSpec wsX3_dropOldest ({ frames := 0, cells := 0, slots := 0, locals := 0 } : Room)).room s m args below meth c dC dI cy ad L (hA ad L s.heap.size) 0 0 (MQ below (hQ dC dI cy ad L s.heap.size none X') args s 0 0 (hA ad L s.heap.size)) X 9 ls [] := by
  intro n
  induction n with
  | zero => intro v0 v1 v2 X ls h; cases h
  | succ n ih =>
    intro v0 v1 v2 X ls h hl
    rw [f_X3_dropOldest_9] at h
    refine hx_iload_n C dX3_dropOldest_9 rfl (lv_at hl 2 rfl) ?_
    refine hx_iconst (v := 4) C dX3_dropOldest_10 (by decide) ?_
    refine hx_icmp_ge (tgt := 34) C dX3_dropOldest_11 (by decide) (fun c1 => ?_) (fun c1 => ?_)
    · have h := hx_pos c1 h
      refine hx_aload_n C dX3_dropOldest_34 rfl (lv_at hl 0 rfl) ?_
      obtain ⟨g2, h⟩ := hx_gd h
      obtain ⟨q3, e4, h⟩ := hx_bind h
      refine hx_getr C (ci := 3) (j := 0) g2 uX3_dropOldest_3 (by decide) rfl (by decide) rfl (by decide +kernel) rfl dX3_dropOldest_35 e4 ?_
      refine hx_iconst (v := 4) C dX3_dropOldest_38 (by decide) ?_
      refine hx_aload_n C dX3_dropOldest_39 rfl (lv_at hl 1 rfl) ?_
      obtain ⟨g5, h⟩ := hx_gd h
      obtain ⟨g6, h⟩ := hx_gd h
      obtain ⟨g7, h⟩ := hx_gd h
      refine hx_aast (t0 := 7) (n := 4) C g5 (by decide) rfl g7 (by decide) rfl (hin_lit (i := 4) (by decide) rfl g6) rfl dX3_dropOldest_40 ?_
      refine hx_aload_n C dX3_dropOldest_41 rfl (lv_at hl 0 rfl) ?_
      refine hx_iconst (v := 4) C dX3_dropOldest_42 (by decide) ?_
      refine hx_puti C (ci := 3) (j := 3) tyX3 tyX3_ok nmX3 g2 uX3_dropOldest_3 (by decide) rfl (by decide) rfl (by decide +kernel) rfl rfl (tyX3_ok 3 (by decide)) dX3_dropOldest_43 rfl rfl ?_
      obtain rfl := hx_some1 h
      exact hx_vret C hr dX3_dropOldest_46
    · have h := hx_neg c1 h
      refine hx_aload_n C dX3_dropOldest_14 rfl (lv_at hl 0 rfl) ?_
      obtain ⟨g8, h⟩ := hx_gd h
      obtain ⟨q9, e10, h⟩ := hx_bind h
      refine hx_getr C (ci := 3) (j := 0) g8 uX3_dropOldest_3 (by decide) rfl (by decide) rfl (by decide +kernel) rfl dX3_dropOldest_15 e10 ?_
      refine hx_iload_n C dX3_dropOldest_18 rfl (lv_at hl 2 rfl) ?_
      refine hx_aload_n C dX3_dropOldest_19 rfl (lv_at hl 0 rfl) ?_
      refine hx_getr C (ci := 3) (j := 0) g8 uX3_dropOldest_3 (by decide) rfl (by decide) rfl (by decide +kernel) rfl dX3_dropOldest_20 e10 ?_
      refine hx_iload_n C dX3_dropOldest_23 rfl (lv_at hl 2 rfl) ?_
      refine hx_iconst (v := 1) C dX3_dropOldest_24 (by decide) ?_
      refine hx_iadd C dX3_dropOldest_25 ?_
      obtain ⟨g11, h⟩ := hx_gd h
      obtain ⟨g12, h⟩ := hx_gd h
      obtain ⟨q13, e14, h⟩ := hx_bind h
      refine hx_aald (t0 := 7) C g11 (by decide) rfl g12 rfl e14 dX3_dropOldest_26 ?_
      obtain ⟨g15, h⟩ := hx_gd h
      obtain ⟨g16, h⟩ := hx_gd h
      refine hx_aast (t0 := 7) (n := (Int32.toNatClampNeg v2)) C g11 (by decide) rfl g16 (by decide) rfl g15 rfl dX3_dropOldest_27 ?_
      refine hx_iinc (v := v2 + 1) (lv' := [(2, .int (v2 + 1)), (0, .ref (ad v0)), (1, .ref (ad v1))]) C dX3_dropOldest_28 hl (k := 2) rfl rfl (by decide) rfl (fun ls hl => ?_)
      refine hx_goto (tgt := 9) C dX3_dropOldest_31 (by decide) ?_
      exact ih v0 v1 (v2 + 1) (smr X q9 (Int32.toNatClampNeg v2) (some q13)) ls h (lv_sub hl [1, 2, 0] rfl)
def f_X3_dropOldest (L : hL) (X : hX) (this : Nat) : Option (hX) :=
  if tk L this 3 then
  (X.2 this 0).bind fun q18 =>
  if tk L q18 18 then
  if 0 < L.2.2 q18 then
  (X.2 q18 0).bind fun q22 =>
  f_X3_dropOldest_9 L u_fuel this q22 0 X
  else none
  else none
  else none
set_option maxRecDepth 100000 in
set_option maxHeartbeats 4000000 in
theorem c_X3_dropOldest {l : Launch} {dC : Nat → ClassId} {dI : Nat → Nat → Nat} {cy : Nat → ClassId} {ad : Nat → Nat} {L : hL} {X : hX} {this : Nat} {X' : hX} (h : f_X3_dropOldest L X this = some X') : hMet l dC dI cy ad L yX3_dropOldest wsX3_dropOldest ({ frames := 0, cells := 0, slots := 0, locals := 0 } : Room) [.ref (ad this)] X none X' := by
  unfold f_X3_dropOldest at h
  refine hx_enter RX3 (plainFor_of_name (by decide)) rfl rfl (Nat.le_of_ble_eq_true rfl) (fun p e s m args below meth c C hr hnm ls hl => ?_)
  have hl : lv_has ls 3 [(0, .ref (ad this))] := hl
  refine hx_aload_n C dX3_dropOldest_0 rfl (lv_at hl 0 rfl) ?_
  obtain ⟨g17, h⟩ := hx_gd h
  obtain ⟨q18, e19, h⟩ := hx_bind h
  refine hx_getr C (ci := 3) (j := 0) g17 uX3_dropOldest_3 (by decide) rfl (by decide) rfl (by decide +kernel) rfl dX3_dropOldest_1 e19 ?_
  refine hx_iconst (v := 0) C dX3_dropOldest_4 (by decide) ?_
  obtain ⟨g20, h⟩ := hx_gd h
  obtain ⟨g21, h⟩ := hx_gd h
  obtain ⟨q22, e23, h⟩ := hx_bind h
  refine hx_aald (t0 := 7) C g20 (by decide) rfl (hin_lit (i := 0) (by decide) rfl g21) rfl e23 dX3_dropOldest_5 ?_
  refine hx_astore_n (lv' := [(1, .ref (ad q22)), (0, .ref (ad this))]) C dX3_dropOldest_6 rfl hl (by decide) rfl (fun ls hl => ?_)
  refine hx_iconst (v := 0) C dX3_dropOldest_7 (by decide) ?_
  refine hx_istore_n (lv' := [(2, .int 0), (1, .ref (ad q22)), (0, .ref (ad this))]) C dX3_dropOldest_8 rfl hl (by decide) rfl (fun ls hl => ?_)
  exact w_X3_dropOldest_9 C hr u_fuel this q22 0 X ls h (lv_sub hl [2, 1, 0] rfl)
