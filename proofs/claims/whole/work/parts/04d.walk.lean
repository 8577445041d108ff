theorem uX0_number_0 : ∀ w ∈ u_ws RX0 TX0 9, w ∈ wsX0_number := by decide +kernel
theorem uX0_number_7 : ∀ w ∈ u_ws RX7 TX7 3, w ∈ wsX0_number := by decide +kernel
def f_X0_number (L : hL) (X : hX) (this : Nat) (a1 : Int32) : Option (Int32) :=
  if a1 = 0 then
    if tk L this 0 then
    (X.2 this 1).bind fun q3 =>
    if tk L q3 7 then
    some (X.1 q3 0)
    else none
    else none
  else
  if a1 = 1 then
    if tk L this 0 then
    (X.2 this 1).bind fun q8 =>
    if tk L q8 7 then
    some (X.1 q8 1)
    else none
    else none
  else
  if a1 = 2 then
    if tk L this 0 then
    (X.2 this 1).bind fun q13 =>
    if tk L q13 7 then
    some (X.1 q13 2)
    else none
    else none
  else
  if a1 = 3 then
    if tk L this 0 then
    some (X.1 this 6)
    else none
  else
  if a1 = 4 then
    if tk L this 0 then
    some (X.1 this 7)
    else none
  else
  if a1 = 5 then
    if tk L this 0 then
    some (X.1 this 4)
    else none
  else
  if a1 = 6 then
    if tk L this 0 then
    some (X.1 this 5)
    else none
  else
  if a1 = 7 then
    (f_X0_keptWeighings L X this).bind fun r25 =>
    if tk L this 0 then
    some r25
    else none
  else
  if a1 = 8 then
    if tk L this 0 then
    some (X.1 this 8)
    else none
  else
  if a1 = 9 then
    (f_X0_allPoints L X this).bind fun r31 =>
    if tk L this 0 then
    some r31
    else none
  else
  if a1 = 10 then
    (f_X0_allStocks L X this).bind fun r35 =>
    if tk L this 0 then
    some r35
    else none
  else
  some (-100001)
set_option maxRecDepth 100000 in
set_option maxHeartbeats 4000000 in
theorem c_X0_number {l : Launch} {dC : Nat → ClassId} {dI : Nat → Nat → Nat} {cy : Nat → ClassId} {ad : Nat → Nat} {L : hL} {X : hX} {this : Nat} {a1 : Int32} {r : Int32} (h : f_X0_number L X this a1 = some r) : hMet l dC dI cy ad L yX0_number wsX0_number ({ frames := 1, cells := 0, slots := 0, locals := 25 } : Room) [.ref (ad this), .int a1] X (some (.int r)) X := by
  unfold f_X0_number at h
  refine hx_enter RX0 (plainFor_of_name (by decide)) rfl rfl (Nat.le_of_ble_eq_true rfl) (fun p e s m args below meth c C hr hnm ls hl => ?_)
  have hl : lv_has ls 2 [(0, .ref (ad this)), (1, .int a1)] := hl
  refine hx_iload_n C dX0_number_0 rfl (lv_at hl 1 rfl) ?_
  by_cases c1 : a1 = 0
  · have h := hx_pos c1 h
    have hz : Int32.toInt a1 = 0 := by rw [c1]; rfl
    refine hx_tableIn (tgt := 60) C dX0_number_1 (by rw [hz] <;> decide) (by rw [hz] <;> decide) (off := 59) (by rw [hz] <;> rfl) (by decide) ?_
    refine hx_aload_n C dX0_number_60 rfl (lv_at hl 0 rfl) ?_
    obtain ⟨g2, h⟩ := hx_gd h
    obtain ⟨q3, e4, h⟩ := hx_bind h
    refine hx_getr C (ci := 0) (j := 1) g2 uX0_number_0 (by decide) rfl (by decide) rfl (by decide +kernel) rfl dX0_number_61 e4 ?_
    obtain ⟨g5, h⟩ := hx_gd h
    refine hx_geti C (ci := 7) (j := 0) g5 uX0_number_7 (by decide) rfl (by decide) rfl (by decide +kernel) rfl dX0_number_64 ?_
    obtain rfl := hx_some1 h
    exact hx_iret C hr dX0_number_67
  have h := hx_neg c1 h
  have zc1 : Int32.toInt a1 ≠ 0 := fun z => c1 (Int32.toInt_inj.mp (z.trans rfl))
  by_cases c6 : a1 = 1
  · have h := hx_pos c6 h
    have hz : Int32.toInt a1 = 1 := by rw [c6]; rfl
    refine hx_tableIn (tgt := 68) C dX0_number_1 (by rw [hz] <;> decide) (by rw [hz] <;> decide) (off := 67) (by rw [hz] <;> rfl) (by decide) ?_
    refine hx_aload_n C dX0_number_68 rfl (lv_at hl 0 rfl) ?_
    obtain ⟨g7, h⟩ := hx_gd h
    obtain ⟨q8, e9, h⟩ := hx_bind h
    refine hx_getr C (ci := 0) (j := 1) g7 uX0_number_0 (by decide) rfl (by decide) rfl (by decide +kernel) rfl dX0_number_69 e9 ?_
    obtain ⟨g10, h⟩ := hx_gd h
    refine hx_geti C (ci := 7) (j := 1) g10 uX0_number_7 (by decide) rfl (by decide) rfl (by decide +kernel) rfl dX0_number_72 ?_
    obtain rfl := hx_some1 h
    exact hx_iret C hr dX0_number_75
  have h := hx_neg c6 h
  have zc6 : Int32.toInt a1 ≠ 1 := fun z => c6 (Int32.toInt_inj.mp (z.trans rfl))
  by_cases c11 : a1 = 2
  · have h := hx_pos c11 h
    have hz : Int32.toInt a1 = 2 := by rw [c11]; rfl
    refine hx_tableIn (tgt := 76) C dX0_number_1 (by rw [hz] <;> decide) (by rw [hz] <;> decide) (off := 75) (by rw [hz] <;> rfl) (by decide) ?_
    refine hx_aload_n C dX0_number_76 rfl (lv_at hl 0 rfl) ?_
    obtain ⟨g12, h⟩ := hx_gd h
    obtain ⟨q13, e14, h⟩ := hx_bind h
    refine hx_getr C (ci := 0) (j := 1) g12 uX0_number_0 (by decide) rfl (by decide) rfl (by decide +kernel) rfl dX0_number_77 e14 ?_
    obtain ⟨g15, h⟩ := hx_gd h
    refine hx_geti C (ci := 7) (j := 2) g15 uX0_number_7 (by decide) rfl (by decide) rfl (by decide +kernel) rfl dX0_number_80 ?_
    obtain rfl := hx_some1 h
    exact hx_iret C hr dX0_number_83
  have h := hx_neg c11 h
  have zc11 : Int32.toInt a1 ≠ 2 := fun z => c11 (Int32.toInt_inj.mp (z.trans rfl))
  by_cases c16 : a1 = 3
  · have h := hx_pos c16 h
    have hz : Int32.toInt a1 = 3 := by rw [c16]; rfl
    refine hx_tableIn (tgt := 84) C dX0_number_1 (by rw [hz] <;> decide) (by rw [hz] <;> decide) (off := 83) (by rw [hz] <;> rfl) (by decide) ?_
    refine hx_aload_n C dX0_number_84 rfl (lv_at hl 0 rfl) ?_
    obtain ⟨g17, h⟩ := hx_gd h
    refine hx_geti C (ci := 0) (j := 6) g17 uX0_number_0 (by decide) rfl (by decide) rfl (by decide +kernel) rfl dX0_number_85 ?_
    obtain rfl := hx_some1 h
    exact hx_iret C hr dX0_number_88
  have h := hx_neg c16 h
  have zc16 : Int32.toInt a1 ≠ 3 := fun z => c16 (Int32.toInt_inj.mp (z.trans rfl))
  by_cases c18 : a1 = 4
  · have h := hx_pos c18 h
    have hz : Int32.toInt a1 = 4 := by rw [c18]; rfl
    refine hx_tableIn (tgt := 89) C dX0_number_1 (by rw [hz] <;> decide) (by rw [hz] <;> decide) (off := 88) (by rw [hz] <;> rfl) (by decide) ?_
    refine hx_aload_n C dX0_number_89 rfl (lv_at hl 0 rfl) ?_
    obtain ⟨g19, h⟩ := hx_gd h
    refine hx_geti C (ci := 0) (j := 7) g19 uX0_number_0 (by decide) rfl (by decide) rfl (by decide +kernel) rfl dX0_number_90 ?_
    obtain rfl := hx_some1 h
    exact hx_iret C hr dX0_number_93
  have h := hx_neg c18 h
  have zc18 : Int32.toInt a1 ≠ 4 := fun z => c18 (Int32.toInt_inj.mp (z.trans rfl))
  by_cases c20 : a1 = 5
  · have h := hx_pos c20 h
    have hz : Int32.toInt a1 = 5 := by rw [c20]; rfl
    refine hx_tableIn (tgt := 94) C dX0_number_1 (by rw [hz] <;> decide) (by rw [hz] <;> decide) (off := 93) (by rw [hz] <;> rfl) (by decide) ?_
    refine hx_aload_n C dX0_number_94 rfl (lv_at hl 0 rfl) ?_
    obtain ⟨g21, h⟩ := hx_gd h
    refine hx_geti C (ci := 0) (j := 4) g21 uX0_number_0 (by decide) rfl (by decide) rfl (by decide +kernel) rfl dX0_number_95 ?_
    obtain rfl := hx_some1 h
    exact hx_iret C hr dX0_number_98
  have h := hx_neg c20 h
  have zc20 : Int32.toInt a1 ≠ 5 := fun z => c20 (Int32.toInt_inj.mp (z.trans rfl))
  by_cases c22 : a1 = 6
  · have h := hx_pos c22 h
    have hz : Int32.toInt a1 = 6 := by rw [c22]; rfl
    refine hx_tableIn (tgt := 99) C dX0_number_1 (by rw [hz] <;> decide) (by rw [hz] <;> decide) (off := 98) (by rw [hz] <;> rfl) (by decide) ?_
    refine hx_aload_n C dX0_number_99 rfl (lv_at hl 0 rfl) ?_
    obtain ⟨g23, h⟩ := hx_gd h
    refine hx_geti C (ci := 0) (j := 5) g23 uX0_number_0 (by decide) rfl (by decide) rfl (by decide +kernel) rfl dX0_number_100 ?_
    obtain rfl := hx_some1 h
    exact hx_iret C hr dX0_number_103
  have h := hx_neg c22 h
  have zc22 : Int32.toInt a1 ≠ 6 := fun z => c22 (Int32.toInt_inj.mp (z.trans rfl))
  by_cases c24 : a1 = 7
  · have h := hx_pos c24 h
    have hz : Int32.toInt a1 = 7 := by rw [c24]; rfl
    refine hx_tableIn (tgt := 104) C dX0_number_1 (by rw [hz] <;> decide) (by rw [hz] <;> decide) (off := 103) (by rw [hz] <;> rfl) (by decide) ?_
    refine hx_aload_n C dX0_number_104 rfl (lv_at hl 0 rfl) ?_
    obtain ⟨r25, e26, h⟩ := hx_bind h
    obtain ⟨g27, h⟩ := hx_gd h
    refine hx_callV (As := []) (rest := []) (n := 0) (Cn := RX0) C (c_X0_keptWeighings e26) gX0_number_X0_keptWeighings g27 (by decide) rfl (by decide +kernel) ⟨Nat.le_of_ble_eq_true rfl, Nat.le_of_ble_eq_true rfl⟩ rfl rfl rfl ⟨Nat.zero_le _, Nat.zero_le _⟩ hl.1 rfl rfl (Nat.le_of_ble_eq_true rfl) dX0_number_105 ?_
    obtain rfl := hx_some1 h
    exact hx_iret C hr dX0_number_108
  have h := hx_neg c24 h
  have zc24 : Int32.toInt a1 ≠ 7 := fun z => c24 (Int32.toInt_inj.mp (z.trans rfl))
  by_cases c28 : a1 = 8
  · have h := hx_pos c28 h
    have hz : Int32.toInt a1 = 8 := by rw [c28]; rfl
    refine hx_tableIn (tgt := 109) C dX0_number_1 (by rw [hz] <;> decide) (by rw [hz] <;> decide) (off := 108) (by rw [hz] <;> rfl) (by decide) ?_
    refine hx_aload_n C dX0_number_109 rfl (lv_at hl 0 rfl) ?_
    obtain ⟨g29, h⟩ := hx_gd h
    refine hx_geti C (ci := 0) (j := 8) g29 uX0_number_0 (by decide) rfl (by decide) rfl (by decide +kernel) rfl dX0_number_110 ?_
    obtain rfl := hx_some1 h
    exact hx_iret C hr dX0_number_113
  have h := hx_neg c28 h
  have zc28 : Int32.toInt a1 ≠ 8 := fun z => c28 (Int32.toInt_inj.mp (z.trans rfl))
  by_cases c30 : a1 = 9
  · have h := hx_pos c30 h
    have hz : Int32.toInt a1 = 9 := by rw [c30]; rfl
    refine hx_tableIn (tgt := 114) C dX0_number_1 (by rw [hz] <;> decide) (by rw [hz] <;> decide) (off := 113) (by rw [hz] <;> rfl) (by decide) ?_
    refine hx_aload_n C dX0_number_114 rfl (lv_at hl 0 rfl) ?_
    obtain ⟨r31, e32, h⟩ := hx_bind h
    obtain ⟨g33, h⟩ := hx_gd h
    refine hx_callV (As := []) (rest := []) (n := 0) (Cn := RX0) C (c_X0_allPoints e32) gX0_number_X0_allPoints g33 (by decide) rfl (by decide +kernel) ⟨Nat.le_of_ble_eq_true rfl, Nat.le_of_ble_eq_true rfl⟩ rfl rfl rfl ⟨Nat.zero_le _, Nat.zero_le _⟩ hl.1 rfl rfl (Nat.le_of_ble_eq_true rfl) dX0_number_115 ?_
    obtain rfl := hx_some1 h
    exact hx_iret C hr dX0_number_118
  have h := hx_neg c30 h
  have zc30 : Int32.toInt a1 ≠ 9 := fun z => c30 (Int32.toInt_inj.mp (z.trans rfl))
  by_cases c34 : a1 = 10
  · have h := hx_pos c34 h
    have hz : Int32.toInt a1 = 10 := by rw [c34]; rfl
    refine hx_tableIn (tgt := 119) C dX0_number_1 (by rw [hz] <;> decide) (by rw [hz] <;> decide) (off := 118) (by rw [hz] <;> rfl) (by decide) ?_
    refine hx_aload_n C dX0_number_119 rfl (lv_at hl 0 rfl) ?_
    obtain ⟨r35, e36, h⟩ := hx_bind h
    obtain ⟨g37, h⟩ := hx_gd h
    refine hx_callV (As := []) (rest := []) (n := 0) (Cn := RX0) C (c_X0_allStocks e36) gX0_number_X0_allStocks g37 (by decide) rfl (by decide +kernel) ⟨Nat.le_of_ble_eq_true rfl, Nat.le_of_ble_eq_true rfl⟩ rfl rfl rfl ⟨Nat.zero_le _, Nat.zero_le _⟩ hl.1 rfl rfl (Nat.le_of_ble_eq_true rfl) dX0_number_120 ?_
    obtain rfl := hx_some1 h
    exact hx_iret C hr dX0_number_123
  have h := hx_neg c34 h
  have zc34 : Int32.toInt a1 ≠ 10 := fun z => c34 (Int32.toInt_inj.mp (z.trans rfl))
  refine hx_tableOut (tgt := 124) C dX0_number_1 (by omega) (by decide) ?_
  refine hx_ldc (v := (-100001)) C (by decide +kernel) dX0_number_124 ?_
  obtain rfl := hx_some1 h
  exact hx_iret C hr dX0_number_126
theorem uX0_given_0 : ∀ w ∈ u_ws RX0 TX0 9, w ∈ wsX0_given := by decide +kernel
theorem uX0_given_1 : ∀ w ∈ u_ws RX1 TX1 6, w ∈ wsX0_given := by decide +kernel
def f_X0_given_95 (L : hL) (k15 : Nat → Int32 → Int32 → Nat → Int32 → Int32 → hX → Option (Int32)) (v0 : Nat) (v1 : Int32) (v2 : Int32) (v3 : Nat) (v4 : Int32) (v5 : Int32) (X : hX) : Option (Int32) :=
  k15 v0 v1 v2 v3 v4 (v5 + 1) X
set_option maxRecDepth 100000 in
set_option maxHeartbeats 4000000 in
theorem w_X0_given_95 {p : Program} {l : Launch} {e : Env} {s : State} {m : MethodId} {args : Array Value} {below : List Frame} {meth : Method} {c : Code} {dC : Nat → ClassId} {dI : Nat → Nat → Nat} {cy : Nat → ClassId} {ad : Nat → Nat} {L : hL} {r : Int32} (k15 : Nat → Int32 → Int32 → Nat → Int32 → Int32 → hX → Option (Int32)) (C : hC p s m args meth c dC dI cy ad L (hA ad L s.heap.size) cX0_given 9 wsX0_given RX0) (hr : meth.sig.returnType = (some .int)) (hk15 : ∀ (v0 : Nat) (v1 : Int32) (v2 : Int32) (v3 : Nat) (v4 : Int32) (v5 : Int32) (X : hX) (ls : Array Slot), k15 v0 v1 v2 v3 v4 v5 X = some r → lv_has ls 9 [(0, .ref (ad v0)), (1, .int v1), (2, .int v2), (3, .ref (ad v3)), (4, .int v4), (5, .int v5)] → hG p l e (headSpec wsX0_given ({ frames := 4, cells := 0, slots := 0, locals := 92 } : Room)).room s m args below meth c dC dI cy ad L (hA ad L s.heap.size) 0 0 (MQ below (hQ dC dI cy ad L s.heap.size (some (.int r)) X) args s 0 0 (hA ad L s.heap.size)) X 15 ls []) : ∀ (v0 : Nat) (v1 : Int32) (v2 : Int32) (v3 : Nat) (v4 : Int32) (v5 : Int32) (X : hX) (ls : Array Slot), f_X0_given_95 L k15 v0 v1 v2 v3 v4 v5 X = some r → lv_has ls 9 [(0, .ref (ad v0)), (1, .int v1), (2, .int v2), (3, .ref (ad v3)), (4, .int v4), (5, .int v5)] → hG p l e (headSpec wsX0_given ({ frames := 4, cells := 0, slots := 0, locals := 92 } : Room)).room s m args below meth c dC dI cy ad L (hA ad L s.heap.size) 0 0 (MQ below (hQ dC dI cy ad L s.heap.size (some (.int r)) X) args s 0 0 (hA ad L s.heap.size)) X 95 ls [] := by
  intro v0 v1 v2 v3 v4 v5 X ls h hl
  unfold f_X0_given_95 at h
  refine hx_iinc (v := v5 + 1) (lv' := [(5, .int (v5 + 1)), (0, .ref (ad v0)), (1, .int v1), (2, .int v2), (3, .ref (ad v3)), (4, .int v4)]) C dX0_given_95 hl (k := 5) rfl rfl (by decide) rfl (fun ls hl => ?_)
  refine hx_goto (tgt := 15) C dX0_given_98 (by decide) ?_
  exact hk15 v0 v1 v2 v3 v4 (v5 + 1) X ls h (lv_sub hl [1, 2, 3, 4, 5, 0] rfl)
def f_X0_given_72 (L : hL) (k15 : Nat → Int32 → Int32 → Nat → Int32 → Int32 → hX → Option (Int32)) (v0 : Nat) (v1 : Int32) (v2 : Int32) (v3 : Nat) (v4 : Int32) (v5 : Int32) (v6 : Nat) (s0 : Int32) (X : hX) : Option (Int32) :=
  if s0 = (-100009) then
    some (-100009)
  else
    if tk L v6 1 then
    f_X0_given_95 L k15 v0 v1 (v2 + (s0 - (X.1 v6 3))) v3 v4 v5 X
    else none
set_option maxRecDepth 100000 in
set_option maxHeartbeats 4000000 in
theorem w_X0_given_72 {p : Program} {l : Launch} {e : Env} {s : State} {m : MethodId} {args : Array Value} {below : List Frame} {meth : Method} {c : Code} {dC : Nat → ClassId} {dI : Nat → Nat → Nat} {cy : Nat → ClassId} {ad : Nat → Nat} {L : hL} {r : Int32} (k15 : Nat → Int32 → Int32 → Nat → Int32 → Int32 → hX → Option (Int32)) (C : hC p s m args meth c dC dI cy ad L (hA ad L s.heap.size) cX0_given 9 wsX0_given RX0) (hr : meth.sig.returnType = (some .int)) (hk15 : ∀ (v0 : Nat) (v1 : Int32) (v2 : Int32) (v3 : Nat) (v4 : Int32) (v5 : Int32) (X : hX) (ls : Array Slot), k15 v0 v1 v2 v3 v4 v5 X = some r → lv_has ls 9 [(0, .ref (ad v0)), (1, .int v1), (2, .int v2), (3, .ref (ad v3)), (4, .int v4), (5, .int v5)] → hG p l e (headSpec wsX0_given ({ frames := 4, cells := 0, slots := 0, locals := 92 } : Room)).room s m args below meth c dC dI cy ad L (hA ad L s.heap.size) 0 0 (MQ below (hQ dC dI cy ad L s.heap.size (some (.int r)) X) args s 0 0 (hA ad L s.heap.size)) X 15 ls []) : ∀ (v0 : Nat) (v1 : Int32) (v2 : Int32) (v3 : Nat) (v4 : Int32) (v5 : Int32) (v6 : Nat) (s0 : Int32) (X : hX) (ls : Array Slot), f_X0_given_72 L k15 v0 v1 v2 v3 v4 v5 v6 s0 X = some r → lv_has ls 9 [(0, .ref (ad v0)), (1, .int v1), (2, .int v2), (3, .ref (ad v3)), (4, .int v4), (5, .int v5), (6, .ref (ad v6))] → hG p l e (headSpec wsX0_given ({ frames := 4, cells := 0, slots := 0, locals := 92 } : Room)).room s m args below meth c dC dI cy ad L (hA ad L s.heap.size) 0 0 (MQ below (hQ dC dI cy ad L s.heap.size (some (.int r)) X) args s 0 0 (hA ad L s.heap.size)) X 72 ls [.int s0] := by
  intro v0 v1 v2 v3 v4 v5 v6 s0 X ls h hl
  unfold f_X0_given_72 at h
  refine hx_istore (lv' := [(8, .int s0), (0, .ref (ad v0)), (1, .int v1), (2, .int v2), (3, .ref (ad v3)), (4, .int v4), (5, .int v5), (6, .ref (ad v6))]) C dX0_given_72 hl (by decide) rfl (fun ls hl => ?_)
  refine hx_iload C dX0_given_74 (lv_at hl 0 rfl) ?_
  refine hx_ldc (v := (-100009)) C (by decide +kernel) dX0_given_76 ?_
  refine hx_icmp_ne (tgt := 84) C dX0_given_78 (by decide) (fun c1 => ?_) (fun c1 => ?_)
  · have h := hx_neg c1 h
    refine hx_iload_n C dX0_given_84 rfl (lv_at hl 3 rfl) ?_
    refine hx_iload C dX0_given_85 (lv_at hl 0 rfl) ?_
    refine hx_aload C dX0_given_87 (lv_at hl 7 rfl) ?_
    obtain ⟨g2, h⟩ := hx_gd h
    refine hx_geti C (ci := 1) (j := 3) g2 uX0_given_1 (by decide) rfl (by decide) rfl (by decide +kernel) rfl dX0_given_89 ?_
    refine hx_isub C dX0_given_92 ?_
    refine hx_iadd C dX0_given_93 ?_
    refine hx_istore_n (lv' := [(2, .int (v2 + (s0 - (X.1 v6 3)))), (8, .int s0), (0, .ref (ad v0)), (1, .int v1), (3, .ref (ad v3)), (4, .int v4), (5, .int v5), (6, .ref (ad v6))]) C dX0_given_94 rfl hl (by decide) rfl (fun ls hl => ?_)
    exact w_X0_given_95 k15 C hr hk15 v0 v1 (v2 + (s0 - (X.1 v6 3))) v3 v4 v5 X ls h (lv_sub hl [2, 3, 0, 4, 5, 6] rfl)
  · have h := hx_pos c1 h
    refine hx_ldc (v := (-100009)) C (by decide +kernel) dX0_given_81 ?_
    obtain rfl := hx_some1 h
    exact hx_iret C hr dX0_given_83
def f_X0_given_15 (L : hL) : Nat → Nat → Int32 → Int32 → Nat → Int32 → Int32 → hX → Option (Int32)
  | 0, _, _, _, _, _, _, _ => none
  | n + 1, v0, v1, v2, v3, v4, v5, X =>
    if v4 ≤ v5 then
      some v2
    else
      if tk L v3 15 then
      if hin v5 (L.2.2 v3) then
      (X.2 v3 (Int32.toNatClampNeg v5)).bind fun q6 =>
      if tk L q6 1 then
      if (X.1 q6 1) = 0 then
        f_X0_given_95 L (f_X0_given_15 L n) v0 v1 v2 v3 v4 v5 X
      else
        (f_X0_kindAt L X v0 (X.1 q6 2)).bind fun r10 =>
        if tk L v0 0 then
        Option.elim r10
        (
          f_X0_given_72 L (f_X0_given_15 L n) v0 v1 v2 v3 v4 v5 q6 (-100009) X)
        fun i13 =>
          (X.2 v0 1).bind fun q14 =>
          (f_X7_guessFrom L X q14 (X.1 q6 4) i13 v1).bind fun r16 =>
          if tk L q14 7 then
          f_X0_given_72 L (f_X0_given_15 L n) v0 v1 v2 v3 v4 v5 q6 r16 X
          else none
        else none
      else none
      else none
      else none
set_option maxRecDepth 100000 in
set_option maxHeartbeats 4000000 in
theorem w_X0_given_15 {p : Program} {l : Launch} {e : Env} {s : State} {m : MethodId} {args : Array Value} {below : List Frame} {meth : Method} {c : Code} {dC : Nat → ClassId} {dI : Nat → Nat → Nat} {cy : Nat → ClassId} {ad : Nat → Nat} {L : hL} {r : Int32} (C : hC p s m args meth c dC dI cy ad L (hA ad L s.heap.size) cX0_given 9 wsX0_given RX0) (hr : meth.sig.returnType = (some .int)) : ∀ (n : Nat) (v0 : Nat) (v1 : Int32) (v2 : Int32) (v3 : Nat) (v4 : Int32) (v5 : Int32) (X : hX) (ls : Array Slot), f_X0_given_15 L n v0 v1 v2 v3 v4 v5 X = some r → lv_has ls 9 [(0, .ref (ad v0)), (1, .int v1), (2, .int v2), (3, .ref (ad v3)), (4, .int v4), (5, .int v5)] → hG p l e (headSpec wsX0_given ({ frames := 4, cells := 0, slots := 0, locals := 92 } : Room)).room s m args below meth c dC dI cy ad L (hA ad L s.heap.size) 0 0 (MQ below (hQ dC dI cy ad L s.heap.size (some (.int r)) X) args s 0 0 (hA ad L s.heap.size)) X 15 ls [] := by
  intro n
  induction n with
  | zero => intro v0 v1 v2 v3 v4 v5 X ls h; cases h
  | succ n ih =>
    intro v0 v1 v2 v3 v4 v5 X ls h hl
    rw [f_X0_given_15] at h
    refine hx_iload C dX0_given_15 (lv_at hl 5 rfl) ?_
    refine hx_iload C dX0_given_17 (lv_at hl 4 rfl) ?_
    refine hx_icmp_ge (tgt := 101) C dX0_given_19 (by decide) (fun c3 => ?_) (fun c3 => ?_)
    · have h := hx_pos c3 h
      refine hx_iload_n C dX0_given_101 rfl (lv_at hl 2 rfl) ?_
      obtain rfl := hx_some1 h
      exact hx_iret C hr dX0_given_102
    · have h := hx_neg c3 h
      refine hx_aload_n C dX0_given_22 rfl (lv_at hl 3 rfl) ?_
      refine hx_iload C dX0_given_23 (lv_at hl 5 rfl) ?_
      obtain ⟨g4, h⟩ := hx_gd h
      obtain ⟨g5, h⟩ := hx_gd h
      obtain ⟨q6, e7, h⟩ := hx_bind h
      refine hx_aald (t0 := 4) C g4 (by decide) rfl g5 rfl e7 dX0_given_25 ?_
      refine hx_astore (lv' := [(6, .ref (ad q6)), (0, .ref (ad v0)), (1, .int v1), (2, .int v2), (3, .ref (ad v3)), (4, .int v4), (5, .int v5)]) C dX0_given_26 hl (by decide) rfl (fun ls hl => ?_)
      refine hx_aload C dX0_given_28 (lv_at hl 0 rfl) ?_
      obtain ⟨g8, h⟩ := hx_gd h
      refine hx_geti C (ci := 1) (j := 1) g8 uX0_given_1 (by decide) rfl (by decide) rfl (by decide +kernel) rfl dX0_given_30 ?_
      refine hx_if_eq (tgt := 95) C dX0_given_33 (by decide) (fun c9 => ?_) (fun c9 => ?_)
      · have h := hx_pos c9 h
        exact w_X0_given_95 (f_X0_given_15 L n) C hr ih v0 v1 v2 v3 v4 v5 X ls h (lv_sub hl [1, 2, 3, 4, 5, 6] rfl)
      · have h := hx_neg c9 h
        refine hx_aload_n C dX0_given_36 rfl (lv_at hl 1 rfl) ?_
        refine hx_aload C dX0_given_37 (lv_at hl 0 rfl) ?_
        refine hx_geti C (ci := 1) (j := 2) g8 uX0_given_1 (by decide) rfl (by decide) rfl (by decide +kernel) rfl dX0_given_39 ?_
        obtain ⟨r10, e11, h⟩ := hx_bind h
        obtain ⟨g12, h⟩ := hx_gd h
        refine hx_callV (As := [.int (X.1 q6 2)]) (rest := []) (n := 1) (Cn := RX0) C (c_X0_kindAt e11) gX0_given_X0_kindAt g12 (by decide) rfl (by decide +kernel) ⟨Nat.le_of_ble_eq_true rfl, Nat.le_of_ble_eq_true rfl⟩ rfl rfl rfl ⟨Nat.zero_le _, Nat.zero_le _⟩ hl.1 rfl rfl (Nat.le_of_ble_eq_true rfl) dX0_given_42 ?_
        rcases r10 with _ | i13
        · have h := hx_eln h
          refine hx_astoreN (lv' := [(7, .null), (6, .ref (ad q6)), (0, .ref (ad v0)), (1, .int v1), (2, .int v2), (3, .ref (ad v3)), (4, .int v4), (5, .int v5)]) C dX0_given_45 hl (by decide) rfl (fun ls hl => ?_)
          refine hx_aloadN C dX0_given_47 (lv_at hl 0 rfl) ?_
          refine hx_ifnonnullN C dX0_given_49 ?_
          refine hx_ldc (v := (-100009)) C (by decide +kernel) dX0_given_52 ?_
          refine hx_goto (tgt := 72) C dX0_given_54 (by decide) ?_
          exact w_X0_given_72 (f_X0_given_15 L n) C hr ih v0 v1 v2 v3 v4 v5 q6 (-100009) X ls h (lv_sub hl [2, 3, 4, 5, 6, 7, 1] rfl)
        · have h := hx_els h
          refine hx_astore (lv' := [(7, .ref (ad i13)), (6, .ref (ad q6)), (0, .ref (ad v0)), (1, .int v1), (2, .int v2), (3, .ref (ad v3)), (4, .int v4), (5, .int v5)]) C dX0_given_45 hl (by decide) rfl (fun ls hl => ?_)
          refine hx_aload C dX0_given_47 (lv_at hl 0 rfl) ?_
          refine hx_ifnonnull (tgt := 57) C dX0_given_49 (by decide) ?_
          refine hx_aload_n C dX0_given_57 rfl (lv_at hl 2 rfl) ?_
          obtain ⟨q14, e15, h⟩ := hx_bind h
          refine hx_getr C (ci := 0) (j := 1) g12 uX0_given_0 (by decide) rfl (by decide) rfl (by decide +kernel) rfl dX0_given_58 e15 ?_
          refine hx_aload C dX0_given_61 (lv_at hl 1 rfl) ?_
          refine hx_geti C (ci := 1) (j := 4) g8 uX0_given_1 (by decide) rfl (by decide) rfl (by decide +kernel) rfl dX0_given_63 ?_
          refine hx_aload C dX0_given_66 (lv_at hl 0 rfl) ?_
          refine hx_iload_n C dX0_given_68 rfl (lv_at hl 3 rfl) ?_
          obtain ⟨r16, e17, h⟩ := hx_bind h
          obtain ⟨g18, h⟩ := hx_gd h
          refine hx_callV (As := [.int (X.1 q6 4), .ref (ad i13), .int v1]) (rest := []) (n := 3) (Cn := RX7) C (c_X7_guessFrom e17) gX0_given_X7_guessFrom g18 (by decide) rfl (by decide +kernel) ⟨Nat.le_of_ble_eq_true rfl, Nat.le_of_ble_eq_true rfl⟩ rfl rfl rfl ⟨Nat.zero_le _, Nat.zero_le _⟩ hl.1 rfl rfl (Nat.le_of_ble_eq_true rfl) dX0_given_69 ?_
          exact w_X0_given_72 (f_X0_given_15 L n) C hr ih v0 v1 v2 v3 v4 v5 q6 r16 X ls h (lv_sub hl [2, 3, 4, 5, 6, 7, 1] rfl)
def f_X0_given (L : hL) (X : hX) (this : Nat) (a1 : Int32) : Option (Int32) :=
  if tk L this 0 then
  (X.2 this 2).bind fun q20 =>
  if tk L q20 15 then
  f_X0_given_15 L u_fuel this a1 100000 q20 (Int32.ofNat (L.2.2 q20)) 0 X
  else none
  else none
set_option maxRecDepth 100000 in
set_option maxHeartbeats 4000000 in
theorem c_X0_given {l : Launch} {dC : Nat → ClassId} {dI : Nat → Nat → Nat} {cy : Nat → ClassId} {ad : Nat → Nat} {L : hL} {X : hX} {this : Nat} {a1 : Int32} {r : Int32} (h : f_X0_given L X this a1 = some r) : hMet l dC dI cy ad L yX0_given wsX0_given ({ frames := 4, cells := 0, slots := 0, locals := 92 } : Room) [.ref (ad this), .int a1] X (some (.int r)) X := by
  unfold f_X0_given at h
  refine hx_enter RX0 (plainFor_of_name (by decide)) rfl rfl (Nat.le_of_ble_eq_true rfl) (fun p e s m args below meth c C hr hnm ls hl => ?_)
  have hl : lv_has ls 9 [(0, .ref (ad this)), (1, .int a1)] := hl
  refine hx_ldc (v := 100000) C (by decide +kernel) dX0_given_0 ?_
  refine hx_istore_n (lv' := [(2, .int 100000), (0, .ref (ad this)), (1, .int a1)]) C dX0_given_2 rfl hl (by decide) rfl (fun ls hl => ?_)
  refine hx_aload_n C dX0_given_3 rfl (lv_at hl 1 rfl) ?_
  obtain ⟨g19, h⟩ := hx_gd h
  obtain ⟨q20, e21, h⟩ := hx_bind h
  refine hx_getr C (ci := 0) (j := 2) g19 uX0_given_0 (by decide) rfl (by decide) rfl (by decide +kernel) rfl dX0_given_4 e21 ?_
  refine hx_astore_n (lv' := [(3, .ref (ad q20)), (2, .int 100000), (0, .ref (ad this)), (1, .int a1)]) C dX0_given_7 rfl hl (by decide) rfl (fun ls hl => ?_)
  refine hx_aload_n C dX0_given_8 rfl (lv_at hl 0 rfl) ?_
  obtain ⟨g22, h⟩ := hx_gd h
  refine hx_alenR (t0 := 4) C g22 (by decide) rfl dX0_given_9 ?_
  refine hx_istore (lv' := [(4, .int (Int32.ofNat (L.2.2 q20))), (3, .ref (ad q20)), (2, .int 100000), (0, .ref (ad this)), (1, .int a1)]) C dX0_given_10 hl (by decide) rfl (fun ls hl => ?_)
  refine hx_iconst (v := 0) C dX0_given_12 (by decide) ?_
  refine hx_istore (lv' := [(5, .int 0), (4, .int (Int32.ofNat (L.2.2 q20))), (3, .ref (ad q20)), (2, .int 100000), (0, .ref (ad this)), (1, .int a1)]) C dX0_given_13 hl (by decide) rfl (fun ls hl => ?_)
  exact w_X0_given_15 C hr u_fuel this a1 100000 q20 (Int32.ofNat (L.2.2 q20)) 0 X ls h (lv_sub hl [4, 5, 3, 2, 1, 0] rfl)
def f_X0_fairestRule_56 (L : hL) (k7 : Nat → Int32 → Int32 → Int32 → hX → Option (Int32)) (v0 : Nat) (v1 : Int32) (v2 : Int32) (v3 : Int32) (X : hX) : Option (Int32) :=
  k7 v0 v1 v2 (v3 + 1) X
set_option maxRecDepth 100000 in
set_option maxHeartbeats 4000000 in
theorem w_X0_fairestRule_56 {p : Program} {l : Launch} {e : Env} {s : State} {m : MethodId} {args : Array Value} {below : List Frame} {meth : Method} {c : Code} {dC : Nat → ClassId} {dI : Nat → Nat → Nat} {cy : Nat → ClassId} {ad : Nat → Nat} {L : hL} {r : Int32} (k7 : Nat → Int32 → Int32 → Int32 → hX → Option (Int32)) (C : hC p s m args meth c dC dI cy ad L (hA ad L s.heap.size) cX0_fairestRule 6 wsX0_fairestRule RX0) (hr : meth.sig.returnType = (some .int)) (hk7 : ∀ (v0 : Nat) (v1 : Int32) (v2 : Int32) (v3 : Int32) (X : hX) (ls : Array Slot), k7 v0 v1 v2 v3 X = some r → lv_has ls 6 [(0, .ref (ad v0)), (1, .int v1), (2, .int v2), (3, .int v3)] → hG p l e (headSpec wsX0_fairestRule ({ frames := 5, cells := 0, slots := 0, locals := 120 } : Room)).room s m args below meth c dC dI cy ad L (hA ad L s.heap.size) 0 0 (MQ below (hQ dC dI cy ad L s.heap.size (some (.int r)) X) args s 0 0 (hA ad L s.heap.size)) X 7 ls []) : ∀ (v0 : Nat) (v1 : Int32) (v2 : Int32) (v3 : Int32) (X : hX) (ls : Array Slot), f_X0_fairestRule_56 L k7 v0 v1 v2 v3 X = some r → lv_has ls 6 [(0, .ref (ad v0)), (1, .int v1), (2, .int v2), (3, .int v3)] → hG p l e (headSpec wsX0_fairestRule ({ frames := 5, cells := 0, slots := 0, locals := 120 } : Room)).room s m args below meth c dC dI cy ad L (hA ad L s.heap.size) 0 0 (MQ below (hQ dC dI cy ad L s.heap.size (some (.int r)) X) args s 0 0 (hA ad L s.heap.size)) X 56 ls [] := by
  intro v0 v1 v2 v3 X ls h hl
  unfold f_X0_fairestRule_56 at h
  refine hx_iinc (v := v3 + 1) (lv' := [(3, .int (v3 + 1)), (0, .ref (ad v0)), (1, .int v1), (2, .int v2)]) C dX0_fairestRule_56 hl (k := 3) rfl rfl (by decide) rfl (fun ls hl => ?_)
  refine hx_goto (tgt := 7) C dX0_fairestRule_59 (by decide) ?_
  exact hk7 v0 v1 v2 (v3 + 1) X ls h (lv_sub hl [1, 2, 3, 0] rfl)
def f_X0_fairestRule_51 (L : hL) (k7 : Nat → Int32 → Int32 → Int32 → hX → Option (Int32)) (v0 : Nat) (v3 : Int32) (v5 : Int32) (X : hX) : Option (Int32) :=
  f_X0_fairestRule_56 L k7 v0 v3 v5 v3 X
set_option maxRecDepth 100000 in
set_option maxHeartbeats 4000000 in
theorem w_X0_fairestRule_51 {p : Program} {l : Launch} {e : Env} {s : State} {m : MethodId} {args : Array Value} {below : List Frame} {meth : Method} {c : Code} {dC : Nat → ClassId} {dI : Nat → Nat → Nat} {cy : Nat → ClassId} {ad : Nat → Nat} {L : hL} {r : Int32} (k7 : Nat → Int32 → Int32 → Int32 → hX → Option (Int32)) (C : hC p s m args meth c dC dI cy ad L (hA ad L s.heap.size) cX0_fairestRule 6 wsX0_fairestRule RX0) (hr : meth.sig.returnType = (some .int)) (hk7 : ∀ (v0 : Nat) (v1 : Int32) (v2 : Int32) (v3 : Int32) (X : hX) (ls : Array Slot), k7 v0 v1 v2 v3 X = some r → lv_has ls 6 [(0, .ref (ad v0)), (1, .int v1), (2, .int v2), (3, .int v3)] → hG p l e (headSpec wsX0_fairestRule ({ frames := 5, cells := 0, slots := 0, locals := 120 } : Room)).room s m args below meth c dC dI cy ad L (hA ad L s.heap.size) 0 0 (MQ below (hQ dC dI cy ad L s.heap.size (some (.int r)) X) args s 0 0 (hA ad L s.heap.size)) X 7 ls []) : ∀ (v0 : Nat) (v3 : Int32) (v5 : Int32) (X : hX) (ls : Array Slot), f_X0_fairestRule_51 L k7 v0 v3 v5 X = some r → lv_has ls 6 [(0, .ref (ad v0)), (3, .int v3), (5, .int v5)] → hG p l e (headSpec wsX0_fairestRule ({ frames := 5, cells := 0, slots := 0, locals := 120 } : Room)).room s m args below meth c dC dI cy ad L (hA ad L s.heap.size) 0 0 (MQ below (hQ dC dI cy ad L s.heap.size (some (.int r)) X) args s 0 0 (hA ad L s.heap.size)) X 51 ls [] := by
  intro v0 v3 v5 X ls h hl
  unfold f_X0_fairestRule_51 at h
  refine hx_iload_n C dX0_fairestRule_51 rfl (lv_at hl 1 rfl) ?_
  refine hx_istore_n (lv' := [(1, .int v3), (0, .ref (ad v0)), (3, .int v3), (5, .int v5)]) C dX0_fairestRule_52 rfl hl (by decide) rfl (fun ls hl => ?_)
  refine hx_iload C dX0_fairestRule_53 (lv_at hl 3 rfl) ?_
  refine hx_istore_n (lv' := [(2, .int v5), (1, .int v3), (0, .ref (ad v0)), (3, .int v3), (5, .int v5)]) C dX0_fairestRule_55 rfl hl (by decide) rfl (fun ls hl => ?_)
  exact w_X0_fairestRule_56 k7 C hr hk7 v0 v3 v5 v3 X ls h (lv_sub hl [2, 1, 0, 3] rfl)
def f_X0_fairestRule_7 (L : hL) : Nat → Nat → Int32 → Int32 → Int32 → hX → Option (Int32)
  | 0, _, _, _, _, _ => none
  | n + 1, v0, v1, v2, v3, X =>
    if 4 ≤ v3 then
      some v1
    else
      (f_X0_given L X v0 v3).bind fun r2 =>
      if tk L v0 0 then
      if r2 = (-100009) then
        some (-100009)
      else
        if v1 = (-100009) then
          f_X0_fairestRule_51 L (f_X0_fairestRule_7 L n) v0 v3 (if 0 ≤ (r2 - 100000) then (r2 - 100000) else 0 - (r2 - 100000)) X
        else
          if v2 ≤ (if 0 ≤ (r2 - 100000) then (r2 - 100000) else 0 - (r2 - 100000)) then
            f_X0_fairestRule_56 L (f_X0_fairestRule_7 L n) v0 v1 v2 v3 X
          else
            f_X0_fairestRule_51 L (f_X0_fairestRule_7 L n) v0 v3 (if 0 ≤ (r2 - 100000) then (r2 - 100000) else 0 - (r2 - 100000)) X
      else none
set_option maxRecDepth 100000 in
set_option maxHeartbeats 4000000 in
theorem w_X0_fairestRule_7 {p : Program} {l : Launch} {e : Env} {s : State} {m : MethodId} {args : Array Value} {below : List Frame} {meth : Method} {c : Code} {dC : Nat → ClassId} {dI : Nat → Nat → Nat} {cy : Nat → ClassId} {ad : Nat → Nat} {L : hL} {r : Int32} (C : hC p s m args meth c dC dI cy ad L (hA ad L s.heap.size) cX0_fairestRule 6 wsX0_fairestRule RX0) (hr : meth.sig.returnType = (some .int)) : ∀ (n : Nat) (v0 : Nat) (v1 : Int32) (v2 : Int32) (v3 : Int32) (X : hX) (ls : Array Slot), f_X0_fairestRule_7 L n v0 v1 v2 v3 X = some r → lv_has ls 6 [(0, .ref (ad v0)), (1, .int v1), (2, .int v2), (3, .int v3)] → hG p l e (headSpec wsX0_fairestRule ({ frames := 5, cells := 0, slots := 0, locals := 120 } : Room)).room s m args below meth c dC dI cy ad L (hA ad L s.heap.size) 0 0 (MQ below (hQ dC dI cy ad L s.heap.size (some (.int r)) X) args s 0 0 (hA ad L s.heap.size)) X 7 ls [] := by
  intro n
  induction n with
  | zero => intro v0 v1 v2 v3 X ls h; cases h
  | succ n ih =>
    intro v0 v1 v2 v3 X ls h hl
    rw [f_X0_fairestRule_7] at h
    refine hx_iload_n C dX0_fairestRule_7 rfl (lv_at hl 3 rfl) ?_
    refine hx_iconst (v := 4) C dX0_fairestRule_8 (by decide) ?_
    refine hx_icmp_ge (tgt := 62) C dX0_fairestRule_9 (by decide) (fun c1 => ?_) (fun c1 => ?_)
    · have h := hx_pos c1 h
      refine hx_iload_n C dX0_fairestRule_62 rfl (lv_at hl 1 rfl) ?_
      obtain rfl := hx_some1 h
      exact hx_iret C hr dX0_fairestRule_63
    · have h := hx_neg c1 h
      refine hx_aload_n C dX0_fairestRule_12 rfl (lv_at hl 0 rfl) ?_
      refine hx_iload_n C dX0_fairestRule_13 rfl (lv_at hl 3 rfl) ?_
      obtain ⟨r2, e3, h⟩ := hx_bind h
      obtain ⟨g4, h⟩ := hx_gd h
      refine hx_callV (As := [.int v3]) (rest := []) (n := 1) (Cn := RX0) C (c_X0_given e3) gX0_fairestRule_X0_given g4 (by decide) rfl (by decide +kernel) ⟨Nat.le_of_ble_eq_true rfl, Nat.le_of_ble_eq_true rfl⟩ rfl rfl rfl ⟨Nat.zero_le _, Nat.zero_le _⟩ hl.1 rfl rfl (Nat.le_of_ble_eq_true rfl) dX0_fairestRule_14 ?_
      refine hx_istore (lv' := [(4, .int r2), (0, .ref (ad v0)), (1, .int v1), (2, .int v2), (3, .int v3)]) C dX0_fairestRule_17 hl (by decide) rfl (fun ls hl => ?_)
      refine hx_iload C dX0_fairestRule_19 (lv_at hl 0 rfl) ?_
      refine hx_ldc (v := (-100009)) C (by decide +kernel) dX0_fairestRule_21 ?_
      refine hx_icmp_ne (tgt := 29) C dX0_fairestRule_23 (by decide) (fun c5 => ?_) (fun c5 => ?_)
      · have h := hx_neg c5 h
        refine hx_iload C dX0_fairestRule_29 (lv_at hl 0 rfl) ?_
        refine hx_ldc (v := 100000) C (by decide +kernel) dX0_fairestRule_31 ?_
        refine hx_isub C dX0_fairestRule_33 ?_
        refine hx_mabs C (by decide +kernel) (by decide +kernel) (by decide +kernel) (by decide +kernel) hl.1 (Nat.le_of_ble_eq_true rfl) (Nat.le_of_ble_eq_true rfl) (Nat.zero_le _) (Nat.zero_le _) dX0_fairestRule_34 ?_
        refine hx_istore (lv' := [(5, .int ((if 0 ≤ (r2 - 100000) then (r2 - 100000) else 0 - (r2 - 100000)))), (4, .int r2), (0, .ref (ad v0)), (1, .int v1), (2, .int v2), (3, .int v3)]) C dX0_fairestRule_37 hl (by decide) rfl (fun ls hl => ?_)
        refine hx_iload_n C dX0_fairestRule_39 rfl (lv_at hl 3 rfl) ?_
        refine hx_ldc (v := (-100009)) C (by decide +kernel) dX0_fairestRule_40 ?_
        refine hx_icmp_eq (tgt := 51) C dX0_fairestRule_42 (by decide) (fun c6 => ?_) (fun c6 => ?_)
        · have h := hx_pos c6 h
          exact w_X0_fairestRule_51 (f_X0_fairestRule_7 L n) C hr ih v0 v3 (if 0 ≤ (r2 - 100000) then (r2 - 100000) else 0 - (r2 - 100000)) X ls h (lv_sub hl [2, 5, 0] rfl)
        · have h := hx_neg c6 h
          refine hx_iload C dX0_fairestRule_45 (lv_at hl 0 rfl) ?_
          refine hx_iload_n C dX0_fairestRule_47 rfl (lv_at hl 4 rfl) ?_
          refine hx_icmp_ge (tgt := 56) C dX0_fairestRule_48 (by decide) (fun c7 => ?_) (fun c7 => ?_)
          · have h := hx_pos c7 h
            exact w_X0_fairestRule_56 (f_X0_fairestRule_7 L n) C hr ih v0 v1 v2 v3 X ls h (lv_sub hl [2, 3, 4, 5] rfl)
          · have h := hx_neg c7 h
            exact w_X0_fairestRule_51 (f_X0_fairestRule_7 L n) C hr ih v0 v3 (if 0 ≤ (r2 - 100000) then (r2 - 100000) else 0 - (r2 - 100000)) X ls h (lv_sub hl [2, 5, 0] rfl)
      · have h := hx_pos c5 h
        refine hx_ldc (v := (-100009)) C (by decide +kernel) dX0_fairestRule_26 ?_
        obtain rfl := hx_some1 h
        exact hx_iret C hr dX0_fairestRule_28
def f_X0_fairestRule (L : hL) (X : hX) (this : Nat) : Option (Int32) :=
  f_X0_fairestRule_7 L u_fuel this (-100009) 0 0 X
set_option maxRecDepth 100000 in
set_option maxHeartbeats 4000000 in
theorem c_X0_fairestRule {l : Launch} {dC : Nat → ClassId} {dI : Nat → Nat → Nat} {cy : Nat → ClassId} {ad : Nat → Nat} {L : hL} {X : hX} {this : Nat} {r : Int32} (h : f_X0_fairestRule L X this = some r) : hMet l dC dI cy ad L yX0_fairestRule wsX0_fairestRule ({ frames := 5, cells := 0, slots := 0, locals := 120 } : Room) [.ref (ad this)] X (some (.int r)) X := by
  unfold f_X0_fairestRule at h
  refine hx_enter RX0 (plainFor_of_name (by decide)) rfl rfl (Nat.le_of_ble_eq_true rfl) (fun p e s m args below meth c C hr hnm ls hl => ?_)
  have hl : lv_has ls 6 [(0, .ref (ad this))] := hl
  refine hx_ldc (v := (-100009)) C (by decide +kernel) dX0_fairestRule_0 ?_
  refine hx_istore_n (lv' := [(1, .int (-100009)), (0, .ref (ad this))]) C dX0_fairestRule_2 rfl hl (by decide) rfl (fun ls hl => ?_)
  refine hx_iconst (v := 0) C dX0_fairestRule_3 (by decide) ?_
  refine hx_istore_n (lv' := [(2, .int 0), (1, .int (-100009)), (0, .ref (ad this))]) C dX0_fairestRule_4 rfl hl (by decide) rfl (fun ls hl => ?_)
  refine hx_iconst (v := 0) C dX0_fairestRule_5 (by decide) ?_
  refine hx_istore_n (lv' := [(3, .int 0), (2, .int 0), (1, .int (-100009)), (0, .ref (ad this))]) C dX0_fairestRule_6 rfl hl (by decide) rfl (fun ls hl => ?_)
  exact w_X0_fairestRule_7 C hr u_fuel this (-100009) 0 0 X ls h (lv_sub hl [3, 2, 1, 0] rfl)
theorem uX0_isBehind_5 : ∀ w ∈ u_ws RX5 TX5 7, w ∈ wsX0_isBehind := by decide +kernel
def f_X0_isBehind (L : hL) (X : hX) (this : Nat) (a1 : Int32) (a2 : Int32) : Option (Int32) :=
  (f_X0_prizeAt L X this a1).bind fun r1 =>
  if tk L this 0 then
  Option.elim r1
  (
    (f_X0_prizeAt L X this a2).bind fun r5 =>
    Option.elim r5
    (
      some 0)
    fun i7 =>
      some 0)
  fun i4 =>
    (f_X0_prizeAt L X this a2).bind fun r8 =>
    Option.elim r8
    (
      if 0 ≤ a2 then
        some 0
      else
        some 1)
    fun i10 =>
      if tk L i4 5 then
      if tk L i10 5 then
      if (X.1 i10 0) < (X.1 i4 0) then
        some 1
      else
        if (X.1 i4 0) = (X.1 i10 0) then
          if a1 ≤ a2 then
            some 0
          else
            some 1
        else
          some 0
      else none
      else none
  else none
set_option maxRecDepth 100000 in
set_option maxHeartbeats 4000000 in
theorem c_X0_isBehind {l : Launch} {dC : Nat → ClassId} {dI : Nat → Nat → Nat} {cy : Nat → ClassId} {ad : Nat → Nat} {L : hL} {X : hX} {this : Nat} {a1 : Int32} {a2 : Int32} {r : Int32} (h : f_X0_isBehind L X this a1 a2 = some r) : hMet l dC dI cy ad L yX0_isBehind wsX0_isBehind ({ frames := 2, cells := 0, slots := 0, locals := 44 } : Room) [.ref (ad this), .int a1, .int a2] X (some (.int r)) X := by
  unfold f_X0_isBehind at h
  refine hx_enter RX0 (plainFor_of_name (by decide)) rfl rfl (Nat.le_of_ble_eq_true rfl) (fun p e s m args below meth c C hr hnm ls hl => ?_)
  have hl : lv_has ls 5 [(0, .ref (ad this)), (1, .int a1), (2, .int a2)] := hl
  refine hx_aload_n C dX0_isBehind_0 rfl (lv_at hl 0 rfl) ?_
  refine hx_iload_n C dX0_isBehind_1 rfl (lv_at hl 1 rfl) ?_
  obtain ⟨r1, e2, h⟩ := hx_bind h
  obtain ⟨g3, h⟩ := hx_gd h
  refine hx_callV (As := [.int a1]) (rest := []) (n := 1) (Cn := RX0) C (c_X0_prizeAt e2) gX0_isBehind_X0_prizeAt g3 (by decide) rfl (by decide +kernel) ⟨Nat.le_of_ble_eq_true rfl, Nat.le_of_ble_eq_true rfl⟩ rfl rfl rfl ⟨Nat.zero_le _, Nat.zero_le _⟩ hl.1 rfl rfl (Nat.le_of_ble_eq_true rfl) dX0_isBehind_2 ?_
  rcases r1 with _ | i4
  · have h := hx_eln h
    refine hx_astore_nN (lv' := [(3, .null), (0, .ref (ad this)), (1, .int a1), (2, .int a2)]) C dX0_isBehind_5 rfl hl (by decide) rfl (fun ls hl => ?_)
    refine hx_aload_n C dX0_isBehind_6 rfl (lv_at hl 1 rfl) ?_
    refine hx_iload_n C dX0_isBehind_7 rfl (lv_at hl 3 rfl) ?_
    obtain ⟨r5, e6, h⟩ := hx_bind h
    refine hx_callV (As := [.int a2]) (rest := []) (n := 1) (Cn := RX0) C (c_X0_prizeAt e6) gX0_isBehind_X0_prizeAt g3 (by decide) rfl (by decide +kernel) ⟨Nat.le_of_ble_eq_true rfl, Nat.le_of_ble_eq_true rfl⟩ rfl rfl rfl ⟨Nat.zero_le _, Nat.zero_le _⟩ hl.1 rfl rfl (Nat.le_of_ble_eq_true rfl) dX0_isBehind_8 ?_
    rcases r5 with _ | i7
    · have h := hx_eln h
      refine hx_astoreN (lv' := [(4, .null), (3, .null), (0, .ref (ad this)), (1, .int a1), (2, .int a2)]) C dX0_isBehind_11 hl (by decide) rfl (fun ls hl => ?_)
      refine hx_aload_nN C dX0_isBehind_13 rfl (lv_at hl 1 rfl) ?_
      refine hx_ifnonnullN C dX0_isBehind_14 ?_
      refine hx_iconst (v := 0) C dX0_isBehind_17 (by decide) ?_
      obtain rfl := hx_some1 h
      exact hx_zret C hr rfl dX0_isBehind_18
    · have h := hx_els h
      refine hx_astore (lv' := [(4, .ref (ad i7)), (3, .null), (0, .ref (ad this)), (1, .int a1), (2, .int a2)]) C dX0_isBehind_11 hl (by decide) rfl (fun ls hl => ?_)
      refine hx_aload_nN C dX0_isBehind_13 rfl (lv_at hl 1 rfl) ?_
      refine hx_ifnonnullN C dX0_isBehind_14 ?_
      refine hx_iconst (v := 0) C dX0_isBehind_17 (by decide) ?_
      obtain rfl := hx_some1 h
      exact hx_zret C hr rfl dX0_isBehind_18
  · have h := hx_els h
    refine hx_astore_n (lv' := [(3, .ref (ad i4)), (0, .ref (ad this)), (1, .int a1), (2, .int a2)]) C dX0_isBehind_5 rfl hl (by decide) rfl (fun ls hl => ?_)
    refine hx_aload_n C dX0_isBehind_6 rfl (lv_at hl 1 rfl) ?_
    refine hx_iload_n C dX0_isBehind_7 rfl (lv_at hl 3 rfl) ?_
    obtain ⟨r8, e9, h⟩ := hx_bind h
    refine hx_callV (As := [.int a2]) (rest := []) (n := 1) (Cn := RX0) C (c_X0_prizeAt e9) gX0_isBehind_X0_prizeAt g3 (by decide) rfl (by decide +kernel) ⟨Nat.le_of_ble_eq_true rfl, Nat.le_of_ble_eq_true rfl⟩ rfl rfl rfl ⟨Nat.zero_le _, Nat.zero_le _⟩ hl.1 rfl rfl (Nat.le_of_ble_eq_true rfl) dX0_isBehind_8 ?_
    rcases r8 with _ | i10
    · have h := hx_eln h
      refine hx_astoreN (lv' := [(4, .null), (3, .ref (ad i4)), (0, .ref (ad this)), (1, .int a1), (2, .int a2)]) C dX0_isBehind_11 hl (by decide) rfl (fun ls hl => ?_)
      refine hx_aload_n C dX0_isBehind_13 rfl (lv_at hl 1 rfl) ?_
      refine hx_ifnonnull (tgt := 19) C dX0_isBehind_14 (by decide) ?_
      refine hx_aloadN C dX0_isBehind_19 (lv_at hl 0 rfl) ?_
      refine hx_ifnonnullN C dX0_isBehind_21 ?_
      refine hx_iload_n C dX0_isBehind_24 rfl (lv_at hl 4 rfl) ?_
      refine hx_if_ge (tgt := 32) C dX0_isBehind_25 (by decide) (fun c11 => ?_) (fun c11 => ?_)
      · have h := hx_pos c11 h
        refine hx_iconst (v := 0) C dX0_isBehind_32 (by decide) ?_
        obtain rfl := hx_some1 h
        exact hx_zret C hr rfl dX0_isBehind_33
      · have h := hx_neg c11 h
        refine hx_iconst (v := 1) C dX0_isBehind_28 (by decide) ?_
        refine hx_goto (tgt := 33) C dX0_isBehind_29 (by decide) ?_
        obtain rfl := hx_some1 h
        exact hx_zret C hr rfl dX0_isBehind_33
    · have h := hx_els h
      refine hx_astore (lv' := [(4, .ref (ad i10)), (3, .ref (ad i4)), (0, .ref (ad this)), (1, .int a1), (2, .int a2)]) C dX0_isBehind_11 hl (by decide) rfl (fun ls hl => ?_)
      refine hx_aload_n C dX0_isBehind_13 rfl (lv_at hl 1 rfl) ?_
      refine hx_ifnonnull (tgt := 19) C dX0_isBehind_14 (by decide) ?_
      refine hx_aload C dX0_isBehind_19 (lv_at hl 0 rfl) ?_
      refine hx_ifnonnull (tgt := 34) C dX0_isBehind_21 (by decide) ?_
      refine hx_aload_n C dX0_isBehind_34 rfl (lv_at hl 1 rfl) ?_
      obtain ⟨g12, h⟩ := hx_gd h
      refine hx_geti C (ci := 5) (j := 0) g12 uX0_isBehind_5 (by decide) rfl (by decide) rfl (by decide +kernel) rfl dX0_isBehind_35 ?_
      refine hx_aload C dX0_isBehind_38 (lv_at hl 0 rfl) ?_
      obtain ⟨g13, h⟩ := hx_gd h
      refine hx_geti C (ci := 5) (j := 0) g13 uX0_isBehind_5 (by decide) rfl (by decide) rfl (by decide +kernel) rfl dX0_isBehind_40 ?_
      refine hx_icmp_gt (tgt := 63) C dX0_isBehind_43 (by decide) (fun c14 => ?_) (fun c14 => ?_)
      · have h := hx_pos c14 h
        refine hx_iconst (v := 1) C dX0_isBehind_63 (by decide) ?_
        refine hx_goto (tgt := 68) C dX0_isBehind_64 (by decide) ?_
        obtain rfl := hx_some1 h
        exact hx_zret C hr rfl dX0_isBehind_68
      · have h := hx_neg c14 h
        refine hx_aload_n C dX0_isBehind_46 rfl (lv_at hl 1 rfl) ?_
        refine hx_geti C (ci := 5) (j := 0) g12 uX0_isBehind_5 (by decide) rfl (by decide) rfl (by decide +kernel) rfl dX0_isBehind_47 ?_
        refine hx_aload C dX0_isBehind_50 (lv_at hl 0 rfl) ?_
        refine hx_geti C (ci := 5) (j := 0) g13 uX0_isBehind_5 (by decide) rfl (by decide) rfl (by decide +kernel) rfl dX0_isBehind_52 ?_
        refine hx_icmp_ne (tgt := 67) C dX0_isBehind_55 (by decide) (fun c15 => ?_) (fun c15 => ?_)
        · have h := hx_neg c15 h
          refine hx_iconst (v := 0) C dX0_isBehind_67 (by decide) ?_
          obtain rfl := hx_some1 h
          exact hx_zret C hr rfl dX0_isBehind_68
        · have h := hx_pos c15 h
          refine hx_iload_n C dX0_isBehind_58 rfl (lv_at hl 3 rfl) ?_
          refine hx_iload_n C dX0_isBehind_59 rfl (lv_at hl 4 rfl) ?_
          refine hx_icmp_le (tgt := 67) C dX0_isBehind_60 (by decide) (fun c16 => ?_) (fun c16 => ?_)
          · have h := hx_pos c16 h
            refine hx_iconst (v := 0) C dX0_isBehind_67 (by decide) ?_
            obtain rfl := hx_some1 h
            exact hx_zret C hr rfl dX0_isBehind_68
          · have h := hx_neg c16 h
            refine hx_iconst (v := 1) C dX0_isBehind_63 (by decide) ?_
            refine hx_goto (tgt := 68) C dX0_isBehind_64 (by decide) ?_
            obtain rfl := hx_some1 h
            exact hx_zret C hr rfl dX0_isBehind_68
theorem uX0_nextByPrice_0 : ∀ w ∈ u_ws RX0 TX0 9, w ∈ wsX0_nextByPrice := by decide +kernel
def f_X0_nextByPrice_41 (L : hL) (k7 : Nat → Int32 → Int32 → Int32 → hX → Option (Int32)) (v0 : Nat) (v1 : Int32) (v2 : Int32) (v3 : Int32) (X : hX) : Option (Int32) :=
  k7 v0 v1 v2 (v3 + 1) X
set_option maxRecDepth 100000 in
set_option maxHeartbeats 4000000 in
theorem w_X0_nextByPrice_41 {p : Program} {l : Launch} {e : Env} {s : State} {m : MethodId} {args : Array Value} {below : List Frame} {meth : Method} {c : Code} {dC : Nat → ClassId} {dI : Nat → Nat → Nat} {cy : Nat → ClassId} {ad : Nat → Nat} {L : hL} {r : Int32} (k7 : Nat → Int32 → Int32 → Int32 → hX → Option (Int32)) (C : hC p s m args meth c dC dI cy ad L (hA ad L s.heap.size) cX0_nextByPrice 4 wsX0_nextByPrice RX0) (hr : meth.sig.returnType = (some .int)) (hk7 : ∀ (v0 : Nat) (v1 : Int32) (v2 : Int32) (v3 : Int32) (X : hX) (ls : Array Slot), k7 v0 v1 v2 v3 X = some r → lv_has ls 4 [(0, .ref (ad v0)), (1, .int v1), (2, .int v2), (3, .int v3)] → hG p l e (headSpec wsX0_nextByPrice ({ frames := 3, cells := 0, slots := 0, locals := 68 } : Room)).room s m args below meth c dC dI cy ad L (hA ad L s.heap.size) 0 0 (MQ below (hQ dC dI cy ad L s.heap.size (some (.int r)) X) args s 0 0 (hA ad L s.heap.size)) X 7 ls []) : ∀ (v0 : Nat) (v1 : Int32) (v2 : Int32) (v3 : Int32) (X : hX) (ls : Array Slot), f_X0_nextByPrice_41 L k7 v0 v1 v2 v3 X = some r → lv_has ls 4 [(0, .ref (ad v0)), (1, .int v1), (2, .int v2), (3, .int v3)] → hG p l e (headSpec wsX0_nextByPrice ({ frames := 3, cells := 0, slots := 0, locals := 68 } : Room)).room s m args below meth c dC dI cy ad L (hA ad L s.heap.size) 0 0 (MQ below (hQ dC dI cy ad L s.heap.size (some (.int r)) X) args s 0 0 (hA ad L s.heap.size)) X 41 ls [] := by
  intro v0 v1 v2 v3 X ls h hl
  unfold f_X0_nextByPrice_41 at h
  refine hx_iinc (v := v3 + 1) (lv' := [(3, .int (v3 + 1)), (0, .ref (ad v0)), (1, .int v1), (2, .int v2)]) C dX0_nextByPrice_41 hl (k := 3) rfl rfl (by decide) rfl (fun ls hl => ?_)
  refine hx_goto (tgt := 7) C dX0_nextByPrice_44 (by decide) ?_
  exact hk7 v0 v1 v2 (v3 + 1) X ls h (lv_sub hl [1, 2, 3, 0] rfl)
def f_X0_nextByPrice_39 (L : hL) (k7 : Nat → Int32 → Int32 → Int32 → hX → Option (Int32)) (v0 : Nat) (v1 : Int32) (v3 : Int32) (X : hX) : Option (Int32) :=
  f_X0_nextByPrice_41 L k7 v0 v1 v3 v3 X
set_option maxRecDepth 100000 in
set_option maxHeartbeats 4000000 in
theorem w_X0_nextByPrice_39 {p : Program} {l : Launch} {e : Env} {s : State} {m : MethodId} {args : Array Value} {below : List Frame} {meth : Method} {c : Code} {dC : Nat → ClassId} {dI : Nat → Nat → Nat} {cy : Nat → ClassId} {ad : Nat → Nat} {L : hL} {r : Int32} (k7 : Nat → Int32 → Int32 → Int32 → hX → Option (Int32)) (C : hC p s m args meth c dC dI cy ad L (hA ad L s.heap.size) cX0_nextByPrice 4 wsX0_nextByPrice RX0) (hr : meth.sig.returnType = (some .int)) (hk7 : ∀ (v0 : Nat) (v1 : Int32) (v2 : Int32) (v3 : Int32) (X : hX) (ls : Array Slot), k7 v0 v1 v2 v3 X = some r → lv_has ls 4 [(0, .ref (ad v0)), (1, .int v1), (2, .int v2), (3, .int v3)] → hG p l e (headSpec wsX0_nextByPrice ({ frames := 3, cells := 0, slots := 0, locals := 68 } : Room)).room s m args below meth c dC dI cy ad L (hA ad L s.heap.size) 0 0 (MQ below (hQ dC dI cy ad L s.heap.size (some (.int r)) X) args s 0 0 (hA ad L s.heap.size)) X 7 ls []) : ∀ (v0 : Nat) (v1 : Int32) (v3 : Int32) (X : hX) (ls : Array Slot), f_X0_nextByPrice_39 L k7 v0 v1 v3 X = some r → lv_has ls 4 [(0, .ref (ad v0)), (1, .int v1), (3, .int v3)] → hG p l e (headSpec wsX0_nextByPrice ({ frames := 3, cells := 0, slots := 0, locals := 68 } : Room)).room s m args below meth c dC dI cy ad L (hA ad L s.heap.size) 0 0 (MQ below (hQ dC dI cy ad L s.heap.size (some (.int r)) X) args s 0 0 (hA ad L s.heap.size)) X 39 ls [] := by
  intro v0 v1 v3 X ls h hl
  unfold f_X0_nextByPrice_39 at h
  refine hx_iload_n C dX0_nextByPrice_39 rfl (lv_at hl 2 rfl) ?_
  refine hx_istore_n (lv' := [(2, .int v3), (0, .ref (ad v0)), (1, .int v1), (3, .int v3)]) C dX0_nextByPrice_40 rfl hl (by decide) rfl (fun ls hl => ?_)
  exact w_X0_nextByPrice_41 k7 C hr hk7 v0 v1 v3 v3 X ls h (lv_sub hl [1, 2, 0, 3] rfl)
def f_X0_nextByPrice_7 (L : hL) : Nat → Nat → Int32 → Int32 → Int32 → hX → Option (Int32)
  | 0, _, _, _, _, _ => none
  | n + 1, v0, v1, v2, v3, X =>
    if 6 ≤ v3 then
      some v2
    else
      (f_X0_isBehind L X v0 v3 v1).bind fun r2 =>
      if tk L v0 0 then
      if r2 = 0 then
        f_X0_nextByPrice_41 L (f_X0_nextByPrice_7 L n) v0 v1 v2 v3 X
      else
        if v2 = (X.1 v0 5) then
          f_X0_nextByPrice_39 L (f_X0_nextByPrice_7 L n) v0 v1 v3 X
        else
          (f_X0_isBehind L X v0 v2 v3).bind fun r7 =>
          if r7 = 0 then
            f_X0_nextByPrice_41 L (f_X0_nextByPrice_7 L n) v0 v1 v2 v3 X
          else
            f_X0_nextByPrice_39 L (f_X0_nextByPrice_7 L n) v0 v1 v3 X
      else none
set_option maxRecDepth 100000 in
set_option maxHeartbeats 4000000 in
theorem w_X0_nextByPrice_7 {p : Program} {l : Launch} {e : Env} {s : State} {m : MethodId} {args : Array Value} {below : List Frame} {meth : Method} {c : Code} {dC : Nat → ClassId} {dI : Nat → Nat → Nat} {cy : Nat → ClassId} {ad : Nat → Nat} {L : hL} {r : Int32} (C : hC p s m args meth c dC dI cy ad L (hA ad L s.heap.size) cX0_nextByPrice 4 wsX0_nextByPrice RX0) (hr : meth.sig.returnType = (some .int)) : ∀ (n : Nat) (v0 : Nat) (v1 : Int32) (v2 : Int32) (v3 : Int32) (X : hX) (ls : Array Slot), f_X0_nextByPrice_7 L n v0 v1 v2 v3 X = some r → lv_has ls 4 [(0, .ref (ad v0)), (1, .int v1), (2, .int v2), (3, .int v3)] → hG p l e (headSpec wsX0_nextByPrice ({ frames := 3, cells := 0, slots := 0, locals := 68 } : Room)).room s m args below meth c dC dI cy ad L (hA ad L s.heap.size) 0 0 (MQ below (hQ dC dI cy ad L s.heap.size (some (.int r)) X) args s 0 0 (hA ad L s.heap.size)) X 7 ls [] := by
  intro n
  induction n with
  | zero => intro v0 v1 v2 v3 X ls h; cases h
  | succ n ih =>
    intro v0 v1 v2 v3 X ls h hl
    rw [f_X0_nextByPrice_7] at h
    refine hx_iload_n C dX0_nextByPrice_7 rfl (lv_at hl 3 rfl) ?_
    refine hx_bipush (v := 6) C dX0_nextByPrice_8 (by decide) ?_
    refine hx_icmp_ge (tgt := 47) C dX0_nextByPrice_10 (by decide) (fun c1 => ?_) (fun c1 => ?_)
    · have h := hx_pos c1 h
      refine hx_iload_n C dX0_nextByPrice_47 rfl (lv_at hl 2 rfl) ?_
      obtain rfl := hx_some1 h
      exact hx_iret C hr dX0_nextByPrice_48
    · have h := hx_neg c1 h
      refine hx_aload_n C dX0_nextByPrice_13 rfl (lv_at hl 0 rfl) ?_
      refine hx_iload_n C dX0_nextByPrice_14 rfl (lv_at hl 3 rfl) ?_
      refine hx_iload_n C dX0_nextByPrice_15 rfl (lv_at hl 1 rfl) ?_
      obtain ⟨r2, e3, h⟩ := hx_bind h
      obtain ⟨g4, h⟩ := hx_gd h
      refine hx_callV (As := [.int v3, .int v1]) (rest := []) (n := 2) (Cn := RX0) C (c_X0_isBehind e3) gX0_nextByPrice_X0_isBehind g4 (by decide) rfl (by decide +kernel) ⟨Nat.le_of_ble_eq_true rfl, Nat.le_of_ble_eq_true rfl⟩ rfl rfl rfl ⟨Nat.zero_le _, Nat.zero_le _⟩ hl.1 rfl rfl (Nat.le_of_ble_eq_true rfl) dX0_nextByPrice_16 ?_
      refine hx_if_eq (tgt := 41) C dX0_nextByPrice_19 (by decide) (fun c5 => ?_) (fun c5 => ?_)
      · have h := hx_pos c5 h
        exact w_X0_nextByPrice_41 (f_X0_nextByPrice_7 L n) C hr ih v0 v1 v2 v3 X ls h (lv_sub hl [0, 1, 2, 3] rfl)
      · have h := hx_neg c5 h
        refine hx_iload_n C dX0_nextByPrice_22 rfl (lv_at hl 2 rfl) ?_
        refine hx_aload_n C dX0_nextByPrice_23 rfl (lv_at hl 0 rfl) ?_
        refine hx_geti C (ci := 0) (j := 5) g4 uX0_nextByPrice_0 (by decide) rfl (by decide) rfl (by decide +kernel) rfl dX0_nextByPrice_24 ?_
        refine hx_icmp_eq (tgt := 39) C dX0_nextByPrice_27 (by decide) (fun c6 => ?_) (fun c6 => ?_)
        · have h := hx_pos c6 h
          exact w_X0_nextByPrice_39 (f_X0_nextByPrice_7 L n) C hr ih v0 v1 v3 X ls h (lv_sub hl [0, 1, 3] rfl)
        · have h := hx_neg c6 h
          refine hx_aload_n C dX0_nextByPrice_30 rfl (lv_at hl 0 rfl) ?_
          refine hx_iload_n C dX0_nextByPrice_31 rfl (lv_at hl 2 rfl) ?_
          refine hx_iload_n C dX0_nextByPrice_32 rfl (lv_at hl 3 rfl) ?_
          obtain ⟨r7, e8, h⟩ := hx_bind h
          refine hx_callV (As := [.int v2, .int v3]) (rest := []) (n := 2) (Cn := RX0) C (c_X0_isBehind e8) gX0_nextByPrice_X0_isBehind g4 (by decide) rfl (by decide +kernel) ⟨Nat.le_of_ble_eq_true rfl, Nat.le_of_ble_eq_true rfl⟩ rfl rfl rfl ⟨Nat.zero_le _, Nat.zero_le _⟩ hl.1 rfl rfl (Nat.le_of_ble_eq_true rfl) dX0_nextByPrice_33 ?_
          refine hx_if_eq (tgt := 41) C dX0_nextByPrice_36 (by decide) (fun c9 => ?_) (fun c9 => ?_)
          · have h := hx_pos c9 h
            exact w_X0_nextByPrice_41 (f_X0_nextByPrice_7 L n) C hr ih v0 v1 v2 v3 X ls h (lv_sub hl [0, 1, 2, 3] rfl)
          · have h := hx_neg c9 h
            exact w_X0_nextByPrice_39 (f_X0_nextByPrice_7 L n) C hr ih v0 v1 v3 X ls h (lv_sub hl [0, 1, 3] rfl)
def f_X0_nextByPrice (L : hL) (X : hX) (this : Nat) (a1 : Int32) : Option (Int32) :=
  if tk L this 0 then
  f_X0_nextByPrice_7 L u_fuel this a1 (X.1 this 5) 0 X
  else none
set_option maxRecDepth 100000 in
set_option maxHeartbeats 4000000 in
theorem c_X0_nextByPrice {l : Launch} {dC : Nat → ClassId} {dI : Nat → Nat → Nat} {cy : Nat → ClassId} {ad : Nat → Nat} {L : hL} {X : hX} {this : Nat} {a1 : Int32} {r : Int32} (h : f_X0_nextByPrice L X this a1 = some r) : hMet l dC dI cy ad L yX0_nextByPrice wsX0_nextByPrice ({ frames := 3, cells := 0, slots := 0, locals := 68 } : Room) [.ref (ad this), .int a1] X (some (.int r)) X := by
  unfold f_X0_nextByPrice at h
  refine hx_enter RX0 (plainFor_of_name (by decide)) rfl rfl (Nat.le_of_ble_eq_true rfl) (fun p e s m args below meth c C hr hnm ls hl => ?_)
  have hl : lv_has ls 4 [(0, .ref (ad this)), (1, .int a1)] := hl
  refine hx_aload_n C dX0_nextByPrice_0 rfl (lv_at hl 0 rfl) ?_
  obtain ⟨g10, h⟩ := hx_gd h
  refine hx_geti C (ci := 0) (j := 5) g10 uX0_nextByPrice_0 (by decide) rfl (by decide) rfl (by decide +kernel) rfl dX0_nextByPrice_1 ?_
  refine hx_istore_n (lv' := [(2, .int (X.1 this 5)), (0, .ref (ad this)), (1, .int a1)]) C dX0_nextByPrice_4 rfl hl (by decide) rfl (fun ls hl => ?_)
  refine hx_iconst (v := 0) C dX0_nextByPrice_5 (by decide) ?_
  refine hx_istore_n (lv' := [(3, .int 0), (2, .int (X.1 this 5)), (0, .ref (ad this)), (1, .int a1)]) C dX0_nextByPrice_6 rfl hl (by decide) rfl (fun ls hl => ?_)
  exact w_X0_nextByPrice_7 C hr u_fuel this a1 (X.1 this 5) 0 X ls h (lv_sub hl [2, 3, 1, 0] rfl)
theorem uX0_shopWith_5 : ∀ w ∈ u_ws RX5 TX5 7, w ∈ wsX0_shopWith := by decide +kernel
def f_X0_shopWith_92 (L : hL) (k14 : Nat → Int32 → Int32 → Int32 → Int32 → Int32 → Int32 → hX → Option (Int32)) (v0 : Nat) (v2 : Int32) (v3 : Int32) (v4 : Int32) (v5 : Int32) (v6 : Int32) (v7 : Int32) (X : hX) : Option (Int32) :=
  k14 v0 v2 v3 v4 v5 v6 (v7 + 1) X
set_option maxRecDepth 100000 in
set_option maxHeartbeats 4000000 in
theorem w_X0_shopWith_92 {p : Program} {l : Launch} {e : Env} {s : State} {m : MethodId} {args : Array Value} {below : List Frame} {meth : Method} {c : Code} {dC : Nat → ClassId} {dI : Nat → Nat → Nat} {cy : Nat → ClassId} {ad : Nat → Nat} {L : hL} {r : Int32} (k14 : Nat → Int32 → Int32 → Int32 → Int32 → Int32 → Int32 → hX → Option (Int32)) (C : hC p s m args meth c dC dI cy ad L (hA ad L s.heap.size) cX0_shopWith 10 wsX0_shopWith RX0) (hr : meth.sig.returnType = (some .int)) (hk14 : ∀ (v0 : Nat) (v2 : Int32) (v3 : Int32) (v4 : Int32) (v5 : Int32) (v6 : Int32) (v7 : Int32) (X : hX) (ls : Array Slot), k14 v0 v2 v3 v4 v5 v6 v7 X = some r → lv_has ls 10 [(0, .ref (ad v0)), (2, .int v2), (3, .int v3), (4, .int v4), (5, .int v5), (6, .int v6), (7, .int v7)] → hG p l e (headSpec wsX0_shopWith ({ frames := 4, cells := 0, slots := 0, locals := 91 } : Room)).room s m args below meth c dC dI cy ad L (hA ad L s.heap.size) 0 0 (MQ below (hQ dC dI cy ad L s.heap.size (some (.int r)) X) args s 0 0 (hA ad L s.heap.size)) X 14 ls []) : ∀ (v0 : Nat) (v2 : Int32) (v3 : Int32) (v4 : Int32) (v5 : Int32) (v6 : Int32) (v7 : Int32) (X : hX) (ls : Array Slot), f_X0_shopWith_92 L k14 v0 v2 v3 v4 v5 v6 v7 X = some r → lv_has ls 10 [(0, .ref (ad v0)), (2, .int v2), (3, .int v3), (4, .int v4), (5, .int v5), (6, .int v6), (7, .int v7)] → hG p l e (headSpec wsX0_shopWith ({ frames := 4, cells := 0, slots := 0, locals := 91 } : Room)).room s m args below meth c dC dI cy ad L (hA ad L s.heap.size) 0 0 (MQ below (hQ dC dI cy ad L s.heap.size (some (.int r)) X) args s 0 0 (hA ad L s.heap.size)) X 92 ls [] := by
  intro v0 v2 v3 v4 v5 v6 v7 X ls h hl
  unfold f_X0_shopWith_92 at h
  refine hx_iinc (v := v7 + 1) (lv' := [(7, .int (v7 + 1)), (0, .ref (ad v0)), (2, .int v2), (3, .int v3), (4, .int v4), (5, .int v5), (6, .int v6)]) C dX0_shopWith_92 hl (k := 6) rfl rfl (by decide) rfl (fun ls hl => ?_)
  refine hx_goto (tgt := 14) C dX0_shopWith_95 (by decide) ?_
  exact hk14 v0 v2 v3 v4 v5 v6 (v7 + 1) X ls h (lv_sub hl [1, 2, 3, 4, 5, 6, 0] rfl)
def f_X0_shopWith_14 (L : hL) : Nat → Nat → Int32 → Int32 → Int32 → Int32 → Int32 → Int32 → hX → Option (Int32)
  | 0, _, _, _, _, _, _, _, _ => none
  | n + 1, v0, v2, v3, v4, v5, v6, v7, X =>
    if 6 ≤ v7 then
      if v2 = 0 then
        some v4
      else
      if v2 = 1 then
        some v3
      else
      some v5
    else
      (f_X0_nextByPrice L X v0 v6).bind fun r4 =>
      if tk L v0 0 then
      (f_X0_prizeAt L X v0 r4).bind fun r7 =>
      Option.elim r7
      (
        f_X0_shopWith_92 L (f_X0_shopWith_14 L n) v0 v2 v3 v4 v5 r4 v7 X)
      fun i9 =>
        if tk L i9 5 then
        (f_X9_quotient L X v3 (X.1 i9 0)).bind fun r11 =>
        f_X0_shopWith_92 L (f_X0_shopWith_14 L n) v0 v2 (v3 - ((if r11 < (X.1 i9 2) then r11 else (X.1 i9 2)) * (X.1 i9 0))) (v4 + (if r11 < (X.1 i9 2) then r11 else (X.1 i9 2))) (v5 + ((if r11 < (X.1 i9 2) then r11 else (X.1 i9 2)) * (X.1 i9 1))) r4 v7 X
        else none
      else none
set_option maxRecDepth 100000 in
set_option maxHeartbeats 4000000 in
theorem w_X0_shopWith_14 {p : Program} {l : Launch} {e : Env} {s : State} {m : MethodId} {args : Array Value} {below : List Frame} {meth : Method} {c : Code} {dC : Nat → ClassId} {dI : Nat → Nat → Nat} {cy : Nat → ClassId} {ad : Nat → Nat} {L : hL} {r : Int32} (C : hC p s m args meth c dC dI cy ad L (hA ad L s.heap.size) cX0_shopWith 10 wsX0_shopWith RX0) (hr : meth.sig.returnType = (some .int)) : ∀ (n : Nat) (v0 : Nat) (v2 : Int32) (v3 : Int32) (v4 : Int32) (v5 : Int32) (v6 : Int32) (v7 : Int32) (X : hX) (ls : Array Slot), f_X0_shopWith_14 L n v0 v2 v3 v4 v5 v6 v7 X = some r → lv_has ls 10 [(0, .ref (ad v0)), (2, .int v2), (3, .int v3), (4, .int v4), (5, .int v5), (6, .int v6), (7, .int v7)] → hG p l e (headSpec wsX0_shopWith ({ frames := 4, cells := 0, slots := 0, locals := 91 } : Room)).room s m args below meth c dC dI cy ad L (hA ad L s.heap.size) 0 0 (MQ below (hQ dC dI cy ad L s.heap.size (some (.int r)) X) args s 0 0 (hA ad L s.heap.size)) X 14 ls [] := by
  intro n
  induction n with
  | zero => intro v0 v2 v3 v4 v5 v6 v7 X ls h; cases h
  | succ n ih =>
    intro v0 v2 v3 v4 v5 v6 v7 X ls h hl
    rw [f_X0_shopWith_14] at h
    refine hx_iload C dX0_shopWith_14 (lv_at hl 6 rfl) ?_
    refine hx_bipush (v := 6) C dX0_shopWith_16 (by decide) ?_
    refine hx_icmp_ge (tgt := 98) C dX0_shopWith_18 (by decide) (fun c1 => ?_) (fun c1 => ?_)
    · have h := hx_pos c1 h
      refine hx_iload_n C dX0_shopWith_98 rfl (lv_at hl 1 rfl) ?_
      by_cases c2 : v2 = 0
      · have h := hx_pos c2 h
        have hz : Int32.toInt v2 = 0 := by rw [c2]; rfl
        refine hx_look (tgt := 124) (off := 25) C [(0, 25), (1, 28)] dX0_shopWith_99 rfl (by decide) (by rw [hz] <;> decide) (by decide) ?_
        refine hx_iload C dX0_shopWith_124 (lv_at hl 3 rfl) ?_
        obtain rfl := hx_some1 h
        exact hx_iret C hr dX0_shopWith_126
      have h := hx_neg c2 h
      have zc2 : Int32.toInt v2 ≠ 0 := fun z => c2 (Int32.toInt_inj.mp (z.trans rfl))
      by_cases c3 : v2 = 1
      · have h := hx_pos c3 h
        have hz : Int32.toInt v2 = 1 := by rw [c3]; rfl
        refine hx_look (tgt := 127) (off := 28) C [(0, 25), (1, 28)] dX0_shopWith_99 rfl (by decide) (by rw [hz] <;> decide) (by decide) ?_
        refine hx_iload_n C dX0_shopWith_127 rfl (lv_at hl 2 rfl) ?_
        obtain rfl := hx_some1 h
        exact hx_iret C hr dX0_shopWith_128
      have h := hx_neg c3 h
      have zc3 : Int32.toInt v2 ≠ 1 := fun z => c3 (Int32.toInt_inj.mp (z.trans rfl))
      refine hx_look (tgt := 129) (off := 30) C [(0, 25), (1, 28)] dX0_shopWith_99 rfl (by decide) (by simp only [Op.lookupswitch.offset, if_neg (Ne.symm zc2), if_neg (Ne.symm zc3)]) (by decide) ?_
      refine hx_iload C dX0_shopWith_129 (lv_at hl 4 rfl) ?_
      obtain rfl := hx_some1 h
      exact hx_iret C hr dX0_shopWith_131
    · have h := hx_neg c1 h
      refine hx_aload_n C dX0_shopWith_21 rfl (lv_at hl 0 rfl) ?_
      refine hx_iload C dX0_shopWith_22 (lv_at hl 5 rfl) ?_
      obtain ⟨r4, e5, h⟩ := hx_bind h
      obtain ⟨g6, h⟩ := hx_gd h
      refine hx_callV (As := [.int v6]) (rest := []) (n := 1) (Cn := RX0) C (c_X0_nextByPrice e5) gX0_shopWith_X0_nextByPrice g6 (by decide) rfl (by decide +kernel) ⟨Nat.le_of_ble_eq_true rfl, Nat.le_of_ble_eq_true rfl⟩ rfl rfl rfl ⟨Nat.zero_le _, Nat.zero_le _⟩ hl.1 rfl rfl (Nat.le_of_ble_eq_true rfl) dX0_shopWith_24 ?_
      refine hx_istore (lv' := [(6, .int r4), (0, .ref (ad v0)), (2, .int v2), (3, .int v3), (4, .int v4), (5, .int v5), (7, .int v7)]) C dX0_shopWith_27 hl (by decide) rfl (fun ls hl => ?_)
      refine hx_aload_n C dX0_shopWith_29 rfl (lv_at hl 1 rfl) ?_
      refine hx_iload C dX0_shopWith_30 (lv_at hl 0 rfl) ?_
      obtain ⟨r7, e8, h⟩ := hx_bind h
      refine hx_callV (As := [.int r4]) (rest := []) (n := 1) (Cn := RX0) C (c_X0_prizeAt e8) gX0_shopWith_X0_prizeAt g6 (by decide) rfl (by decide +kernel) ⟨Nat.le_of_ble_eq_true rfl, Nat.le_of_ble_eq_true rfl⟩ rfl rfl rfl ⟨Nat.zero_le _, Nat.zero_le _⟩ hl.1 rfl rfl (Nat.le_of_ble_eq_true rfl) dX0_shopWith_32 ?_
      rcases r7 with _ | i9
      · have h := hx_eln h
        refine hx_astoreN (lv' := [(8, .null), (6, .int r4), (0, .ref (ad v0)), (2, .int v2), (3, .int v3), (4, .int v4), (5, .int v5), (7, .int v7)]) C dX0_shopWith_35 hl (by decide) rfl (fun ls hl => ?_)
        refine hx_aloadN C dX0_shopWith_37 (lv_at hl 0 rfl) ?_
        refine hx_ifnullN (tgt := 92) C dX0_shopWith_39 (by decide) ?_
        exact w_X0_shopWith_92 (f_X0_shopWith_14 L n) C hr ih v0 v2 v3 v4 v5 r4 v7 X ls h (lv_sub hl [2, 3, 4, 5, 6, 1, 7] rfl)
      · have h := hx_els h
        refine hx_astore (lv' := [(8, .ref (ad i9)), (6, .int r4), (0, .ref (ad v0)), (2, .int v2), (3, .int v3), (4, .int v4), (5, .int v5), (7, .int v7)]) C dX0_shopWith_35 hl (by decide) rfl (fun ls hl => ?_)
        refine hx_aload C dX0_shopWith_37 (lv_at hl 0 rfl) ?_
        refine hx_ifnull C dX0_shopWith_39 ?_
        refine hx_aload C dX0_shopWith_42 (lv_at hl 0 rfl) ?_
        obtain ⟨g10, h⟩ := hx_gd h
        refine hx_geti C (ci := 5) (j := 2) g10 uX0_shopWith_5 (by decide) rfl (by decide) rfl (by decide +kernel) rfl dX0_shopWith_44 ?_
        refine hx_iload_n C dX0_shopWith_47 rfl (lv_at hl 4 rfl) ?_
        refine hx_aload C dX0_shopWith_48 (lv_at hl 0 rfl) ?_
        refine hx_geti C (ci := 5) (j := 0) g10 uX0_shopWith_5 (by decide) rfl (by decide) rfl (by decide +kernel) rfl dX0_shopWith_50 ?_
        obtain ⟨r11, e12, h⟩ := hx_bind h
        refine hx_callSN (As := [.int v3, .int (X.1 i9 0)]) (rest := [.int (X.1 i9 2)]) (n := 2) (host := "TicketScales") C (c_X9_quotient e12) gX0_shopWith_X9_quotient_n197 (by decide) (by decide +kernel) (by decide +kernel) (by decide +kernel) ⟨Nat.le_of_ble_eq_true rfl, Nat.le_of_ble_eq_true rfl⟩ rfl rfl rfl ⟨Nat.zero_le _, Nat.zero_le _⟩ hl.1 rfl rfl (Nat.le_of_ble_eq_true rfl) dX0_shopWith_53 ?_
        refine hx_mmin C (by decide +kernel) (by decide +kernel) (by decide +kernel) (by decide +kernel) hl.1 (Nat.le_of_ble_eq_true rfl) (Nat.le_of_ble_eq_true rfl) (Nat.zero_le _) (Nat.zero_le _) dX0_shopWith_56 ?_
        refine hx_istore (lv' := [(9, .int ((if r11 < (X.1 i9 2) then r11 else (X.1 i9 2)))), (8, .ref (ad i9)), (6, .int r4), (0, .ref (ad v0)), (2, .int v2), (3, .int v3), (4, .int v4), (5, .int v5), (7, .int v7)]) C dX0_shopWith_59 hl (by decide) rfl (fun ls hl => ?_)
        refine hx_iload_n C dX0_shopWith_61 rfl (lv_at hl 5 rfl) ?_
        refine hx_iload C dX0_shopWith_62 (lv_at hl 0 rfl) ?_
        refine hx_aload C dX0_shopWith_64 (lv_at hl 1 rfl) ?_
        refine hx_geti C (ci := 5) (j := 0) g10 uX0_shopWith_5 (by decide) rfl (by decide) rfl (by decide +kernel) rfl dX0_shopWith_66 ?_
        refine hx_imul C dX0_shopWith_69 ?_
        refine hx_isub C dX0_shopWith_70 ?_
        refine hx_istore_n (lv' := [(3, .int (v3 - ((if r11 < (X.1 i9 2) then r11 else (X.1 i9 2)) * (X.1 i9 0)))), (9, .int ((if r11 < (X.1 i9 2) then r11 else (X.1 i9 2)))), (8, .ref (ad i9)), (6, .int r4), (0, .ref (ad v0)), (2, .int v2), (4, .int v4), (5, .int v5), (7, .int v7)]) C dX0_shopWith_71 rfl hl (by decide) rfl (fun ls hl => ?_)
        refine hx_iload C dX0_shopWith_72 (lv_at hl 6 rfl) ?_
        refine hx_iload C dX0_shopWith_74 (lv_at hl 1 rfl) ?_
        refine hx_iadd C dX0_shopWith_76 ?_
        refine hx_istore (lv' := [(4, .int (v4 + (if r11 < (X.1 i9 2) then r11 else (X.1 i9 2)))), (3, .int (v3 - ((if r11 < (X.1 i9 2) then r11 else (X.1 i9 2)) * (X.1 i9 0)))), (9, .int ((if r11 < (X.1 i9 2) then r11 else (X.1 i9 2)))), (8, .ref (ad i9)), (6, .int r4), (0, .ref (ad v0)), (2, .int v2), (5, .int v5), (7, .int v7)]) C dX0_shopWith_77 hl (by decide) rfl (fun ls hl => ?_)
        refine hx_iload C dX0_shopWith_79 (lv_at hl 7 rfl) ?_
        refine hx_iload C dX0_shopWith_81 (lv_at hl 2 rfl) ?_
        refine hx_aload C dX0_shopWith_83 (lv_at hl 3 rfl) ?_
        refine hx_geti C (ci := 5) (j := 1) g10 uX0_shopWith_5 (by decide) rfl (by decide) rfl (by decide +kernel) rfl dX0_shopWith_85 ?_
        refine hx_imul C dX0_shopWith_88 ?_
        refine hx_iadd C dX0_shopWith_89 ?_
        refine hx_istore (lv' := [(5, .int (v5 + ((if r11 < (X.1 i9 2) then r11 else (X.1 i9 2)) * (X.1 i9 1)))), (4, .int (v4 + (if r11 < (X.1 i9 2) then r11 else (X.1 i9 2)))), (3, .int (v3 - ((if r11 < (X.1 i9 2) then r11 else (X.1 i9 2)) * (X.1 i9 0)))), (9, .int ((if r11 < (X.1 i9 2) then r11 else (X.1 i9 2)))), (8, .ref (ad i9)), (6, .int r4), (0, .ref (ad v0)), (2, .int v2), (7, .int v7)]) C dX0_shopWith_90 hl (by decide) rfl (fun ls hl => ?_)
        exact w_X0_shopWith_92 (f_X0_shopWith_14 L n) C hr ih v0 v2 (v3 - ((if r11 < (X.1 i9 2) then r11 else (X.1 i9 2)) * (X.1 i9 0))) (v4 + (if r11 < (X.1 i9 2) then r11 else (X.1 i9 2))) (v5 + ((if r11 < (X.1 i9 2) then r11 else (X.1 i9 2)) * (X.1 i9 1))) r4 v7 X ls h (lv_sub hl [6, 7, 2, 1, 0, 5, 8] rfl)
def f_X0_shopWith (L : hL) (X : hX) (this : Nat) (a1 : Int32) (a2 : Int32) : Option (Int32) :=
  f_X0_shopWith_14 L u_fuel this a2 a1 0 0 (-1) 0 X
set_option maxRecDepth 100000 in
set_option maxHeartbeats 4000000 in
theorem c_X0_shopWith {l : Launch} {dC : Nat → ClassId} {dI : Nat → Nat → Nat} {cy : Nat → ClassId} {ad : Nat → Nat} {L : hL} {X : hX} {this : Nat} {a1 : Int32} {a2 : Int32} {r : Int32} (h : f_X0_shopWith L X this a1 a2 = some r) : hMet l dC dI cy ad L yX0_shopWith wsX0_shopWith ({ frames := 4, cells := 0, slots := 0, locals := 91 } : Room) [.ref (ad this), .int a1, .int a2] X (some (.int r)) X := by
  unfold f_X0_shopWith at h
  refine hx_enter RX0 (plainFor_of_name (by decide)) rfl rfl (Nat.le_of_ble_eq_true rfl) (fun p e s m args below meth c C hr hnm ls hl => ?_)
  have hl : lv_has ls 10 [(0, .ref (ad this)), (1, .int a1), (2, .int a2)] := hl
  refine hx_iload_n C dX0_shopWith_0 rfl (lv_at hl 1 rfl) ?_
  refine hx_istore_n (lv' := [(3, .int a1), (0, .ref (ad this)), (1, .int a1), (2, .int a2)]) C dX0_shopWith_1 rfl hl (by decide) rfl (fun ls hl => ?_)
  refine hx_iconst (v := 0) C dX0_shopWith_2 (by decide) ?_
  refine hx_istore (lv' := [(4, .int 0), (3, .int a1), (0, .ref (ad this)), (1, .int a1), (2, .int a2)]) C dX0_shopWith_3 hl (by decide) rfl (fun ls hl => ?_)
  refine hx_iconst (v := 0) C dX0_shopWith_5 (by decide) ?_
  refine hx_istore (lv' := [(5, .int 0), (4, .int 0), (3, .int a1), (0, .ref (ad this)), (1, .int a1), (2, .int a2)]) C dX0_shopWith_6 hl (by decide) rfl (fun ls hl => ?_)
  refine hx_iconst (v := (-1)) C dX0_shopWith_8 (by decide) ?_
  refine hx_istore (lv' := [(6, .int (-1)), (5, .int 0), (4, .int 0), (3, .int a1), (0, .ref (ad this)), (1, .int a1), (2, .int a2)]) C dX0_shopWith_9 hl (by decide) rfl (fun ls hl => ?_)
  refine hx_iconst (v := 0) C dX0_shopWith_11 (by decide) ?_
  refine hx_istore (lv' := [(7, .int 0), (6, .int (-1)), (5, .int 0), (4, .int 0), (3, .int a1), (0, .ref (ad this)), (1, .int a1), (2, .int a2)]) C dX0_shopWith_12 hl (by decide) rfl (fun ls hl => ?_)
  exact w_X0_shopWith_14 C hr u_fuel this a2 a1 0 0 (-1) 0 X ls h (lv_sub hl [5, 7, 4, 3, 2, 1, 0] rfl)
theorem uX1_part_1 : ∀ w ∈ u_ws RX1 TX1 6, w ∈ wsX1_part := by decide +kernel
def f_X1_part (L : hL) (X : hX) (this : Nat) (a1 : Int32) : Option (Int32) :=
  (f_X9_within L X a1 0 4).bind fun r1 =>
  if r1 = 0 then
    some (-100001)
  else
    if a1 = 0 then
      if tk L this 1 then
      some (X.1 this 0)
      else none
    else
      if tk L this 1 then
      if (X.1 this 1) = 0 then
        some (-100009)
      else
        if a1 = 1 then
          some (X.1 this 2)
        else
        if a1 = 2 then
          some (X.1 this 3)
        else
        if a1 = 3 then
          some (X.1 this 4)
        else
        some (X.1 this 5)
      else none
set_option maxRecDepth 100000 in
set_option maxHeartbeats 4000000 in
theorem c_X1_part {l : Launch} {dC : Nat → ClassId} {dI : Nat → Nat → Nat} {cy : Nat → ClassId} {ad : Nat → Nat} {L : hL} {X : hX} {this : Nat} {a1 : Int32} {r : Int32} (h : f_X1_part L X this a1 = some r) : hMet l dC dI cy ad L yX1_part wsX1_part ({ frames := 1, cells := 0, slots := 0, locals := 22 } : Room) [.ref (ad this), .int a1] X (some (.int r)) X := by
  unfold f_X1_part at h
  refine hx_enter RX1 (plainFor_of_name (by decide)) rfl rfl (Nat.le_of_ble_eq_true rfl) (fun p e s m args below meth c C hr hnm ls hl => ?_)
  have hl : lv_has ls 2 [(0, .ref (ad this)), (1, .int a1)] := hl
  refine hx_iload_n C dX1_part_0 rfl (lv_at hl 1 rfl) ?_
  refine hx_iconst (v := 0) C dX1_part_1 (by decide) ?_
  refine hx_iconst (v := 4) C dX1_part_2 (by decide) ?_
  obtain ⟨r1, e2, h⟩ := hx_bind h
  refine hx_callSN (As := [.int a1, .int 0, .int 4]) (rest := []) (n := 3) (host := "TicketScales") C (c_X9_within e2) gX1_part_X9_within_n41 (by decide) (by decide +kernel) (by decide +kernel) (by decide +kernel) ⟨Nat.le_of_ble_eq_true rfl, Nat.le_of_ble_eq_true rfl⟩ rfl rfl rfl ⟨Nat.zero_le _, Nat.zero_le _⟩ hl.1 rfl rfl (Nat.le_of_ble_eq_true rfl) dX1_part_3 ?_
  refine hx_if_ne (tgt := 12) C dX1_part_6 (by decide) (fun c3 => ?_) (fun c3 => ?_)
  · have h := hx_neg c3 h
    refine hx_iload_n C dX1_part_12 rfl (lv_at hl 1 rfl) ?_
    refine hx_if_ne (tgt := 21) C dX1_part_13 (by decide) (fun c4 => ?_) (fun c4 => ?_)
    · have h := hx_neg c4 h
      refine hx_aload_n C dX1_part_21 rfl (lv_at hl 0 rfl) ?_
      obtain ⟨g5, h⟩ := hx_gd h
      refine hx_geti C (ci := 1) (j := 1) g5 uX1_part_1 (by decide) rfl (by decide) rfl (by decide +kernel) rfl dX1_part_22 ?_
      refine hx_if_ne (tgt := 31) C dX1_part_25 (by decide) (fun c6 => ?_) (fun c6 => ?_)
      · have h := hx_neg c6 h
        refine hx_iload_n C dX1_part_31 rfl (lv_at hl 1 rfl) ?_
        by_cases c7 : a1 = 1
        · have h := hx_pos c7 h
          have hz : Int32.toInt a1 = 1 := by rw [c7]; rfl
          refine hx_tableIn (tgt := 60) C dX1_part_32 (by rw [hz] <;> decide) (by rw [hz] <;> decide) (off := 28) (by rw [hz] <;> rfl) (by decide) ?_
          refine hx_aload_n C dX1_part_60 rfl (lv_at hl 0 rfl) ?_
          refine hx_geti C (ci := 1) (j := 2) g5 uX1_part_1 (by decide) rfl (by decide) rfl (by decide +kernel) rfl dX1_part_61 ?_
          obtain rfl := hx_some1 h
          exact hx_iret C hr dX1_part_64
        have h := hx_neg c7 h
        have zc7 : Int32.toInt a1 ≠ 1 := fun z => c7 (Int32.toInt_inj.mp (z.trans rfl))
        by_cases c8 : a1 = 2
        · have h := hx_pos c8 h
          have hz : Int32.toInt a1 = 2 := by rw [c8]; rfl
          refine hx_tableIn (tgt := 65) C dX1_part_32 (by rw [hz] <;> decide) (by rw [hz] <;> decide) (off := 33) (by rw [hz] <;> rfl) (by decide) ?_
          refine hx_aload_n C dX1_part_65 rfl (lv_at hl 0 rfl) ?_
          refine hx_geti C (ci := 1) (j := 3) g5 uX1_part_1 (by decide) rfl (by decide) rfl (by decide +kernel) rfl dX1_part_66 ?_
          obtain rfl := hx_some1 h
          exact hx_iret C hr dX1_part_69
        have h := hx_neg c8 h
        have zc8 : Int32.toInt a1 ≠ 2 := fun z => c8 (Int32.toInt_inj.mp (z.trans rfl))
        by_cases c9 : a1 = 3
        · have h := hx_pos c9 h
          have hz : Int32.toInt a1 = 3 := by rw [c9]; rfl
          refine hx_tableIn (tgt := 70) C dX1_part_32 (by rw [hz] <;> decide) (by rw [hz] <;> decide) (off := 38) (by rw [hz] <;> rfl) (by decide) ?_
          refine hx_aload_n C dX1_part_70 rfl (lv_at hl 0 rfl) ?_
          refine hx_geti C (ci := 1) (j := 4) g5 uX1_part_1 (by decide) rfl (by decide) rfl (by decide +kernel) rfl dX1_part_71 ?_
          obtain rfl := hx_some1 h
          exact hx_iret C hr dX1_part_74
        have h := hx_neg c9 h
        have zc9 : Int32.toInt a1 ≠ 3 := fun z => c9 (Int32.toInt_inj.mp (z.trans rfl))
        refine hx_tableOut (tgt := 75) C dX1_part_32 (by omega) (by decide) ?_
        refine hx_aload_n C dX1_part_75 rfl (lv_at hl 0 rfl) ?_
        refine hx_geti C (ci := 1) (j := 5) g5 uX1_part_1 (by decide) rfl (by decide) rfl (by decide +kernel) rfl dX1_part_76 ?_
        obtain rfl := hx_some1 h
        exact hx_iret C hr dX1_part_79
      · have h := hx_pos c6 h
        refine hx_ldc (v := (-100009)) C (by decide +kernel) dX1_part_28 ?_
        obtain rfl := hx_some1 h
        exact hx_iret C hr dX1_part_30
    · have h := hx_pos c4 h
      refine hx_aload_n C dX1_part_16 rfl (lv_at hl 0 rfl) ?_
      obtain ⟨g10, h⟩ := hx_gd h
      refine hx_geti C (ci := 1) (j := 0) g10 uX1_part_1 (by decide) rfl (by decide) rfl (by decide +kernel) rfl dX1_part_17 ?_
      obtain rfl := hx_some1 h
      exact hx_iret C hr dX1_part_20
  · have h := hx_pos c3 h
    refine hx_ldc (v := (-100001)) C (by decide +kernel) dX1_part_9 ?_
    obtain rfl := hx_some1 h
    exact hx_iret C hr dX1_part_11
def f_X2_init (L : hL) (X : hX) (this : Nat) : Option (Unit) :=
  some ()
set_option maxRecDepth 100000 in
set_option maxHeartbeats 4000000 in
theorem c_X2_init {l : Launch} {dC : Nat → ClassId} {dI : Nat → Nat → Nat} {cy : Nat → ClassId} {ad : Nat → Nat} {L : hL} {X : hX} {this : Nat} (h : f_X2_init L X this = some ()) : hMet l dC dI cy ad L yX2_init wsX2_init ({ frames := 1, cells := 0, slots := 0, locals := 24 } : Room) [.ref (ad this)] X none X := by
  unfold f_X2_init at h
  refine hx_enter RX2 (plainFor_of_name (by decide)) rfl rfl (Nat.le_of_ble_eq_true rfl) (fun p e s m args below meth c C hr hnm ls hl => ?_)
  have hl : lv_has ls 1 [(0, .ref (ad this))] := hl
  refine hx_aload_n C dX2_init_0 rfl (lv_at hl 0 rfl) ?_
  refine hx_objInit C (by decide +kernel) (by decide +kernel) (by decide +kernel) hl.1 dX2_init_1 (Nat.le_of_ble_eq_true rfl) (Nat.le_of_ble_eq_true rfl) ?_
  exact hx_vret C hr dX2_init_4
theorem uX2_note_2 : ∀ w ∈ u_ws RX2 TX2 4, w ∈ wsX2_note := by decide +kernel
def f_X2_note (L : hL) (X : hX) (this : Nat) (a1 : Int32) (a2 : Int32) (a3 : Int32) : Option (hX) :=
  if tk L this 2 then
  if a2 = (-100009) then
    some (smi (smi (smi (smi X this 1 a1) this 2 a2) this 3 a3) this 0 1)
  else
    if a2 = (-100001) then
      some (smi (smi (smi (smi X this 1 a1) this 2 a2) this 3 a3) this 0 2)
    else
      some (smi (smi (smi (smi X this 1 a1) this 2 a2) this 3 a3) this 0 3)
  else none
set_option maxRecDepth 100000 in
set_option maxHeartbeats 4000000 in
theorem c_X2_note {l : Launch} {dC : Nat → ClassId} {dI : Nat → Nat → Nat} {cy : Nat → ClassId} {ad : Nat → Nat} {L : hL} {X : hX} {this : Nat} {a1 : Int32} {a2 : Int32} {a3 : Int32} {X' : hX} (h : f_X2_note L X this a1 a2 a3 = some X') : hMet l dC dI cy ad L yX2_note wsX2_note ({ frames := 0, cells := 0, slots := 0, locals := 0 } : Room) [.ref (ad this), .int a1, .int a2, .int a3] X none X' := by
  unfold f_X2_note at h
  refine hx_enter RX2 (plainFor_of_name (by decide)) rfl rfl (Nat.le_of_ble_eq_true rfl) (fun p e s m args below meth c C hr hnm ls hl => ?_)
  have hl : lv_has ls 4 [(0, .ref (ad this)), (1, .int a1), (2, .int a2), (3, .int a3)] := hl
  refine hx_aload_n C dX2_note_0 rfl (lv_at hl 0 rfl) ?_
  refine hx_iload_n C dX2_note_1 rfl (lv_at hl 1 rfl) ?_
  obtain ⟨g1, h⟩ := hx_gd h
  refine hx_puti C (ci := 2) (j := 1) tyX2 tyX2_ok nmX2 g1 uX2_note_2 (by decide) rfl (by decide) rfl (by decide +kernel) rfl rfl (tyX2_ok 1 (by decide)) dX2_note_2 rfl rfl ?_
  refine hx_aload_n C dX2_note_5 rfl (lv_at hl 0 rfl) ?_
  refine hx_iload_n C dX2_note_6 rfl (lv_at hl 2 rfl) ?_
  refine hx_puti C (ci := 2) (j := 2) tyX2 tyX2_ok nmX2 g1 uX2_note_2 (by decide) rfl (by decide) rfl (by decide +kernel) rfl rfl (tyX2_ok 2 (by decide)) dX2_note_7 rfl rfl ?_
  refine hx_aload_n C dX2_note_10 rfl (lv_at hl 0 rfl) ?_
  refine hx_iload_n C dX2_note_11 rfl (lv_at hl 3 rfl) ?_
  refine hx_puti C (ci := 2) (j := 3) tyX2 tyX2_ok nmX2 g1 uX2_note_2 (by decide) rfl (by decide) rfl (by decide +kernel) rfl rfl (tyX2_ok 3 (by decide)) dX2_note_12 rfl rfl ?_
  refine hx_iload_n C dX2_note_15 rfl (lv_at hl 2 rfl) ?_
  refine hx_ldc (v := (-100009)) C (by decide +kernel) dX2_note_16 ?_
  refine hx_icmp_ne (tgt := 29) C dX2_note_18 (by decide) (fun c2 => ?_) (fun c2 => ?_)
  · have h := hx_neg c2 h
    refine hx_aload_n C dX2_note_29 rfl (lv_at hl 0 rfl) ?_
    refine hx_iload_n C dX2_note_30 rfl (lv_at hl 2 rfl) ?_
    refine hx_ldc (v := (-100001)) C (by decide +kernel) dX2_note_31 ?_
    refine hx_icmp_ne (tgt := 40) C dX2_note_33 (by decide) (fun c3 => ?_) (fun c3 => ?_)
    · have h := hx_neg c3 h
      refine hx_iconst (v := 3) C dX2_note_40 (by decide) ?_
      refine hx_puti C (ci := 2) (j := 0) tyX2 tyX2_ok nmX2 g1 uX2_note_2 (by decide) rfl (by decide) rfl (by decide +kernel) rfl rfl (tyX2_ok 0 (by decide)) dX2_note_41 rfl rfl ?_
      obtain rfl := hx_some1 h
      exact hx_vret C hr dX2_note_44
    · have h := hx_pos c3 h
      refine hx_iconst (v := 2) C dX2_note_36 (by decide) ?_
      refine hx_goto (tgt := 41) C dX2_note_37 (by decide) ?_
      refine hx_puti C (ci := 2) (j := 0) tyX2 tyX2_ok nmX2 g1 uX2_note_2 (by decide) rfl (by decide) rfl (by decide +kernel) rfl rfl (tyX2_ok 0 (by decide)) dX2_note_41 rfl rfl ?_
      obtain rfl := hx_some1 h
      exact hx_vret C hr dX2_note_44
  · have h := hx_pos c2 h
    refine hx_aload_n C dX2_note_21 rfl (lv_at hl 0 rfl) ?_
    refine hx_iconst (v := 1) C dX2_note_22 (by decide) ?_
    refine hx_puti C (ci := 2) (j := 0) tyX2 tyX2_ok nmX2 g1 uX2_note_2 (by decide) rfl (by decide) rfl (by decide +kernel) rfl rfl (tyX2_ok 0 (by decide)) dX2_note_23 rfl rfl ?_
    refine hx_goto (tgt := 44) C dX2_note_26 (by decide) ?_
    obtain rfl := hx_some1 h
    exact hx_vret C hr dX2_note_44
theorem uX2_part_2 : ∀ w ∈ u_ws RX2 TX2 4, w ∈ wsX2_part := by decide +kernel
def f_X2_part (L : hL) (X : hX) (this : Nat) (a1 : Int32) : Option (Int32) :=
  (f_X9_within L X a1 0 4).bind fun r1 =>
  if r1 = 0 then
    some (-100001)
  else
    if tk L this 2 then
    if (X.1 this 0) = 0 then
      some (-100009)
    else
      if a1 = 0 then
        some (X.1 this 0)
      else
      if a1 = 1 then
        some (X.1 this 1)
      else
      if a1 = 2 then
        if (X.1 this 0) = 1 then
          some 1
        else
          some 2
      else
      if a1 = 3 then
        some (X.1 this 2)
      else
      some (X.1 this 3)
    else none
set_option maxRecDepth 100000 in
set_option maxHeartbeats 4000000 in
theorem c_X2_part {l : Launch} {dC : Nat → ClassId} {dI : Nat → Nat → Nat} {cy : Nat → ClassId} {ad : Nat → Nat} {L : hL} {X : hX} {this : Nat} {a1 : Int32} {r : Int32} (h : f_X2_part L X this a1 = some r) : hMet l dC dI cy ad L yX2_part wsX2_part ({ frames := 1, cells := 0, slots := 0, locals := 22 } : Room) [.ref (ad this), .int a1] X (some (.int r)) X := by
  unfold f_X2_part at h
  refine hx_enter RX2 (plainFor_of_name (by decide)) rfl rfl (Nat.le_of_ble_eq_true rfl) (fun p e s m args below meth c C hr hnm ls hl => ?_)
  have hl : lv_has ls 2 [(0, .ref (ad this)), (1, .int a1)] := hl
  refine hx_iload_n C dX2_part_0 rfl (lv_at hl 1 rfl) ?_
  refine hx_iconst (v := 0) C dX2_part_1 (by decide) ?_
  refine hx_iconst (v := 4) C dX2_part_2 (by decide) ?_
  obtain ⟨r1, e2, h⟩ := hx_bind h
  refine hx_callSN (As := [.int a1, .int 0, .int 4]) (rest := []) (n := 3) (host := "TicketScales") C (c_X9_within e2) gX2_part_X9_within_n26 (by decide) (by decide +kernel) (by decide +kernel) (by decide +kernel) ⟨Nat.le_of_ble_eq_true rfl, Nat.le_of_ble_eq_true rfl⟩ rfl rfl rfl ⟨Nat.zero_le _, Nat.zero_le _⟩ hl.1 rfl rfl (Nat.le_of_ble_eq_true rfl) dX2_part_3 ?_
  refine hx_if_ne (tgt := 12) C dX2_part_6 (by decide) (fun c3 => ?_) (fun c3 => ?_)
  · have h := hx_neg c3 h
    refine hx_aload_n C dX2_part_12 rfl (lv_at hl 0 rfl) ?_
    obtain ⟨g4, h⟩ := hx_gd h
    refine hx_geti C (ci := 2) (j := 0) g4 uX2_part_2 (by decide) rfl (by decide) rfl (by decide +kernel) rfl dX2_part_13 ?_
    refine hx_if_ne (tgt := 22) C dX2_part_16 (by decide) (fun c5 => ?_) (fun c5 => ?_)
    · have h := hx_neg c5 h
      refine hx_iload_n C dX2_part_22 rfl (lv_at hl 1 rfl) ?_
      by_cases c6 : a1 = 0
      · have h := hx_pos c6 h
        have hz : Int32.toInt a1 = 0 := by rw [c6]; rfl
        refine hx_tableIn (tgt := 52) C dX2_part_23 (by rw [hz] <;> decide) (by rw [hz] <;> decide) (off := 29) (by rw [hz] <;> rfl) (by decide) ?_
        refine hx_aload_n C dX2_part_52 rfl (lv_at hl 0 rfl) ?_
        refine hx_geti C (ci := 2) (j := 0) g4 uX2_part_2 (by decide) rfl (by decide) rfl (by decide +kernel) rfl dX2_part_53 ?_
        obtain rfl := hx_some1 h
        exact hx_iret C hr dX2_part_56
      have h := hx_neg c6 h
      have zc6 : Int32.toInt a1 ≠ 0 := fun z => c6 (Int32.toInt_inj.mp (z.trans rfl))
      by_cases c7 : a1 = 1
      · have h := hx_pos c7 h
        have hz : Int32.toInt a1 = 1 := by rw [c7]; rfl
        refine hx_tableIn (tgt := 57) C dX2_part_23 (by rw [hz] <;> decide) (by rw [hz] <;> decide) (off := 34) (by rw [hz] <;> rfl) (by decide) ?_
        refine hx_aload_n C dX2_part_57 rfl (lv_at hl 0 rfl) ?_
        refine hx_geti C (ci := 2) (j := 1) g4 uX2_part_2 (by decide) rfl (by decide) rfl (by decide +kernel) rfl dX2_part_58 ?_
        obtain rfl := hx_some1 h
        exact hx_iret C hr dX2_part_61
      have h := hx_neg c7 h
      have zc7 : Int32.toInt a1 ≠ 1 := fun z => c7 (Int32.toInt_inj.mp (z.trans rfl))
      by_cases c8 : a1 = 2
      · have h := hx_pos c8 h
        have hz : Int32.toInt a1 = 2 := by rw [c8]; rfl
        refine hx_tableIn (tgt := 62) C dX2_part_23 (by rw [hz] <;> decide) (by rw [hz] <;> decide) (off := 39) (by rw [hz] <;> rfl) (by decide) ?_
        refine hx_aload_n C dX2_part_62 rfl (lv_at hl 0 rfl) ?_
        refine hx_geti C (ci := 2) (j := 0) g4 uX2_part_2 (by decide) rfl (by decide) rfl (by decide +kernel) rfl dX2_part_63 ?_
        refine hx_iconst (v := 1) C dX2_part_66 (by decide) ?_
        refine hx_icmp_ne (tgt := 74) C dX2_part_67 (by decide) (fun c9 => ?_) (fun c9 => ?_)
        · have h := hx_neg c9 h
          refine hx_iconst (v := 2) C dX2_part_74 (by decide) ?_
          obtain rfl := hx_some1 h
          exact hx_iret C hr dX2_part_75
        · have h := hx_pos c9 h
          refine hx_iconst (v := 1) C dX2_part_70 (by decide) ?_
          refine hx_goto (tgt := 75) C dX2_part_71 (by decide) ?_
          obtain rfl := hx_some1 h
          exact hx_iret C hr dX2_part_75
      have h := hx_neg c8 h
      have zc8 : Int32.toInt a1 ≠ 2 := fun z => c8 (Int32.toInt_inj.mp (z.trans rfl))
      by_cases c10 : a1 = 3
      · have h := hx_pos c10 h
        have hz : Int32.toInt a1 = 3 := by rw [c10]; rfl
        refine hx_tableIn (tgt := 76) C dX2_part_23 (by rw [hz] <;> decide) (by rw [hz] <;> decide) (off := 53) (by rw [hz] <;> rfl) (by decide) ?_
        refine hx_aload_n C dX2_part_76 rfl (lv_at hl 0 rfl) ?_
        refine hx_geti C (ci := 2) (j := 2) g4 uX2_part_2 (by decide) rfl (by decide) rfl (by decide +kernel) rfl dX2_part_77 ?_
        obtain rfl := hx_some1 h
        exact hx_iret C hr dX2_part_80
      have h := hx_neg c10 h
      have zc10 : Int32.toInt a1 ≠ 3 := fun z => c10 (Int32.toInt_inj.mp (z.trans rfl))
      refine hx_tableOut (tgt := 81) C dX2_part_23 (by omega) (by decide) ?_
      refine hx_aload_n C dX2_part_81 rfl (lv_at hl 0 rfl) ?_
      refine hx_geti C (ci := 2) (j := 3) g4 uX2_part_2 (by decide) rfl (by decide) rfl (by decide +kernel) rfl dX2_part_82 ?_
      obtain rfl := hx_some1 h
      exact hx_iret C hr dX2_part_85
    · have h := hx_pos c5 h
      refine hx_ldc (v := (-100009)) C (by decide +kernel) dX2_part_19 ?_
      obtain rfl := hx_some1 h
      exact hx_iret C hr dX2_part_21
  · have h := hx_pos c3 h
    refine hx_ldc (v := (-100001)) C (by decide +kernel) dX2_part_9 ?_
    obtain rfl := hx_some1 h
    exact hx_iret C hr dX2_part_11
