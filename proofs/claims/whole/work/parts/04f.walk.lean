def f_X6_numbersOf (L : hL) (X : hX) (a1 : Int32) : Option (Int32) :=
  if a1 = 1 then
    some 2
  else
  if a1 = 2 then
    some 1
  else
  if a1 = 3 then
    some 1
  else
  if a1 = 4 then
    some 5
  else
  if a1 = 6 then
    some 2
  else
  some 3
set_option maxRecDepth 100000 in
set_option maxHeartbeats 4000000 in
theorem c_X6_numbersOf {l : Launch} {dC : Nat → ClassId} {dI : Nat → Nat → Nat} {cy : Nat → ClassId} {ad : Nat → Nat} {L : hL} {X : hX} {a1 : Int32} {r : Int32} (h : f_X6_numbersOf L X a1 = some r) : hMet l dC dI cy ad L yX6_numbersOf wsX6_numbersOf ({ frames := 0, cells := 0, slots := 0, locals := 0 } : Room) [.int a1] X (some (.int r)) X := by
  unfold f_X6_numbersOf at h
  refine hx_enter RX6 (plainFor_of_name (by decide)) rfl rfl (Nat.le_of_ble_eq_true rfl) (fun p e s m args below meth c C hr hnm ls hl => ?_)
  have hl : lv_has ls 1 [(0, .int a1)] := hl
  refine hx_iload_n C dX6_numbersOf_0 rfl (lv_at hl 0 rfl) ?_
  by_cases c1 : a1 = 1
  · have h := hx_pos c1 h
    have hz : Int32.toInt a1 = 1 := by rw [c1]; rfl
    refine hx_tableIn (tgt := 42) C dX6_numbersOf_1 (by rw [hz] <;> decide) (by rw [hz] <;> decide) (off := 41) (by rw [hz] <;> rfl) (by decide) ?_
    refine hx_iconst (v := 2) C dX6_numbersOf_42 (by decide) ?_
    obtain rfl := hx_some1 h
    exact hx_iret C hr dX6_numbersOf_43
  have h := hx_neg c1 h
  have zc1 : Int32.toInt a1 ≠ 1 := fun z => c1 (Int32.toInt_inj.mp (z.trans rfl))
  by_cases c2 : a1 = 2
  · have h := hx_pos c2 h
    have hz : Int32.toInt a1 = 2 := by rw [c2]; rfl
    refine hx_tableIn (tgt := 40) C dX6_numbersOf_1 (by rw [hz] <;> decide) (by rw [hz] <;> decide) (off := 39) (by rw [hz] <;> rfl) (by decide) ?_
    refine hx_iconst (v := 1) C dX6_numbersOf_40 (by decide) ?_
    obtain rfl := hx_some1 h
    exact hx_iret C hr dX6_numbersOf_41
  have h := hx_neg c2 h
  have zc2 : Int32.toInt a1 ≠ 2 := fun z => c2 (Int32.toInt_inj.mp (z.trans rfl))
  by_cases c3 : a1 = 3
  · have h := hx_pos c3 h
    have hz : Int32.toInt a1 = 3 := by rw [c3]; rfl
    refine hx_tableIn (tgt := 40) C dX6_numbersOf_1 (by rw [hz] <;> decide) (by rw [hz] <;> decide) (off := 39) (by rw [hz] <;> rfl) (by decide) ?_
    refine hx_iconst (v := 1) C dX6_numbersOf_40 (by decide) ?_
    obtain rfl := hx_some1 h
    exact hx_iret C hr dX6_numbersOf_41
  have h := hx_neg c3 h
  have zc3 : Int32.toInt a1 ≠ 3 := fun z => c3 (Int32.toInt_inj.mp (z.trans rfl))
  by_cases c4 : a1 = 4
  · have h := hx_pos c4 h
    have hz : Int32.toInt a1 = 4 := by rw [c4]; rfl
    refine hx_tableIn (tgt := 44) C dX6_numbersOf_1 (by rw [hz] <;> decide) (by rw [hz] <;> decide) (off := 43) (by rw [hz] <;> rfl) (by decide) ?_
    refine hx_iconst (v := 5) C dX6_numbersOf_44 (by decide) ?_
    obtain rfl := hx_some1 h
    exact hx_iret C hr dX6_numbersOf_45
  have h := hx_neg c4 h
  have zc4 : Int32.toInt a1 ≠ 4 := fun z => c4 (Int32.toInt_inj.mp (z.trans rfl))
  by_cases c5 : a1 = 6
  · have h := hx_pos c5 h
    have hz : Int32.toInt a1 = 6 := by rw [c5]; rfl
    refine hx_tableIn (tgt := 42) C dX6_numbersOf_1 (by rw [hz] <;> decide) (by rw [hz] <;> decide) (off := 41) (by rw [hz] <;> rfl) (by decide) ?_
    refine hx_iconst (v := 2) C dX6_numbersOf_42 (by decide) ?_
    obtain rfl := hx_some1 h
    exact hx_iret C hr dX6_numbersOf_43
  have h := hx_neg c5 h
  have zc5 : Int32.toInt a1 ≠ 6 := fun z => c5 (Int32.toInt_inj.mp (z.trans rfl))
  by_cases c6 : Int32.toInt a1 = 5
  · refine hx_tableIn (tgt := 46) C dX6_numbersOf_1 (by rw [c6] <;> decide) (by rw [c6] <;> decide) (off := 45) (by rw [c6] <;> rfl) (by decide) ?_
    refine hx_iconst (v := 3) C dX6_numbersOf_46 (by decide) ?_
    obtain rfl := hx_some1 h
    exact hx_iret C hr dX6_numbersOf_47
  refine hx_tableOut (tgt := 46) C dX6_numbersOf_1 (by omega) (by decide) ?_
  refine hx_iconst (v := 3) C dX6_numbersOf_46 (by decide) ?_
  obtain rfl := hx_some1 h
  exact hx_iret C hr dX6_numbersOf_47
theorem uX6_isNumber_6 : ∀ w ∈ u_ws RX6 TX6 6, w ∈ wsX6_isNumber := by decide +kernel
def f_X6_isNumber (L : hL) (X : hX) (this : Nat) : Option (Int32) :=
  if tk L this 6 then
  (f_X6_signAt L X this (X.1 this 4)).bind fun r2 =>
  (f_X6_isDigit L X r2).bind fun r4 =>
  if r4 = 0 then
    some 0
  else
    if ((X.1 this 5) - (X.1 this 4)) ≤ 6 then
      if ((X.1 this 5) - (X.1 this 4)) = 1 then
        some 1
      else
        (f_X6_signAt L X this (X.1 this 4)).bind fun r9 =>
        if r9 = 48 then
          some 0
        else
          some 1
    else
      some 0
  else none
set_option maxRecDepth 100000 in
set_option maxHeartbeats 4000000 in
theorem c_X6_isNumber {l : Launch} {dC : Nat → ClassId} {dI : Nat → Nat → Nat} {cy : Nat → ClassId} {ad : Nat → Nat} {L : hL} {X : hX} {this : Nat} {r : Int32} (h : f_X6_isNumber L X this = some r) : hMet l dC dI cy ad L yX6_isNumber wsX6_isNumber ({ frames := 2, cells := 0, slots := 0, locals := 43 } : Room) [.ref (ad this)] X (some (.int r)) X := by
  unfold f_X6_isNumber at h
  refine hx_enter RX6 (plainFor_of_name (by decide)) rfl rfl (Nat.le_of_ble_eq_true rfl) (fun p e s m args below meth c C hr hnm ls hl => ?_)
  have hl : lv_has ls 2 [(0, .ref (ad this))] := hl
  refine hx_aload_n C dX6_isNumber_0 rfl (lv_at hl 0 rfl) ?_
  obtain ⟨g1, h⟩ := hx_gd h
  refine hx_geti C (ci := 6) (j := 5) g1 uX6_isNumber_6 (by decide) rfl (by decide) rfl (by decide +kernel) rfl dX6_isNumber_1 ?_
  refine hx_aload_n C dX6_isNumber_4 rfl (lv_at hl 0 rfl) ?_
  refine hx_geti C (ci := 6) (j := 4) g1 uX6_isNumber_6 (by decide) rfl (by decide) rfl (by decide +kernel) rfl dX6_isNumber_5 ?_
  refine hx_isub C dX6_isNumber_8 ?_
  refine hx_istore_n (lv' := [(1, .int ((X.1 this 5) - (X.1 this 4))), (0, .ref (ad this))]) C dX6_isNumber_9 rfl hl (by decide) rfl (fun ls hl => ?_)
  refine hx_aload_n C dX6_isNumber_10 rfl (lv_at hl 1 rfl) ?_
  refine hx_aload_n C dX6_isNumber_11 rfl (lv_at hl 1 rfl) ?_
  refine hx_geti C (ci := 6) (j := 4) g1 uX6_isNumber_6 (by decide) rfl (by decide) rfl (by decide +kernel) rfl dX6_isNumber_12 ?_
  obtain ⟨r2, e3, h⟩ := hx_bind h
  refine hx_callV (As := [.int (X.1 this 4)]) (rest := []) (n := 1) (Cn := RX6) C (c_X6_signAt e3) gX6_isNumber_X6_signAt g1 (by decide) rfl (by decide +kernel) ⟨Nat.le_of_ble_eq_true rfl, Nat.le_of_ble_eq_true rfl⟩ rfl rfl rfl ⟨Nat.zero_le _, Nat.zero_le _⟩ hl.1 rfl rfl (Nat.le_of_ble_eq_true rfl) dX6_isNumber_15 ?_
  obtain ⟨r4, e5, h⟩ := hx_bind h
  refine hx_callS (As := [.int r2]) (rest := []) (n := 1) C (c_X6_isDigit e5) gX6_isNumber_X6_isDigit (by decide +kernel) ⟨Nat.le_of_ble_eq_true rfl, Nat.le_of_ble_eq_true rfl⟩ rfl rfl rfl ⟨Nat.zero_le _, Nat.zero_le _⟩ hl.1 rfl rfl (Nat.le_of_ble_eq_true rfl) dX6_isNumber_18 ?_
  refine hx_if_eq (tgt := 30) C dX6_isNumber_21 (by decide) (fun c6 => ?_) (fun c6 => ?_)
  · have h := hx_pos c6 h
    refine hx_iconst (v := 0) C dX6_isNumber_30 (by decide) ?_
    obtain rfl := hx_some1 h
    exact hx_zret C hr rfl dX6_isNumber_31
  · have h := hx_neg c6 h
    refine hx_iload_n C dX6_isNumber_24 rfl (lv_at hl 0 rfl) ?_
    refine hx_bipush (v := 6) C dX6_isNumber_25 (by decide) ?_
    refine hx_icmp_le (tgt := 32) C dX6_isNumber_27 (by decide) (fun c7 => ?_) (fun c7 => ?_)
    · have h := hx_pos c7 h
      refine hx_iload_n C dX6_isNumber_32 rfl (lv_at hl 0 rfl) ?_
      refine hx_iconst (v := 1) C dX6_isNumber_33 (by decide) ?_
      refine hx_icmp_eq (tgt := 50) C dX6_isNumber_34 (by decide) (fun c8 => ?_) (fun c8 => ?_)
      · have h := hx_pos c8 h
        refine hx_iconst (v := 1) C dX6_isNumber_50 (by decide) ?_
        refine hx_goto (tgt := 55) C dX6_isNumber_51 (by decide) ?_
        obtain rfl := hx_some1 h
        exact hx_zret C hr rfl dX6_isNumber_55
      · have h := hx_neg c8 h
        refine hx_aload_n C dX6_isNumber_37 rfl (lv_at hl 1 rfl) ?_
        refine hx_aload_n C dX6_isNumber_38 rfl (lv_at hl 1 rfl) ?_
        refine hx_geti C (ci := 6) (j := 4) g1 uX6_isNumber_6 (by decide) rfl (by decide) rfl (by decide +kernel) rfl dX6_isNumber_39 ?_
        obtain ⟨r9, e10, h⟩ := hx_bind h
        refine hx_callV (As := [.int (X.1 this 4)]) (rest := []) (n := 1) (Cn := RX6) C (c_X6_signAt e10) gX6_isNumber_X6_signAt g1 (by decide) rfl (by decide +kernel) ⟨Nat.le_of_ble_eq_true rfl, Nat.le_of_ble_eq_true rfl⟩ rfl rfl rfl ⟨Nat.zero_le _, Nat.zero_le _⟩ hl.1 rfl rfl (Nat.le_of_ble_eq_true rfl) dX6_isNumber_42 ?_
        refine hx_bipush (v := 48) C dX6_isNumber_45 (by decide) ?_
        refine hx_icmp_eq (tgt := 54) C dX6_isNumber_47 (by decide) (fun c11 => ?_) (fun c11 => ?_)
        · have h := hx_pos c11 h
          refine hx_iconst (v := 0) C dX6_isNumber_54 (by decide) ?_
          obtain rfl := hx_some1 h
          exact hx_zret C hr rfl dX6_isNumber_55
        · have h := hx_neg c11 h
          refine hx_iconst (v := 1) C dX6_isNumber_50 (by decide) ?_
          refine hx_goto (tgt := 55) C dX6_isNumber_51 (by decide) ?_
          obtain rfl := hx_some1 h
          exact hx_zret C hr rfl dX6_isNumber_55
    · have h := hx_neg c7 h
      refine hx_iconst (v := 0) C dX6_isNumber_30 (by decide) ?_
      obtain rfl := hx_some1 h
      exact hx_zret C hr rfl dX6_isNumber_31
theorem uX6_value_6 : ∀ w ∈ u_ws RX6 TX6 6, w ∈ wsX6_value := by decide +kernel
def f_X6_value_7 (L : hL) : Nat → Nat → Int32 → Int32 → hX → Option (Int32)
  | 0, _, _, _, _ => none
  | n + 1, v0, v1, v2, X =>
    if tk L v0 6 then
    if (X.1 v0 5) ≤ v2 then
      some v1
    else
      (f_X6_signAt L X v0 v2).bind fun r3 =>
      f_X6_value_7 L n v0 (((10 * v1) + r3) - 48) (v2 + 1) X
    else none
set_option maxRecDepth 100000 in
set_option maxHeartbeats 4000000 in
theorem w_X6_value_7 {p : Program} {l : Launch} {e : Env} {s : State} {m : MethodId} {args : Array Value} {below : List Frame} {meth : Method} {c : Code} {dC : Nat → ClassId} {dI : Nat → Nat → Nat} {cy : Nat → ClassId} {ad : Nat → Nat} {L : hL} {r : Int32} (C : hC p s m args meth c dC dI cy ad L (hA ad L s.heap.size) cX6_value 3 wsX6_value RX6) (hr : meth.sig.returnType = (some .int)) : ∀ (n : Nat) (v0 : Nat) (v1 : Int32) (v2 : Int32) (X : hX) (ls : Array Slot), f_X6_value_7 L n v0 v1 v2 X = some r → lv_has ls 3 [(0, .ref (ad v0)), (1, .int v1), (2, .int v2)] → hG p l e (headSpec wsX6_value ({ frames := 2, cells := 0, slots := 0, locals := 43 } : Room)).room s m args below meth c dC dI cy ad L (hA ad L s.heap.size) 0 0 (MQ below (hQ dC dI cy ad L s.heap.size (some (.int r)) X) args s 0 0 (hA ad L s.heap.size)) X 7 ls [] := by
  intro n
  induction n with
  | zero => intro v0 v1 v2 X ls h; cases h
  | succ n ih =>
    intro v0 v1 v2 X ls h hl
    rw [f_X6_value_7] at h
    refine hx_iload_n C dX6_value_7 rfl (lv_at hl 2 rfl) ?_
    refine hx_aload_n C dX6_value_8 rfl (lv_at hl 0 rfl) ?_
    obtain ⟨g1, h⟩ := hx_gd h
    refine hx_geti C (ci := 6) (j := 5) g1 uX6_value_6 (by decide) rfl (by decide) rfl (by decide +kernel) rfl dX6_value_9 ?_
    refine hx_icmp_ge (tgt := 35) C dX6_value_12 (by decide) (fun c2 => ?_) (fun c2 => ?_)
    · have h := hx_pos c2 h
      refine hx_iload_n C dX6_value_35 rfl (lv_at hl 1 rfl) ?_
      obtain rfl := hx_some1 h
      exact hx_iret C hr dX6_value_36
    · have h := hx_neg c2 h
      refine hx_bipush (v := 10) C dX6_value_15 (by decide) ?_
      refine hx_iload_n C dX6_value_17 rfl (lv_at hl 1 rfl) ?_
      refine hx_imul C dX6_value_18 ?_
      refine hx_aload_n C dX6_value_19 rfl (lv_at hl 0 rfl) ?_
      refine hx_iload_n C dX6_value_20 rfl (lv_at hl 2 rfl) ?_
      obtain ⟨r3, e4, h⟩ := hx_bind h
      refine hx_callV (As := [.int v2]) (rest := [.int (10 * v1)]) (n := 1) (Cn := RX6) C (c_X6_signAt e4) gX6_value_X6_signAt g1 (by decide) rfl (by decide +kernel) ⟨Nat.le_of_ble_eq_true rfl, Nat.le_of_ble_eq_true rfl⟩ rfl rfl rfl ⟨Nat.zero_le _, Nat.zero_le _⟩ hl.1 rfl rfl (Nat.le_of_ble_eq_true rfl) dX6_value_21 ?_
      refine hx_iadd C dX6_value_24 ?_
      refine hx_bipush (v := 48) C dX6_value_25 (by decide) ?_
      refine hx_isub C dX6_value_27 ?_
      refine hx_istore_n (lv' := [(1, .int (((10 * v1) + r3) - 48)), (0, .ref (ad v0)), (2, .int v2)]) C dX6_value_28 rfl hl (by decide) rfl (fun ls hl => ?_)
      refine hx_iinc (v := v2 + 1) (lv' := [(2, .int (v2 + 1)), (1, .int (((10 * v1) + r3) - 48)), (0, .ref (ad v0))]) C dX6_value_29 hl (k := 2) rfl rfl (by decide) rfl (fun ls hl => ?_)
      refine hx_goto (tgt := 7) C dX6_value_32 (by decide) ?_
      exact ih v0 (((10 * v1) + r3) - 48) (v2 + 1) X ls h (lv_sub hl [2, 1, 0] rfl)
def f_X6_value (L : hL) (X : hX) (this : Nat) : Option (Int32) :=
  if tk L this 6 then
  f_X6_value_7 L u_fuel this 0 (X.1 this 4) X
  else none
set_option maxRecDepth 100000 in
set_option maxHeartbeats 4000000 in
theorem c_X6_value {l : Launch} {dC : Nat → ClassId} {dI : Nat → Nat → Nat} {cy : Nat → ClassId} {ad : Nat → Nat} {L : hL} {X : hX} {this : Nat} {r : Int32} (h : f_X6_value L X this = some r) : hMet l dC dI cy ad L yX6_value wsX6_value ({ frames := 2, cells := 0, slots := 0, locals := 43 } : Room) [.ref (ad this)] X (some (.int r)) X := by
  unfold f_X6_value at h
  refine hx_enter RX6 (plainFor_of_name (by decide)) rfl rfl (Nat.le_of_ble_eq_true rfl) (fun p e s m args below meth c C hr hnm ls hl => ?_)
  have hl : lv_has ls 3 [(0, .ref (ad this))] := hl
  refine hx_iconst (v := 0) C dX6_value_0 (by decide) ?_
  refine hx_istore_n (lv' := [(1, .int 0), (0, .ref (ad this))]) C dX6_value_1 rfl hl (by decide) rfl (fun ls hl => ?_)
  refine hx_aload_n C dX6_value_2 rfl (lv_at hl 1 rfl) ?_
  obtain ⟨g5, h⟩ := hx_gd h
  refine hx_geti C (ci := 6) (j := 4) g5 uX6_value_6 (by decide) rfl (by decide) rfl (by decide +kernel) rfl dX6_value_3 ?_
  refine hx_istore_n (lv' := [(2, .int (X.1 this 4)), (1, .int 0), (0, .ref (ad this))]) C dX6_value_6 rfl hl (by decide) rfl (fun ls hl => ?_)
  exact w_X6_value_7 C hr u_fuel this 0 (X.1 this 4) X ls h (lv_sub hl [2, 1, 0] rfl)
theorem uX6_readNumbers_6 : ∀ w ∈ u_ws RX6 TX6 6, w ∈ wsX6_readNumbers := by decide +kernel
def f_X6_readNumbers_2 (L : hL) : Nat → Nat → Int32 → Int32 → hX → Option (Int32 × hX)
  | 0, _, _, _, _ => none
  | n + 1, v0, v1, v2, X =>
    if 5 ≤ v2 then
      some (1, X)
    else
      if v1 ≤ v2 then
        some (1, X)
      else
        (f_X6_readToken L X v0).bind fun r3 =>
        if tk L v0 6 then
        (f_X6_isNumber L r3 v0).bind fun r6 =>
        if r6 = 0 then
          some (0, r3)
        else
          (r3.2 v0 1).bind fun q9 =>
          (f_X6_value L r3 v0).bind fun r11 =>
          if tk L q9 12 then
          if hin v2 (L.2.2 q9) then
          f_X6_readNumbers_2 L n v0 v1 (v2 + 1) (smi r3 q9 (Int32.toNatClampNeg v2) r11)
          else none
          else none
        else none
set_option maxRecDepth 100000 in
set_option maxHeartbeats 4000000 in
theorem w_X6_readNumbers_2 {p : Program} {l : Launch} {e : Env} {s : State} {m : MethodId} {args : Array Value} {below : List Frame} {meth : Method} {c : Code} {dC : Nat → ClassId} {dI : Nat → Nat → Nat} {cy : Nat → ClassId} {ad : Nat → Nat} {L : hL} {r : Int32} {X' : hX} (C : hC p s m args meth c dC dI cy ad L (hA ad L s.heap.size) cX6_readNumbers 3 wsX6_readNumbers RX6) (hr : meth.sig.returnType = (some .boolean)) : ∀ (n : Nat) (v0 : Nat) (v1 : Int32) (v2 : Int32) (X : hX) (ls : Array Slot), f_X6_readNumbers_2 L n v0 v1 v2 X = some (r, X') → lv_has ls 3 [(0, .ref (ad v0)), (1, .int v1), (2, .int v2)] → hG p l e (headSpec wsX6_readNumbers ({ frames := 3, cells := 0, slots := 0, locals := 65 } : Room)).room s m args below meth c dC dI cy ad L (hA ad L s.heap.size) 0 0 (MQ below (hQ dC dI cy ad L s.heap.size (some (.int r)) X') args s 0 0 (hA ad L s.heap.size)) X 2 ls [] := by
  intro n
  induction n with
  | zero => intro v0 v1 v2 X ls h; cases h
  | succ n ih =>
    intro v0 v1 v2 X ls h hl
    rw [f_X6_readNumbers_2] at h
    refine hx_iload_n C dX6_readNumbers_2 rfl (lv_at hl 2 rfl) ?_
    refine hx_iconst (v := 5) C dX6_readNumbers_3 (by decide) ?_
    refine hx_icmp_ge (tgt := 41) C dX6_readNumbers_4 (by decide) (fun c1 => ?_) (fun c1 => ?_)
    · have h := hx_pos c1 h
      refine hx_iconst (v := 1) C dX6_readNumbers_41 (by decide) ?_
      obtain ⟨rfl, rfl⟩ := hx_some2 h
      exact hx_zret C hr rfl dX6_readNumbers_42
    · have h := hx_neg c1 h
      refine hx_iload_n C dX6_readNumbers_7 rfl (lv_at hl 2 rfl) ?_
      refine hx_iload_n C dX6_readNumbers_8 rfl (lv_at hl 1 rfl) ?_
      refine hx_icmp_ge (tgt := 41) C dX6_readNumbers_9 (by decide) (fun c2 => ?_) (fun c2 => ?_)
      · have h := hx_pos c2 h
        refine hx_iconst (v := 1) C dX6_readNumbers_41 (by decide) ?_
        obtain ⟨rfl, rfl⟩ := hx_some2 h
        exact hx_zret C hr rfl dX6_readNumbers_42
      · have h := hx_neg c2 h
        refine hx_aload_n C dX6_readNumbers_12 rfl (lv_at hl 0 rfl) ?_
        obtain ⟨r3, e4, h⟩ := hx_bind h
        obtain ⟨g5, h⟩ := hx_gd h
        refine hx_callV (As := []) (rest := []) (n := 0) (Cn := RX6) C (c_X6_readToken e4) gX6_readNumbers_X6_readToken g5 (by decide) rfl (by decide +kernel) ⟨Nat.le_of_ble_eq_true rfl, Nat.le_of_ble_eq_true rfl⟩ rfl rfl rfl ⟨Nat.zero_le _, Nat.zero_le _⟩ hl.1 rfl rfl (Nat.le_of_ble_eq_true rfl) dX6_readNumbers_13 ?_
        refine hx_aload_n C dX6_readNumbers_16 rfl (lv_at hl 0 rfl) ?_
        obtain ⟨r6, e7, h⟩ := hx_bind h
        refine hx_callV (As := []) (rest := []) (n := 0) (Cn := RX6) C (c_X6_isNumber e7) gX6_readNumbers_X6_isNumber g5 (by decide) rfl (by decide +kernel) ⟨Nat.le_of_ble_eq_true rfl, Nat.le_of_ble_eq_true rfl⟩ rfl rfl rfl ⟨Nat.zero_le _, Nat.zero_le _⟩ hl.1 rfl rfl (Nat.le_of_ble_eq_true rfl) dX6_readNumbers_17 ?_
        refine hx_if_ne (tgt := 25) C dX6_readNumbers_20 (by decide) (fun c8 => ?_) (fun c8 => ?_)
        · have h := hx_neg c8 h
          refine hx_aload_n C dX6_readNumbers_25 rfl (lv_at hl 0 rfl) ?_
          obtain ⟨q9, e10, h⟩ := hx_bind h
          refine hx_getr C (ci := 6) (j := 1) g5 uX6_readNumbers_6 (by decide) rfl (by decide) rfl (by decide +kernel) rfl dX6_readNumbers_26 e10 ?_
          refine hx_iload_n C dX6_readNumbers_29 rfl (lv_at hl 2 rfl) ?_
          refine hx_aload_n C dX6_readNumbers_30 rfl (lv_at hl 0 rfl) ?_
          obtain ⟨r11, e12, h⟩ := hx_bind h
          refine hx_callV (As := []) (rest := [.int v2, .ref (ad q9)]) (n := 0) (Cn := RX6) C (c_X6_value e12) gX6_readNumbers_X6_value g5 (by decide) rfl (by decide +kernel) ⟨Nat.le_of_ble_eq_true rfl, Nat.le_of_ble_eq_true rfl⟩ rfl rfl rfl ⟨Nat.zero_le _, Nat.zero_le _⟩ hl.1 rfl rfl (Nat.le_of_ble_eq_true rfl) dX6_readNumbers_31 ?_
          obtain ⟨g13, h⟩ := hx_gd h
          obtain ⟨g14, h⟩ := hx_gd h
          refine hx_iast (n := (Int32.toNatClampNeg v2)) C g13 g14 rfl dX6_readNumbers_34 ?_
          refine hx_iinc (v := v2 + 1) (lv' := [(2, .int (v2 + 1)), (0, .ref (ad v0)), (1, .int v1)]) C dX6_readNumbers_35 hl (k := 2) rfl rfl (by decide) rfl (fun ls hl => ?_)
          refine hx_goto (tgt := 2) C dX6_readNumbers_38 (by decide) ?_
          exact ih v0 v1 (v2 + 1) (smi r3 q9 (Int32.toNatClampNeg v2) r11) ls h (lv_sub hl [1, 2, 0] rfl)
        · have h := hx_pos c8 h
          refine hx_iconst (v := 0) C dX6_readNumbers_23 (by decide) ?_
          obtain ⟨rfl, rfl⟩ := hx_some2 h
          exact hx_zret C hr rfl dX6_readNumbers_24
def f_X6_readNumbers (L : hL) (X : hX) (this : Nat) (a1 : Int32) : Option (Int32 × hX) :=
  f_X6_readNumbers_2 L u_fuel this a1 0 X
set_option maxRecDepth 100000 in
set_option maxHeartbeats 4000000 in
theorem c_X6_readNumbers {l : Launch} {dC : Nat → ClassId} {dI : Nat → Nat → Nat} {cy : Nat → ClassId} {ad : Nat → Nat} {L : hL} {X : hX} {this : Nat} {a1 : Int32} {r : Int32} {X' : hX} (h : f_X6_readNumbers L X this a1 = some (r, X')) : hMet l dC dI cy ad L yX6_readNumbers wsX6_readNumbers ({ frames := 3, cells := 0, slots := 0, locals := 65 } : Room) [.ref (ad this), .int a1] X (some (.int r)) X' := by
  unfold f_X6_readNumbers at h
  refine hx_enter RX6 (plainFor_of_name (by decide)) rfl rfl (Nat.le_of_ble_eq_true rfl) (fun p e s m args below meth c C hr hnm ls hl => ?_)
  have hl : lv_has ls 3 [(0, .ref (ad this)), (1, .int a1)] := hl
  refine hx_iconst (v := 0) C dX6_readNumbers_0 (by decide) ?_
  refine hx_istore_n (lv' := [(2, .int 0), (0, .ref (ad this)), (1, .int a1)]) C dX6_readNumbers_1 rfl hl (by decide) rfl (fun ls hl => ?_)
  exact w_X6_readNumbers_2 C hr u_fuel this a1 0 X ls h (lv_sub hl [1, 2, 0] rfl)
theorem uX6_readEnd_6 : ∀ w ∈ u_ws RX6 TX6 6, w ∈ wsX6_readEnd := by decide +kernel
def f_X6_readEnd (L : hL) (X : hX) (this : Nat) : Option (Int32 × hX) :=
  (f_X6_readToken L X this).bind fun r1 =>
  if tk L this 6 then
  (f_X6_signAt L r1 this (r1.1 this 4)).bind fun r4 =>
  if r4 = 59 then
    some (1, r1)
  else
    some (0, r1)
  else none
set_option maxRecDepth 100000 in
set_option maxHeartbeats 4000000 in
theorem c_X6_readEnd {l : Launch} {dC : Nat → ClassId} {dI : Nat → Nat → Nat} {cy : Nat → ClassId} {ad : Nat → Nat} {L : hL} {X : hX} {this : Nat} {r : Int32} {X' : hX} (h : f_X6_readEnd L X this = some (r, X')) : hMet l dC dI cy ad L yX6_readEnd wsX6_readEnd ({ frames := 3, cells := 0, slots := 0, locals := 63 } : Room) [.ref (ad this)] X (some (.int r)) X' := by
  unfold f_X6_readEnd at h
  refine hx_enter RX6 (plainFor_of_name (by decide)) rfl rfl (Nat.le_of_ble_eq_true rfl) (fun p e s m args below meth c C hr hnm ls hl => ?_)
  have hl : lv_has ls 1 [(0, .ref (ad this))] := hl
  refine hx_aload_n C dX6_readEnd_0 rfl (lv_at hl 0 rfl) ?_
  obtain ⟨r1, e2, h⟩ := hx_bind h
  obtain ⟨g3, h⟩ := hx_gd h
  refine hx_callV (As := []) (rest := []) (n := 0) (Cn := RX6) C (c_X6_readToken e2) gX6_readEnd_X6_readToken g3 (by decide) rfl (by decide +kernel) ⟨Nat.le_of_ble_eq_true rfl, Nat.le_of_ble_eq_true rfl⟩ rfl rfl rfl ⟨Nat.zero_le _, Nat.zero_le _⟩ hl.1 rfl rfl (Nat.le_of_ble_eq_true rfl) dX6_readEnd_1 ?_
  refine hx_aload_n C dX6_readEnd_4 rfl (lv_at hl 0 rfl) ?_
  refine hx_aload_n C dX6_readEnd_5 rfl (lv_at hl 0 rfl) ?_
  refine hx_geti C (ci := 6) (j := 4) g3 uX6_readEnd_6 (by decide) rfl (by decide) rfl (by decide +kernel) rfl dX6_readEnd_6 ?_
  obtain ⟨r4, e5, h⟩ := hx_bind h
  refine hx_callV (As := [.int (r1.1 this 4)]) (rest := []) (n := 1) (Cn := RX6) C (c_X6_signAt e5) gX6_readEnd_X6_signAt g3 (by decide) rfl (by decide +kernel) ⟨Nat.le_of_ble_eq_true rfl, Nat.le_of_ble_eq_true rfl⟩ rfl rfl rfl ⟨Nat.zero_le _, Nat.zero_le _⟩ hl.1 rfl rfl (Nat.le_of_ble_eq_true rfl) dX6_readEnd_9 ?_
  refine hx_bipush (v := 59) C dX6_readEnd_12 (by decide) ?_
  refine hx_icmp_ne (tgt := 21) C dX6_readEnd_14 (by decide) (fun c6 => ?_) (fun c6 => ?_)
  · have h := hx_neg c6 h
    refine hx_iconst (v := 0) C dX6_readEnd_21 (by decide) ?_
    obtain ⟨rfl, rfl⟩ := hx_some2 h
    exact hx_zret C hr rfl dX6_readEnd_22
  · have h := hx_pos c6 h
    refine hx_iconst (v := 1) C dX6_readEnd_17 (by decide) ?_
    refine hx_goto (tgt := 22) C dX6_readEnd_18 (by decide) ?_
    obtain ⟨rfl, rfl⟩ := hx_some2 h
    exact hx_zret C hr rfl dX6_readEnd_22
theorem uX6_perform_6 : ∀ w ∈ u_ws RX6 TX6 6, w ∈ wsX6_perform := by decide +kernel
def f_X6_perform (L : hL) (X : hX) (this : Nat) (a1 : Int32) (a2 : Nat) : Option (Int32 × hX) :=
  if a1 = 0 then
    if tk L this 6 then
    (X.2 this 1).bind fun q3 =>
    if tk L q3 12 then
    if 0 < L.2.2 q3 then
    if 1 < L.2.2 q3 then
    if 2 < L.2.2 q3 then
    (f_X0_changeKind L X a2 (X.1 q3 0) (X.1 q3 1) (X.1 q3 2)).bind fun r9 =>
    if tk L a2 0 then
    some (r9.1, r9.2)
    else none
    else none
    else none
    else none
    else none
    else none
  else
  if a1 = 1 then
    if tk L this 6 then
    (X.2 this 1).bind fun q14 =>
    if tk L q14 12 then
    if 0 < L.2.2 q14 then
    if 1 < L.2.2 q14 then
    (f_X0_changeScale L X a2 (X.1 q14 0) (X.1 q14 1)).bind fun r19 =>
    if tk L a2 0 then
    some (r19.1, r19.2)
    else none
    else none
    else none
    else none
    else none
  else
  if a1 = 2 then
    if tk L this 6 then
    (X.2 this 1).bind fun q24 =>
    if tk L q24 12 then
    if 0 < L.2.2 q24 then
    (f_X0_changeRule L X a2 (X.1 q24 0)).bind fun r28 =>
    if tk L a2 0 then
    some (r28.1, r28.2)
    else none
    else none
    else none
    else none
  else
  if a1 = 3 then
    if tk L this 6 then
    (X.2 this 1).bind fun q33 =>
    if tk L q33 12 then
    if 0 < L.2.2 q33 then
    (f_X0_addCustomer L X a2 (X.1 q33 0)).bind fun r37 =>
    if tk L a2 0 then
    some (r37.1, r37.2)
    else none
    else none
    else none
    else none
  else
  if a1 = 4 then
    if tk L this 6 then
    (X.2 this 1).bind fun q42 =>
    if tk L q42 12 then
    if 0 < L.2.2 q42 then
    if 1 < L.2.2 q42 then
    if 2 < L.2.2 q42 then
    if 3 < L.2.2 q42 then
    if 4 < L.2.2 q42 then
    (f_X0_placePrize L X a2 (X.1 q42 0) (X.1 q42 1) (X.1 q42 2) (X.1 q42 3) (X.1 q42 4)).bind fun r50 =>
    if tk L a2 0 then
    some (r50.1, r50.2)
    else none
    else none
    else none
    else none
    else none
    else none
    else none
    else none
  else
  if a1 = 5 then
    if tk L this 6 then
    (X.2 this 1).bind fun q55 =>
    if tk L q55 12 then
    if 0 < L.2.2 q55 then
    if 1 < L.2.2 q55 then
    if 2 < L.2.2 q55 then
    (f_X0_weighBundle L X a2 (X.1 q55 0) (X.1 q55 1) (X.1 q55 2) 0).bind fun r61 =>
    if tk L a2 0 then
    some (r61.1, r61.2)
    else none
    else none
    else none
    else none
    else none
    else none
  else
  if a1 = 6 then
    if tk L this 6 then
    (X.2 this 1).bind fun q66 =>
    if tk L q66 12 then
    if 0 < L.2.2 q66 then
    if 1 < L.2.2 q66 then
    (f_X0_settleClaim L X a2 (X.1 q66 0) (X.1 q66 1)).bind fun r71 =>
    if tk L a2 0 then
    some (r71.1, r71.2)
    else none
    else none
    else none
    else none
    else none
  else
  if tk L this 6 then
  (X.2 this 1).bind fun q75 =>
  if tk L q75 12 then
  if 0 < L.2.2 q75 then
  if 1 < L.2.2 q75 then
  if 2 < L.2.2 q75 then
  (f_X0_sellPrize L X a2 (X.1 q75 0) (X.1 q75 1) (X.1 q75 2)).bind fun r81 =>
  if tk L a2 0 then
  some (r81.1, r81.2)
  else none
  else none
  else none
  else none
  else none
  else none
set_option maxRecDepth 100000 in
set_option maxHeartbeats 4000000 in
theorem c_X6_perform {l : Launch} {dC : Nat → ClassId} {dI : Nat → Nat → Nat} {cy : Nat → ClassId} {ad : Nat → Nat} {L : hL} {X : hX} {this : Nat} {a1 : Int32} {a2 : Nat} {r : Int32} {X' : hX} (h : f_X6_perform L X this a1 a2 = some (r, X')) : hMet l dC dI cy ad L yX6_perform wsX6_perform ({ frames := 5, cells := 0, slots := 0, locals := 121 } : Room) [.ref (ad this), .int a1, .ref (ad a2)] X (some (.int r)) X' := by
  unfold f_X6_perform at h
  refine hx_enter RX6 (plainFor_of_name (by decide)) rfl rfl (Nat.le_of_ble_eq_true rfl) (fun p e s m args below meth c C hr hnm ls hl => ?_)
  have hl : lv_has ls 3 [(0, .ref (ad this)), (1, .int a1), (2, .ref (ad a2))] := hl
  refine hx_iload_n C dX6_perform_0 rfl (lv_at hl 1 rfl) ?_
  by_cases c1 : a1 = 0
  · have h := hx_pos c1 h
    have hz : Int32.toInt a1 = 0 := by rw [c1]; rfl
    refine hx_tableIn (tgt := 44) C dX6_perform_1 (by rw [hz] <;> decide) (by rw [hz] <;> decide) (off := 43) (by rw [hz] <;> rfl) (by decide) ?_
    refine hx_aload_n C dX6_perform_44 rfl (lv_at hl 2 rfl) ?_
    refine hx_aload_n C dX6_perform_45 rfl (lv_at hl 0 rfl) ?_
    obtain ⟨g2, h⟩ := hx_gd h
    obtain ⟨q3, e4, h⟩ := hx_bind h
    refine hx_getr C (ci := 6) (j := 1) g2 uX6_perform_6 (by decide) rfl (by decide) rfl (by decide +kernel) rfl dX6_perform_46 e4 ?_
    refine hx_iconst (v := 0) C dX6_perform_49 (by decide) ?_
    obtain ⟨g5, h⟩ := hx_gd h
    obtain ⟨g6, h⟩ := hx_gd h
    refine hx_iald (n := 0) C g5 (hin_lit (i := 0) (by decide) rfl g6) rfl dX6_perform_50 ?_
    refine hx_aload_n C dX6_perform_51 rfl (lv_at hl 0 rfl) ?_
    refine hx_getr C (ci := 6) (j := 1) g2 uX6_perform_6 (by decide) rfl (by decide) rfl (by decide +kernel) rfl dX6_perform_52 e4 ?_
    refine hx_iconst (v := 1) C dX6_perform_55 (by decide) ?_
    obtain ⟨g7, h⟩ := hx_gd h
    refine hx_iald (n := 1) C g5 (hin_lit (i := 1) (by decide) rfl g7) rfl dX6_perform_56 ?_
    refine hx_aload_n C dX6_perform_57 rfl (lv_at hl 0 rfl) ?_
    refine hx_getr C (ci := 6) (j := 1) g2 uX6_perform_6 (by decide) rfl (by decide) rfl (by decide +kernel) rfl dX6_perform_58 e4 ?_
    refine hx_iconst (v := 2) C dX6_perform_61 (by decide) ?_
    obtain ⟨g8, h⟩ := hx_gd h
    refine hx_iald (n := 2) C g5 (hin_lit (i := 2) (by decide) rfl g8) rfl dX6_perform_62 ?_
    obtain ⟨r9, e10, h⟩ := hx_bind h
    obtain ⟨g11, h⟩ := hx_gd h
    refine hx_callV (As := [.int (X.1 q3 0), .int (X.1 q3 1), .int (X.1 q3 2)]) (rest := []) (n := 3) (Cn := RX0) C (c_X0_changeKind e10) gX6_perform_X0_changeKind g11 (by decide) rfl (by decide +kernel) ⟨Nat.le_of_ble_eq_true rfl, Nat.le_of_ble_eq_true rfl⟩ rfl rfl rfl ⟨Nat.zero_le _, Nat.zero_le _⟩ hl.1 rfl rfl (Nat.le_of_ble_eq_true rfl) dX6_perform_63 ?_
    obtain ⟨rfl, rfl⟩ := hx_some2 h
    exact hx_iret C hr dX6_perform_66
  have h := hx_neg c1 h
  have zc1 : Int32.toInt a1 ≠ 0 := fun z => c1 (Int32.toInt_inj.mp (z.trans rfl))
  by_cases c12 : a1 = 1
  · have h := hx_pos c12 h
    have hz : Int32.toInt a1 = 1 := by rw [c12]; rfl
    refine hx_tableIn (tgt := 67) C dX6_perform_1 (by rw [hz] <;> decide) (by rw [hz] <;> decide) (off := 66) (by rw [hz] <;> rfl) (by decide) ?_
    refine hx_aload_n C dX6_perform_67 rfl (lv_at hl 2 rfl) ?_
    refine hx_aload_n C dX6_perform_68 rfl (lv_at hl 0 rfl) ?_
    obtain ⟨g13, h⟩ := hx_gd h
    obtain ⟨q14, e15, h⟩ := hx_bind h
    refine hx_getr C (ci := 6) (j := 1) g13 uX6_perform_6 (by decide) rfl (by decide) rfl (by decide +kernel) rfl dX6_perform_69 e15 ?_
    refine hx_iconst (v := 0) C dX6_perform_72 (by decide) ?_
    obtain ⟨g16, h⟩ := hx_gd h
    obtain ⟨g17, h⟩ := hx_gd h
    refine hx_iald (n := 0) C g16 (hin_lit (i := 0) (by decide) rfl g17) rfl dX6_perform_73 ?_
    refine hx_aload_n C dX6_perform_74 rfl (lv_at hl 0 rfl) ?_
    refine hx_getr C (ci := 6) (j := 1) g13 uX6_perform_6 (by decide) rfl (by decide) rfl (by decide +kernel) rfl dX6_perform_75 e15 ?_
    refine hx_iconst (v := 1) C dX6_perform_78 (by decide) ?_
    obtain ⟨g18, h⟩ := hx_gd h
    refine hx_iald (n := 1) C g16 (hin_lit (i := 1) (by decide) rfl g18) rfl dX6_perform_79 ?_
    obtain ⟨r19, e20, h⟩ := hx_bind h
    obtain ⟨g21, h⟩ := hx_gd h
    refine hx_callV (As := [.int (X.1 q14 0), .int (X.1 q14 1)]) (rest := []) (n := 2) (Cn := RX0) C (c_X0_changeScale e20) gX6_perform_X0_changeScale g21 (by decide) rfl (by decide +kernel) ⟨Nat.le_of_ble_eq_true rfl, Nat.le_of_ble_eq_true rfl⟩ rfl rfl rfl ⟨Nat.zero_le _, Nat.zero_le _⟩ hl.1 rfl rfl (Nat.le_of_ble_eq_true rfl) dX6_perform_80 ?_
    obtain ⟨rfl, rfl⟩ := hx_some2 h
    exact hx_iret C hr dX6_perform_83
  have h := hx_neg c12 h
  have zc12 : Int32.toInt a1 ≠ 1 := fun z => c12 (Int32.toInt_inj.mp (z.trans rfl))
  by_cases c22 : a1 = 2
  · have h := hx_pos c22 h
    have hz : Int32.toInt a1 = 2 := by rw [c22]; rfl
    refine hx_tableIn (tgt := 84) C dX6_perform_1 (by rw [hz] <;> decide) (by rw [hz] <;> decide) (off := 83) (by rw [hz] <;> rfl) (by decide) ?_
    refine hx_aload_n C dX6_perform_84 rfl (lv_at hl 2 rfl) ?_
    refine hx_aload_n C dX6_perform_85 rfl (lv_at hl 0 rfl) ?_
    obtain ⟨g23, h⟩ := hx_gd h
    obtain ⟨q24, e25, h⟩ := hx_bind h
    refine hx_getr C (ci := 6) (j := 1) g23 uX6_perform_6 (by decide) rfl (by decide) rfl (by decide +kernel) rfl dX6_perform_86 e25 ?_
    refine hx_iconst (v := 0) C dX6_perform_89 (by decide) ?_
    obtain ⟨g26, h⟩ := hx_gd h
    obtain ⟨g27, h⟩ := hx_gd h
    refine hx_iald (n := 0) C g26 (hin_lit (i := 0) (by decide) rfl g27) rfl dX6_perform_90 ?_
    obtain ⟨r28, e29, h⟩ := hx_bind h
    obtain ⟨g30, h⟩ := hx_gd h
    refine hx_callV (As := [.int (X.1 q24 0)]) (rest := []) (n := 1) (Cn := RX0) C (c_X0_changeRule e29) gX6_perform_X0_changeRule g30 (by decide) rfl (by decide +kernel) ⟨Nat.le_of_ble_eq_true rfl, Nat.le_of_ble_eq_true rfl⟩ rfl rfl rfl ⟨Nat.zero_le _, Nat.zero_le _⟩ hl.1 rfl rfl (Nat.le_of_ble_eq_true rfl) dX6_perform_91 ?_
    obtain ⟨rfl, rfl⟩ := hx_some2 h
    exact hx_iret C hr dX6_perform_94
  have h := hx_neg c22 h
  have zc22 : Int32.toInt a1 ≠ 2 := fun z => c22 (Int32.toInt_inj.mp (z.trans rfl))
  by_cases c31 : a1 = 3
  · have h := hx_pos c31 h
    have hz : Int32.toInt a1 = 3 := by rw [c31]; rfl
    refine hx_tableIn (tgt := 95) C dX6_perform_1 (by rw [hz] <;> decide) (by rw [hz] <;> decide) (off := 94) (by rw [hz] <;> rfl) (by decide) ?_
    refine hx_aload_n C dX6_perform_95 rfl (lv_at hl 2 rfl) ?_
    refine hx_aload_n C dX6_perform_96 rfl (lv_at hl 0 rfl) ?_
    obtain ⟨g32, h⟩ := hx_gd h
    obtain ⟨q33, e34, h⟩ := hx_bind h
    refine hx_getr C (ci := 6) (j := 1) g32 uX6_perform_6 (by decide) rfl (by decide) rfl (by decide +kernel) rfl dX6_perform_97 e34 ?_
    refine hx_iconst (v := 0) C dX6_perform_100 (by decide) ?_
    obtain ⟨g35, h⟩ := hx_gd h
    obtain ⟨g36, h⟩ := hx_gd h
    refine hx_iald (n := 0) C g35 (hin_lit (i := 0) (by decide) rfl g36) rfl dX6_perform_101 ?_
    obtain ⟨r37, e38, h⟩ := hx_bind h
    obtain ⟨g39, h⟩ := hx_gd h
    refine hx_callV (As := [.int (X.1 q33 0)]) (rest := []) (n := 1) (Cn := RX0) C (c_X0_addCustomer e38) gX6_perform_X0_addCustomer g39 (by decide) rfl (by decide +kernel) ⟨Nat.le_of_ble_eq_true rfl, Nat.le_of_ble_eq_true rfl⟩ rfl rfl rfl ⟨Nat.zero_le _, Nat.zero_le _⟩ hl.1 rfl rfl (Nat.le_of_ble_eq_true rfl) dX6_perform_102 ?_
    obtain ⟨rfl, rfl⟩ := hx_some2 h
    exact hx_iret C hr dX6_perform_105
  have h := hx_neg c31 h
  have zc31 : Int32.toInt a1 ≠ 3 := fun z => c31 (Int32.toInt_inj.mp (z.trans rfl))
  by_cases c40 : a1 = 4
  · have h := hx_pos c40 h
    have hz : Int32.toInt a1 = 4 := by rw [c40]; rfl
    refine hx_tableIn (tgt := 106) C dX6_perform_1 (by rw [hz] <;> decide) (by rw [hz] <;> decide) (off := 105) (by rw [hz] <;> rfl) (by decide) ?_
    refine hx_aload_n C dX6_perform_106 rfl (lv_at hl 2 rfl) ?_
    refine hx_aload_n C dX6_perform_107 rfl (lv_at hl 0 rfl) ?_
    obtain ⟨g41, h⟩ := hx_gd h
    obtain ⟨q42, e43, h⟩ := hx_bind h
    refine hx_getr C (ci := 6) (j := 1) g41 uX6_perform_6 (by decide) rfl (by decide) rfl (by decide +kernel) rfl dX6_perform_108 e43 ?_
    refine hx_iconst (v := 0) C dX6_perform_111 (by decide) ?_
    obtain ⟨g44, h⟩ := hx_gd h
    obtain ⟨g45, h⟩ := hx_gd h
    refine hx_iald (n := 0) C g44 (hin_lit (i := 0) (by decide) rfl g45) rfl dX6_perform_112 ?_
    refine hx_aload_n C dX6_perform_113 rfl (lv_at hl 0 rfl) ?_
    refine hx_getr C (ci := 6) (j := 1) g41 uX6_perform_6 (by decide) rfl (by decide) rfl (by decide +kernel) rfl dX6_perform_114 e43 ?_
    refine hx_iconst (v := 1) C dX6_perform_117 (by decide) ?_
    obtain ⟨g46, h⟩ := hx_gd h
    refine hx_iald (n := 1) C g44 (hin_lit (i := 1) (by decide) rfl g46) rfl dX6_perform_118 ?_
    refine hx_aload_n C dX6_perform_119 rfl (lv_at hl 0 rfl) ?_
    refine hx_getr C (ci := 6) (j := 1) g41 uX6_perform_6 (by decide) rfl (by decide) rfl (by decide +kernel) rfl dX6_perform_120 e43 ?_
    refine hx_iconst (v := 2) C dX6_perform_123 (by decide) ?_
    obtain ⟨g47, h⟩ := hx_gd h
    refine hx_iald (n := 2) C g44 (hin_lit (i := 2) (by decide) rfl g47) rfl dX6_perform_124 ?_
    refine hx_aload_n C dX6_perform_125 rfl (lv_at hl 0 rfl) ?_
    refine hx_getr C (ci := 6) (j := 1) g41 uX6_perform_6 (by decide) rfl (by decide) rfl (by decide +kernel) rfl dX6_perform_126 e43 ?_
    refine hx_iconst (v := 3) C dX6_perform_129 (by decide) ?_
    obtain ⟨g48, h⟩ := hx_gd h
    refine hx_iald (n := 3) C g44 (hin_lit (i := 3) (by decide) rfl g48) rfl dX6_perform_130 ?_
    refine hx_aload_n C dX6_perform_131 rfl (lv_at hl 0 rfl) ?_
    refine hx_getr C (ci := 6) (j := 1) g41 uX6_perform_6 (by decide) rfl (by decide) rfl (by decide +kernel) rfl dX6_perform_132 e43 ?_
    refine hx_iconst (v := 4) C dX6_perform_135 (by decide) ?_
    obtain ⟨g49, h⟩ := hx_gd h
    refine hx_iald (n := 4) C g44 (hin_lit (i := 4) (by decide) rfl g49) rfl dX6_perform_136 ?_
    obtain ⟨r50, e51, h⟩ := hx_bind h
    obtain ⟨g52, h⟩ := hx_gd h
    refine hx_callV (As := [.int (X.1 q42 0), .int (X.1 q42 1), .int (X.1 q42 2), .int (X.1 q42 3), .int (X.1 q42 4)]) (rest := []) (n := 5) (Cn := RX0) C (c_X0_placePrize e51) gX6_perform_X0_placePrize g52 (by decide) rfl (by decide +kernel) ⟨Nat.le_of_ble_eq_true rfl, Nat.le_of_ble_eq_true rfl⟩ rfl rfl rfl ⟨Nat.zero_le _, Nat.zero_le _⟩ hl.1 rfl rfl (Nat.le_of_ble_eq_true rfl) dX6_perform_137 ?_
    obtain ⟨rfl, rfl⟩ := hx_some2 h
    exact hx_iret C hr dX6_perform_140
  have h := hx_neg c40 h
  have zc40 : Int32.toInt a1 ≠ 4 := fun z => c40 (Int32.toInt_inj.mp (z.trans rfl))
  by_cases c53 : a1 = 5
  · have h := hx_pos c53 h
    have hz : Int32.toInt a1 = 5 := by rw [c53]; rfl
    refine hx_tableIn (tgt := 141) C dX6_perform_1 (by rw [hz] <;> decide) (by rw [hz] <;> decide) (off := 140) (by rw [hz] <;> rfl) (by decide) ?_
    refine hx_aload_n C dX6_perform_141 rfl (lv_at hl 2 rfl) ?_
    refine hx_aload_n C dX6_perform_142 rfl (lv_at hl 0 rfl) ?_
    obtain ⟨g54, h⟩ := hx_gd h
    obtain ⟨q55, e56, h⟩ := hx_bind h
    refine hx_getr C (ci := 6) (j := 1) g54 uX6_perform_6 (by decide) rfl (by decide) rfl (by decide +kernel) rfl dX6_perform_143 e56 ?_
    refine hx_iconst (v := 0) C dX6_perform_146 (by decide) ?_
    obtain ⟨g57, h⟩ := hx_gd h
    obtain ⟨g58, h⟩ := hx_gd h
    refine hx_iald (n := 0) C g57 (hin_lit (i := 0) (by decide) rfl g58) rfl dX6_perform_147 ?_
    refine hx_aload_n C dX6_perform_148 rfl (lv_at hl 0 rfl) ?_
    refine hx_getr C (ci := 6) (j := 1) g54 uX6_perform_6 (by decide) rfl (by decide) rfl (by decide +kernel) rfl dX6_perform_149 e56 ?_
    refine hx_iconst (v := 1) C dX6_perform_152 (by decide) ?_
    obtain ⟨g59, h⟩ := hx_gd h
    refine hx_iald (n := 1) C g57 (hin_lit (i := 1) (by decide) rfl g59) rfl dX6_perform_153 ?_
    refine hx_aload_n C dX6_perform_154 rfl (lv_at hl 0 rfl) ?_
    refine hx_getr C (ci := 6) (j := 1) g54 uX6_perform_6 (by decide) rfl (by decide) rfl (by decide +kernel) rfl dX6_perform_155 e56 ?_
    refine hx_iconst (v := 2) C dX6_perform_158 (by decide) ?_
    obtain ⟨g60, h⟩ := hx_gd h
    refine hx_iald (n := 2) C g57 (hin_lit (i := 2) (by decide) rfl g60) rfl dX6_perform_159 ?_
    refine hx_iconst (v := 0) C dX6_perform_160 (by decide) ?_
    obtain ⟨r61, e62, h⟩ := hx_bind h
    obtain ⟨g63, h⟩ := hx_gd h
    refine hx_callV (As := [.int (X.1 q55 0), .int (X.1 q55 1), .int (X.1 q55 2), .int 0]) (rest := []) (n := 4) (Cn := RX0) C (c_X0_weighBundle e62) gX6_perform_X0_weighBundle g63 (by decide) rfl (by decide +kernel) ⟨Nat.le_of_ble_eq_true rfl, Nat.le_of_ble_eq_true rfl⟩ rfl rfl rfl ⟨Nat.zero_le _, Nat.zero_le _⟩ hl.1 rfl rfl (Nat.le_of_ble_eq_true rfl) dX6_perform_161 ?_
    obtain ⟨rfl, rfl⟩ := hx_some2 h
    exact hx_iret C hr dX6_perform_164
  have h := hx_neg c53 h
  have zc53 : Int32.toInt a1 ≠ 5 := fun z => c53 (Int32.toInt_inj.mp (z.trans rfl))
  by_cases c64 : a1 = 6
  · have h := hx_pos c64 h
    have hz : Int32.toInt a1 = 6 := by rw [c64]; rfl
    refine hx_tableIn (tgt := 165) C dX6_perform_1 (by rw [hz] <;> decide) (by rw [hz] <;> decide) (off := 164) (by rw [hz] <;> rfl) (by decide) ?_
    refine hx_aload_n C dX6_perform_165 rfl (lv_at hl 2 rfl) ?_
    refine hx_aload_n C dX6_perform_166 rfl (lv_at hl 0 rfl) ?_
    obtain ⟨g65, h⟩ := hx_gd h
    obtain ⟨q66, e67, h⟩ := hx_bind h
    refine hx_getr C (ci := 6) (j := 1) g65 uX6_perform_6 (by decide) rfl (by decide) rfl (by decide +kernel) rfl dX6_perform_167 e67 ?_
    refine hx_iconst (v := 0) C dX6_perform_170 (by decide) ?_
    obtain ⟨g68, h⟩ := hx_gd h
    obtain ⟨g69, h⟩ := hx_gd h
    refine hx_iald (n := 0) C g68 (hin_lit (i := 0) (by decide) rfl g69) rfl dX6_perform_171 ?_
    refine hx_aload_n C dX6_perform_172 rfl (lv_at hl 0 rfl) ?_
    refine hx_getr C (ci := 6) (j := 1) g65 uX6_perform_6 (by decide) rfl (by decide) rfl (by decide +kernel) rfl dX6_perform_173 e67 ?_
    refine hx_iconst (v := 1) C dX6_perform_176 (by decide) ?_
    obtain ⟨g70, h⟩ := hx_gd h
    refine hx_iald (n := 1) C g68 (hin_lit (i := 1) (by decide) rfl g70) rfl dX6_perform_177 ?_
    obtain ⟨r71, e72, h⟩ := hx_bind h
    obtain ⟨g73, h⟩ := hx_gd h
    refine hx_callV (As := [.int (X.1 q66 0), .int (X.1 q66 1)]) (rest := []) (n := 2) (Cn := RX0) C (c_X0_settleClaim e72) gX6_perform_X0_settleClaim g73 (by decide) rfl (by decide +kernel) ⟨Nat.le_of_ble_eq_true rfl, Nat.le_of_ble_eq_true rfl⟩ rfl rfl rfl ⟨Nat.zero_le _, Nat.zero_le _⟩ hl.1 rfl rfl (Nat.le_of_ble_eq_true rfl) dX6_perform_178 ?_
    obtain ⟨rfl, rfl⟩ := hx_some2 h
    exact hx_iret C hr dX6_perform_181
  have h := hx_neg c64 h
  have zc64 : Int32.toInt a1 ≠ 6 := fun z => c64 (Int32.toInt_inj.mp (z.trans rfl))
  refine hx_tableOut (tgt := 182) C dX6_perform_1 (by omega) (by decide) ?_
  refine hx_aload_n C dX6_perform_182 rfl (lv_at hl 2 rfl) ?_
  refine hx_aload_n C dX6_perform_183 rfl (lv_at hl 0 rfl) ?_
  obtain ⟨g74, h⟩ := hx_gd h
  obtain ⟨q75, e76, h⟩ := hx_bind h
  refine hx_getr C (ci := 6) (j := 1) g74 uX6_perform_6 (by decide) rfl (by decide) rfl (by decide +kernel) rfl dX6_perform_184 e76 ?_
  refine hx_iconst (v := 0) C dX6_perform_187 (by decide) ?_
  obtain ⟨g77, h⟩ := hx_gd h
  obtain ⟨g78, h⟩ := hx_gd h
  refine hx_iald (n := 0) C g77 (hin_lit (i := 0) (by decide) rfl g78) rfl dX6_perform_188 ?_
  refine hx_aload_n C dX6_perform_189 rfl (lv_at hl 0 rfl) ?_
  refine hx_getr C (ci := 6) (j := 1) g74 uX6_perform_6 (by decide) rfl (by decide) rfl (by decide +kernel) rfl dX6_perform_190 e76 ?_
  refine hx_iconst (v := 1) C dX6_perform_193 (by decide) ?_
  obtain ⟨g79, h⟩ := hx_gd h
  refine hx_iald (n := 1) C g77 (hin_lit (i := 1) (by decide) rfl g79) rfl dX6_perform_194 ?_
  refine hx_aload_n C dX6_perform_195 rfl (lv_at hl 0 rfl) ?_
  refine hx_getr C (ci := 6) (j := 1) g74 uX6_perform_6 (by decide) rfl (by decide) rfl (by decide +kernel) rfl dX6_perform_196 e76 ?_
  refine hx_iconst (v := 2) C dX6_perform_199 (by decide) ?_
  obtain ⟨g80, h⟩ := hx_gd h
  refine hx_iald (n := 2) C g77 (hin_lit (i := 2) (by decide) rfl g80) rfl dX6_perform_200 ?_
  obtain ⟨r81, e82, h⟩ := hx_bind h
  obtain ⟨g83, h⟩ := hx_gd h
  refine hx_callV (As := [.int (X.1 q75 0), .int (X.1 q75 1), .int (X.1 q75 2)]) (rest := []) (n := 3) (Cn := RX0) C (c_X0_sellPrize e82) gX6_perform_X0_sellPrize g83 (by decide) rfl (by decide +kernel) ⟨Nat.le_of_ble_eq_true rfl, Nat.le_of_ble_eq_true rfl⟩ rfl rfl rfl ⟨Nat.zero_le _, Nat.zero_le _⟩ hl.1 rfl rfl (Nat.le_of_ble_eq_true rfl) dX6_perform_201 ?_
  obtain ⟨rfl, rfl⟩ := hx_some2 h
  exact hx_iret C hr dX6_perform_204
theorem uX7_apartFromNext_7 : ∀ w ∈ u_ws RX7 TX7 3, w ∈ wsX7_apartFromNext := by decide +kernel
def f_X7_apartFromNext (L : hL) (X : hX) (this : Nat) (a1 : Int32) (a2 : Nat) (a3 : Int32) : Option (Int32) :=
  (f_X4_heaviest L X a2).bind fun r1 =>
  if tk L a2 4 then
  if tk L this 7 then
  (f_X9_readingAt L X a1 ((a3 * r1) + (X.1 this 1))).bind fun r5 =>
  (f_X4_lightest L X a2).bind fun r7 =>
  (f_X9_readingAt L X a1 (((a3 + 1) * r7) - (X.1 this 1))).bind fun r9 =>
  if r9 ≤ r5 then
    some 0
  else
    some 1
  else none
  else none
set_option maxRecDepth 100000 in
set_option maxHeartbeats 4000000 in
theorem c_X7_apartFromNext {l : Launch} {dC : Nat → ClassId} {dI : Nat → Nat → Nat} {cy : Nat → ClassId} {ad : Nat → Nat} {L : hL} {X : hX} {this : Nat} {a1 : Int32} {a2 : Nat} {a3 : Int32} {r : Int32} (h : f_X7_apartFromNext L X this a1 a2 a3 = some r) : hMet l dC dI cy ad L yX7_apartFromNext wsX7_apartFromNext ({ frames := 3, cells := 0, slots := 0, locals := 64 } : Room) [.ref (ad this), .int a1, .ref (ad a2), .int a3] X (some (.int r)) X := by
  unfold f_X7_apartFromNext at h
  refine hx_enter RX7 (plainFor_of_name (by decide)) rfl rfl (Nat.le_of_ble_eq_true rfl) (fun p e s m args below meth c C hr hnm ls hl => ?_)
  have hl : lv_has ls 6 [(0, .ref (ad this)), (1, .int a1), (2, .ref (ad a2)), (3, .int a3)] := hl
  refine hx_iload_n C dX7_apartFromNext_0 rfl (lv_at hl 1 rfl) ?_
  refine hx_iload_n C dX7_apartFromNext_1 rfl (lv_at hl 3 rfl) ?_
  refine hx_aload_n C dX7_apartFromNext_2 rfl (lv_at hl 2 rfl) ?_
  obtain ⟨r1, e2, h⟩ := hx_bind h
  obtain ⟨g3, h⟩ := hx_gd h
  refine hx_callV (As := []) (rest := [.int a3, .int a1]) (n := 0) (Cn := RX4) C (c_X4_heaviest e2) gX7_apartFromNext_X4_heaviest g3 (by decide) rfl (by decide +kernel) ⟨Nat.le_of_ble_eq_true rfl, Nat.le_of_ble_eq_true rfl⟩ rfl rfl rfl ⟨Nat.zero_le _, Nat.zero_le _⟩ hl.1 rfl rfl (Nat.le_of_ble_eq_true rfl) dX7_apartFromNext_3 ?_
  refine hx_imul C dX7_apartFromNext_6 ?_
  refine hx_aload_n C dX7_apartFromNext_7 rfl (lv_at hl 0 rfl) ?_
  obtain ⟨g4, h⟩ := hx_gd h
  refine hx_geti C (ci := 7) (j := 1) g4 uX7_apartFromNext_7 (by decide) rfl (by decide) rfl (by decide +kernel) rfl dX7_apartFromNext_8 ?_
  refine hx_iadd C dX7_apartFromNext_11 ?_
  obtain ⟨r5, e6, h⟩ := hx_bind h
  refine hx_callSN (As := [.int a1, .int ((a3 * r1) + (X.1 this 1))]) (rest := []) (n := 2) (host := "TicketScales") C (c_X9_readingAt e6) gX7_apartFromNext_X9_readingAt_n67 (by decide) (by decide +kernel) (by decide +kernel) (by decide +kernel) ⟨Nat.le_of_ble_eq_true rfl, Nat.le_of_ble_eq_true rfl⟩ rfl rfl rfl ⟨Nat.zero_le _, Nat.zero_le _⟩ hl.1 rfl rfl (Nat.le_of_ble_eq_true rfl) dX7_apartFromNext_12 ?_
  refine hx_istore (lv' := [(4, .int r5), (0, .ref (ad this)), (1, .int a1), (2, .ref (ad a2)), (3, .int a3)]) C dX7_apartFromNext_15 hl (by decide) rfl (fun ls hl => ?_)
  refine hx_iload_n C dX7_apartFromNext_17 rfl (lv_at hl 2 rfl) ?_
  refine hx_iload_n C dX7_apartFromNext_18 rfl (lv_at hl 4 rfl) ?_
  refine hx_iconst (v := 1) C dX7_apartFromNext_19 (by decide) ?_
  refine hx_iadd C dX7_apartFromNext_20 ?_
  refine hx_aload_n C dX7_apartFromNext_21 rfl (lv_at hl 3 rfl) ?_
  obtain ⟨r7, e8, h⟩ := hx_bind h
  refine hx_callV (As := []) (rest := [.int (a3 + 1), .int a1]) (n := 0) (Cn := RX4) C (c_X4_lightest e8) gX7_apartFromNext_X4_lightest g3 (by decide) rfl (by decide +kernel) ⟨Nat.le_of_ble_eq_true rfl, Nat.le_of_ble_eq_true rfl⟩ rfl rfl rfl ⟨Nat.zero_le _, Nat.zero_le _⟩ hl.1 rfl rfl (Nat.le_of_ble_eq_true rfl) dX7_apartFromNext_22 ?_
  refine hx_imul C dX7_apartFromNext_25 ?_
  refine hx_aload_n C dX7_apartFromNext_26 rfl (lv_at hl 1 rfl) ?_
  refine hx_geti C (ci := 7) (j := 1) g4 uX7_apartFromNext_7 (by decide) rfl (by decide) rfl (by decide +kernel) rfl dX7_apartFromNext_27 ?_
  refine hx_isub C dX7_apartFromNext_30 ?_
  obtain ⟨r9, e10, h⟩ := hx_bind h
  refine hx_callSN (As := [.int a1, .int (((a3 + 1) * r7) - (X.1 this 1))]) (rest := []) (n := 2) (host := "TicketScales") C (c_X9_readingAt e10) gX7_apartFromNext_X9_readingAt_n67 (by decide) (by decide +kernel) (by decide +kernel) (by decide +kernel) ⟨Nat.le_of_ble_eq_true rfl, Nat.le_of_ble_eq_true rfl⟩ rfl rfl rfl ⟨Nat.zero_le _, Nat.zero_le _⟩ hl.1 rfl rfl (Nat.le_of_ble_eq_true rfl) dX7_apartFromNext_31 ?_
  refine hx_istore (lv' := [(5, .int r9), (4, .int r5), (0, .ref (ad this)), (1, .int a1), (2, .ref (ad a2)), (3, .int a3)]) C dX7_apartFromNext_34 hl (by decide) rfl (fun ls hl => ?_)
  refine hx_iload C dX7_apartFromNext_36 (lv_at hl 1 rfl) ?_
  refine hx_iload C dX7_apartFromNext_38 (lv_at hl 0 rfl) ?_
  refine hx_icmp_ge (tgt := 47) C dX7_apartFromNext_40 (by decide) (fun c11 => ?_) (fun c11 => ?_)
  · have h := hx_pos c11 h
    refine hx_iconst (v := 0) C dX7_apartFromNext_47 (by decide) ?_
    obtain rfl := hx_some1 h
    exact hx_zret C hr rfl dX7_apartFromNext_48
  · have h := hx_neg c11 h
    refine hx_iconst (v := 1) C dX7_apartFromNext_43 (by decide) ?_
    refine hx_goto (tgt := 48) C dX7_apartFromNext_44 (by decide) ?_
    obtain rfl := hx_some1 h
    exact hx_zret C hr rfl dX7_apartFromNext_48
theorem uX7_lastApart_7 : ∀ w ∈ u_ws RX7 TX7 3, w ∈ wsX7_lastApart := by decide +kernel
def f_X7_lastApart_2 (L : hL) : Nat → Nat → Nat → Int32 → hX → Option (Int32)
  | 0, _, _, _, _ => none
  | n + 1, v0, v1, v2, X =>
    if 999 ≤ v2 then
      some 999
    else
      if tk L v0 7 then
      (f_X7_apartFromNext L X v0 (X.1 v0 0) v1 v2).bind fun r3 =>
      if r3 = 0 then
        some v2
      else
        f_X7_lastApart_2 L n v0 v1 (v2 + 1) X
      else none
set_option maxRecDepth 100000 in
set_option maxHeartbeats 4000000 in
theorem w_X7_lastApart_2 {p : Program} {l : Launch} {e : Env} {s : State} {m : MethodId} {args : Array Value} {below : List Frame} {meth : Method} {c : Code} {dC : Nat → ClassId} {dI : Nat → Nat → Nat} {cy : Nat → ClassId} {ad : Nat → Nat} {L : hL} {r : Int32} (C : hC p s m args meth c dC dI cy ad L (hA ad L s.heap.size) cX7_lastApart 3 wsX7_lastApart RX7) (hr : meth.sig.returnType = (some .int)) : ∀ (n : Nat) (v0 : Nat) (v1 : Nat) (v2 : Int32) (X : hX) (ls : Array Slot), f_X7_lastApart_2 L n v0 v1 v2 X = some r → lv_has ls 3 [(0, .ref (ad v0)), (1, .ref (ad v1)), (2, .int v2)] → hG p l e (headSpec wsX7_lastApart ({ frames := 4, cells := 0, slots := 0, locals := 89 } : Room)).room s m args below meth c dC dI cy ad L (hA ad L s.heap.size) 0 0 (MQ below (hQ dC dI cy ad L s.heap.size (some (.int r)) X) args s 0 0 (hA ad L s.heap.size)) X 2 ls [] := by
  intro n
  induction n with
  | zero => intro v0 v1 v2 X ls h; cases h
  | succ n ih =>
    intro v0 v1 v2 X ls h hl
    rw [f_X7_lastApart_2] at h
    refine hx_iload_n C dX7_lastApart_2 rfl (lv_at hl 2 rfl) ?_
    refine hx_sipush (v := 999) C dX7_lastApart_3 (by decide) ?_
    refine hx_icmp_ge (tgt := 30) C dX7_lastApart_6 (by decide) (fun c1 => ?_) (fun c1 => ?_)
    · have h := hx_pos c1 h
      refine hx_sipush (v := 999) C dX7_lastApart_30 (by decide) ?_
      obtain rfl := hx_some1 h
      exact hx_iret C hr dX7_lastApart_33
    · have h := hx_neg c1 h
      refine hx_aload_n C dX7_lastApart_9 rfl (lv_at hl 0 rfl) ?_
      refine hx_aload_n C dX7_lastApart_10 rfl (lv_at hl 0 rfl) ?_
      obtain ⟨g2, h⟩ := hx_gd h
      refine hx_geti C (ci := 7) (j := 0) g2 uX7_lastApart_7 (by decide) rfl (by decide) rfl (by decide +kernel) rfl dX7_lastApart_11 ?_
      refine hx_aload_n C dX7_lastApart_14 rfl (lv_at hl 1 rfl) ?_
      refine hx_iload_n C dX7_lastApart_15 rfl (lv_at hl 2 rfl) ?_
      obtain ⟨r3, e4, h⟩ := hx_bind h
      refine hx_callV (As := [.int (X.1 v0 0), .ref (ad v1), .int v2]) (rest := []) (n := 3) (Cn := RX7) C (c_X7_apartFromNext e4) gX7_lastApart_X7_apartFromNext g2 (by decide) rfl (by decide +kernel) ⟨Nat.le_of_ble_eq_true rfl, Nat.le_of_ble_eq_true rfl⟩ rfl rfl rfl ⟨Nat.zero_le _, Nat.zero_le _⟩ hl.1 rfl rfl (Nat.le_of_ble_eq_true rfl) dX7_lastApart_16 ?_
      refine hx_if_ne (tgt := 24) C dX7_lastApart_19 (by decide) (fun c5 => ?_) (fun c5 => ?_)
      · have h := hx_neg c5 h
        refine hx_iinc (v := v2 + 1) (lv' := [(2, .int (v2 + 1)), (0, .ref (ad v0)), (1, .ref (ad v1))]) C dX7_lastApart_24 hl (k := 2) rfl rfl (by decide) rfl (fun ls hl => ?_)
        refine hx_goto (tgt := 2) C dX7_lastApart_27 (by decide) ?_
        exact ih v0 v1 (v2 + 1) X ls h (lv_sub hl [1, 2, 0] rfl)
      · have h := hx_pos c5 h
        refine hx_iload_n C dX7_lastApart_22 rfl (lv_at hl 2 rfl) ?_
        obtain rfl := hx_some1 h
        exact hx_iret C hr dX7_lastApart_23
def f_X7_lastApart (L : hL) (X : hX) (this : Nat) (a1 : Nat) : Option (Int32) :=
  f_X7_lastApart_2 L u_fuel this a1 0 X
set_option maxRecDepth 100000 in
set_option maxHeartbeats 4000000 in
theorem c_X7_lastApart {l : Launch} {dC : Nat → ClassId} {dI : Nat → Nat → Nat} {cy : Nat → ClassId} {ad : Nat → Nat} {L : hL} {X : hX} {this : Nat} {a1 : Nat} {r : Int32} (h : f_X7_lastApart L X this a1 = some r) : hMet l dC dI cy ad L yX7_lastApart wsX7_lastApart ({ frames := 4, cells := 0, slots := 0, locals := 89 } : Room) [.ref (ad this), .ref (ad a1)] X (some (.int r)) X := by
  unfold f_X7_lastApart at h
  refine hx_enter RX7 (plainFor_of_name (by decide)) rfl rfl (Nat.le_of_ble_eq_true rfl) (fun p e s m args below meth c C hr hnm ls hl => ?_)
  have hl : lv_has ls 3 [(0, .ref (ad this)), (1, .ref (ad a1))] := hl
  refine hx_iconst (v := 0) C dX7_lastApart_0 (by decide) ?_
  refine hx_istore_n (lv' := [(2, .int 0), (0, .ref (ad this)), (1, .ref (ad a1))]) C dX7_lastApart_1 rfl hl (by decide) rfl (fun ls hl => ?_)
  exact w_X7_lastApart_2 C hr u_fuel this a1 0 X ls h (lv_sub hl [1, 2, 0] rfl)
