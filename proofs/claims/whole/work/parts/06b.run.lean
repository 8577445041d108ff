theorem uX6_spells_6 : ∀ w ∈ u_ws RX6 TX6 6, w ∈ wsX6_spells := by decide +kernel
def f_X6_spells_20 (L : hL) : Nat → Nat → Nat → Int32 → hX → Option (Int32)
  | 0, _, _, _, _ => none
  | n + 1, v0, v1, v2, X =>
    if v1 < 8 then
    if (hSn v1) ≤ v2 then
      some 1
    else
      if hin v2 (hSl.getD v1 0) ∧ ¬ v2 < 0 ∧ v2 < Int32.ofNat (hSl.getD v1 0) then
      if tk L v0 6 then
      (f_X6_signAt L X v0 ((X.1 v0 4) + v2)).bind fun r5 =>
      if (hSc v1 (Int32.toNatClampNeg v2)) = r5 then
        f_X6_spells_20 L n v0 v1 (v2 + 1) X
      else
        some 0
      else none
      else none
    else none
set_option maxRecDepth 100000 in
set_option maxHeartbeats 4000000 in
theorem w_X6_spells_20 {p : Program} {l : Launch} {e : Env} {s : State} {m : MethodId} {args : Array Value} {below : List Frame} {meth : Method} {c : Code} {dC : Nat → ClassId} {dI : Nat → Nat → Nat} {cy : Nat → ClassId} {ad : Nat → Nat} {L : hL} {r : Int32} (C : hC p s m args meth c dC dI cy ad L (hA ad L s.heap.size) cX6_spells 3 wsX6_spells RX6) (hr : meth.sig.returnType = (some .boolean)) : ∀ (n : Nat) (v0 : Nat) (v1 : Nat) (v2 : Int32) (X : hX) (ls : Array Slot), f_X6_spells_20 L n v0 v1 v2 X = some r → lv_has ls 3 [(0, .ref (ad v0)), (1, .ref (dI 100 v1)), (2, .int v2)] → hG p l e (headSpec wsX6_spells ({ frames := 6, cells := 0, slots := 0, locals := 130 } : Room)).room s m args below meth c dC dI cy ad L (hA ad L s.heap.size) 0 0 (MQ below (hQ dC dI cy ad L s.heap.size (some (.int r)) X) args s 0 0 (hA ad L s.heap.size)) X 20 ls [] := by
  intro n
  induction n with
  | zero => intro v0 v1 v2 X ls h; cases h
  | succ n ih =>
    intro v0 v1 v2 X ls h hl
    rw [f_X6_spells_20] at h
    refine hx_iload_n C dX6_spells_20 rfl (lv_at hl 2 rfl) ?_
    refine hx_aload_n C dX6_spells_21 rfl (lv_at hl 1 rfl) ?_
    obtain ⟨g1, h⟩ := hx_gd h
    refine hx_callVs (As := []) (rest := [.int v2]) (n := 0) C (c_J0_length_8abf5 g1) gX6_spells_J0_length_8abf5 g1 (by decide +kernel) ⟨Nat.le_of_ble_eq_true rfl, Nat.le_of_ble_eq_true rfl⟩ rfl rfl rfl ⟨Nat.zero_le _, Nat.zero_le _⟩ hl.1 rfl rfl (Nat.le_of_ble_eq_true rfl) dX6_spells_22 ?_
    refine hx_icmp_ge (tgt := 54) C dX6_spells_25 (by decide) (fun c2 => ?_) (fun c2 => ?_)
    · have h := hx_pos c2 h
      refine hx_iconst (v := 1) C dX6_spells_54 (by decide) ?_
      obtain rfl := hx_some1 h
      exact hx_zret C hr rfl dX6_spells_55
    · have h := hx_neg c2 h
      refine hx_aload_n C dX6_spells_28 rfl (lv_at hl 1 rfl) ?_
      refine hx_iload_n C dX6_spells_29 rfl (lv_at hl 2 rfl) ?_
      obtain ⟨g3, h⟩ := hx_gd h
      refine hx_callVs (As := [.int v2]) (rest := []) (n := 1) C (c_J0_charAt_5068e g1 g3.1 g3.2.1 g3.2.2) gX6_spells_J0_charAt_5068e g1 (by decide +kernel) ⟨Nat.le_of_ble_eq_true rfl, Nat.le_of_ble_eq_true rfl⟩ rfl rfl rfl ⟨Nat.zero_le _, Nat.zero_le _⟩ hl.1 rfl rfl (Nat.le_of_ble_eq_true rfl) dX6_spells_30 ?_
      refine hx_aload_n C dX6_spells_33 rfl (lv_at hl 0 rfl) ?_
      refine hx_aload_n C dX6_spells_34 rfl (lv_at hl 0 rfl) ?_
      obtain ⟨g4, h⟩ := hx_gd h
      refine hx_geti C (ci := 6) (j := 4) g4 uX6_spells_6 (by decide) rfl (by decide) rfl (by decide +kernel) rfl dX6_spells_35 ?_
      refine hx_iload_n C dX6_spells_38 rfl (lv_at hl 2 rfl) ?_
      refine hx_iadd C dX6_spells_39 ?_
      obtain ⟨r5, e6, h⟩ := hx_bind h
      refine hx_callV (As := [.int ((X.1 v0 4) + v2)]) (rest := [.int (hSc v1 (Int32.toNatClampNeg v2))]) (n := 1) (Cn := RX6) C (c_X6_signAt e6) gX6_spells_X6_signAt g4 (by decide) rfl (by decide +kernel) ⟨Nat.le_of_ble_eq_true rfl, Nat.le_of_ble_eq_true rfl⟩ rfl rfl rfl ⟨Nat.zero_le _, Nat.zero_le _⟩ hl.1 rfl rfl (Nat.le_of_ble_eq_true rfl) dX6_spells_40 ?_
      refine hx_icmp_eq (tgt := 48) C dX6_spells_43 (by decide) (fun c7 => ?_) (fun c7 => ?_)
      · have h := hx_pos c7 h
        refine hx_iinc (v := v2 + 1) (lv' := [(2, .int (v2 + 1)), (0, .ref (ad v0)), (1, .ref (dI 100 v1))]) C dX6_spells_48 hl (k := 2) rfl rfl (by decide) rfl (fun ls hl => ?_)
        refine hx_goto (tgt := 20) C dX6_spells_51 (by decide) ?_
        exact ih v0 v1 (v2 + 1) X ls h (lv_sub hl [1, 2, 0] rfl)
      · have h := hx_neg c7 h
        refine hx_iconst (v := 0) C dX6_spells_46 (by decide) ?_
        obtain rfl := hx_some1 h
        exact hx_zret C hr rfl dX6_spells_47
def f_X6_spells (L : hL) (X : hX) (this : Nat) (a1 : Nat) : Option (Int32) :=
  if a1 < 8 then
  if tk L this 6 then
  if (hSn a1) = ((X.1 this 5) - (X.1 this 4)) then
    f_X6_spells_20 L u_fuel this a1 0 X
  else
    some 0
  else none
  else none
set_option maxRecDepth 100000 in
set_option maxHeartbeats 4000000 in
theorem c_X6_spells {l : Launch} {dC : Nat → ClassId} {dI : Nat → Nat → Nat} {cy : Nat → ClassId} {ad : Nat → Nat} {L : hL} {X : hX} {this : Nat} {a1 : Nat} {r : Int32} (h : f_X6_spells L X this a1 = some r) : hMet l dC dI cy ad L yX6_spells wsX6_spells ({ frames := 6, cells := 0, slots := 0, locals := 130 } : Room) [.ref (ad this), .ref (dI 100 a1)] X (some (.int r)) X := by
  unfold f_X6_spells at h
  refine hx_enter RX6 (plainFor_of_name (by decide)) rfl rfl (Nat.le_of_ble_eq_true rfl) (fun p e s m args below meth c C hr hnm ls hl => ?_)
  have hl : lv_has ls 3 [(0, .ref (ad this)), (1, .ref (dI 100 a1))] := hl
  refine hx_aload_n C dX6_spells_0 rfl (lv_at hl 1 rfl) ?_
  obtain ⟨g8, h⟩ := hx_gd h
  refine hx_callVs (As := []) (rest := []) (n := 0) C (c_J0_length_8abf5 g8) gX6_spells_J0_length_8abf5 g8 (by decide +kernel) ⟨Nat.le_of_ble_eq_true rfl, Nat.le_of_ble_eq_true rfl⟩ rfl rfl rfl ⟨Nat.zero_le _, Nat.zero_le _⟩ hl.1 rfl rfl (Nat.le_of_ble_eq_true rfl) dX6_spells_1 ?_
  refine hx_aload_n C dX6_spells_4 rfl (lv_at hl 0 rfl) ?_
  obtain ⟨g9, h⟩ := hx_gd h
  refine hx_geti C (ci := 6) (j := 5) g9 uX6_spells_6 (by decide) rfl (by decide) rfl (by decide +kernel) rfl dX6_spells_5 ?_
  refine hx_aload_n C dX6_spells_8 rfl (lv_at hl 0 rfl) ?_
  refine hx_geti C (ci := 6) (j := 4) g9 uX6_spells_6 (by decide) rfl (by decide) rfl (by decide +kernel) rfl dX6_spells_9 ?_
  refine hx_isub C dX6_spells_12 ?_
  refine hx_icmp_eq (tgt := 18) C dX6_spells_13 (by decide) (fun c10 => ?_) (fun c10 => ?_)
  · have h := hx_pos c10 h
    refine hx_iconst (v := 0) C dX6_spells_18 (by decide) ?_
    refine hx_istore_n (lv' := [(2, .int 0), (0, .ref (ad this)), (1, .ref (dI 100 a1))]) C dX6_spells_19 rfl hl (by decide) rfl (fun ls hl => ?_)
    exact w_X6_spells_20 C hr u_fuel this a1 0 X ls h (lv_sub hl [1, 2, 0] rfl)
  · have h := hx_neg c10 h
    refine hx_iconst (v := 0) C dX6_spells_16 (by decide) ?_
    obtain rfl := hx_some1 h
    exact hx_zret C hr rfl dX6_spells_17
def f_X6_commandHere (L : hL) (X : hX) (this : Nat) : Option (Int32) :=
  (f_X6_spells L X this 0).bind fun r1 =>
  if tk L this 6 then
  if r1 = 0 then
    (f_X6_spells L X this 1).bind fun r5 =>
    if r5 = 0 then
      (f_X6_spells L X this 2).bind fun r8 =>
      if r8 = 0 then
        (f_X6_spells L X this 3).bind fun r11 =>
        if r11 = 0 then
          (f_X6_spells L X this 4).bind fun r14 =>
          if r14 = 0 then
            (f_X6_spells L X this 5).bind fun r17 =>
            if r17 = 0 then
              (f_X6_spells L X this 6).bind fun r20 =>
              if r20 = 0 then
                (f_X6_spells L X this 7).bind fun r23 =>
                if r23 = 0 then
                  some (-1)
                else
                  some 7
              else
                some 6
            else
              some 5
          else
            some 4
        else
          some 3
      else
        some 2
    else
      some 1
  else
    some 0
  else none
set_option maxRecDepth 100000 in
set_option maxHeartbeats 4000000 in
theorem c_X6_commandHere {l : Launch} {dC : Nat → ClassId} {dI : Nat → Nat → Nat} {cy : Nat → ClassId} {ad : Nat → Nat} {L : hL} {X : hX} {this : Nat} {r : Int32} (h : f_X6_commandHere L X this = some r) : hMet l dC dI cy ad L yX6_commandHere wsX6_commandHere ({ frames := 7, cells := 0, slots := 0, locals := 152 } : Room) [.ref (ad this)] X (some (.int r)) X := by
  unfold f_X6_commandHere at h
  refine hx_enter RX6 (plainFor_of_name (by decide)) rfl rfl (Nat.le_of_ble_eq_true rfl) (fun p e s m args below meth c C hr hnm ls hl => ?_)
  have hl : lv_has ls 1 [(0, .ref (ad this))] := hl
  refine hx_aload_n C dX6_commandHere_0 rfl (lv_at hl 0 rfl) ?_
  refine hx_ldcS (i := 0) C rfl rfl dX6_commandHere_1 ?_
  obtain ⟨r1, e2, h⟩ := hx_bind h
  obtain ⟨g3, h⟩ := hx_gd h
  refine hx_callV (As := [.ref (dI 100 0)]) (rest := []) (n := 1) (Cn := RX6) C (c_X6_spells e2) gX6_commandHere_X6_spells g3 (by decide) rfl (by decide +kernel) ⟨Nat.le_of_ble_eq_true rfl, Nat.le_of_ble_eq_true rfl⟩ rfl rfl rfl ⟨Nat.zero_le _, Nat.zero_le _⟩ hl.1 rfl rfl (Nat.le_of_ble_eq_true rfl) dX6_commandHere_3 ?_
  refine hx_if_eq (tgt := 11) C dX6_commandHere_6 (by decide) (fun c4 => ?_) (fun c4 => ?_)
  · have h := hx_pos c4 h
    refine hx_aload_n C dX6_commandHere_11 rfl (lv_at hl 0 rfl) ?_
    refine hx_ldcS (i := 1) C rfl rfl dX6_commandHere_12 ?_
    obtain ⟨r5, e6, h⟩ := hx_bind h
    refine hx_callV (As := [.ref (dI 100 1)]) (rest := []) (n := 1) (Cn := RX6) C (c_X6_spells e6) gX6_commandHere_X6_spells g3 (by decide) rfl (by decide +kernel) ⟨Nat.le_of_ble_eq_true rfl, Nat.le_of_ble_eq_true rfl⟩ rfl rfl rfl ⟨Nat.zero_le _, Nat.zero_le _⟩ hl.1 rfl rfl (Nat.le_of_ble_eq_true rfl) dX6_commandHere_14 ?_
    refine hx_if_eq (tgt := 22) C dX6_commandHere_17 (by decide) (fun c7 => ?_) (fun c7 => ?_)
    · have h := hx_pos c7 h
      refine hx_aload_n C dX6_commandHere_22 rfl (lv_at hl 0 rfl) ?_
      refine hx_ldcS (i := 2) C rfl rfl dX6_commandHere_23 ?_
      obtain ⟨r8, e9, h⟩ := hx_bind h
      refine hx_callV (As := [.ref (dI 100 2)]) (rest := []) (n := 1) (Cn := RX6) C (c_X6_spells e9) gX6_commandHere_X6_spells g3 (by decide) rfl (by decide +kernel) ⟨Nat.le_of_ble_eq_true rfl, Nat.le_of_ble_eq_true rfl⟩ rfl rfl rfl ⟨Nat.zero_le _, Nat.zero_le _⟩ hl.1 rfl rfl (Nat.le_of_ble_eq_true rfl) dX6_commandHere_25 ?_
      refine hx_if_eq (tgt := 33) C dX6_commandHere_28 (by decide) (fun c10 => ?_) (fun c10 => ?_)
      · have h := hx_pos c10 h
        refine hx_aload_n C dX6_commandHere_33 rfl (lv_at hl 0 rfl) ?_
        refine hx_ldcS (i := 3) C rfl rfl dX6_commandHere_34 ?_
        obtain ⟨r11, e12, h⟩ := hx_bind h
        refine hx_callV (As := [.ref (dI 100 3)]) (rest := []) (n := 1) (Cn := RX6) C (c_X6_spells e12) gX6_commandHere_X6_spells g3 (by decide) rfl (by decide +kernel) ⟨Nat.le_of_ble_eq_true rfl, Nat.le_of_ble_eq_true rfl⟩ rfl rfl rfl ⟨Nat.zero_le _, Nat.zero_le _⟩ hl.1 rfl rfl (Nat.le_of_ble_eq_true rfl) dX6_commandHere_36 ?_
        refine hx_if_eq (tgt := 44) C dX6_commandHere_39 (by decide) (fun c13 => ?_) (fun c13 => ?_)
        · have h := hx_pos c13 h
          refine hx_aload_n C dX6_commandHere_44 rfl (lv_at hl 0 rfl) ?_
          refine hx_ldcS (i := 4) C rfl rfl dX6_commandHere_45 ?_
          obtain ⟨r14, e15, h⟩ := hx_bind h
          refine hx_callV (As := [.ref (dI 100 4)]) (rest := []) (n := 1) (Cn := RX6) C (c_X6_spells e15) gX6_commandHere_X6_spells g3 (by decide) rfl (by decide +kernel) ⟨Nat.le_of_ble_eq_true rfl, Nat.le_of_ble_eq_true rfl⟩ rfl rfl rfl ⟨Nat.zero_le _, Nat.zero_le _⟩ hl.1 rfl rfl (Nat.le_of_ble_eq_true rfl) dX6_commandHere_47 ?_
          refine hx_if_eq (tgt := 55) C dX6_commandHere_50 (by decide) (fun c16 => ?_) (fun c16 => ?_)
          · have h := hx_pos c16 h
            refine hx_aload_n C dX6_commandHere_55 rfl (lv_at hl 0 rfl) ?_
            refine hx_ldcS (i := 5) C rfl rfl dX6_commandHere_56 ?_
            obtain ⟨r17, e18, h⟩ := hx_bind h
            refine hx_callV (As := [.ref (dI 100 5)]) (rest := []) (n := 1) (Cn := RX6) C (c_X6_spells e18) gX6_commandHere_X6_spells g3 (by decide) rfl (by decide +kernel) ⟨Nat.le_of_ble_eq_true rfl, Nat.le_of_ble_eq_true rfl⟩ rfl rfl rfl ⟨Nat.zero_le _, Nat.zero_le _⟩ hl.1 rfl rfl (Nat.le_of_ble_eq_true rfl) dX6_commandHere_58 ?_
            refine hx_if_eq (tgt := 66) C dX6_commandHere_61 (by decide) (fun c19 => ?_) (fun c19 => ?_)
            · have h := hx_pos c19 h
              refine hx_aload_n C dX6_commandHere_66 rfl (lv_at hl 0 rfl) ?_
              refine hx_ldcS (i := 6) C rfl rfl dX6_commandHere_67 ?_
              obtain ⟨r20, e21, h⟩ := hx_bind h
              refine hx_callV (As := [.ref (dI 100 6)]) (rest := []) (n := 1) (Cn := RX6) C (c_X6_spells e21) gX6_commandHere_X6_spells g3 (by decide) rfl (by decide +kernel) ⟨Nat.le_of_ble_eq_true rfl, Nat.le_of_ble_eq_true rfl⟩ rfl rfl rfl ⟨Nat.zero_le _, Nat.zero_le _⟩ hl.1 rfl rfl (Nat.le_of_ble_eq_true rfl) dX6_commandHere_69 ?_
              refine hx_if_eq (tgt := 78) C dX6_commandHere_72 (by decide) (fun c22 => ?_) (fun c22 => ?_)
              · have h := hx_pos c22 h
                refine hx_aload_n C dX6_commandHere_78 rfl (lv_at hl 0 rfl) ?_
                refine hx_ldcS (i := 7) C rfl rfl dX6_commandHere_79 ?_
                obtain ⟨r23, e24, h⟩ := hx_bind h
                refine hx_callV (As := [.ref (dI 100 7)]) (rest := []) (n := 1) (Cn := RX6) C (c_X6_spells e24) gX6_commandHere_X6_spells g3 (by decide) rfl (by decide +kernel) ⟨Nat.le_of_ble_eq_true rfl, Nat.le_of_ble_eq_true rfl⟩ rfl rfl rfl ⟨Nat.zero_le _, Nat.zero_le _⟩ hl.1 rfl rfl (Nat.le_of_ble_eq_true rfl) dX6_commandHere_81 ?_
                refine hx_if_eq (tgt := 92) C dX6_commandHere_84 (by decide) (fun c25 => ?_) (fun c25 => ?_)
                · have h := hx_pos c25 h
                  refine hx_iconst (v := (-1)) C dX6_commandHere_92 (by decide) ?_
                  obtain rfl := hx_some1 h
                  exact hx_iret C hr dX6_commandHere_93
                · have h := hx_neg c25 h
                  refine hx_bipush (v := 7) C dX6_commandHere_87 (by decide) ?_
                  refine hx_goto (tgt := 93) C dX6_commandHere_89 (by decide) ?_
                  obtain rfl := hx_some1 h
                  exact hx_iret C hr dX6_commandHere_93
              · have h := hx_neg c22 h
                refine hx_bipush (v := 6) C dX6_commandHere_75 (by decide) ?_
                obtain rfl := hx_some1 h
                exact hx_iret C hr dX6_commandHere_77
            · have h := hx_neg c19 h
              refine hx_iconst (v := 5) C dX6_commandHere_64 (by decide) ?_
              obtain rfl := hx_some1 h
              exact hx_iret C hr dX6_commandHere_65
          · have h := hx_neg c16 h
            refine hx_iconst (v := 4) C dX6_commandHere_53 (by decide) ?_
            obtain rfl := hx_some1 h
            exact hx_iret C hr dX6_commandHere_54
        · have h := hx_neg c13 h
          refine hx_iconst (v := 3) C dX6_commandHere_42 (by decide) ?_
          obtain rfl := hx_some1 h
          exact hx_iret C hr dX6_commandHere_43
      · have h := hx_neg c10 h
        refine hx_iconst (v := 2) C dX6_commandHere_31 (by decide) ?_
        obtain rfl := hx_some1 h
        exact hx_iret C hr dX6_commandHere_32
    · have h := hx_neg c7 h
      refine hx_iconst (v := 1) C dX6_commandHere_20 (by decide) ?_
      obtain rfl := hx_some1 h
      exact hx_iret C hr dX6_commandHere_21
  · have h := hx_neg c4 h
    refine hx_iconst (v := 0) C dX6_commandHere_9 (by decide) ?_
    obtain rfl := hx_some1 h
    exact hx_iret C hr dX6_commandHere_10
theorem uX6_runOn_6 : ∀ w ∈ u_ws RX6 TX6 6, w ∈ wsX6_runOn := by decide +kernel
def f_X6_runOn_67 (L : hL) (v0 : Nat) (v2 : Int32) (X : hX) : Option (Int32 × hX) :=
  if tk L v0 6 then
  (X.2 v0 2).bind fun q2 =>
  (f_X2_note L X q2 (X.1 v0 4) (-100009) v2).bind fun r4 =>
  if tk L q2 2 then
  some ((-1000) - (r4.1 v0 4), r4)
  else none
  else none
set_option maxRecDepth 100000 in
set_option maxHeartbeats 4000000 in
theorem w_X6_runOn_67 {p : Program} {l : Launch} {e : Env} {s : State} {m : MethodId} {args : Array Value} {below : List Frame} {meth : Method} {c : Code} {dC : Nat → ClassId} {dI : Nat → Nat → Nat} {cy : Nat → ClassId} {ad : Nat → Nat} {L : hL} {r : Int32} {X' : hX} (C : hC p s m args meth c dC dI cy ad L (hA ad L s.heap.size) cX6_runOn 6 wsX6_runOn RX6) (hr : meth.sig.returnType = (some .int)) : ∀ (v0 : Nat) (v2 : Int32) (X : hX) (ls : Array Slot), f_X6_runOn_67 L v0 v2 X = some (r, X') → lv_has ls 6 [(0, .ref (ad v0)), (2, .int v2)] → hG p l e (headSpec wsX6_runOn ({ frames := 8, cells := 0, slots := 0, locals := 172 } : Room)).room s m args below meth c dC dI cy ad L (hA ad L s.heap.size) 0 0 (MQ below (hQ dC dI cy ad L s.heap.size (some (.int r)) X') args s 0 0 (hA ad L s.heap.size)) X 67 ls [] := by
  intro v0 v2 X ls h hl
  unfold f_X6_runOn_67 at h
  refine hx_aload_n C dX6_runOn_67 rfl (lv_at hl 0 rfl) ?_
  obtain ⟨g1, h⟩ := hx_gd h
  obtain ⟨q2, e3, h⟩ := hx_bind h
  refine hx_getr C (ci := 6) (j := 2) g1 uX6_runOn_6 (by decide) rfl (by decide) rfl (by decide +kernel) rfl dX6_runOn_68 e3 ?_
  refine hx_aload_n C dX6_runOn_71 rfl (lv_at hl 0 rfl) ?_
  refine hx_geti C (ci := 6) (j := 4) g1 uX6_runOn_6 (by decide) rfl (by decide) rfl (by decide +kernel) rfl dX6_runOn_72 ?_
  refine hx_ldc (v := (-100009)) C (by decide +kernel) dX6_runOn_75 ?_
  refine hx_iload_n C dX6_runOn_77 rfl (lv_at hl 1 rfl) ?_
  obtain ⟨r4, e5, h⟩ := hx_bind h
  obtain ⟨g6, h⟩ := hx_gd h
  refine hx_callV (As := [.int (X.1 v0 4), .int (-100009), .int v2]) (rest := []) (n := 3) (Cn := RX2) C (c_X2_note e5) gX6_runOn_X2_note g6 (by decide) rfl (by decide +kernel) ⟨Nat.le_of_ble_eq_true rfl, Nat.le_of_ble_eq_true rfl⟩ rfl rfl rfl ⟨Nat.zero_le _, Nat.zero_le _⟩ hl.1 rfl rfl (Nat.le_of_ble_eq_true rfl) dX6_runOn_78 ?_
  refine hx_sipush (v := (-1000)) C dX6_runOn_81 (by decide) ?_
  refine hx_aload_n C dX6_runOn_84 rfl (lv_at hl 0 rfl) ?_
  refine hx_geti C (ci := 6) (j := 4) g1 uX6_runOn_6 (by decide) rfl (by decide) rfl (by decide +kernel) rfl dX6_runOn_85 ?_
  refine hx_isub C dX6_runOn_88 ?_
  obtain ⟨rfl, rfl⟩ := hx_some2 h
  exact hx_iret C hr dX6_runOn_89
def f_X6_runOn_7 (L : hL) : Nat → Nat → Nat → Int32 → hX → Option (Int32 × hX)
  | 0, _, _, _, _ => none
  | n + 1, v0, v1, v2, X =>
    if 140 < v2 then
      some (140, X)
    else
      (f_X6_readToken L X v0).bind fun r8 =>
      if tk L v0 6 then
      if (r8.1 v0 4) < (r8.1 v0 3) then
        (f_X6_commandHere L r8 v0).bind fun r12 =>
        if r12 = (-1) then
          f_X6_runOn_67 L v0 v2 r8
        else
          (f_X6_numbersOf L r8 r12).bind fun r15 =>
          (f_X6_readNumbers L r8 v0 r15).bind fun r17 =>
          if r17.1 = 0 then
            f_X6_runOn_67 L v0 v2 r17.2
          else
            (f_X6_readEnd L r17.2 v0).bind fun r20 =>
            if r20.1 = 0 then
              f_X6_runOn_67 L v0 v2 r20.2
            else
              (f_X6_perform L r20.2 v0 r12 v1).bind fun r23 =>
              (f_X9_isError L r23.2 r23.1).bind fun r25 =>
              if r25 = 0 then
                f_X6_runOn_7 L n v0 v1 (v2 + 1) r23.2
              else
                (r23.2.2 v0 2).bind fun q28 =>
                (f_X2_note L r23.2 q28 (r8.1 v0 4) r23.1 v2).bind fun r30 =>
                if tk L q28 2 then
                some ((-1000) - (r8.1 v0 4), r30)
                else none
      else
        some (v2, r8)
      else none
set_option maxRecDepth 100000 in
set_option maxHeartbeats 4000000 in
theorem w_X6_runOn_7 {p : Program} {l : Launch} {e : Env} {s : State} {m : MethodId} {args : Array Value} {below : List Frame} {meth : Method} {c : Code} {dC : Nat → ClassId} {dI : Nat → Nat → Nat} {cy : Nat → ClassId} {ad : Nat → Nat} {L : hL} {r : Int32} {X' : hX} (C : hC p s m args meth c dC dI cy ad L (hA ad L s.heap.size) cX6_runOn 6 wsX6_runOn RX6) (hr : meth.sig.returnType = (some .int)) : ∀ (n : Nat) (v0 : Nat) (v1 : Nat) (v2 : Int32) (X : hX) (ls : Array Slot), f_X6_runOn_7 L n v0 v1 v2 X = some (r, X') → lv_has ls 6 [(0, .ref (ad v0)), (1, .ref (ad v1)), (2, .int v2)] → hG p l e (headSpec wsX6_runOn ({ frames := 8, cells := 0, slots := 0, locals := 172 } : Room)).room s m args below meth c dC dI cy ad L (hA ad L s.heap.size) 0 0 (MQ below (hQ dC dI cy ad L s.heap.size (some (.int r)) X') args s 0 0 (hA ad L s.heap.size)) X 7 ls [] := by
  intro n
  induction n with
  | zero => intro v0 v1 v2 X ls h; cases h
  | succ n ih =>
    intro v0 v1 v2 X ls h hl
    rw [f_X6_runOn_7] at h
    refine hx_iload_n C dX6_runOn_7 rfl (lv_at hl 2 rfl) ?_
    refine hx_sipush (v := 140) C dX6_runOn_8 (by decide) ?_
    refine hx_icmp_gt (tgt := 130) C dX6_runOn_11 (by decide) (fun c7 => ?_) (fun c7 => ?_)
    · have h := hx_pos c7 h
      refine hx_sipush (v := 140) C dX6_runOn_130 (by decide) ?_
      obtain ⟨rfl, rfl⟩ := hx_some2 h
      exact hx_iret C hr dX6_runOn_133
    · have h := hx_neg c7 h
      refine hx_aload_n C dX6_runOn_14 rfl (lv_at hl 0 rfl) ?_
      obtain ⟨r8, e9, h⟩ := hx_bind h
      obtain ⟨g10, h⟩ := hx_gd h
      refine hx_callV (As := []) (rest := []) (n := 0) (Cn := RX6) C (c_X6_readToken e9) gX6_runOn_X6_readToken g10 (by decide) rfl (by decide +kernel) ⟨Nat.le_of_ble_eq_true rfl, Nat.le_of_ble_eq_true rfl⟩ rfl rfl rfl ⟨Nat.zero_le _, Nat.zero_le _⟩ hl.1 rfl rfl (Nat.le_of_ble_eq_true rfl) dX6_runOn_15 ?_
      refine hx_aload_n C dX6_runOn_18 rfl (lv_at hl 0 rfl) ?_
      refine hx_geti C (ci := 6) (j := 4) g10 uX6_runOn_6 (by decide) rfl (by decide) rfl (by decide +kernel) rfl dX6_runOn_19 ?_
      refine hx_aload_n C dX6_runOn_22 rfl (lv_at hl 0 rfl) ?_
      refine hx_geti C (ci := 6) (j := 3) g10 uX6_runOn_6 (by decide) rfl (by decide) rfl (by decide +kernel) rfl dX6_runOn_23 ?_
      refine hx_icmp_lt (tgt := 31) C dX6_runOn_26 (by decide) (fun c11 => ?_) (fun c11 => ?_)
      · have h := hx_pos c11 h
        refine hx_aload_n C dX6_runOn_31 rfl (lv_at hl 0 rfl) ?_
        refine hx_geti C (ci := 6) (j := 4) g10 uX6_runOn_6 (by decide) rfl (by decide) rfl (by decide +kernel) rfl dX6_runOn_32 ?_
        refine hx_istore_n (lv' := [(3, .int (r8.1 v0 4)), (0, .ref (ad v0)), (1, .ref (ad v1)), (2, .int v2)]) C dX6_runOn_35 rfl hl (by decide) rfl (fun ls hl => ?_)
        refine hx_aload_n C dX6_runOn_36 rfl (lv_at hl 1 rfl) ?_
        obtain ⟨r12, e13, h⟩ := hx_bind h
        refine hx_callV (As := []) (rest := []) (n := 0) (Cn := RX6) C (c_X6_commandHere e13) gX6_runOn_X6_commandHere g10 (by decide) rfl (by decide +kernel) ⟨Nat.le_of_ble_eq_true rfl, Nat.le_of_ble_eq_true rfl⟩ rfl rfl rfl ⟨Nat.zero_le _, Nat.zero_le _⟩ hl.1 rfl rfl (Nat.le_of_ble_eq_true rfl) dX6_runOn_37 ?_
        refine hx_istore (lv' := [(4, .int r12), (3, .int (r8.1 v0 4)), (0, .ref (ad v0)), (1, .ref (ad v1)), (2, .int v2)]) C dX6_runOn_40 hl (by decide) rfl (fun ls hl => ?_)
        refine hx_iload C dX6_runOn_42 (lv_at hl 0 rfl) ?_
        refine hx_iconst (v := (-1)) C dX6_runOn_44 (by decide) ?_
        refine hx_icmp_eq (tgt := 67) C dX6_runOn_45 (by decide) (fun c14 => ?_) (fun c14 => ?_)
        · have h := hx_pos c14 h
          exact w_X6_runOn_67 C hr v0 v2 r8 ls h (lv_sub hl [2, 4] rfl)
        · have h := hx_neg c14 h
          refine hx_aload_n C dX6_runOn_48 rfl (lv_at hl 2 rfl) ?_
          refine hx_iload C dX6_runOn_49 (lv_at hl 0 rfl) ?_
          obtain ⟨r15, e16, h⟩ := hx_bind h
          refine hx_callS (As := [.int r12]) (rest := [.ref (ad v0)]) (n := 1) C (c_X6_numbersOf e16) gX6_runOn_X6_numbersOf (by decide +kernel) ⟨Nat.le_of_ble_eq_true rfl, Nat.le_of_ble_eq_true rfl⟩ rfl rfl rfl ⟨Nat.zero_le _, Nat.zero_le _⟩ hl.1 rfl rfl (Nat.le_of_ble_eq_true rfl) dX6_runOn_51 ?_
          obtain ⟨r17, e18, h⟩ := hx_bind h
          refine hx_callV (As := [.int r15]) (rest := []) (n := 1) (Cn := RX6) C (c_X6_readNumbers e18) gX6_runOn_X6_readNumbers g10 (by decide) rfl (by decide +kernel) ⟨Nat.le_of_ble_eq_true rfl, Nat.le_of_ble_eq_true rfl⟩ rfl rfl rfl ⟨Nat.zero_le _, Nat.zero_le _⟩ hl.1 rfl rfl (Nat.le_of_ble_eq_true rfl) dX6_runOn_54 ?_
          refine hx_if_eq (tgt := 67) C dX6_runOn_57 (by decide) (fun c19 => ?_) (fun c19 => ?_)
          · have h := hx_pos c19 h
            exact w_X6_runOn_67 C hr v0 v2 r17.2 ls h (lv_sub hl [2, 4] rfl)
          · have h := hx_neg c19 h
            refine hx_aload_n C dX6_runOn_60 rfl (lv_at hl 2 rfl) ?_
            obtain ⟨r20, e21, h⟩ := hx_bind h
            refine hx_callV (As := []) (rest := []) (n := 0) (Cn := RX6) C (c_X6_readEnd e21) gX6_runOn_X6_readEnd g10 (by decide) rfl (by decide +kernel) ⟨Nat.le_of_ble_eq_true rfl, Nat.le_of_ble_eq_true rfl⟩ rfl rfl rfl ⟨Nat.zero_le _, Nat.zero_le _⟩ hl.1 rfl rfl (Nat.le_of_ble_eq_true rfl) dX6_runOn_61 ?_
            refine hx_if_ne (tgt := 90) C dX6_runOn_64 (by decide) (fun c22 => ?_) (fun c22 => ?_)
            · have h := hx_neg c22 h
              refine hx_aload_n C dX6_runOn_90 rfl (lv_at hl 2 rfl) ?_
              refine hx_iload C dX6_runOn_91 (lv_at hl 0 rfl) ?_
              refine hx_aload_n C dX6_runOn_93 rfl (lv_at hl 3 rfl) ?_
              obtain ⟨r23, e24, h⟩ := hx_bind h
              refine hx_callV (As := [.int r12, .ref (ad v1)]) (rest := []) (n := 2) (Cn := RX6) C (c_X6_perform e24) gX6_runOn_X6_perform g10 (by decide) rfl (by decide +kernel) ⟨Nat.le_of_ble_eq_true rfl, Nat.le_of_ble_eq_true rfl⟩ rfl rfl rfl ⟨Nat.zero_le _, Nat.zero_le _⟩ hl.1 rfl rfl (Nat.le_of_ble_eq_true rfl) dX6_runOn_94 ?_
              refine hx_istore (lv' := [(5, .int r23.1), (4, .int r12), (3, .int (r8.1 v0 4)), (0, .ref (ad v0)), (1, .ref (ad v1)), (2, .int v2)]) C dX6_runOn_97 hl (by decide) rfl (fun ls hl => ?_)
              refine hx_iload C dX6_runOn_99 (lv_at hl 0 rfl) ?_
              obtain ⟨r25, e26, h⟩ := hx_bind h
              refine hx_callSN (As := [.int r23.1]) (rest := []) (n := 1) (host := "TicketScales") C (c_X9_isError e26) gX6_runOn_X9_isError_n70 (by decide) (by decide +kernel) (by decide +kernel) (by decide +kernel) ⟨Nat.le_of_ble_eq_true rfl, Nat.le_of_ble_eq_true rfl⟩ rfl rfl rfl ⟨Nat.zero_le _, Nat.zero_le _⟩ hl.1 rfl rfl (Nat.le_of_ble_eq_true rfl) dX6_runOn_101 ?_
              refine hx_if_eq (tgt := 124) C dX6_runOn_104 (by decide) (fun c27 => ?_) (fun c27 => ?_)
              · have h := hx_pos c27 h
                refine hx_iinc (v := v2 + 1) (lv' := [(2, .int (v2 + 1)), (5, .int r23.1), (4, .int r12), (3, .int (r8.1 v0 4)), (0, .ref (ad v0)), (1, .ref (ad v1))]) C dX6_runOn_124 hl (k := 5) rfl rfl (by decide) rfl (fun ls hl => ?_)
                refine hx_goto (tgt := 7) C dX6_runOn_127 (by decide) ?_
                exact ih v0 v1 (v2 + 1) r23.2 ls h (lv_sub hl [4, 5, 0] rfl)
              · have h := hx_neg c27 h
                refine hx_aload_n C dX6_runOn_107 rfl (lv_at hl 3 rfl) ?_
                obtain ⟨q28, e29, h⟩ := hx_bind h
                refine hx_getr C (ci := 6) (j := 2) g10 uX6_runOn_6 (by decide) rfl (by decide) rfl (by decide +kernel) rfl dX6_runOn_108 e29 ?_
                refine hx_iload_n C dX6_runOn_111 rfl (lv_at hl 2 rfl) ?_
                refine hx_iload C dX6_runOn_112 (lv_at hl 0 rfl) ?_
                refine hx_iload_n C dX6_runOn_114 rfl (lv_at hl 5 rfl) ?_
                obtain ⟨r30, e31, h⟩ := hx_bind h
                obtain ⟨g32, h⟩ := hx_gd h
                refine hx_callV (As := [.int (r8.1 v0 4), .int r23.1, .int v2]) (rest := []) (n := 3) (Cn := RX2) C (c_X2_note e31) gX6_runOn_X2_note g32 (by decide) rfl (by decide +kernel) ⟨Nat.le_of_ble_eq_true rfl, Nat.le_of_ble_eq_true rfl⟩ rfl rfl rfl ⟨Nat.zero_le _, Nat.zero_le _⟩ hl.1 rfl rfl (Nat.le_of_ble_eq_true rfl) dX6_runOn_115 ?_
                refine hx_sipush (v := (-1000)) C dX6_runOn_118 (by decide) ?_
                refine hx_iload_n C dX6_runOn_121 rfl (lv_at hl 2 rfl) ?_
                refine hx_isub C dX6_runOn_122 ?_
                obtain ⟨rfl, rfl⟩ := hx_some2 h
                exact hx_iret C hr dX6_runOn_123
            · have h := hx_pos c22 h
              exact w_X6_runOn_67 C hr v0 v2 r20.2 ls h (lv_sub hl [2, 4] rfl)
      · have h := hx_neg c11 h
        refine hx_iload_n C dX6_runOn_29 rfl (lv_at hl 2 rfl) ?_
        obtain ⟨rfl, rfl⟩ := hx_some2 h
        exact hx_iret C hr dX6_runOn_30
def f_X6_runOn (L : hL) (X : hX) (this : Nat) (a1 : Nat) : Option (Int32 × hX) :=
  if tk L this 6 then
  f_X6_runOn_7 L u_fuel this a1 0 (smi X this 5 0)
  else none
set_option maxRecDepth 100000 in
set_option maxHeartbeats 4000000 in
theorem c_X6_runOn {l : Launch} {dC : Nat → ClassId} {dI : Nat → Nat → Nat} {cy : Nat → ClassId} {ad : Nat → Nat} {L : hL} {X : hX} {this : Nat} {a1 : Nat} {r : Int32} {X' : hX} (h : f_X6_runOn L X this a1 = some (r, X')) : hMet l dC dI cy ad L yX6_runOn wsX6_runOn ({ frames := 8, cells := 0, slots := 0, locals := 172 } : Room) [.ref (ad this), .ref (ad a1)] X (some (.int r)) X' := by
  unfold f_X6_runOn at h
  refine hx_enter RX6 (plainFor_of_name (by decide)) rfl rfl (Nat.le_of_ble_eq_true rfl) (fun p e s m args below meth c C hr hnm ls hl => ?_)
  have hl : lv_has ls 6 [(0, .ref (ad this)), (1, .ref (ad a1))] := hl
  refine hx_aload_n C dX6_runOn_0 rfl (lv_at hl 0 rfl) ?_
  refine hx_iconst (v := 0) C dX6_runOn_1 (by decide) ?_
  obtain ⟨g33, h⟩ := hx_gd h
  refine hx_puti C (ci := 6) (j := 5) tyX6 tyX6_ok nmX6 g33 uX6_runOn_6 (by decide) rfl (by decide) rfl (by decide +kernel) rfl rfl (tyX6_ok 5 (by decide)) dX6_runOn_2 rfl rfl ?_
  refine hx_iconst (v := 0) C dX6_runOn_5 (by decide) ?_
  refine hx_istore_n (lv' := [(2, .int 0), (0, .ref (ad this)), (1, .ref (ad a1))]) C dX6_runOn_6 rfl hl (by decide) rfl (fun ls hl => ?_)
  exact w_X6_runOn_7 C hr u_fuel this a1 0 (smi X this 5 0) ls h (lv_sub hl [1, 2, 0] rfl)
theorem uX9_run_9 : ∀ w ∈ u_ws RX9 TX9 3, w ∈ wsX9_run := by decide +kernel
def f_X9_run (L : hL) (X : hX) (this : Nat) : Option (Int32 × hX) :=
  if tk L this 9 then
  (X.2 this 0).bind fun q2 =>
  (f_X3_prepare L X q2).bind fun r4 =>
  if tk L q2 3 then
  (r4.2 this 1).bind fun q7 =>
  (f_X9_counter L r4 this).bind fun r9 =>
  Option.elim r9
  (
    none)
  fun i11 =>
    (f_X6_runOn L r4 q7 i11).bind fun r12 =>
    if tk L q7 6 then
    if 0 ≤ r12.1 then
      (r12.2.2 this 1).bind fun q16 =>
      (f_X6_emptyText L r12.2 q16).bind fun r18 =>
      if tk L q16 6 then
      (r18.2.2 this 0).bind fun q21 =>
      (f_X3_settle L r18.2 q21 r12.1).bind fun r23 =>
      if tk L q21 3 then
      some (r23.1, r23.2)
      else none
      else none
    else
      (r12.2.2 this 0).bind fun q26 =>
      (f_X3_abandon L r12.2 q26).bind fun r28 =>
      if tk L q26 3 then
      some (r12.1, r28)
      else none
    else none
  else none
  else none
set_option maxRecDepth 100000 in
set_option maxHeartbeats 4000000 in
theorem c_X9_run {l : Launch} {dC : Nat → ClassId} {dI : Nat → Nat → Nat} {cy : Nat → ClassId} {ad : Nat → Nat} {L : hL} {X : hX} {this : Nat} {r : Int32} {X' : hX} (h : f_X9_run L X this = some (r, X')) : hMet l dC dI cy ad L yX9_run wsX9_run ({ frames := 9, cells := 0, slots := 0, locals := 197 } : Room) [.ref (ad this)] X (some (.int r)) X' := by
  unfold f_X9_run at h
  refine hx_enter RX9 (plainFor_of_name (by decide)) rfl rfl (Nat.le_of_ble_eq_true rfl) (fun p e s m args below meth c C hr hnm ls hl => ?_)
  have hl : lv_has ls 2 [(0, .ref (ad this))] := hl
  refine hx_aload_n C dX9_run_0 rfl (lv_at hl 0 rfl) ?_
  obtain ⟨g1, h⟩ := hx_gd h
  obtain ⟨q2, e3, h⟩ := hx_bind h
  refine hx_getr C (ci := 9) (j := 0) g1 uX9_run_9 (by decide) rfl (by decide) rfl (by decide +kernel) rfl dX9_run_1 e3 ?_
  obtain ⟨r4, e5, h⟩ := hx_bind h
  obtain ⟨g6, h⟩ := hx_gd h
  refine hx_callV (As := []) (rest := []) (n := 0) (Cn := RX3) C (c_X3_prepare e5) gX9_run_X3_prepare g6 (by decide) rfl (by decide +kernel) ⟨Nat.le_of_ble_eq_true rfl, Nat.le_of_ble_eq_true rfl⟩ rfl rfl rfl ⟨Nat.zero_le _, Nat.zero_le _⟩ hl.1 rfl rfl (Nat.le_of_ble_eq_true rfl) dX9_run_4 ?_
  refine hx_aload_n C dX9_run_7 rfl (lv_at hl 0 rfl) ?_
  obtain ⟨q7, e8, h⟩ := hx_bind h
  refine hx_getr C (ci := 9) (j := 1) g1 uX9_run_9 (by decide) rfl (by decide) rfl (by decide +kernel) rfl dX9_run_8 e8 ?_
  refine hx_aload_n C dX9_run_11 rfl (lv_at hl 0 rfl) ?_
  obtain ⟨r9, e10, h⟩ := hx_bind h
  refine hx_callV (As := []) (rest := [.ref (ad q7)]) (n := 0) (Cn := RX9) C (c_X9_counter e10) gX9_run_X9_counter g1 (by decide) rfl (by decide +kernel) ⟨Nat.le_of_ble_eq_true rfl, Nat.le_of_ble_eq_true rfl⟩ rfl rfl rfl ⟨Nat.zero_le _, Nat.zero_le _⟩ hl.1 rfl rfl (Nat.le_of_ble_eq_true rfl) dX9_run_12 ?_
  rcases r9 with _ | i11
  · have h := hx_eln h
    cases h
  · have h := hx_els h
    obtain ⟨r12, e13, h⟩ := hx_bind h
    obtain ⟨g14, h⟩ := hx_gd h
    refine hx_callV (As := [.ref (ad i11)]) (rest := []) (n := 1) (Cn := RX6) C (c_X6_runOn e13) gX9_run_X6_runOn g14 (by decide) rfl (by decide +kernel) ⟨Nat.le_of_ble_eq_true rfl, Nat.le_of_ble_eq_true rfl⟩ rfl rfl rfl ⟨Nat.zero_le _, Nat.zero_le _⟩ hl.1 rfl rfl (Nat.le_of_ble_eq_true rfl) dX9_run_15 ?_
    refine hx_istore_n (lv' := [(1, .int r12.1), (0, .ref (ad this))]) C dX9_run_18 rfl hl (by decide) rfl (fun ls hl => ?_)
    refine hx_iload_n C dX9_run_19 rfl (lv_at hl 0 rfl) ?_
    refine hx_if_ge (tgt := 32) C dX9_run_20 (by decide) (fun c15 => ?_) (fun c15 => ?_)
    · have h := hx_pos c15 h
      refine hx_aload_n C dX9_run_32 rfl (lv_at hl 1 rfl) ?_
      obtain ⟨q16, e17, h⟩ := hx_bind h
      refine hx_getr C (ci := 9) (j := 1) g1 uX9_run_9 (by decide) rfl (by decide) rfl (by decide +kernel) rfl dX9_run_33 e17 ?_
      obtain ⟨r18, e19, h⟩ := hx_bind h
      obtain ⟨g20, h⟩ := hx_gd h
      refine hx_callV (As := []) (rest := []) (n := 0) (Cn := RX6) C (c_X6_emptyText e19) gX9_run_X6_emptyText g20 (by decide) rfl (by decide +kernel) ⟨Nat.le_of_ble_eq_true rfl, Nat.le_of_ble_eq_true rfl⟩ rfl rfl rfl ⟨Nat.zero_le _, Nat.zero_le _⟩ hl.1 rfl rfl (Nat.le_of_ble_eq_true rfl) dX9_run_36 ?_
      refine hx_pop C dX9_run_39 rfl ?_
      refine hx_aload_n C dX9_run_40 rfl (lv_at hl 1 rfl) ?_
      obtain ⟨q21, e22, h⟩ := hx_bind h
      refine hx_getr C (ci := 9) (j := 0) g1 uX9_run_9 (by decide) rfl (by decide) rfl (by decide +kernel) rfl dX9_run_41 e22 ?_
      refine hx_iload_n C dX9_run_44 rfl (lv_at hl 0 rfl) ?_
      obtain ⟨r23, e24, h⟩ := hx_bind h
      obtain ⟨g25, h⟩ := hx_gd h
      refine hx_callV (As := [.int r12.1]) (rest := []) (n := 1) (Cn := RX3) C (c_X3_settle e24) gX9_run_X3_settle g25 (by decide) rfl (by decide +kernel) ⟨Nat.le_of_ble_eq_true rfl, Nat.le_of_ble_eq_true rfl⟩ rfl rfl rfl ⟨Nat.zero_le _, Nat.zero_le _⟩ hl.1 rfl rfl (Nat.le_of_ble_eq_true rfl) dX9_run_45 ?_
      obtain ⟨rfl, rfl⟩ := hx_some2 h
      exact hx_iret C hr dX9_run_48
    · have h := hx_neg c15 h
      refine hx_aload_n C dX9_run_23 rfl (lv_at hl 1 rfl) ?_
      obtain ⟨q26, e27, h⟩ := hx_bind h
      refine hx_getr C (ci := 9) (j := 0) g1 uX9_run_9 (by decide) rfl (by decide) rfl (by decide +kernel) rfl dX9_run_24 e27 ?_
      obtain ⟨r28, e29, h⟩ := hx_bind h
      obtain ⟨g30, h⟩ := hx_gd h
      refine hx_callV (As := []) (rest := []) (n := 0) (Cn := RX3) C (c_X3_abandon e29) gX9_run_X3_abandon g30 (by decide) rfl (by decide +kernel) ⟨Nat.le_of_ble_eq_true rfl, Nat.le_of_ble_eq_true rfl⟩ rfl rfl rfl ⟨Nat.zero_le _, Nat.zero_le _⟩ hl.1 rfl rfl (Nat.le_of_ble_eq_true rfl) dX9_run_27 ?_
      refine hx_iload_n C dX9_run_30 rfl (lv_at hl 0 rfl) ?_
      obtain ⟨rfl, rfl⟩ := hx_some2 h
      exact hx_iret C hr dX9_run_31
