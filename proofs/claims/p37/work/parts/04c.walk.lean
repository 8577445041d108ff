theorem uX0_settleClaim_0 : ∀ w ∈ u_ws RX0 TX0 9, w ∈ wsX0_settleClaim := by decide +kernel
theorem uX0_settleClaim_1 : ∀ w ∈ u_ws RX1 TX1 6, w ∈ wsX0_settleClaim := by decide +kernel
def f_X0_settleClaim (L : hL) (X : hX) (this : Nat) (a1 : Int32) (a2 : Int32) : Option (Int32 × hX) :=
  (f_X0_customerAt L X this a1).bind fun r1 =>
  if tk L this 0 then
  Option.elim r1
  (
    some ((-100001), X))
  fun i4 =>
    (f_X9_within L X a2 0 9999).bind fun r5 =>
    if r5 = 0 then
      some ((-100001), X)
    else
      if tk L i4 1 then
      if (X.1 i4 1) = 0 then
        some ((-100002), X)
      else
        if a2 = (X.1 i4 5) then
          some ((-100002), X)
        else
          (f_X0_kindAt L (smi X i4 1 0) this ((smi X i4 1 0).1 i4 2)).bind fun r11 =>
          Option.elim r11
          (
            some (0, smi X i4 1 0))
          fun i13 =>
            (f_X0_allows L (smi X i4 1 0) this ((smi X i4 1 0).1 i4 4) i13 a2).bind fun r14 =>
            if r14 = 0 then
              some (0, smi X i4 1 0)
            else
              (f_X1_gain L (smi X i4 1 0) i4 (((smi X i4 1 0).1 i4 3) - ((smi X i4 1 0).1 i4 5))).bind fun r17 =>
              (f_X1_isNearer L (smi r17 this 8 ((r17.1 this 8) + ((r17.1 i4 3) - (r17.1 i4 5)))) i4 a2).bind fun r19 =>
              if r19 = 0 then
                (f_X1_gain L (smi r17 this 8 ((r17.1 this 8) + ((r17.1 i4 3) - (r17.1 i4 5)))) i4 (-((smi r17 this 8 ((r17.1 this 8) + ((r17.1 i4 3) - (r17.1 i4 5)))).1 this 7))).bind fun r22 =>
                some (2, r22)
              else
                some (1, smi r17 this 8 ((r17.1 this 8) + ((r17.1 i4 3) - (r17.1 i4 5))))
      else none
  else none
set_option maxRecDepth 100000 in
set_option maxHeartbeats 4000000 in
theorem c_X0_settleClaim {l : Launch} {dC : Nat → ClassId} {dI : Nat → Nat → Nat} {cy : Nat → ClassId} {ad : Nat → Nat} {L : hL} {X : hX} {this : Nat} {a1 : Int32} {a2 : Int32} {r : Int32} {X' : hX} (h : f_X0_settleClaim L X this a1 a2 = some (r, X')) : hMet l dC dI cy ad L yX0_settleClaim wsX0_settleClaim ({ frames := 4, cells := 0, slots := 0, locals := 90 } : Room) [.ref (ad this), .int a1, .int a2] X (some (.int r)) X' := by
  unfold f_X0_settleClaim at h
  refine hx_enter RX0 (plainFor_of_name (by decide)) rfl rfl (Nat.le_of_ble_eq_true rfl) (fun p e s m args below meth c C hr hnm ls hl => ?_)
  have hl : lv_has ls 5 [(0, .ref (ad this)), (1, .int a1), (2, .int a2)] := hl
  refine hx_aload_n C dX0_settleClaim_0 rfl (lv_at hl 0 rfl) ?_
  refine hx_iload_n C dX0_settleClaim_1 rfl (lv_at hl 1 rfl) ?_
  obtain ⟨r1, e2, h⟩ := hx_bind h
  obtain ⟨g3, h⟩ := hx_gd h
  refine hx_callV (As := [.int a1]) (rest := []) (n := 1) (Cn := RX0) C (c_X0_customerAt e2) gX0_settleClaim_X0_customerAt g3 (by decide) rfl (by decide +kernel) ⟨Nat.le_of_ble_eq_true rfl, Nat.le_of_ble_eq_true rfl⟩ rfl rfl rfl ⟨Nat.zero_le _, Nat.zero_le _⟩ hl.1 rfl rfl (Nat.le_of_ble_eq_true rfl) dX0_settleClaim_2 ?_
  rcases r1 with _ | i4
  · have h := hx_eln h
    refine hx_astore_nN (lv' := [(3, .null), (0, .ref (ad this)), (1, .int a1), (2, .int a2)]) C dX0_settleClaim_5 rfl hl (by decide) rfl (fun ls hl => ?_)
    refine hx_aload_nN C dX0_settleClaim_6 rfl (lv_at hl 0 rfl) ?_
    refine hx_ifnullN (tgt := 21) C dX0_settleClaim_7 (by decide) ?_
    refine hx_ldc (v := (-100001)) C (by decide +kernel) dX0_settleClaim_21 ?_
    obtain ⟨rfl, rfl⟩ := hx_some2 h
    exact hx_iret C hr dX0_settleClaim_23
  · have h := hx_els h
    refine hx_astore_n (lv' := [(3, .ref (ad i4)), (0, .ref (ad this)), (1, .int a1), (2, .int a2)]) C dX0_settleClaim_5 rfl hl (by decide) rfl (fun ls hl => ?_)
    refine hx_aload_n C dX0_settleClaim_6 rfl (lv_at hl 0 rfl) ?_
    refine hx_ifnull C dX0_settleClaim_7 ?_
    refine hx_iload_n C dX0_settleClaim_10 rfl (lv_at hl 3 rfl) ?_
    refine hx_iconst (v := 0) C dX0_settleClaim_11 (by decide) ?_
    refine hx_sipush (v := 9999) C dX0_settleClaim_12 (by decide) ?_
    obtain ⟨r5, e6, h⟩ := hx_bind h
    refine hx_callSN (As := [.int a2, .int 0, .int 9999]) (rest := []) (n := 3) (host := "TicketScales") C (c_X9_within e6) gX0_settleClaim_X9_within_n68 (by decide) (by decide +kernel) (by decide +kernel) (by decide +kernel) ⟨Nat.le_of_ble_eq_true rfl, Nat.le_of_ble_eq_true rfl⟩ rfl rfl rfl ⟨Nat.zero_le _, Nat.zero_le _⟩ hl.1 rfl rfl (Nat.le_of_ble_eq_true rfl) dX0_settleClaim_15 ?_
    refine hx_if_ne (tgt := 24) C dX0_settleClaim_18 (by decide) (fun c7 => ?_) (fun c7 => ?_)
    · have h := hx_neg c7 h
      refine hx_aload_n C dX0_settleClaim_24 rfl (lv_at hl 0 rfl) ?_
      obtain ⟨g8, h⟩ := hx_gd h
      refine hx_geti C (ci := 1) (j := 1) g8 uX0_settleClaim_1 (by decide) rfl (by decide) rfl (by decide +kernel) rfl dX0_settleClaim_25 ?_
      refine hx_if_eq (tgt := 39) C dX0_settleClaim_28 (by decide) (fun c9 => ?_) (fun c9 => ?_)
      · have h := hx_pos c9 h
        refine hx_ldc (v := (-100002)) C (by decide +kernel) dX0_settleClaim_39 ?_
        obtain ⟨rfl, rfl⟩ := hx_some2 h
        exact hx_iret C hr dX0_settleClaim_41
      · have h := hx_neg c9 h
        refine hx_iload_n C dX0_settleClaim_31 rfl (lv_at hl 3 rfl) ?_
        refine hx_aload_n C dX0_settleClaim_32 rfl (lv_at hl 0 rfl) ?_
        refine hx_geti C (ci := 1) (j := 5) g8 uX0_settleClaim_1 (by decide) rfl (by decide) rfl (by decide +kernel) rfl dX0_settleClaim_33 ?_
        refine hx_icmp_ne (tgt := 42) C dX0_settleClaim_36 (by decide) (fun c10 => ?_) (fun c10 => ?_)
        · have h := hx_neg c10 h
          refine hx_aload_n C dX0_settleClaim_42 rfl (lv_at hl 0 rfl) ?_
          refine hx_iconst (v := 0) C dX0_settleClaim_43 (by decide) ?_
          refine hx_puti C (ci := 1) (j := 1) tyX1 tyX1_ok nmX1 g8 uX0_settleClaim_1 (by decide) rfl (by decide) rfl (by decide +kernel) rfl rfl (tyX1_ok 1 (by decide)) dX0_settleClaim_44 rfl rfl ?_
          refine hx_aload_n C dX0_settleClaim_47 rfl (lv_at hl 1 rfl) ?_
          refine hx_aload_n C dX0_settleClaim_48 rfl (lv_at hl 0 rfl) ?_
          refine hx_geti C (ci := 1) (j := 2) g8 uX0_settleClaim_1 (by decide) rfl (by decide) rfl (by decide +kernel) rfl dX0_settleClaim_49 ?_
          obtain ⟨r11, e12, h⟩ := hx_bind h
          refine hx_callV (As := [.int ((smi X i4 1 0).1 i4 2)]) (rest := []) (n := 1) (Cn := RX0) C (c_X0_kindAt e12) gX0_settleClaim_X0_kindAt g3 (by decide) rfl (by decide +kernel) ⟨Nat.le_of_ble_eq_true rfl, Nat.le_of_ble_eq_true rfl⟩ rfl rfl rfl ⟨Nat.zero_le _, Nat.zero_le _⟩ hl.1 rfl rfl (Nat.le_of_ble_eq_true rfl) dX0_settleClaim_52 ?_
          rcases r11 with _ | i13
          · have h := hx_eln h
            refine hx_astoreN (lv' := [(4, .null), (3, .ref (ad i4)), (0, .ref (ad this)), (1, .int a1), (2, .int a2)]) C dX0_settleClaim_55 hl (by decide) rfl (fun ls hl => ?_)
            refine hx_aloadN C dX0_settleClaim_57 (lv_at hl 0 rfl) ?_
            refine hx_ifnullN (tgt := 76) C dX0_settleClaim_59 (by decide) ?_
            refine hx_iconst (v := 0) C dX0_settleClaim_76 (by decide) ?_
            obtain ⟨rfl, rfl⟩ := hx_some2 h
            exact hx_iret C hr dX0_settleClaim_77
          · have h := hx_els h
            refine hx_astore (lv' := [(4, .ref (ad i13)), (3, .ref (ad i4)), (0, .ref (ad this)), (1, .int a1), (2, .int a2)]) C dX0_settleClaim_55 hl (by decide) rfl (fun ls hl => ?_)
            refine hx_aload C dX0_settleClaim_57 (lv_at hl 0 rfl) ?_
            refine hx_ifnull C dX0_settleClaim_59 ?_
            refine hx_aload_n C dX0_settleClaim_62 rfl (lv_at hl 2 rfl) ?_
            refine hx_aload_n C dX0_settleClaim_63 rfl (lv_at hl 1 rfl) ?_
            refine hx_geti C (ci := 1) (j := 4) g8 uX0_settleClaim_1 (by decide) rfl (by decide) rfl (by decide +kernel) rfl dX0_settleClaim_64 ?_
            refine hx_aload C dX0_settleClaim_67 (lv_at hl 0 rfl) ?_
            refine hx_iload_n C dX0_settleClaim_69 rfl (lv_at hl 4 rfl) ?_
            obtain ⟨r14, e15, h⟩ := hx_bind h
            refine hx_callV (As := [.int ((smi X i4 1 0).1 i4 4), .ref (ad i13), .int a2]) (rest := []) (n := 3) (Cn := RX0) C (c_X0_allows e15) gX0_settleClaim_X0_allows g3 (by decide) rfl (by decide +kernel) ⟨Nat.le_of_ble_eq_true rfl, Nat.le_of_ble_eq_true rfl⟩ rfl rfl rfl ⟨Nat.zero_le _, Nat.zero_le _⟩ hl.1 rfl rfl (Nat.le_of_ble_eq_true rfl) dX0_settleClaim_70 ?_
            refine hx_if_ne (tgt := 78) C dX0_settleClaim_73 (by decide) (fun c16 => ?_) (fun c16 => ?_)
            · have h := hx_neg c16 h
              refine hx_aload_n C dX0_settleClaim_78 rfl (lv_at hl 1 rfl) ?_
              refine hx_aload_n C dX0_settleClaim_79 rfl (lv_at hl 1 rfl) ?_
              refine hx_geti C (ci := 1) (j := 3) g8 uX0_settleClaim_1 (by decide) rfl (by decide) rfl (by decide +kernel) rfl dX0_settleClaim_80 ?_
              refine hx_aload_n C dX0_settleClaim_83 rfl (lv_at hl 1 rfl) ?_
              refine hx_geti C (ci := 1) (j := 5) g8 uX0_settleClaim_1 (by decide) rfl (by decide) rfl (by decide +kernel) rfl dX0_settleClaim_84 ?_
              refine hx_isub C dX0_settleClaim_87 ?_
              obtain ⟨r17, e18, h⟩ := hx_bind h
              refine hx_callV (As := [.int (((smi X i4 1 0).1 i4 3) - ((smi X i4 1 0).1 i4 5))]) (rest := []) (n := 1) (Cn := RX1) C (c_X1_gain e18) gX0_settleClaim_X1_gain g8 (by decide) rfl (by decide +kernel) ⟨Nat.le_of_ble_eq_true rfl, Nat.le_of_ble_eq_true rfl⟩ rfl rfl rfl ⟨Nat.zero_le _, Nat.zero_le _⟩ hl.1 rfl rfl (Nat.le_of_ble_eq_true rfl) dX0_settleClaim_88 ?_
              refine hx_aload_n C dX0_settleClaim_91 rfl (lv_at hl 2 rfl) ?_
              refine hx_dup C dX0_settleClaim_92 rfl ?_
              refine hx_geti C (ci := 0) (j := 8) g3 uX0_settleClaim_0 (by decide) rfl (by decide) rfl (by decide +kernel) rfl dX0_settleClaim_93 ?_
              refine hx_aload_n C dX0_settleClaim_96 rfl (lv_at hl 1 rfl) ?_
              refine hx_geti C (ci := 1) (j := 3) g8 uX0_settleClaim_1 (by decide) rfl (by decide) rfl (by decide +kernel) rfl dX0_settleClaim_97 ?_
              refine hx_aload_n C dX0_settleClaim_100 rfl (lv_at hl 1 rfl) ?_
              refine hx_geti C (ci := 1) (j := 5) g8 uX0_settleClaim_1 (by decide) rfl (by decide) rfl (by decide +kernel) rfl dX0_settleClaim_101 ?_
              refine hx_isub C dX0_settleClaim_104 ?_
              refine hx_iadd C dX0_settleClaim_105 ?_
              refine hx_puti C (ci := 0) (j := 8) tyX0 tyX0_ok nmX0 g3 uX0_settleClaim_0 (by decide) rfl (by decide) rfl (by decide +kernel) rfl rfl (tyX0_ok 8 (by decide)) dX0_settleClaim_106 rfl rfl ?_
              refine hx_aload_n C dX0_settleClaim_109 rfl (lv_at hl 1 rfl) ?_
              refine hx_iload_n C dX0_settleClaim_110 rfl (lv_at hl 4 rfl) ?_
              obtain ⟨r19, e20, h⟩ := hx_bind h
              refine hx_callV (As := [.int a2]) (rest := []) (n := 1) (Cn := RX1) C (c_X1_isNearer e20) gX0_settleClaim_X1_isNearer g8 (by decide) rfl (by decide +kernel) ⟨Nat.le_of_ble_eq_true rfl, Nat.le_of_ble_eq_true rfl⟩ rfl rfl rfl ⟨Nat.zero_le _, Nat.zero_le _⟩ hl.1 rfl rfl (Nat.le_of_ble_eq_true rfl) dX0_settleClaim_111 ?_
              refine hx_if_eq (tgt := 119) C dX0_settleClaim_114 (by decide) (fun c21 => ?_) (fun c21 => ?_)
              · have h := hx_pos c21 h
                refine hx_aload_n C dX0_settleClaim_119 rfl (lv_at hl 1 rfl) ?_
                refine hx_aload_n C dX0_settleClaim_120 rfl (lv_at hl 2 rfl) ?_
                refine hx_geti C (ci := 0) (j := 7) g3 uX0_settleClaim_0 (by decide) rfl (by decide) rfl (by decide +kernel) rfl dX0_settleClaim_121 ?_
                refine hx_ineg C dX0_settleClaim_124 ?_
                obtain ⟨r22, e23, h⟩ := hx_bind h
                refine hx_callV (As := [.int (-((smi r17 this 8 ((r17.1 this 8) + ((r17.1 i4 3) - (r17.1 i4 5)))).1 this 7))]) (rest := []) (n := 1) (Cn := RX1) C (c_X1_gain e23) gX0_settleClaim_X1_gain g8 (by decide) rfl (by decide +kernel) ⟨Nat.le_of_ble_eq_true rfl, Nat.le_of_ble_eq_true rfl⟩ rfl rfl rfl ⟨Nat.zero_le _, Nat.zero_le _⟩ hl.1 rfl rfl (Nat.le_of_ble_eq_true rfl) dX0_settleClaim_125 ?_
                refine hx_iconst (v := 2) C dX0_settleClaim_128 (by decide) ?_
                obtain ⟨rfl, rfl⟩ := hx_some2 h
                exact hx_iret C hr dX0_settleClaim_129
              · have h := hx_neg c21 h
                refine hx_iconst (v := 1) C dX0_settleClaim_117 (by decide) ?_
                obtain ⟨rfl, rfl⟩ := hx_some2 h
                exact hx_iret C hr dX0_settleClaim_118
            · have h := hx_pos c16 h
              refine hx_iconst (v := 0) C dX0_settleClaim_76 (by decide) ?_
              obtain ⟨rfl, rfl⟩ := hx_some2 h
              exact hx_iret C hr dX0_settleClaim_77
        · have h := hx_pos c10 h
          refine hx_ldc (v := (-100002)) C (by decide +kernel) dX0_settleClaim_39 ?_
          obtain ⟨rfl, rfl⟩ := hx_some2 h
          exact hx_iret C hr dX0_settleClaim_41
    · have h := hx_pos c7 h
      refine hx_ldc (v := (-100001)) C (by decide +kernel) dX0_settleClaim_21 ?_
      obtain ⟨rfl, rfl⟩ := hx_some2 h
      exact hx_iret C hr dX0_settleClaim_23
theorem uX5_begin_5 : ∀ w ∈ u_ws RX5 TX5 7, w ∈ wsX5_begin := by decide +kernel
def f_X5_begin (L : hL) (X : hX) (this : Nat) (a1 : Int32) (a2 : Int32) (a3 : Int32) (a4 : Int32) (a5 : Int32) : Option (hX) :=
  if tk L this 5 then
  some (smi (smi (smi (smi (smi (smi (smi X this 0 a1) this 1 a2) this 2 a3) this 3 a4) this 4 a5) this 5 0) this 6 0)
  else none
set_option maxRecDepth 100000 in
set_option maxHeartbeats 4000000 in
theorem c_X5_begin {l : Launch} {dC : Nat → ClassId} {dI : Nat → Nat → Nat} {cy : Nat → ClassId} {ad : Nat → Nat} {L : hL} {X : hX} {this : Nat} {a1 : Int32} {a2 : Int32} {a3 : Int32} {a4 : Int32} {a5 : Int32} {X' : hX} (h : f_X5_begin L X this a1 a2 a3 a4 a5 = some X') : hMet l dC dI cy ad L yX5_begin wsX5_begin ({ frames := 0, cells := 0, slots := 0, locals := 0 } : Room) [.ref (ad this), .int a1, .int a2, .int a3, .int a4, .int a5] X none X' := by
  unfold f_X5_begin at h
  refine hx_enter RX5 (plainFor_of_name (by decide)) rfl rfl (Nat.le_of_ble_eq_true rfl) (fun p e s m args below meth c C hr hnm ls hl => ?_)
  have hl : lv_has ls 6 [(0, .ref (ad this)), (1, .int a1), (2, .int a2), (3, .int a3), (4, .int a4), (5, .int a5)] := hl
  refine hx_aload_n C dX5_begin_0 rfl (lv_at hl 0 rfl) ?_
  refine hx_iload_n C dX5_begin_1 rfl (lv_at hl 1 rfl) ?_
  obtain ⟨g1, h⟩ := hx_gd h
  refine hx_puti C (ci := 5) (j := 0) tyX5 tyX5_ok nmX5 g1 uX5_begin_5 (by decide) rfl (by decide) rfl (by decide +kernel) rfl rfl (tyX5_ok 0 (by decide)) dX5_begin_2 rfl rfl ?_
  refine hx_aload_n C dX5_begin_5 rfl (lv_at hl 0 rfl) ?_
  refine hx_iload_n C dX5_begin_6 rfl (lv_at hl 2 rfl) ?_
  refine hx_puti C (ci := 5) (j := 1) tyX5 tyX5_ok nmX5 g1 uX5_begin_5 (by decide) rfl (by decide) rfl (by decide +kernel) rfl rfl (tyX5_ok 1 (by decide)) dX5_begin_7 rfl rfl ?_
  refine hx_aload_n C dX5_begin_10 rfl (lv_at hl 0 rfl) ?_
  refine hx_iload_n C dX5_begin_11 rfl (lv_at hl 3 rfl) ?_
  refine hx_puti C (ci := 5) (j := 2) tyX5 tyX5_ok nmX5 g1 uX5_begin_5 (by decide) rfl (by decide) rfl (by decide +kernel) rfl rfl (tyX5_ok 2 (by decide)) dX5_begin_12 rfl rfl ?_
  refine hx_aload_n C dX5_begin_15 rfl (lv_at hl 0 rfl) ?_
  refine hx_iload C dX5_begin_16 (lv_at hl 4 rfl) ?_
  refine hx_puti C (ci := 5) (j := 3) tyX5 tyX5_ok nmX5 g1 uX5_begin_5 (by decide) rfl (by decide) rfl (by decide +kernel) rfl rfl (tyX5_ok 3 (by decide)) dX5_begin_18 rfl rfl ?_
  refine hx_aload_n C dX5_begin_21 rfl (lv_at hl 0 rfl) ?_
  refine hx_iload C dX5_begin_22 (lv_at hl 5 rfl) ?_
  refine hx_puti C (ci := 5) (j := 4) tyX5 tyX5_ok nmX5 g1 uX5_begin_5 (by decide) rfl (by decide) rfl (by decide +kernel) rfl rfl (tyX5_ok 4 (by decide)) dX5_begin_24 rfl rfl ?_
  refine hx_aload_n C dX5_begin_27 rfl (lv_at hl 0 rfl) ?_
  refine hx_iconst (v := 0) C dX5_begin_28 (by decide) ?_
  refine hx_puti C (ci := 5) (j := 5) tyX5 tyX5_ok nmX5 g1 uX5_begin_5 (by decide) rfl (by decide) rfl (by decide +kernel) rfl rfl (tyX5_ok 5 (by decide)) dX5_begin_29 rfl rfl ?_
  refine hx_aload_n C dX5_begin_32 rfl (lv_at hl 0 rfl) ?_
  refine hx_iconst (v := 0) C dX5_begin_33 (by decide) ?_
  refine hx_puti C (ci := 5) (j := 6) tyX5 tyX5_ok nmX5 g1 uX5_begin_5 (by decide) rfl (by decide) rfl (by decide +kernel) rfl rfl (tyX5_ok 6 (by decide)) dX5_begin_34 rfl rfl ?_
  obtain rfl := hx_some1 h
  exact hx_vret C hr dX5_begin_37
theorem uX0_placePrize_0 : ∀ w ∈ u_ws RX0 TX0 9, w ∈ wsX0_placePrize := by decide +kernel
def f_X0_placePrize (L : hL) (X : hX) (this : Nat) (a1 : Int32) (a2 : Int32) (a3 : Int32) (a4 : Int32) (a5 : Int32) : Option (Int32 × hX) :=
  (f_X9_within L X a1 1 5000).bind fun r1 =>
  if r1 = 0 then
    some ((-100001), X)
  else
    (f_X9_within L X a2 1 20000).bind fun r4 =>
    if r4 = 0 then
      some ((-100001), X)
    else
      (f_X9_within L X a3 0 99).bind fun r7 =>
      if r7 = 0 then
        some ((-100001), X)
      else
        (f_X9_within L X a4 1 100000).bind fun r10 =>
        if r10 = 0 then
          some ((-100001), X)
        else
          (f_X9_within L X a5 1 100000).bind fun r13 =>
          if r13 = 0 then
            some ((-100001), X)
          else
            if tk L this 0 then
            (f_X9_within L X (X.1 this 5) 0 5).bind fun r17 =>
            if r17 = 0 then
              some ((-100003), X)
            else
              (X.2 this 3).bind fun q20 =>
              if tk L q20 17 then
              if hin (X.1 this 5) (L.2.2 q20) then
              (X.2 q20 (Int32.toNatClampNeg (X.1 this 5))).bind fun q24 =>
              (f_X5_begin L X q24 a1 a2 a3 a4 a5).bind fun r26 =>
              if tk L q24 5 then
              some (((smi r26 this 5 ((r26.1 this 5) + 1)).1 this 5) - 1, smi r26 this 5 ((r26.1 this 5) + 1))
              else none
              else none
              else none
            else none
set_option maxRecDepth 100000 in
set_option maxHeartbeats 4000000 in
theorem c_X0_placePrize {l : Launch} {dC : Nat → ClassId} {dI : Nat → Nat → Nat} {cy : Nat → ClassId} {ad : Nat → Nat} {L : hL} {X : hX} {this : Nat} {a1 : Int32} {a2 : Int32} {a3 : Int32} {a4 : Int32} {a5 : Int32} {r : Int32} {X' : hX} (h : f_X0_placePrize L X this a1 a2 a3 a4 a5 = some (r, X')) : hMet l dC dI cy ad L yX0_placePrize wsX0_placePrize ({ frames := 1, cells := 0, slots := 0, locals := 25 } : Room) [.ref (ad this), .int a1, .int a2, .int a3, .int a4, .int a5] X (some (.int r)) X' := by
  unfold f_X0_placePrize at h
  refine hx_enter RX0 (plainFor_of_name (by decide)) rfl rfl (Nat.le_of_ble_eq_true rfl) (fun p e s m args below meth c C hr hnm ls hl => ?_)
  have hl : lv_has ls 6 [(0, .ref (ad this)), (1, .int a1), (2, .int a2), (3, .int a3), (4, .int a4), (5, .int a5)] := hl
  refine hx_iload_n C dX0_placePrize_0 rfl (lv_at hl 1 rfl) ?_
  refine hx_iconst (v := 1) C dX0_placePrize_1 (by decide) ?_
  refine hx_sipush (v := 5000) C dX0_placePrize_2 (by decide) ?_
  obtain ⟨r1, e2, h⟩ := hx_bind h
  refine hx_callSN (As := [.int a1, .int 1, .int 5000]) (rest := []) (n := 3) (host := "TicketScales") C (c_X9_within e2) gX0_placePrize_X9_within_n68 (by decide) (by decide +kernel) (by decide +kernel) (by decide +kernel) ⟨Nat.le_of_ble_eq_true rfl, Nat.le_of_ble_eq_true rfl⟩ rfl rfl rfl ⟨Nat.zero_le _, Nat.zero_le _⟩ hl.1 rfl rfl (Nat.le_of_ble_eq_true rfl) dX0_placePrize_5 ?_
  refine hx_if_eq (tgt := 32) C dX0_placePrize_8 (by decide) (fun c3 => ?_) (fun c3 => ?_)
  · have h := hx_pos c3 h
    refine hx_ldc (v := (-100001)) C (by decide +kernel) dX0_placePrize_32 ?_
    obtain ⟨rfl, rfl⟩ := hx_some2 h
    exact hx_iret C hr dX0_placePrize_34
  · have h := hx_neg c3 h
    refine hx_iload_n C dX0_placePrize_11 rfl (lv_at hl 2 rfl) ?_
    refine hx_iconst (v := 1) C dX0_placePrize_12 (by decide) ?_
    refine hx_sipush (v := 20000) C dX0_placePrize_13 (by decide) ?_
    obtain ⟨r4, e5, h⟩ := hx_bind h
    refine hx_callSN (As := [.int a2, .int 1, .int 20000]) (rest := []) (n := 3) (host := "TicketScales") C (c_X9_within e5) gX0_placePrize_X9_within_n68 (by decide) (by decide +kernel) (by decide +kernel) (by decide +kernel) ⟨Nat.le_of_ble_eq_true rfl, Nat.le_of_ble_eq_true rfl⟩ rfl rfl rfl ⟨Nat.zero_le _, Nat.zero_le _⟩ hl.1 rfl rfl (Nat.le_of_ble_eq_true rfl) dX0_placePrize_16 ?_
    refine hx_if_eq (tgt := 32) C dX0_placePrize_19 (by decide) (fun c6 => ?_) (fun c6 => ?_)
    · have h := hx_pos c6 h
      refine hx_ldc (v := (-100001)) C (by decide +kernel) dX0_placePrize_32 ?_
      obtain ⟨rfl, rfl⟩ := hx_some2 h
      exact hx_iret C hr dX0_placePrize_34
    · have h := hx_neg c6 h
      refine hx_iload_n C dX0_placePrize_22 rfl (lv_at hl 3 rfl) ?_
      refine hx_iconst (v := 0) C dX0_placePrize_23 (by decide) ?_
      refine hx_bipush (v := 99) C dX0_placePrize_24 (by decide) ?_
      obtain ⟨r7, e8, h⟩ := hx_bind h
      refine hx_callSN (As := [.int a3, .int 0, .int 99]) (rest := []) (n := 3) (host := "TicketScales") C (c_X9_within e8) gX0_placePrize_X9_within_n68 (by decide) (by decide +kernel) (by decide +kernel) (by decide +kernel) ⟨Nat.le_of_ble_eq_true rfl, Nat.le_of_ble_eq_true rfl⟩ rfl rfl rfl ⟨Nat.zero_le _, Nat.zero_le _⟩ hl.1 rfl rfl (Nat.le_of_ble_eq_true rfl) dX0_placePrize_26 ?_
      refine hx_if_ne (tgt := 35) C dX0_placePrize_29 (by decide) (fun c9 => ?_) (fun c9 => ?_)
      · have h := hx_neg c9 h
        refine hx_iload C dX0_placePrize_35 (lv_at hl 4 rfl) ?_
        refine hx_iconst (v := 1) C dX0_placePrize_37 (by decide) ?_
        refine hx_ldc (v := 100000) C (by decide +kernel) dX0_placePrize_38 ?_
        obtain ⟨r10, e11, h⟩ := hx_bind h
        refine hx_callSN (As := [.int a4, .int 1, .int 100000]) (rest := []) (n := 3) (host := "TicketScales") C (c_X9_within e11) gX0_placePrize_X9_within_n68 (by decide) (by decide +kernel) (by decide +kernel) (by decide +kernel) ⟨Nat.le_of_ble_eq_true rfl, Nat.le_of_ble_eq_true rfl⟩ rfl rfl rfl ⟨Nat.zero_le _, Nat.zero_le _⟩ hl.1 rfl rfl (Nat.le_of_ble_eq_true rfl) dX0_placePrize_40 ?_
        refine hx_if_eq (tgt := 57) C dX0_placePrize_43 (by decide) (fun c12 => ?_) (fun c12 => ?_)
        · have h := hx_pos c12 h
          refine hx_ldc (v := (-100001)) C (by decide +kernel) dX0_placePrize_57 ?_
          obtain ⟨rfl, rfl⟩ := hx_some2 h
          exact hx_iret C hr dX0_placePrize_59
        · have h := hx_neg c12 h
          refine hx_iload C dX0_placePrize_46 (lv_at hl 5 rfl) ?_
          refine hx_iconst (v := 1) C dX0_placePrize_48 (by decide) ?_
          refine hx_ldc (v := 100000) C (by decide +kernel) dX0_placePrize_49 ?_
          obtain ⟨r13, e14, h⟩ := hx_bind h
          refine hx_callSN (As := [.int a5, .int 1, .int 100000]) (rest := []) (n := 3) (host := "TicketScales") C (c_X9_within e14) gX0_placePrize_X9_within_n68 (by decide) (by decide +kernel) (by decide +kernel) (by decide +kernel) ⟨Nat.le_of_ble_eq_true rfl, Nat.le_of_ble_eq_true rfl⟩ rfl rfl rfl ⟨Nat.zero_le _, Nat.zero_le _⟩ hl.1 rfl rfl (Nat.le_of_ble_eq_true rfl) dX0_placePrize_51 ?_
          refine hx_if_ne (tgt := 60) C dX0_placePrize_54 (by decide) (fun c15 => ?_) (fun c15 => ?_)
          · have h := hx_neg c15 h
            refine hx_aload_n C dX0_placePrize_60 rfl (lv_at hl 0 rfl) ?_
            obtain ⟨g16, h⟩ := hx_gd h
            refine hx_geti C (ci := 0) (j := 5) g16 uX0_placePrize_0 (by decide) rfl (by decide) rfl (by decide +kernel) rfl dX0_placePrize_61 ?_
            refine hx_iconst (v := 0) C dX0_placePrize_64 (by decide) ?_
            refine hx_iconst (v := 5) C dX0_placePrize_65 (by decide) ?_
            obtain ⟨r17, e18, h⟩ := hx_bind h
            refine hx_callSN (As := [.int (X.1 this 5), .int 0, .int 5]) (rest := []) (n := 3) (host := "TicketScales") C (c_X9_within e18) gX0_placePrize_X9_within_n68 (by decide) (by decide +kernel) (by decide +kernel) (by decide +kernel) ⟨Nat.le_of_ble_eq_true rfl, Nat.le_of_ble_eq_true rfl⟩ rfl rfl rfl ⟨Nat.zero_le _, Nat.zero_le _⟩ hl.1 rfl rfl (Nat.le_of_ble_eq_true rfl) dX0_placePrize_66 ?_
            refine hx_if_ne (tgt := 75) C dX0_placePrize_69 (by decide) (fun c19 => ?_) (fun c19 => ?_)
            · have h := hx_neg c19 h
              refine hx_aload_n C dX0_placePrize_75 rfl (lv_at hl 0 rfl) ?_
              obtain ⟨q20, e21, h⟩ := hx_bind h
              refine hx_getr C (ci := 0) (j := 3) g16 uX0_placePrize_0 (by decide) rfl (by decide) rfl (by decide +kernel) rfl dX0_placePrize_76 e21 ?_
              refine hx_aload_n C dX0_placePrize_79 rfl (lv_at hl 0 rfl) ?_
              refine hx_geti C (ci := 0) (j := 5) g16 uX0_placePrize_0 (by decide) rfl (by decide) rfl (by decide +kernel) rfl dX0_placePrize_80 ?_
              obtain ⟨g22, h⟩ := hx_gd h
              obtain ⟨g23, h⟩ := hx_gd h
              obtain ⟨q24, e25, h⟩ := hx_bind h
              refine hx_aald (t0 := 6) C g22 (by decide) rfl g23 rfl e25 dX0_placePrize_83 ?_
              refine hx_iload_n C dX0_placePrize_84 rfl (lv_at hl 1 rfl) ?_
              refine hx_iload_n C dX0_placePrize_85 rfl (lv_at hl 2 rfl) ?_
              refine hx_iload_n C dX0_placePrize_86 rfl (lv_at hl 3 rfl) ?_
              refine hx_iload C dX0_placePrize_87 (lv_at hl 4 rfl) ?_
              refine hx_iload C dX0_placePrize_89 (lv_at hl 5 rfl) ?_
              obtain ⟨r26, e27, h⟩ := hx_bind h
              obtain ⟨g28, h⟩ := hx_gd h
              refine hx_callV (As := [.int a1, .int a2, .int a3, .int a4, .int a5]) (rest := []) (n := 5) (Cn := RX5) C (c_X5_begin e27) gX0_placePrize_X5_begin g28 (by decide) rfl (by decide +kernel) ⟨Nat.le_of_ble_eq_true rfl, Nat.le_of_ble_eq_true rfl⟩ rfl rfl rfl ⟨Nat.zero_le _, Nat.zero_le _⟩ hl.1 rfl rfl (Nat.le_of_ble_eq_true rfl) dX0_placePrize_91 ?_
              refine hx_aload_n C dX0_placePrize_94 rfl (lv_at hl 0 rfl) ?_
              refine hx_dup C dX0_placePrize_95 rfl ?_
              refine hx_geti C (ci := 0) (j := 5) g16 uX0_placePrize_0 (by decide) rfl (by decide) rfl (by decide +kernel) rfl dX0_placePrize_96 ?_
              refine hx_iconst (v := 1) C dX0_placePrize_99 (by decide) ?_
              refine hx_iadd C dX0_placePrize_100 ?_
              refine hx_puti C (ci := 0) (j := 5) tyX0 tyX0_ok nmX0 g16 uX0_placePrize_0 (by decide) rfl (by decide) rfl (by decide +kernel) rfl rfl (tyX0_ok 5 (by decide)) dX0_placePrize_101 rfl rfl ?_
              refine hx_aload_n C dX0_placePrize_104 rfl (lv_at hl 0 rfl) ?_
              refine hx_geti C (ci := 0) (j := 5) g16 uX0_placePrize_0 (by decide) rfl (by decide) rfl (by decide +kernel) rfl dX0_placePrize_105 ?_
              refine hx_iconst (v := 1) C dX0_placePrize_108 (by decide) ?_
              refine hx_isub C dX0_placePrize_109 ?_
              obtain ⟨rfl, rfl⟩ := hx_some2 h
              exact hx_iret C hr dX0_placePrize_110
            · have h := hx_pos c19 h
              refine hx_ldc (v := (-100003)) C (by decide +kernel) dX0_placePrize_72 ?_
              obtain ⟨rfl, rfl⟩ := hx_some2 h
              exact hx_iret C hr dX0_placePrize_74
          · have h := hx_pos c15 h
            refine hx_ldc (v := (-100001)) C (by decide +kernel) dX0_placePrize_57 ?_
            obtain ⟨rfl, rfl⟩ := hx_some2 h
            exact hx_iret C hr dX0_placePrize_59
      · have h := hx_pos c9 h
        refine hx_ldc (v := (-100001)) C (by decide +kernel) dX0_placePrize_32 ?_
        obtain ⟨rfl, rfl⟩ := hx_some2 h
        exact hx_iret C hr dX0_placePrize_34
theorem uX5_sell_5 : ∀ w ∈ u_ws RX5 TX5 7, w ∈ wsX5_sell := by decide +kernel
def f_X5_sell (L : hL) (X : hX) (this : Nat) (a1 : Int32) : Option (hX) :=
  if tk L this 5 then
  (f_X9_quotient L (smi (smi X this 2 ((X.1 this 2) - a1)) this 5 (((smi X this 2 ((X.1 this 2) - a1)).1 this 5) + (a1 * ((smi X this 2 ((X.1 this 2) - a1)).1 this 1)))) ((smi (smi X this 2 ((X.1 this 2) - a1)) this 5 (((smi X this 2 ((X.1 this 2) - a1)).1 this 5) + (a1 * ((smi X this 2 ((X.1 this 2) - a1)).1 this 1)))).1 this 5) ((smi (smi X this 2 ((X.1 this 2) - a1)) this 5 (((smi X this 2 ((X.1 this 2) - a1)).1 this 5) + (a1 * ((smi X this 2 ((X.1 this 2) - a1)).1 this 1)))).1 this 3)).bind fun r2 =>
  (f_X9_quotient L (smi (smi (smi (smi X this 2 ((X.1 this 2) - a1)) this 5 (((smi X this 2 ((X.1 this 2) - a1)).1 this 5) + (a1 * ((smi X this 2 ((X.1 this 2) - a1)).1 this 1)))) this 5 (((smi (smi X this 2 ((X.1 this 2) - a1)) this 5 (((smi X this 2 ((X.1 this 2) - a1)).1 this 5) + (a1 * ((smi X this 2 ((X.1 this 2) - a1)).1 this 1)))).1 this 5) - (r2 * ((smi (smi X this 2 ((X.1 this 2) - a1)) this 5 (((smi X this 2 ((X.1 this 2) - a1)).1 this 5) + (a1 * ((smi X this 2 ((X.1 this 2) - a1)).1 this 1)))).1 this 3)))) this 6 (((smi (smi (smi X this 2 ((X.1 this 2) - a1)) this 5 (((smi X this 2 ((X.1 this 2) - a1)).1 this 5) + (a1 * ((smi X this 2 ((X.1 this 2) - a1)).1 this 1)))) this 5 (((smi (smi X this 2 ((X.1 this 2) - a1)) this 5 (((smi X this 2 ((X.1 this 2) - a1)).1 this 5) + (a1 * ((smi X this 2 ((X.1 this 2) - a1)).1 this 1)))).1 this 5) - (r2 * ((smi (smi X this 2 ((X.1 this 2) - a1)) this 5 (((smi X this 2 ((X.1 this 2) - a1)).1 this 5) + (a1 * ((smi X this 2 ((X.1 this 2) - a1)).1 this 1)))).1 this 3)))).1 this 6) + r2)) ((smi (smi (smi (smi X this 2 ((X.1 this 2) - a1)) this 5 (((smi X this 2 ((X.1 this 2) - a1)).1 this 5) + (a1 * ((smi X this 2 ((X.1 this 2) - a1)).1 this 1)))) this 5 (((smi (smi X this 2 ((X.1 this 2) - a1)) this 5 (((smi X this 2 ((X.1 this 2) - a1)).1 this 5) + (a1 * ((smi X this 2 ((X.1 this 2) - a1)).1 this 1)))).1 this 5) - (r2 * ((smi (smi X this 2 ((X.1 this 2) - a1)) this 5 (((smi X this 2 ((X.1 this 2) - a1)).1 this 5) + (a1 * ((smi X this 2 ((X.1 this 2) - a1)).1 this 1)))).1 this 3)))) this 6 (((smi (smi (smi X this 2 ((X.1 this 2) - a1)) this 5 (((smi X this 2 ((X.1 this 2) - a1)).1 this 5) + (a1 * ((smi X this 2 ((X.1 this 2) - a1)).1 this 1)))) this 5 (((smi (smi X this 2 ((X.1 this 2) - a1)) this 5 (((smi X this 2 ((X.1 this 2) - a1)).1 this 5) + (a1 * ((smi X this 2 ((X.1 this 2) - a1)).1 this 1)))).1 this 5) - (r2 * ((smi (smi X this 2 ((X.1 this 2) - a1)) this 5 (((smi X this 2 ((X.1 this 2) - a1)).1 this 5) + (a1 * ((smi X this 2 ((X.1 this 2) - a1)).1 this 1)))).1 this 3)))).1 this 6) + r2)).1 this 4) ((smi (smi (smi (smi X this 2 ((X.1 this 2) - a1)) this 5 (((smi X this 2 ((X.1 this 2) - a1)).1 this 5) + (a1 * ((smi X this 2 ((X.1 this 2) - a1)).1 this 1)))) this 5 (((smi (smi X this 2 ((X.1 this 2) - a1)) this 5 (((smi X this 2 ((X.1 this 2) - a1)).1 this 5) + (a1 * ((smi X this 2 ((X.1 this 2) - a1)).1 this 1)))).1 this 5) - (r2 * ((smi (smi X this 2 ((X.1 this 2) - a1)) this 5 (((smi X this 2 ((X.1 this 2) - a1)).1 this 5) + (a1 * ((smi X this 2 ((X.1 this 2) - a1)).1 this 1)))).1 this 3)))) this 6 (((smi (smi (smi X this 2 ((X.1 this 2) - a1)) this 5 (((smi X this 2 ((X.1 this 2) - a1)).1 this 5) + (a1 * ((smi X this 2 ((X.1 this 2) - a1)).1 this 1)))) this 5 (((smi (smi X this 2 ((X.1 this 2) - a1)) this 5 (((smi X this 2 ((X.1 this 2) - a1)).1 this 5) + (a1 * ((smi X this 2 ((X.1 this 2) - a1)).1 this 1)))).1 this 5) - (r2 * ((smi (smi X this 2 ((X.1 this 2) - a1)) this 5 (((smi X this 2 ((X.1 this 2) - a1)).1 this 5) + (a1 * ((smi X this 2 ((X.1 this 2) - a1)).1 this 1)))).1 this 3)))).1 this 6) + r2)).1 this 1)).bind fun r4 =>
  some (smi (smi (smi (smi (smi X this 2 ((X.1 this 2) - a1)) this 5 (((smi X this 2 ((X.1 this 2) - a1)).1 this 5) + (a1 * ((smi X this 2 ((X.1 this 2) - a1)).1 this 1)))) this 5 (((smi (smi X this 2 ((X.1 this 2) - a1)) this 5 (((smi X this 2 ((X.1 this 2) - a1)).1 this 5) + (a1 * ((smi X this 2 ((X.1 this 2) - a1)).1 this 1)))).1 this 5) - (r2 * ((smi (smi X this 2 ((X.1 this 2) - a1)) this 5 (((smi X this 2 ((X.1 this 2) - a1)).1 this 5) + (a1 * ((smi X this 2 ((X.1 this 2) - a1)).1 this 1)))).1 this 3)))) this 6 (((smi (smi (smi X this 2 ((X.1 this 2) - a1)) this 5 (((smi X this 2 ((X.1 this 2) - a1)).1 this 5) + (a1 * ((smi X this 2 ((X.1 this 2) - a1)).1 this 1)))) this 5 (((smi (smi X this 2 ((X.1 this 2) - a1)) this 5 (((smi X this 2 ((X.1 this 2) - a1)).1 this 5) + (a1 * ((smi X this 2 ((X.1 this 2) - a1)).1 this 1)))).1 this 5) - (r2 * ((smi (smi X this 2 ((X.1 this 2) - a1)) this 5 (((smi X this 2 ((X.1 this 2) - a1)).1 this 5) + (a1 * ((smi X this 2 ((X.1 this 2) - a1)).1 this 1)))).1 this 3)))).1 this 6) + r2)) this 2 (if (((smi (smi (smi (smi X this 2 ((X.1 this 2) - a1)) this 5 (((smi X this 2 ((X.1 this 2) - a1)).1 this 5) + (a1 * ((smi X this 2 ((X.1 this 2) - a1)).1 this 1)))) this 5 (((smi (smi X this 2 ((X.1 this 2) - a1)) this 5 (((smi X this 2 ((X.1 this 2) - a1)).1 this 5) + (a1 * ((smi X this 2 ((X.1 this 2) - a1)).1 this 1)))).1 this 5) - (r2 * ((smi (smi X this 2 ((X.1 this 2) - a1)) this 5 (((smi X this 2 ((X.1 this 2) - a1)).1 this 5) + (a1 * ((smi X this 2 ((X.1 this 2) - a1)).1 this 1)))).1 this 3)))) this 6 (((smi (smi (smi X this 2 ((X.1 this 2) - a1)) this 5 (((smi X this 2 ((X.1 this 2) - a1)).1 this 5) + (a1 * ((smi X this 2 ((X.1 this 2) - a1)).1 this 1)))) this 5 (((smi (smi X this 2 ((X.1 this 2) - a1)) this 5 (((smi X this 2 ((X.1 this 2) - a1)).1 this 5) + (a1 * ((smi X this 2 ((X.1 this 2) - a1)).1 this 1)))).1 this 5) - (r2 * ((smi (smi X this 2 ((X.1 this 2) - a1)) this 5 (((smi X this 2 ((X.1 this 2) - a1)).1 this 5) + (a1 * ((smi X this 2 ((X.1 this 2) - a1)).1 this 1)))).1 this 3)))).1 this 6) + r2)).1 this 2) + (r2 * r4)) < 99 then (((smi (smi (smi (smi X this 2 ((X.1 this 2) - a1)) this 5 (((smi X this 2 ((X.1 this 2) - a1)).1 this 5) + (a1 * ((smi X this 2 ((X.1 this 2) - a1)).1 this 1)))) this 5 (((smi (smi X this 2 ((X.1 this 2) - a1)) this 5 (((smi X this 2 ((X.1 this 2) - a1)).1 this 5) + (a1 * ((smi X this 2 ((X.1 this 2) - a1)).1 this 1)))).1 this 5) - (r2 * ((smi (smi X this 2 ((X.1 this 2) - a1)) this 5 (((smi X this 2 ((X.1 this 2) - a1)).1 this 5) + (a1 * ((smi X this 2 ((X.1 this 2) - a1)).1 this 1)))).1 this 3)))) this 6 (((smi (smi (smi X this 2 ((X.1 this 2) - a1)) this 5 (((smi X this 2 ((X.1 this 2) - a1)).1 this 5) + (a1 * ((smi X this 2 ((X.1 this 2) - a1)).1 this 1)))) this 5 (((smi (smi X this 2 ((X.1 this 2) - a1)) this 5 (((smi X this 2 ((X.1 this 2) - a1)).1 this 5) + (a1 * ((smi X this 2 ((X.1 this 2) - a1)).1 this 1)))).1 this 5) - (r2 * ((smi (smi X this 2 ((X.1 this 2) - a1)) this 5 (((smi X this 2 ((X.1 this 2) - a1)).1 this 5) + (a1 * ((smi X this 2 ((X.1 this 2) - a1)).1 this 1)))).1 this 3)))).1 this 6) + r2)).1 this 2) + (r2 * r4)) else 99))
  else none
set_option maxRecDepth 100000 in
set_option maxHeartbeats 4000000 in
theorem c_X5_sell {l : Launch} {dC : Nat → ClassId} {dI : Nat → Nat → Nat} {cy : Nat → ClassId} {ad : Nat → Nat} {L : hL} {X : hX} {this : Nat} {a1 : Int32} {X' : hX} (h : f_X5_sell L X this a1 = some X') : hMet l dC dI cy ad L yX5_sell wsX5_sell ({ frames := 2, cells := 0, slots := 0, locals := 43 } : Room) [.ref (ad this), .int a1] X none X' := by
  unfold f_X5_sell at h
  refine hx_enter RX5 (plainFor_of_name (by decide)) rfl rfl (Nat.le_of_ble_eq_true rfl) (fun p e s m args below meth c C hr hnm ls hl => ?_)
  have hl : lv_has ls 3 [(0, .ref (ad this)), (1, .int a1)] := hl
  refine hx_aload_n C dX5_sell_0 rfl (lv_at hl 0 rfl) ?_
  refine hx_dup C dX5_sell_1 rfl ?_
  obtain ⟨g1, h⟩ := hx_gd h
  refine hx_geti C (ci := 5) (j := 2) g1 uX5_sell_5 (by decide) rfl (by decide) rfl (by decide +kernel) rfl dX5_sell_2 ?_
  refine hx_iload_n C dX5_sell_5 rfl (lv_at hl 1 rfl) ?_
  refine hx_isub C dX5_sell_6 ?_
  refine hx_puti C (ci := 5) (j := 2) tyX5 tyX5_ok nmX5 g1 uX5_sell_5 (by decide) rfl (by decide) rfl (by decide +kernel) rfl rfl (tyX5_ok 2 (by decide)) dX5_sell_7 rfl rfl ?_
  refine hx_aload_n C dX5_sell_10 rfl (lv_at hl 0 rfl) ?_
  refine hx_dup C dX5_sell_11 rfl ?_
  refine hx_geti C (ci := 5) (j := 5) g1 uX5_sell_5 (by decide) rfl (by decide) rfl (by decide +kernel) rfl dX5_sell_12 ?_
  refine hx_iload_n C dX5_sell_15 rfl (lv_at hl 1 rfl) ?_
  refine hx_aload_n C dX5_sell_16 rfl (lv_at hl 0 rfl) ?_
  refine hx_geti C (ci := 5) (j := 1) g1 uX5_sell_5 (by decide) rfl (by decide) rfl (by decide +kernel) rfl dX5_sell_17 ?_
  refine hx_imul C dX5_sell_20 ?_
  refine hx_iadd C dX5_sell_21 ?_
  refine hx_puti C (ci := 5) (j := 5) tyX5 tyX5_ok nmX5 g1 uX5_sell_5 (by decide) rfl (by decide) rfl (by decide +kernel) rfl rfl (tyX5_ok 5 (by decide)) dX5_sell_22 rfl rfl ?_
  refine hx_aload_n C dX5_sell_25 rfl (lv_at hl 0 rfl) ?_
  refine hx_geti C (ci := 5) (j := 5) g1 uX5_sell_5 (by decide) rfl (by decide) rfl (by decide +kernel) rfl dX5_sell_26 ?_
  refine hx_aload_n C dX5_sell_29 rfl (lv_at hl 0 rfl) ?_
  refine hx_geti C (ci := 5) (j := 3) g1 uX5_sell_5 (by decide) rfl (by decide) rfl (by decide +kernel) rfl dX5_sell_30 ?_
  obtain ⟨r2, e3, h⟩ := hx_bind h
  refine hx_callSN (As := [.int ((smi (smi X this 2 ((X.1 this 2) - a1)) this 5 (((smi X this 2 ((X.1 this 2) - a1)).1 this 5) + (a1 * ((smi X this 2 ((X.1 this 2) - a1)).1 this 1)))).1 this 5), .int ((smi (smi X this 2 ((X.1 this 2) - a1)) this 5 (((smi X this 2 ((X.1 this 2) - a1)).1 this 5) + (a1 * ((smi X this 2 ((X.1 this 2) - a1)).1 this 1)))).1 this 3)]) (rest := []) (n := 2) (host := "TicketScales") C (c_X9_quotient e3) gX5_sell_X9_quotient_n33 (by decide) (by decide +kernel) (by decide +kernel) (by decide +kernel) ⟨Nat.le_of_ble_eq_true rfl, Nat.le_of_ble_eq_true rfl⟩ rfl rfl rfl ⟨Nat.zero_le _, Nat.zero_le _⟩ hl.1 rfl rfl (Nat.le_of_ble_eq_true rfl) dX5_sell_33 ?_
  refine hx_istore_n (lv' := [(2, .int r2), (0, .ref (ad this)), (1, .int a1)]) C dX5_sell_36 rfl hl (by decide) rfl (fun ls hl => ?_)
  refine hx_aload_n C dX5_sell_37 rfl (lv_at hl 1 rfl) ?_
  refine hx_dup C dX5_sell_38 rfl ?_
  refine hx_geti C (ci := 5) (j := 5) g1 uX5_sell_5 (by decide) rfl (by decide) rfl (by decide +kernel) rfl dX5_sell_39 ?_
  refine hx_iload_n C dX5_sell_42 rfl (lv_at hl 0 rfl) ?_
  refine hx_aload_n C dX5_sell_43 rfl (lv_at hl 1 rfl) ?_
  refine hx_geti C (ci := 5) (j := 3) g1 uX5_sell_5 (by decide) rfl (by decide) rfl (by decide +kernel) rfl dX5_sell_44 ?_
  refine hx_imul C dX5_sell_47 ?_
  refine hx_isub C dX5_sell_48 ?_
  refine hx_puti C (ci := 5) (j := 5) tyX5 tyX5_ok nmX5 g1 uX5_sell_5 (by decide) rfl (by decide) rfl (by decide +kernel) rfl rfl (tyX5_ok 5 (by decide)) dX5_sell_49 rfl rfl ?_
  refine hx_aload_n C dX5_sell_52 rfl (lv_at hl 1 rfl) ?_
  refine hx_dup C dX5_sell_53 rfl ?_
  refine hx_geti C (ci := 5) (j := 6) g1 uX5_sell_5 (by decide) rfl (by decide) rfl (by decide +kernel) rfl dX5_sell_54 ?_
  refine hx_iload_n C dX5_sell_57 rfl (lv_at hl 0 rfl) ?_
  refine hx_iadd C dX5_sell_58 ?_
  refine hx_puti C (ci := 5) (j := 6) tyX5 tyX5_ok nmX5 g1 uX5_sell_5 (by decide) rfl (by decide) rfl (by decide +kernel) rfl rfl (tyX5_ok 6 (by decide)) dX5_sell_59 rfl rfl ?_
  refine hx_aload_n C dX5_sell_62 rfl (lv_at hl 1 rfl) ?_
  refine hx_bipush (v := 99) C dX5_sell_63 (by decide) ?_
  refine hx_aload_n C dX5_sell_65 rfl (lv_at hl 1 rfl) ?_
  refine hx_geti C (ci := 5) (j := 2) g1 uX5_sell_5 (by decide) rfl (by decide) rfl (by decide +kernel) rfl dX5_sell_66 ?_
  refine hx_iload_n C dX5_sell_69 rfl (lv_at hl 0 rfl) ?_
  refine hx_aload_n C dX5_sell_70 rfl (lv_at hl 1 rfl) ?_
  refine hx_geti C (ci := 5) (j := 4) g1 uX5_sell_5 (by decide) rfl (by decide) rfl (by decide +kernel) rfl dX5_sell_71 ?_
  refine hx_aload_n C dX5_sell_74 rfl (lv_at hl 1 rfl) ?_
  refine hx_geti C (ci := 5) (j := 1) g1 uX5_sell_5 (by decide) rfl (by decide) rfl (by decide +kernel) rfl dX5_sell_75 ?_
  obtain ⟨r4, e5, h⟩ := hx_bind h
  refine hx_callSN (As := [.int ((smi (smi (smi (smi X this 2 ((X.1 this 2) - a1)) this 5 (((smi X this 2 ((X.1 this 2) - a1)).1 this 5) + (a1 * ((smi X this 2 ((X.1 this 2) - a1)).1 this 1)))) this 5 (((smi (smi X this 2 ((X.1 this 2) - a1)) this 5 (((smi X this 2 ((X.1 this 2) - a1)).1 this 5) + (a1 * ((smi X this 2 ((X.1 this 2) - a1)).1 this 1)))).1 this 5) - (r2 * ((smi (smi X this 2 ((X.1 this 2) - a1)) this 5 (((smi X this 2 ((X.1 this 2) - a1)).1 this 5) + (a1 * ((smi X this 2 ((X.1 this 2) - a1)).1 this 1)))).1 this 3)))) this 6 (((smi (smi (smi X this 2 ((X.1 this 2) - a1)) this 5 (((smi X this 2 ((X.1 this 2) - a1)).1 this 5) + (a1 * ((smi X this 2 ((X.1 this 2) - a1)).1 this 1)))) this 5 (((smi (smi X this 2 ((X.1 this 2) - a1)) this 5 (((smi X this 2 ((X.1 this 2) - a1)).1 this 5) + (a1 * ((smi X this 2 ((X.1 this 2) - a1)).1 this 1)))).1 this 5) - (r2 * ((smi (smi X this 2 ((X.1 this 2) - a1)) this 5 (((smi X this 2 ((X.1 this 2) - a1)).1 this 5) + (a1 * ((smi X this 2 ((X.1 this 2) - a1)).1 this 1)))).1 this 3)))).1 this 6) + r2)).1 this 4), .int ((smi (smi (smi (smi X this 2 ((X.1 this 2) - a1)) this 5 (((smi X this 2 ((X.1 this 2) - a1)).1 this 5) + (a1 * ((smi X this 2 ((X.1 this 2) - a1)).1 this 1)))) this 5 (((smi (smi X this 2 ((X.1 this 2) - a1)) this 5 (((smi X this 2 ((X.1 this 2) - a1)).1 this 5) + (a1 * ((smi X this 2 ((X.1 this 2) - a1)).1 this 1)))).1 this 5) - (r2 * ((smi (smi X this 2 ((X.1 this 2) - a1)) this 5 (((smi X this 2 ((X.1 this 2) - a1)).1 this 5) + (a1 * ((smi X this 2 ((X.1 this 2) - a1)).1 this 1)))).1 this 3)))) this 6 (((smi (smi (smi X this 2 ((X.1 this 2) - a1)) this 5 (((smi X this 2 ((X.1 this 2) - a1)).1 this 5) + (a1 * ((smi X this 2 ((X.1 this 2) - a1)).1 this 1)))) this 5 (((smi (smi X this 2 ((X.1 this 2) - a1)) this 5 (((smi X this 2 ((X.1 this 2) - a1)).1 this 5) + (a1 * ((smi X this 2 ((X.1 this 2) - a1)).1 this 1)))).1 this 5) - (r2 * ((smi (smi X this 2 ((X.1 this 2) - a1)) this 5 (((smi X this 2 ((X.1 this 2) - a1)).1 this 5) + (a1 * ((smi X this 2 ((X.1 this 2) - a1)).1 this 1)))).1 this 3)))).1 this 6) + r2)).1 this 1)]) (rest := [.int r2, .int ((smi (smi (smi (smi X this 2 ((X.1 this 2) - a1)) this 5 (((smi X this 2 ((X.1 this 2) - a1)).1 this 5) + (a1 * ((smi X this 2 ((X.1 this 2) - a1)).1 this 1)))) this 5 (((smi (smi X this 2 ((X.1 this 2) - a1)) this 5 (((smi X this 2 ((X.1 this 2) - a1)).1 this 5) + (a1 * ((smi X this 2 ((X.1 this 2) - a1)).1 this 1)))).1 this 5) - (r2 * ((smi (smi X this 2 ((X.1 this 2) - a1)) this 5 (((smi X this 2 ((X.1 this 2) - a1)).1 this 5) + (a1 * ((smi X this 2 ((X.1 this 2) - a1)).1 this 1)))).1 this 3)))) this 6 (((smi (smi (smi X this 2 ((X.1 this 2) - a1)) this 5 (((smi X this 2 ((X.1 this 2) - a1)).1 this 5) + (a1 * ((smi X this 2 ((X.1 this 2) - a1)).1 this 1)))) this 5 (((smi (smi X this 2 ((X.1 this 2) - a1)) this 5 (((smi X this 2 ((X.1 this 2) - a1)).1 this 5) + (a1 * ((smi X this 2 ((X.1 this 2) - a1)).1 this 1)))).1 this 5) - (r2 * ((smi (smi X this 2 ((X.1 this 2) - a1)) this 5 (((smi X this 2 ((X.1 this 2) - a1)).1 this 5) + (a1 * ((smi X this 2 ((X.1 this 2) - a1)).1 this 1)))).1 this 3)))).1 this 6) + r2)).1 this 2), .int 99, .ref (ad this)]) (n := 2) (host := "TicketScales") C (c_X9_quotient e5) gX5_sell_X9_quotient_n33 (by decide) (by decide +kernel) (by decide +kernel) (by decide +kernel) ⟨Nat.le_of_ble_eq_true rfl, Nat.le_of_ble_eq_true rfl⟩ rfl rfl rfl ⟨Nat.zero_le _, Nat.zero_le _⟩ hl.1 rfl rfl (Nat.le_of_ble_eq_true rfl) dX5_sell_78 ?_
  refine hx_imul C dX5_sell_81 ?_
  refine hx_iadd C dX5_sell_82 ?_
  refine hx_mmin C (by decide +kernel) (by decide +kernel) (by decide +kernel) (by decide +kernel) hl.1 (Nat.le_of_ble_eq_true rfl) (Nat.le_of_ble_eq_true rfl) (Nat.zero_le _) (Nat.zero_le _) dX5_sell_83 ?_
  refine hx_puti C (ci := 5) (j := 2) tyX5 tyX5_ok nmX5 g1 uX5_sell_5 (by decide) rfl (by decide) rfl (by decide +kernel) rfl rfl (tyX5_ok 2 (by decide)) dX5_sell_86 rfl rfl ?_
  obtain rfl := hx_some1 h
  exact hx_vret C hr dX5_sell_89
theorem uX0_sellPrize_1 : ∀ w ∈ u_ws RX1 TX1 6, w ∈ wsX0_sellPrize := by decide +kernel
theorem uX0_sellPrize_5 : ∀ w ∈ u_ws RX5 TX5 7, w ∈ wsX0_sellPrize := by decide +kernel
def f_X0_sellPrize (L : hL) (X : hX) (this : Nat) (a1 : Int32) (a2 : Int32) (a3 : Int32) : Option (Int32 × hX) :=
  (f_X0_customerAt L X this a1).bind fun r1 =>
  if tk L this 0 then
  Option.elim r1
  (
    (f_X0_prizeAt L X this a2).bind fun r5 =>
    Option.elim r5
    (
      some ((-100001), X))
    fun i7 =>
      some ((-100001), X))
  fun i4 =>
    (f_X0_prizeAt L X this a2).bind fun r8 =>
    Option.elim r8
    (
      some ((-100001), X))
    fun i10 =>
      (f_X9_within L X a3 1 99).bind fun r11 =>
      if r11 = 0 then
        some ((-100001), X)
      else
        if tk L i4 1 then
        if tk L i10 5 then
        if (a3 * (X.1 i10 0)) ≤ (X.1 i4 0) then
          if a3 ≤ (X.1 i10 2) then
            (f_X5_sell L (smi X i4 0 ((X.1 i4 0) - (a3 * (X.1 i10 0)))) i10 a3).bind fun r18 =>
            some (r18.1 i4 0, r18)
          else
            some ((-100003), X)
        else
          some ((-100002), X)
        else none
        else none
  else none
set_option maxRecDepth 100000 in
set_option maxHeartbeats 4000000 in
theorem c_X0_sellPrize {l : Launch} {dC : Nat → ClassId} {dI : Nat → Nat → Nat} {cy : Nat → ClassId} {ad : Nat → Nat} {L : hL} {X : hX} {this : Nat} {a1 : Int32} {a2 : Int32} {a3 : Int32} {r : Int32} {X' : hX} (h : f_X0_sellPrize L X this a1 a2 a3 = some (r, X')) : hMet l dC dI cy ad L yX0_sellPrize wsX0_sellPrize ({ frames := 3, cells := 0, slots := 0, locals := 65 } : Room) [.ref (ad this), .int a1, .int a2, .int a3] X (some (.int r)) X' := by
  unfold f_X0_sellPrize at h
  refine hx_enter RX0 (plainFor_of_name (by decide)) rfl rfl (Nat.le_of_ble_eq_true rfl) (fun p e s m args below meth c C hr hnm ls hl => ?_)
  have hl : lv_has ls 6 [(0, .ref (ad this)), (1, .int a1), (2, .int a2), (3, .int a3)] := hl
  refine hx_aload_n C dX0_sellPrize_0 rfl (lv_at hl 0 rfl) ?_
  refine hx_iload_n C dX0_sellPrize_1 rfl (lv_at hl 1 rfl) ?_
  obtain ⟨r1, e2, h⟩ := hx_bind h
  obtain ⟨g3, h⟩ := hx_gd h
  refine hx_callV (As := [.int a1]) (rest := []) (n := 1) (Cn := RX0) C (c_X0_customerAt e2) gX0_sellPrize_X0_customerAt g3 (by decide) rfl (by decide +kernel) ⟨Nat.le_of_ble_eq_true rfl, Nat.le_of_ble_eq_true rfl⟩ rfl rfl rfl ⟨Nat.zero_le _, Nat.zero_le _⟩ hl.1 rfl rfl (Nat.le_of_ble_eq_true rfl) dX0_sellPrize_2 ?_
  rcases r1 with _ | i4
  · have h := hx_eln h
    refine hx_astoreN (lv' := [(4, .null), (0, .ref (ad this)), (1, .int a1), (2, .int a2), (3, .int a3)]) C dX0_sellPrize_5 hl (by decide) rfl (fun ls hl => ?_)
    refine hx_aload_n C dX0_sellPrize_7 rfl (lv_at hl 1 rfl) ?_
    refine hx_iload_n C dX0_sellPrize_8 rfl (lv_at hl 3 rfl) ?_
    obtain ⟨r5, e6, h⟩ := hx_bind h
    refine hx_callV (As := [.int a2]) (rest := []) (n := 1) (Cn := RX0) C (c_X0_prizeAt e6) gX0_sellPrize_X0_prizeAt g3 (by decide) rfl (by decide +kernel) ⟨Nat.le_of_ble_eq_true rfl, Nat.le_of_ble_eq_true rfl⟩ rfl rfl rfl ⟨Nat.zero_le _, Nat.zero_le _⟩ hl.1 rfl rfl (Nat.le_of_ble_eq_true rfl) dX0_sellPrize_9 ?_
    rcases r5 with _ | i7
    · have h := hx_eln h
      refine hx_astoreN (lv' := [(5, .null), (4, .null), (0, .ref (ad this)), (1, .int a1), (2, .int a2), (3, .int a3)]) C dX0_sellPrize_12 hl (by decide) rfl (fun ls hl => ?_)
      refine hx_aloadN C dX0_sellPrize_14 (lv_at hl 1 rfl) ?_
      refine hx_ifnullN (tgt := 34) C dX0_sellPrize_16 (by decide) ?_
      refine hx_ldc (v := (-100001)) C (by decide +kernel) dX0_sellPrize_34 ?_
      obtain ⟨rfl, rfl⟩ := hx_some2 h
      exact hx_iret C hr dX0_sellPrize_36
    · have h := hx_els h
      refine hx_astore (lv' := [(5, .ref (ad i7)), (4, .null), (0, .ref (ad this)), (1, .int a1), (2, .int a2), (3, .int a3)]) C dX0_sellPrize_12 hl (by decide) rfl (fun ls hl => ?_)
      refine hx_aloadN C dX0_sellPrize_14 (lv_at hl 1 rfl) ?_
      refine hx_ifnullN (tgt := 34) C dX0_sellPrize_16 (by decide) ?_
      refine hx_ldc (v := (-100001)) C (by decide +kernel) dX0_sellPrize_34 ?_
      obtain ⟨rfl, rfl⟩ := hx_some2 h
      exact hx_iret C hr dX0_sellPrize_36
  · have h := hx_els h
    refine hx_astore (lv' := [(4, .ref (ad i4)), (0, .ref (ad this)), (1, .int a1), (2, .int a2), (3, .int a3)]) C dX0_sellPrize_5 hl (by decide) rfl (fun ls hl => ?_)
    refine hx_aload_n C dX0_sellPrize_7 rfl (lv_at hl 1 rfl) ?_
    refine hx_iload_n C dX0_sellPrize_8 rfl (lv_at hl 3 rfl) ?_
    obtain ⟨r8, e9, h⟩ := hx_bind h
    refine hx_callV (As := [.int a2]) (rest := []) (n := 1) (Cn := RX0) C (c_X0_prizeAt e9) gX0_sellPrize_X0_prizeAt g3 (by decide) rfl (by decide +kernel) ⟨Nat.le_of_ble_eq_true rfl, Nat.le_of_ble_eq_true rfl⟩ rfl rfl rfl ⟨Nat.zero_le _, Nat.zero_le _⟩ hl.1 rfl rfl (Nat.le_of_ble_eq_true rfl) dX0_sellPrize_9 ?_
    rcases r8 with _ | i10
    · have h := hx_eln h
      refine hx_astoreN (lv' := [(5, .null), (4, .ref (ad i4)), (0, .ref (ad this)), (1, .int a1), (2, .int a2), (3, .int a3)]) C dX0_sellPrize_12 hl (by decide) rfl (fun ls hl => ?_)
      refine hx_aload C dX0_sellPrize_14 (lv_at hl 1 rfl) ?_
      refine hx_ifnull C dX0_sellPrize_16 ?_
      refine hx_aloadN C dX0_sellPrize_19 (lv_at hl 0 rfl) ?_
      refine hx_ifnullN (tgt := 34) C dX0_sellPrize_21 (by decide) ?_
      refine hx_ldc (v := (-100001)) C (by decide +kernel) dX0_sellPrize_34 ?_
      obtain ⟨rfl, rfl⟩ := hx_some2 h
      exact hx_iret C hr dX0_sellPrize_36
    · have h := hx_els h
      refine hx_astore (lv' := [(5, .ref (ad i10)), (4, .ref (ad i4)), (0, .ref (ad this)), (1, .int a1), (2, .int a2), (3, .int a3)]) C dX0_sellPrize_12 hl (by decide) rfl (fun ls hl => ?_)
      refine hx_aload C dX0_sellPrize_14 (lv_at hl 1 rfl) ?_
      refine hx_ifnull C dX0_sellPrize_16 ?_
      refine hx_aload C dX0_sellPrize_19 (lv_at hl 0 rfl) ?_
      refine hx_ifnull C dX0_sellPrize_21 ?_
      refine hx_iload_n C dX0_sellPrize_24 rfl (lv_at hl 5 rfl) ?_
      refine hx_iconst (v := 1) C dX0_sellPrize_25 (by decide) ?_
      refine hx_bipush (v := 99) C dX0_sellPrize_26 (by decide) ?_
      obtain ⟨r11, e12, h⟩ := hx_bind h
      refine hx_callSN (As := [.int a3, .int 1, .int 99]) (rest := []) (n := 3) (host := "TicketScales") C (c_X9_within e12) gX0_sellPrize_X9_within_n68 (by decide) (by decide +kernel) (by decide +kernel) (by decide +kernel) ⟨Nat.le_of_ble_eq_true rfl, Nat.le_of_ble_eq_true rfl⟩ rfl rfl rfl ⟨Nat.zero_le _, Nat.zero_le _⟩ hl.1 rfl rfl (Nat.le_of_ble_eq_true rfl) dX0_sellPrize_28 ?_
      refine hx_if_ne (tgt := 37) C dX0_sellPrize_31 (by decide) (fun c13 => ?_) (fun c13 => ?_)
      · have h := hx_neg c13 h
        refine hx_aload C dX0_sellPrize_37 (lv_at hl 1 rfl) ?_
        obtain ⟨g14, h⟩ := hx_gd h
        refine hx_geti C (ci := 1) (j := 0) g14 uX0_sellPrize_1 (by decide) rfl (by decide) rfl (by decide +kernel) rfl dX0_sellPrize_39 ?_
        refine hx_iload_n C dX0_sellPrize_42 rfl (lv_at hl 5 rfl) ?_
        refine hx_aload C dX0_sellPrize_43 (lv_at hl 0 rfl) ?_
        obtain ⟨g15, h⟩ := hx_gd h
        refine hx_geti C (ci := 5) (j := 0) g15 uX0_sellPrize_5 (by decide) rfl (by decide) rfl (by decide +kernel) rfl dX0_sellPrize_45 ?_
        refine hx_imul C dX0_sellPrize_48 ?_
        refine hx_icmp_ge (tgt := 55) C dX0_sellPrize_49 (by decide) (fun c16 => ?_) (fun c16 => ?_)
        · have h := hx_pos c16 h
          refine hx_aload C dX0_sellPrize_55 (lv_at hl 0 rfl) ?_
          refine hx_geti C (ci := 5) (j := 2) g15 uX0_sellPrize_5 (by decide) rfl (by decide) rfl (by decide +kernel) rfl dX0_sellPrize_57 ?_
          refine hx_iload_n C dX0_sellPrize_60 rfl (lv_at hl 5 rfl) ?_
          refine hx_icmp_ge (tgt := 67) C dX0_sellPrize_61 (by decide) (fun c17 => ?_) (fun c17 => ?_)
          · have h := hx_pos c17 h
            refine hx_aload C dX0_sellPrize_67 (lv_at hl 1 rfl) ?_
            refine hx_dup C dX0_sellPrize_69 rfl ?_
            refine hx_geti C (ci := 1) (j := 0) g14 uX0_sellPrize_1 (by decide) rfl (by decide) rfl (by decide +kernel) rfl dX0_sellPrize_70 ?_
            refine hx_iload_n C dX0_sellPrize_73 rfl (lv_at hl 5 rfl) ?_
            refine hx_aload C dX0_sellPrize_74 (lv_at hl 0 rfl) ?_
            refine hx_geti C (ci := 5) (j := 0) g15 uX0_sellPrize_5 (by decide) rfl (by decide) rfl (by decide +kernel) rfl dX0_sellPrize_76 ?_
            refine hx_imul C dX0_sellPrize_79 ?_
            refine hx_isub C dX0_sellPrize_80 ?_
            refine hx_puti C (ci := 1) (j := 0) tyX1 tyX1_ok nmX1 g14 uX0_sellPrize_1 (by decide) rfl (by decide) rfl (by decide +kernel) rfl rfl (tyX1_ok 0 (by decide)) dX0_sellPrize_81 rfl rfl ?_
            refine hx_aload C dX0_sellPrize_84 (lv_at hl 0 rfl) ?_
            refine hx_iload_n C dX0_sellPrize_86 rfl (lv_at hl 5 rfl) ?_
            obtain ⟨r18, e19, h⟩ := hx_bind h
            refine hx_callV (As := [.int a3]) (rest := []) (n := 1) (Cn := RX5) C (c_X5_sell e19) gX0_sellPrize_X5_sell g15 (by decide) rfl (by decide +kernel) ⟨Nat.le_of_ble_eq_true rfl, Nat.le_of_ble_eq_true rfl⟩ rfl rfl rfl ⟨Nat.zero_le _, Nat.zero_le _⟩ hl.1 rfl rfl (Nat.le_of_ble_eq_true rfl) dX0_sellPrize_87 ?_
            refine hx_aload C dX0_sellPrize_90 (lv_at hl 1 rfl) ?_
            refine hx_geti C (ci := 1) (j := 0) g14 uX0_sellPrize_1 (by decide) rfl (by decide) rfl (by decide +kernel) rfl dX0_sellPrize_92 ?_
            obtain ⟨rfl, rfl⟩ := hx_some2 h
            exact hx_iret C hr dX0_sellPrize_95
          · have h := hx_neg c17 h
            refine hx_ldc (v := (-100003)) C (by decide +kernel) dX0_sellPrize_64 ?_
            obtain ⟨rfl, rfl⟩ := hx_some2 h
            exact hx_iret C hr dX0_sellPrize_66
        · have h := hx_neg c16 h
          refine hx_ldc (v := (-100002)) C (by decide +kernel) dX0_sellPrize_52 ?_
          obtain ⟨rfl, rfl⟩ := hx_some2 h
          exact hx_iret C hr dX0_sellPrize_54
      · have h := hx_pos c13 h
        refine hx_ldc (v := (-100001)) C (by decide +kernel) dX0_sellPrize_34 ?_
        obtain ⟨rfl, rfl⟩ := hx_some2 h
        exact hx_iret C hr dX0_sellPrize_36
theorem uX0_keptWeighings_0 : ∀ w ∈ u_ws RX0 TX0 9, w ∈ wsX0_keptWeighings := by decide +kernel
theorem uX0_keptWeighings_1 : ∀ w ∈ u_ws RX1 TX1 6, w ∈ wsX0_keptWeighings := by decide +kernel
def f_X0_keptWeighings_36 (L : hL) (k13 : Int32 → Nat → Int32 → Int32 → hX → Option (Int32)) (v1 : Int32) (v2 : Nat) (v3 : Int32) (v4 : Int32) (X : hX) : Option (Int32) :=
  k13 v1 v2 v3 (v4 + 1) X
set_option maxRecDepth 100000 in
set_option maxHeartbeats 4000000 in
theorem w_X0_keptWeighings_36 {p : Program} {l : Launch} {e : Env} {s : State} {m : MethodId} {args : Array Value} {below : List Frame} {meth : Method} {c : Code} {dC : Nat → ClassId} {dI : Nat → Nat → Nat} {cy : Nat → ClassId} {ad : Nat → Nat} {L : hL} {r : Int32} (k13 : Int32 → Nat → Int32 → Int32 → hX → Option (Int32)) (C : hC p s m args meth c dC dI cy ad L (hA ad L s.heap.size) cX0_keptWeighings 6 wsX0_keptWeighings RX0) (hr : meth.sig.returnType = (some .int)) (hk13 : ∀ (v1 : Int32) (v2 : Nat) (v3 : Int32) (v4 : Int32) (X : hX) (ls : Array Slot), k13 v1 v2 v3 v4 X = some r → lv_has ls 6 [(1, .int v1), (2, .ref (ad v2)), (3, .int v3), (4, .int v4)] → hG p l e (headSpec wsX0_keptWeighings ({ frames := 0, cells := 0, slots := 0, locals := 0 } : Room)).room s m args below meth c dC dI cy ad L (hA ad L s.heap.size) 0 0 (MQ below (hQ dC dI cy ad L s.heap.size (some (.int r)) X) args s 0 0 (hA ad L s.heap.size)) X 13 ls []) : ∀ (v1 : Int32) (v2 : Nat) (v3 : Int32) (v4 : Int32) (X : hX) (ls : Array Slot), f_X0_keptWeighings_36 L k13 v1 v2 v3 v4 X = some r → lv_has ls 6 [(1, .int v1), (2, .ref (ad v2)), (3, .int v3), (4, .int v4)] → hG p l e (headSpec wsX0_keptWeighings ({ frames := 0, cells := 0, slots := 0, locals := 0 } : Room)).room s m args below meth c dC dI cy ad L (hA ad L s.heap.size) 0 0 (MQ below (hQ dC dI cy ad L s.heap.size (some (.int r)) X) args s 0 0 (hA ad L s.heap.size)) X 36 ls [] := by
  intro v1 v2 v3 v4 X ls h hl
  unfold f_X0_keptWeighings_36 at h
  refine hx_iinc (v := v4 + 1) (lv' := [(4, .int (v4 + 1)), (1, .int v1), (2, .ref (ad v2)), (3, .int v3)]) C dX0_keptWeighings_36 hl (k := 3) rfl rfl (by decide) rfl (fun ls hl => ?_)
  refine hx_goto (tgt := 13) C dX0_keptWeighings_39 (by decide) ?_
  exact hk13 v1 v2 v3 (v4 + 1) X ls h (lv_sub hl [1, 2, 3, 0] rfl)
def f_X0_keptWeighings_13 (L : hL) : Nat → Int32 → Nat → Int32 → Int32 → hX → Option (Int32)
  | 0, _, _, _, _, _ => none
  | n + 1, v1, v2, v3, v4, X =>
    if v3 ≤ v4 then
      some v1
    else
      if tk L v2 15 then
      if hin v4 (L.2.2 v2) then
      (X.2 v2 (Int32.toNatClampNeg v4)).bind fun q4 =>
      if tk L q4 1 then
      if (X.1 q4 1) = 0 then
        f_X0_keptWeighings_36 L (f_X0_keptWeighings_13 L n) v1 v2 v3 v4 X
      else
        f_X0_keptWeighings_36 L (f_X0_keptWeighings_13 L n) (v1 + 1) v2 v3 v4 X
      else none
      else none
      else none
set_option maxRecDepth 100000 in
set_option maxHeartbeats 4000000 in
theorem w_X0_keptWeighings_13 {p : Program} {l : Launch} {e : Env} {s : State} {m : MethodId} {args : Array Value} {below : List Frame} {meth : Method} {c : Code} {dC : Nat → ClassId} {dI : Nat → Nat → Nat} {cy : Nat → ClassId} {ad : Nat → Nat} {L : hL} {r : Int32} (C : hC p s m args meth c dC dI cy ad L (hA ad L s.heap.size) cX0_keptWeighings 6 wsX0_keptWeighings RX0) (hr : meth.sig.returnType = (some .int)) : ∀ (n : Nat) (v1 : Int32) (v2 : Nat) (v3 : Int32) (v4 : Int32) (X : hX) (ls : Array Slot), f_X0_keptWeighings_13 L n v1 v2 v3 v4 X = some r → lv_has ls 6 [(1, .int v1), (2, .ref (ad v2)), (3, .int v3), (4, .int v4)] → hG p l e (headSpec wsX0_keptWeighings ({ frames := 0, cells := 0, slots := 0, locals := 0 } : Room)).room s m args below meth c dC dI cy ad L (hA ad L s.heap.size) 0 0 (MQ below (hQ dC dI cy ad L s.heap.size (some (.int r)) X) args s 0 0 (hA ad L s.heap.size)) X 13 ls [] := by
  intro n
  induction n with
  | zero => intro v1 v2 v3 v4 X ls h; cases h
  | succ n ih =>
    intro v1 v2 v3 v4 X ls h hl
    rw [f_X0_keptWeighings_13] at h
    refine hx_iload C dX0_keptWeighings_13 (lv_at hl 3 rfl) ?_
    refine hx_iload_n C dX0_keptWeighings_15 rfl (lv_at hl 2 rfl) ?_
    refine hx_icmp_ge (tgt := 42) C dX0_keptWeighings_16 (by decide) (fun c1 => ?_) (fun c1 => ?_)
    · have h := hx_pos c1 h
      refine hx_iload_n C dX0_keptWeighings_42 rfl (lv_at hl 0 rfl) ?_
      obtain rfl := hx_some1 h
      exact hx_iret C hr dX0_keptWeighings_43
    · have h := hx_neg c1 h
      refine hx_aload_n C dX0_keptWeighings_19 rfl (lv_at hl 1 rfl) ?_
      refine hx_iload C dX0_keptWeighings_20 (lv_at hl 3 rfl) ?_
      obtain ⟨g2, h⟩ := hx_gd h
      obtain ⟨g3, h⟩ := hx_gd h
      obtain ⟨q4, e5, h⟩ := hx_bind h
      refine hx_aald (t0 := 4) C g2 (by decide) rfl g3 rfl e5 dX0_keptWeighings_22 ?_
      refine hx_astore (lv' := [(5, .ref (ad q4)), (1, .int v1), (2, .ref (ad v2)), (3, .int v3), (4, .int v4)]) C dX0_keptWeighings_23 hl (by decide) rfl (fun ls hl => ?_)
      refine hx_aload C dX0_keptWeighings_25 (lv_at hl 0 rfl) ?_
      obtain ⟨g6, h⟩ := hx_gd h
      refine hx_geti C (ci := 1) (j := 1) g6 uX0_keptWeighings_1 (by decide) rfl (by decide) rfl (by decide +kernel) rfl dX0_keptWeighings_27 ?_
      refine hx_if_eq (tgt := 36) C dX0_keptWeighings_30 (by decide) (fun c7 => ?_) (fun c7 => ?_)
      · have h := hx_pos c7 h
        exact w_X0_keptWeighings_36 (f_X0_keptWeighings_13 L n) C hr ih v1 v2 v3 v4 X ls h (lv_sub hl [1, 2, 3, 4] rfl)
      · have h := hx_neg c7 h
        refine hx_iinc (v := v1 + 1) (lv' := [(1, .int (v1 + 1)), (5, .ref (ad q4)), (2, .ref (ad v2)), (3, .int v3), (4, .int v4)]) C dX0_keptWeighings_33 hl (k := 1) rfl rfl (by decide) rfl (fun ls hl => ?_)
        exact w_X0_keptWeighings_36 (f_X0_keptWeighings_13 L n) C hr ih (v1 + 1) v2 v3 v4 X ls h (lv_sub hl [0, 2, 3, 4] rfl)
def f_X0_keptWeighings (L : hL) (X : hX) (this : Nat) : Option (Int32) :=
  if tk L this 0 then
  (X.2 this 2).bind fun q9 =>
  if tk L q9 15 then
  f_X0_keptWeighings_13 L u_fuel 0 q9 (Int32.ofNat (L.2.2 q9)) 0 X
  else none
  else none
set_option maxRecDepth 100000 in
set_option maxHeartbeats 4000000 in
theorem c_X0_keptWeighings {l : Launch} {dC : Nat → ClassId} {dI : Nat → Nat → Nat} {cy : Nat → ClassId} {ad : Nat → Nat} {L : hL} {X : hX} {this : Nat} {r : Int32} (h : f_X0_keptWeighings L X this = some r) : hMet l dC dI cy ad L yX0_keptWeighings wsX0_keptWeighings ({ frames := 0, cells := 0, slots := 0, locals := 0 } : Room) [.ref (ad this)] X (some (.int r)) X := by
  unfold f_X0_keptWeighings at h
  refine hx_enter RX0 (plainFor_of_name (by decide)) rfl rfl (Nat.le_of_ble_eq_true rfl) (fun p e s m args below meth c C hr hnm ls hl => ?_)
  have hl : lv_has ls 6 [(0, .ref (ad this))] := hl
  refine hx_iconst (v := 0) C dX0_keptWeighings_0 (by decide) ?_
  refine hx_istore_n (lv' := [(1, .int 0), (0, .ref (ad this))]) C dX0_keptWeighings_1 rfl hl (by decide) rfl (fun ls hl => ?_)
  refine hx_aload_n C dX0_keptWeighings_2 rfl (lv_at hl 1 rfl) ?_
  obtain ⟨g8, h⟩ := hx_gd h
  obtain ⟨q9, e10, h⟩ := hx_bind h
  refine hx_getr C (ci := 0) (j := 2) g8 uX0_keptWeighings_0 (by decide) rfl (by decide) rfl (by decide +kernel) rfl dX0_keptWeighings_3 e10 ?_
  refine hx_astore_n (lv' := [(2, .ref (ad q9)), (1, .int 0), (0, .ref (ad this))]) C dX0_keptWeighings_6 rfl hl (by decide) rfl (fun ls hl => ?_)
  refine hx_aload_n C dX0_keptWeighings_7 rfl (lv_at hl 0 rfl) ?_
  obtain ⟨g11, h⟩ := hx_gd h
  refine hx_alenR (t0 := 4) C g11 (by decide) rfl dX0_keptWeighings_8 ?_
  refine hx_istore_n (lv' := [(3, .int (Int32.ofNat (L.2.2 q9))), (2, .ref (ad q9)), (1, .int 0), (0, .ref (ad this))]) C dX0_keptWeighings_9 rfl hl (by decide) rfl (fun ls hl => ?_)
  refine hx_iconst (v := 0) C dX0_keptWeighings_10 (by decide) ?_
  refine hx_istore (lv' := [(4, .int 0), (3, .int (Int32.ofNat (L.2.2 q9))), (2, .ref (ad q9)), (1, .int 0), (0, .ref (ad this))]) C dX0_keptWeighings_11 hl (by decide) rfl (fun ls hl => ?_)
  exact w_X0_keptWeighings_13 C hr u_fuel 0 q9 (Int32.ofNat (L.2.2 q9)) 0 X ls h (lv_sub hl [3, 2, 1, 0] rfl)
theorem uX0_allPoints_0 : ∀ w ∈ u_ws RX0 TX0 9, w ∈ wsX0_allPoints := by decide +kernel
theorem uX0_allPoints_1 : ∀ w ∈ u_ws RX1 TX1 6, w ∈ wsX0_allPoints := by decide +kernel
def f_X0_allPoints_13 (L : hL) : Nat → Int32 → Nat → Int32 → Int32 → hX → Option (Int32)
  | 0, _, _, _, _, _ => none
  | n + 1, v1, v2, v3, v4, X =>
    if v3 ≤ v4 then
      some v1
    else
      if tk L v2 15 then
      if hin v4 (L.2.2 v2) then
      (X.2 v2 (Int32.toNatClampNeg v4)).bind fun q4 =>
      if tk L q4 1 then
      f_X0_allPoints_13 L n (v1 + (X.1 q4 0)) v2 v3 (v4 + 1) X
      else none
      else none
      else none
set_option maxRecDepth 100000 in
set_option maxHeartbeats 4000000 in
theorem w_X0_allPoints_13 {p : Program} {l : Launch} {e : Env} {s : State} {m : MethodId} {args : Array Value} {below : List Frame} {meth : Method} {c : Code} {dC : Nat → ClassId} {dI : Nat → Nat → Nat} {cy : Nat → ClassId} {ad : Nat → Nat} {L : hL} {r : Int32} (C : hC p s m args meth c dC dI cy ad L (hA ad L s.heap.size) cX0_allPoints 6 wsX0_allPoints RX0) (hr : meth.sig.returnType = (some .int)) : ∀ (n : Nat) (v1 : Int32) (v2 : Nat) (v3 : Int32) (v4 : Int32) (X : hX) (ls : Array Slot), f_X0_allPoints_13 L n v1 v2 v3 v4 X = some r → lv_has ls 6 [(1, .int v1), (2, .ref (ad v2)), (3, .int v3), (4, .int v4)] → hG p l e (headSpec wsX0_allPoints ({ frames := 0, cells := 0, slots := 0, locals := 0 } : Room)).room s m args below meth c dC dI cy ad L (hA ad L s.heap.size) 0 0 (MQ below (hQ dC dI cy ad L s.heap.size (some (.int r)) X) args s 0 0 (hA ad L s.heap.size)) X 13 ls [] := by
  intro n
  induction n with
  | zero => intro v1 v2 v3 v4 X ls h; cases h
  | succ n ih =>
    intro v1 v2 v3 v4 X ls h hl
    rw [f_X0_allPoints_13] at h
    refine hx_iload C dX0_allPoints_13 (lv_at hl 3 rfl) ?_
    refine hx_iload_n C dX0_allPoints_15 rfl (lv_at hl 2 rfl) ?_
    refine hx_icmp_ge (tgt := 39) C dX0_allPoints_16 (by decide) (fun c1 => ?_) (fun c1 => ?_)
    · have h := hx_pos c1 h
      refine hx_iload_n C dX0_allPoints_39 rfl (lv_at hl 0 rfl) ?_
      obtain rfl := hx_some1 h
      exact hx_iret C hr dX0_allPoints_40
    · have h := hx_neg c1 h
      refine hx_aload_n C dX0_allPoints_19 rfl (lv_at hl 1 rfl) ?_
      refine hx_iload C dX0_allPoints_20 (lv_at hl 3 rfl) ?_
      obtain ⟨g2, h⟩ := hx_gd h
      obtain ⟨g3, h⟩ := hx_gd h
      obtain ⟨q4, e5, h⟩ := hx_bind h
      refine hx_aald (t0 := 4) C g2 (by decide) rfl g3 rfl e5 dX0_allPoints_22 ?_
      refine hx_astore (lv' := [(5, .ref (ad q4)), (1, .int v1), (2, .ref (ad v2)), (3, .int v3), (4, .int v4)]) C dX0_allPoints_23 hl (by decide) rfl (fun ls hl => ?_)
      refine hx_iload_n C dX0_allPoints_25 rfl (lv_at hl 1 rfl) ?_
      refine hx_aload C dX0_allPoints_26 (lv_at hl 0 rfl) ?_
      obtain ⟨g6, h⟩ := hx_gd h
      refine hx_geti C (ci := 1) (j := 0) g6 uX0_allPoints_1 (by decide) rfl (by decide) rfl (by decide +kernel) rfl dX0_allPoints_28 ?_
      refine hx_iadd C dX0_allPoints_31 ?_
      refine hx_istore_n (lv' := [(1, .int (v1 + (X.1 q4 0))), (5, .ref (ad q4)), (2, .ref (ad v2)), (3, .int v3), (4, .int v4)]) C dX0_allPoints_32 rfl hl (by decide) rfl (fun ls hl => ?_)
      refine hx_iinc (v := v4 + 1) (lv' := [(4, .int (v4 + 1)), (1, .int (v1 + (X.1 q4 0))), (5, .ref (ad q4)), (2, .ref (ad v2)), (3, .int v3)]) C dX0_allPoints_33 hl (k := 4) rfl rfl (by decide) rfl (fun ls hl => ?_)
      refine hx_goto (tgt := 13) C dX0_allPoints_36 (by decide) ?_
      exact ih (v1 + (X.1 q4 0)) v2 v3 (v4 + 1) X ls h (lv_sub hl [1, 3, 4, 0] rfl)
def f_X0_allPoints (L : hL) (X : hX) (this : Nat) : Option (Int32) :=
  if tk L this 0 then
  (X.2 this 2).bind fun q8 =>
  if tk L q8 15 then
  f_X0_allPoints_13 L u_fuel 0 q8 (Int32.ofNat (L.2.2 q8)) 0 X
  else none
  else none
set_option maxRecDepth 100000 in
set_option maxHeartbeats 4000000 in
theorem c_X0_allPoints {l : Launch} {dC : Nat → ClassId} {dI : Nat → Nat → Nat} {cy : Nat → ClassId} {ad : Nat → Nat} {L : hL} {X : hX} {this : Nat} {r : Int32} (h : f_X0_allPoints L X this = some r) : hMet l dC dI cy ad L yX0_allPoints wsX0_allPoints ({ frames := 0, cells := 0, slots := 0, locals := 0 } : Room) [.ref (ad this)] X (some (.int r)) X := by
  unfold f_X0_allPoints at h
  refine hx_enter RX0 (plainFor_of_name (by decide)) rfl rfl (Nat.le_of_ble_eq_true rfl) (fun p e s m args below meth c C hr hnm ls hl => ?_)
  have hl : lv_has ls 6 [(0, .ref (ad this))] := hl
  refine hx_iconst (v := 0) C dX0_allPoints_0 (by decide) ?_
  refine hx_istore_n (lv' := [(1, .int 0), (0, .ref (ad this))]) C dX0_allPoints_1 rfl hl (by decide) rfl (fun ls hl => ?_)
  refine hx_aload_n C dX0_allPoints_2 rfl (lv_at hl 1 rfl) ?_
  obtain ⟨g7, h⟩ := hx_gd h
  obtain ⟨q8, e9, h⟩ := hx_bind h
  refine hx_getr C (ci := 0) (j := 2) g7 uX0_allPoints_0 (by decide) rfl (by decide) rfl (by decide +kernel) rfl dX0_allPoints_3 e9 ?_
  refine hx_astore_n (lv' := [(2, .ref (ad q8)), (1, .int 0), (0, .ref (ad this))]) C dX0_allPoints_6 rfl hl (by decide) rfl (fun ls hl => ?_)
  refine hx_aload_n C dX0_allPoints_7 rfl (lv_at hl 0 rfl) ?_
  obtain ⟨g10, h⟩ := hx_gd h
  refine hx_alenR (t0 := 4) C g10 (by decide) rfl dX0_allPoints_8 ?_
  refine hx_istore_n (lv' := [(3, .int (Int32.ofNat (L.2.2 q8))), (2, .ref (ad q8)), (1, .int 0), (0, .ref (ad this))]) C dX0_allPoints_9 rfl hl (by decide) rfl (fun ls hl => ?_)
  refine hx_iconst (v := 0) C dX0_allPoints_10 (by decide) ?_
  refine hx_istore (lv' := [(4, .int 0), (3, .int (Int32.ofNat (L.2.2 q8))), (2, .ref (ad q8)), (1, .int 0), (0, .ref (ad this))]) C dX0_allPoints_11 hl (by decide) rfl (fun ls hl => ?_)
  exact w_X0_allPoints_13 C hr u_fuel 0 q8 (Int32.ofNat (L.2.2 q8)) 0 X ls h (lv_sub hl [3, 2, 1, 0] rfl)
theorem uX0_allStocks_0 : ∀ w ∈ u_ws RX0 TX0 9, w ∈ wsX0_allStocks := by decide +kernel
theorem uX0_allStocks_5 : ∀ w ∈ u_ws RX5 TX5 7, w ∈ wsX0_allStocks := by decide +kernel
def f_X0_allStocks_13 (L : hL) : Nat → Int32 → Nat → Int32 → Int32 → hX → Option (Int32)
  | 0, _, _, _, _, _ => none
  | n + 1, v1, v2, v3, v4, X =>
    if v3 ≤ v4 then
      some v1
    else
      if tk L v2 17 then
      if hin v4 (L.2.2 v2) then
      (X.2 v2 (Int32.toNatClampNeg v4)).bind fun q4 =>
      if tk L q4 5 then
      f_X0_allStocks_13 L n (v1 + (X.1 q4 2)) v2 v3 (v4 + 1) X
      else none
      else none
      else none
set_option maxRecDepth 100000 in
set_option maxHeartbeats 4000000 in
theorem w_X0_allStocks_13 {p : Program} {l : Launch} {e : Env} {s : State} {m : MethodId} {args : Array Value} {below : List Frame} {meth : Method} {c : Code} {dC : Nat → ClassId} {dI : Nat → Nat → Nat} {cy : Nat → ClassId} {ad : Nat → Nat} {L : hL} {r : Int32} (C : hC p s m args meth c dC dI cy ad L (hA ad L s.heap.size) cX0_allStocks 6 wsX0_allStocks RX0) (hr : meth.sig.returnType = (some .int)) : ∀ (n : Nat) (v1 : Int32) (v2 : Nat) (v3 : Int32) (v4 : Int32) (X : hX) (ls : Array Slot), f_X0_allStocks_13 L n v1 v2 v3 v4 X = some r → lv_has ls 6 [(1, .int v1), (2, .ref (ad v2)), (3, .int v3), (4, .int v4)] → hG p l e (headSpec wsX0_allStocks ({ frames := 0, cells := 0, slots := 0, locals := 0 } : Room)).room s m args below meth c dC dI cy ad L (hA ad L s.heap.size) 0 0 (MQ below (hQ dC dI cy ad L s.heap.size (some (.int r)) X) args s 0 0 (hA ad L s.heap.size)) X 13 ls [] := by
  intro n
  induction n with
  | zero => intro v1 v2 v3 v4 X ls h; cases h
  | succ n ih =>
    intro v1 v2 v3 v4 X ls h hl
    rw [f_X0_allStocks_13] at h
    refine hx_iload C dX0_allStocks_13 (lv_at hl 3 rfl) ?_
    refine hx_iload_n C dX0_allStocks_15 rfl (lv_at hl 2 rfl) ?_
    refine hx_icmp_ge (tgt := 39) C dX0_allStocks_16 (by decide) (fun c1 => ?_) (fun c1 => ?_)
    · have h := hx_pos c1 h
      refine hx_iload_n C dX0_allStocks_39 rfl (lv_at hl 0 rfl) ?_
      obtain rfl := hx_some1 h
      exact hx_iret C hr dX0_allStocks_40
    · have h := hx_neg c1 h
      refine hx_aload_n C dX0_allStocks_19 rfl (lv_at hl 1 rfl) ?_
      refine hx_iload C dX0_allStocks_20 (lv_at hl 3 rfl) ?_
      obtain ⟨g2, h⟩ := hx_gd h
      obtain ⟨g3, h⟩ := hx_gd h
      obtain ⟨q4, e5, h⟩ := hx_bind h
      refine hx_aald (t0 := 6) C g2 (by decide) rfl g3 rfl e5 dX0_allStocks_22 ?_
      refine hx_astore (lv' := [(5, .ref (ad q4)), (1, .int v1), (2, .ref (ad v2)), (3, .int v3), (4, .int v4)]) C dX0_allStocks_23 hl (by decide) rfl (fun ls hl => ?_)
      refine hx_iload_n C dX0_allStocks_25 rfl (lv_at hl 1 rfl) ?_
      refine hx_aload C dX0_allStocks_26 (lv_at hl 0 rfl) ?_
      obtain ⟨g6, h⟩ := hx_gd h
      refine hx_geti C (ci := 5) (j := 2) g6 uX0_allStocks_5 (by decide) rfl (by decide) rfl (by decide +kernel) rfl dX0_allStocks_28 ?_
      refine hx_iadd C dX0_allStocks_31 ?_
      refine hx_istore_n (lv' := [(1, .int (v1 + (X.1 q4 2))), (5, .ref (ad q4)), (2, .ref (ad v2)), (3, .int v3), (4, .int v4)]) C dX0_allStocks_32 rfl hl (by decide) rfl (fun ls hl => ?_)
      refine hx_iinc (v := v4 + 1) (lv' := [(4, .int (v4 + 1)), (1, .int (v1 + (X.1 q4 2))), (5, .ref (ad q4)), (2, .ref (ad v2)), (3, .int v3)]) C dX0_allStocks_33 hl (k := 4) rfl rfl (by decide) rfl (fun ls hl => ?_)
      refine hx_goto (tgt := 13) C dX0_allStocks_36 (by decide) ?_
      exact ih (v1 + (X.1 q4 2)) v2 v3 (v4 + 1) X ls h (lv_sub hl [1, 3, 4, 0] rfl)
def f_X0_allStocks (L : hL) (X : hX) (this : Nat) : Option (Int32) :=
  if tk L this 0 then
  (X.2 this 3).bind fun q8 =>
  if tk L q8 17 then
  f_X0_allStocks_13 L u_fuel 0 q8 (Int32.ofNat (L.2.2 q8)) 0 X
  else none
  else none
set_option maxRecDepth 100000 in
set_option maxHeartbeats 4000000 in
theorem c_X0_allStocks {l : Launch} {dC : Nat → ClassId} {dI : Nat → Nat → Nat} {cy : Nat → ClassId} {ad : Nat → Nat} {L : hL} {X : hX} {this : Nat} {r : Int32} (h : f_X0_allStocks L X this = some r) : hMet l dC dI cy ad L yX0_allStocks wsX0_allStocks ({ frames := 0, cells := 0, slots := 0, locals := 0 } : Room) [.ref (ad this)] X (some (.int r)) X := by
  unfold f_X0_allStocks at h
  refine hx_enter RX0 (plainFor_of_name (by decide)) rfl rfl (Nat.le_of_ble_eq_true rfl) (fun p e s m args below meth c C hr hnm ls hl => ?_)
  have hl : lv_has ls 6 [(0, .ref (ad this))] := hl
  refine hx_iconst (v := 0) C dX0_allStocks_0 (by decide) ?_
  refine hx_istore_n (lv' := [(1, .int 0), (0, .ref (ad this))]) C dX0_allStocks_1 rfl hl (by decide) rfl (fun ls hl => ?_)
  refine hx_aload_n C dX0_allStocks_2 rfl (lv_at hl 1 rfl) ?_
  obtain ⟨g7, h⟩ := hx_gd h
  obtain ⟨q8, e9, h⟩ := hx_bind h
  refine hx_getr C (ci := 0) (j := 3) g7 uX0_allStocks_0 (by decide) rfl (by decide) rfl (by decide +kernel) rfl dX0_allStocks_3 e9 ?_
  refine hx_astore_n (lv' := [(2, .ref (ad q8)), (1, .int 0), (0, .ref (ad this))]) C dX0_allStocks_6 rfl hl (by decide) rfl (fun ls hl => ?_)
  refine hx_aload_n C dX0_allStocks_7 rfl (lv_at hl 0 rfl) ?_
  obtain ⟨g10, h⟩ := hx_gd h
  refine hx_alenR (t0 := 6) C g10 (by decide) rfl dX0_allStocks_8 ?_
  refine hx_istore_n (lv' := [(3, .int (Int32.ofNat (L.2.2 q8))), (2, .ref (ad q8)), (1, .int 0), (0, .ref (ad this))]) C dX0_allStocks_9 rfl hl (by decide) rfl (fun ls hl => ?_)
  refine hx_iconst (v := 0) C dX0_allStocks_10 (by decide) ?_
  refine hx_istore (lv' := [(4, .int 0), (3, .int (Int32.ofNat (L.2.2 q8))), (2, .ref (ad q8)), (1, .int 0), (0, .ref (ad this))]) C dX0_allStocks_11 hl (by decide) rfl (fun ls hl => ?_)
  exact w_X0_allStocks_13 C hr u_fuel 0 q8 (Int32.ofNat (L.2.2 q8)) 0 X ls h (lv_sub hl [3, 2, 1, 0] rfl)
theorem uX0_number_0 : ∀ w ∈ u_ws RX0 TX0 9, w ∈ wsX0_number := by decide +kernel
theorem uX0_number_7 : ∀ w ∈ u_ws RX7 TX7 3, w ∈ wsX0_number := by decide +kernel
def f_X0_number (L : hL) (X : hX) (this : Nat) (a1 : Int32) : Option (Int32) :=
  if a1 = 0 then
    if tk L this 0 then
    (X.2 this 1).bind fun q3 =>
    if tk L q3 7 then
    some (X.1 q3 0)
    else none
    else none
  else
  if a1 = 1 then
    if tk L this 0 then
    (X.2 this 1).bind fun q8 =>
    if tk L q8 7 then
    some (X.1 q8 1)
    else none
    else none
  else
  if a1 = 2 then
    if tk L this 0 then
    (X.2 this 1).bind fun q13 =>
    if tk L q13 7 then
    some (X.1 q13 2)
    else none
    else none
  else
  if a1 = 3 then
    if tk L this 0 then
    some (X.1 this 6)
    else none
  else
  if a1 = 4 then
    if tk L this 0 then
    some (X.1 this 7)
    else none
  else
  if a1 = 5 then
    if tk L this 0 then
    some (X.1 this 4)
    else none
  else
  if a1 = 6 then
    if tk L this 0 then
    some (X.1 this 5)
    else none
  else
  if a1 = 7 then
    (f_X0_keptWeighings L X this).bind fun r25 =>
    if tk L this 0 then
    some r25
    else none
  else
  if a1 = 8 then
    if tk L this 0 then
    some (X.1 this 8)
    else none
  else
  if a1 = 9 then
    (f_X0_allPoints L X this).bind fun r31 =>
    if tk L this 0 then
    some r31
    else none
  else
  if a1 = 10 then
    (f_X0_allStocks L X this).bind fun r35 =>
    if tk L this 0 then
    some r35
    else none
  else
  some (-100001)
set_option maxRecDepth 100000 in
set_option maxHeartbeats 4000000 in
theorem c_X0_number {l : Launch} {dC : Nat → ClassId} {dI : Nat → Nat → Nat} {cy : Nat → ClassId} {ad : Nat → Nat} {L : hL} {X : hX} {this : Nat} {a1 : Int32} {r : Int32} (h : f_X0_number L X this a1 = some r) : hMet l dC dI cy ad L yX0_number wsX0_number ({ frames := 1, cells := 0, slots := 0, locals := 25 } : Room) [.ref (ad this), .int a1] X (some (.int r)) X := by
  unfold f_X0_number at h
  refine hx_enter RX0 (plainFor_of_name (by decide)) rfl rfl (Nat.le_of_ble_eq_true rfl) (fun p e s m args below meth c C hr hnm ls hl => ?_)
  have hl : lv_has ls 2 [(0, .ref (ad this)), (1, .int a1)] := hl
  refine hx_iload_n C dX0_number_0 rfl (lv_at hl 1 rfl) ?_
  by_cases c1 : a1 = 0
  · have h := hx_pos c1 h
    have hz : Int32.toInt a1 = 0 := by rw [c1]; rfl
    refine hx_tableIn (tgt := 60) C dX0_number_1 (by rw [hz] <;> decide) (by rw [hz] <;> decide) (off := 59) (by rw [hz] <;> rfl) (by decide) ?_
    refine hx_aload_n C dX0_number_60 rfl (lv_at hl 0 rfl) ?_
    obtain ⟨g2, h⟩ := hx_gd h
    obtain ⟨q3, e4, h⟩ := hx_bind h
    refine hx_getr C (ci := 0) (j := 1) g2 uX0_number_0 (by decide) rfl (by decide) rfl (by decide +kernel) rfl dX0_number_61 e4 ?_
    obtain ⟨g5, h⟩ := hx_gd h
    refine hx_geti C (ci := 7) (j := 0) g5 uX0_number_7 (by decide) rfl (by decide) rfl (by decide +kernel) rfl dX0_number_64 ?_
    obtain rfl := hx_some1 h
    exact hx_iret C hr dX0_number_67
  have h := hx_neg c1 h
  have zc1 : Int32.toInt a1 ≠ 0 := fun z => c1 (Int32.toInt_inj.mp (z.trans rfl))
  by_cases c6 : a1 = 1
  · have h := hx_pos c6 h
    have hz : Int32.toInt a1 = 1 := by rw [c6]; rfl
    refine hx_tableIn (tgt := 68) C dX0_number_1 (by rw [hz] <;> decide) (by rw [hz] <;> decide) (off := 67) (by rw [hz] <;> rfl) (by decide) ?_
    refine hx_aload_n C dX0_number_68 rfl (lv_at hl 0 rfl) ?_
    obtain ⟨g7, h⟩ := hx_gd h
    obtain ⟨q8, e9, h⟩ := hx_bind h
    refine hx_getr C (ci := 0) (j := 1) g7 uX0_number_0 (by decide) rfl (by decide) rfl (by decide +kernel) rfl dX0_number_69 e9 ?_
    obtain ⟨g10, h⟩ := hx_gd h
    refine hx_geti C (ci := 7) (j := 1) g10 uX0_number_7 (by decide) rfl (by decide) rfl (by decide +kernel) rfl dX0_number_72 ?_
    obtain rfl := hx_some1 h
    exact hx_iret C hr dX0_number_75
  have h := hx_neg c6 h
  have zc6 : Int32.toInt a1 ≠ 1 := fun z => c6 (Int32.toInt_inj.mp (z.trans rfl))
  by_cases c11 : a1 = 2
  · have h := hx_pos c11 h
    have hz : Int32.toInt a1 = 2 := by rw [c11]; rfl
    refine hx_tableIn (tgt := 76) C dX0_number_1 (by rw [hz] <;> decide) (by rw [hz] <;> decide) (off := 75) (by rw [hz] <;> rfl) (by decide) ?_
    refine hx_aload_n C dX0_number_76 rfl (lv_at hl 0 rfl) ?_
    obtain ⟨g12, h⟩ := hx_gd h
    obtain ⟨q13, e14, h⟩ := hx_bind h
    refine hx_getr C (ci := 0) (j := 1) g12 uX0_number_0 (by decide) rfl (by decide) rfl (by decide +kernel) rfl dX0_number_77 e14 ?_
    obtain ⟨g15, h⟩ := hx_gd h
    refine hx_geti C (ci := 7) (j := 2) g15 uX0_number_7 (by decide) rfl (by decide) rfl (by decide +kernel) rfl dX0_number_80 ?_
    obtain rfl := hx_some1 h
    exact hx_iret C hr dX0_number_83
  have h := hx_neg c11 h
  have zc11 : Int32.toInt a1 ≠ 2 := fun z => c11 (Int32.toInt_inj.mp (z.trans rfl))
  by_cases c16 : a1 = 3
  · have h := hx_pos c16 h
    have hz : Int32.toInt a1 = 3 := by rw [c16]; rfl
    refine hx_tableIn (tgt := 84) C dX0_number_1 (by rw [hz] <;> decide) (by rw [hz] <;> decide) (off := 83) (by rw [hz] <;> rfl) (by decide) ?_
    refine hx_aload_n C dX0_number_84 rfl (lv_at hl 0 rfl) ?_
    obtain ⟨g17, h⟩ := hx_gd h
    refine hx_geti C (ci := 0) (j := 6) g17 uX0_number_0 (by decide) rfl (by decide) rfl (by decide +kernel) rfl dX0_number_85 ?_
    obtain rfl := hx_some1 h
    exact hx_iret C hr dX0_number_88
  have h := hx_neg c16 h
  have zc16 : Int32.toInt a1 ≠ 3 := fun z => c16 (Int32.toInt_inj.mp (z.trans rfl))
  by_cases c18 : a1 = 4
  · have h := hx_pos c18 h
    have hz : Int32.toInt a1 = 4 := by rw [c18]; rfl
    refine hx_tableIn (tgt := 89) C dX0_number_1 (by rw [hz] <;> decide) (by rw [hz] <;> decide) (off := 88) (by rw [hz] <;> rfl) (by decide) ?_
    refine hx_aload_n C dX0_number_89 rfl (lv_at hl 0 rfl) ?_
    obtain ⟨g19, h⟩ := hx_gd h
    refine hx_geti C (ci := 0) (j := 7) g19 uX0_number_0 (by decide) rfl (by decide) rfl (by decide +kernel) rfl dX0_number_90 ?_
    obtain rfl := hx_some1 h
    exact hx_iret C hr dX0_number_93
  have h := hx_neg c18 h
  have zc18 : Int32.toInt a1 ≠ 4 := fun z => c18 (Int32.toInt_inj.mp (z.trans rfl))
  by_cases c20 : a1 = 5
  · have h := hx_pos c20 h
    have hz : Int32.toInt a1 = 5 := by rw [c20]; rfl
    refine hx_tableIn (tgt := 94) C dX0_number_1 (by rw [hz] <;> decide) (by rw [hz] <;> decide) (off := 93) (by rw [hz] <;> rfl) (by decide) ?_
    refine hx_aload_n C dX0_number_94 rfl (lv_at hl 0 rfl) ?_
    obtain ⟨g21, h⟩ := hx_gd h
    refine hx_geti C (ci := 0) (j := 4) g21 uX0_number_0 (by decide) rfl (by decide) rfl (by decide +kernel) rfl dX0_number_95 ?_
    obtain rfl := hx_some1 h
    exact hx_iret C hr dX0_number_98
  have h := hx_neg c20 h
  have zc20 : Int32.toInt a1 ≠ 5 := fun z => c20 (Int32.toInt_inj.mp (z.trans rfl))
  by_cases c22 : a1 = 6
  · have h := hx_pos c22 h
    have hz : Int32.toInt a1 = 6 := by rw [c22]; rfl
    refine hx_tableIn (tgt := 99) C dX0_number_1 (by rw [hz] <;> decide) (by rw [hz] <;> decide) (off := 98) (by rw [hz] <;> rfl) (by decide) ?_
    refine hx_aload_n C dX0_number_99 rfl (lv_at hl 0 rfl) ?_
    obtain ⟨g23, h⟩ := hx_gd h
    refine hx_geti C (ci := 0) (j := 5) g23 uX0_number_0 (by decide) rfl (by decide) rfl (by decide +kernel) rfl dX0_number_100 ?_
    obtain rfl := hx_some1 h
    exact hx_iret C hr dX0_number_103
  have h := hx_neg c22 h
  have zc22 : Int32.toInt a1 ≠ 6 := fun z => c22 (Int32.toInt_inj.mp (z.trans rfl))
  by_cases c24 : a1 = 7
  · have h := hx_pos c24 h
    have hz : Int32.toInt a1 = 7 := by rw [c24]; rfl
    refine hx_tableIn (tgt := 104) C dX0_number_1 (by rw [hz] <;> decide) (by rw [hz] <;> decide) (off := 103) (by rw [hz] <;> rfl) (by decide) ?_
    refine hx_aload_n C dX0_number_104 rfl (lv_at hl 0 rfl) ?_
    obtain ⟨r25, e26, h⟩ := hx_bind h
    obtain ⟨g27, h⟩ := hx_gd h
    refine hx_callV (As := []) (rest := []) (n := 0) (Cn := RX0) C (c_X0_keptWeighings e26) gX0_number_X0_keptWeighings g27 (by decide) rfl (by decide +kernel) ⟨Nat.le_of_ble_eq_true rfl, Nat.le_of_ble_eq_true rfl⟩ rfl rfl rfl ⟨Nat.zero_le _, Nat.zero_le _⟩ hl.1 rfl rfl (Nat.le_of_ble_eq_true rfl) dX0_number_105 ?_
    obtain rfl := hx_some1 h
    exact hx_iret C hr dX0_number_108
  have h := hx_neg c24 h
  have zc24 : Int32.toInt a1 ≠ 7 := fun z => c24 (Int32.toInt_inj.mp (z.trans rfl))
  by_cases c28 : a1 = 8
  · have h := hx_pos c28 h
    have hz : Int32.toInt a1 = 8 := by rw [c28]; rfl
    refine hx_tableIn (tgt := 109) C dX0_number_1 (by rw [hz] <;> decide) (by rw [hz] <;> decide) (off := 108) (by rw [hz] <;> rfl) (by decide) ?_
    refine hx_aload_n C dX0_number_109 rfl (lv_at hl 0 rfl) ?_
    obtain ⟨g29, h⟩ := hx_gd h
    refine hx_geti C (ci := 0) (j := 8) g29 uX0_number_0 (by decide) rfl (by decide) rfl (by decide +kernel) rfl dX0_number_110 ?_
    obtain rfl := hx_some1 h
    exact hx_iret C hr dX0_number_113
  have h := hx_neg c28 h
  have zc28 : Int32.toInt a1 ≠ 8 := fun z => c28 (Int32.toInt_inj.mp (z.trans rfl))
  by_cases c30 : a1 = 9
  · have h := hx_pos c30 h
    have hz : Int32.toInt a1 = 9 := by rw [c30]; rfl
    refine hx_tableIn (tgt := 114) C dX0_number_1 (by rw [hz] <;> decide) (by rw [hz] <;> decide) (off := 113) (by rw [hz] <;> rfl) (by decide) ?_
    refine hx_aload_n C dX0_number_114 rfl (lv_at hl 0 rfl) ?_
    obtain ⟨r31, e32, h⟩ := hx_bind h
    obtain ⟨g33, h⟩ := hx_gd h
    refine hx_callV (As := []) (rest := []) (n := 0) (Cn := RX0) C (c_X0_allPoints e32) gX0_number_X0_allPoints g33 (by decide) rfl (by decide +kernel) ⟨Nat.le_of_ble_eq_true rfl, Nat.le_of_ble_eq_true rfl⟩ rfl rfl rfl ⟨Nat.zero_le _, Nat.zero_le _⟩ hl.1 rfl rfl (Nat.le_of_ble_eq_true rfl) dX0_number_115 ?_
    obtain rfl := hx_some1 h
    exact hx_iret C hr dX0_number_118
  have h := hx_neg c30 h
  have zc30 : Int32.toInt a1 ≠ 9 := fun z => c30 (Int32.toInt_inj.mp (z.trans rfl))
  by_cases c34 : a1 = 10
  · have h := hx_pos c34 h
    have hz : Int32.toInt a1 = 10 := by rw [c34]; rfl
    refine hx_tableIn (tgt := 119) C dX0_number_1 (by rw [hz] <;> decide) (by rw [hz] <;> decide) (off := 118) (by rw [hz] <;> rfl) (by decide) ?_
    refine hx_aload_n C dX0_number_119 rfl (lv_at hl 0 rfl) ?_
    obtain ⟨r35, e36, h⟩ := hx_bind h
    obtain ⟨g37, h⟩ := hx_gd h
    refine hx_callV (As := []) (rest := []) (n := 0) (Cn := RX0) C (c_X0_allStocks e36) gX0_number_X0_allStocks g37 (by decide) rfl (by decide +kernel) ⟨Nat.le_of_ble_eq_true rfl, Nat.le_of_ble_eq_true rfl⟩ rfl rfl rfl ⟨Nat.zero_le _, Nat.zero_le _⟩ hl.1 rfl rfl (Nat.le_of_ble_eq_true rfl) dX0_number_120 ?_
    obtain rfl := hx_some1 h
    exact hx_iret C hr dX0_number_123
  have h := hx_neg c34 h
  have zc34 : Int32.toInt a1 ≠ 10 := fun z => c34 (Int32.toInt_inj.mp (z.trans rfl))
  refine hx_tableOut (tgt := 124) C dX0_number_1 (by omega) (by decide) ?_
  refine hx_ldc (v := (-100001)) C (by decide +kernel) dX0_number_124 ?_
  obtain rfl := hx_some1 h
  exact hx_iret C hr dX0_number_126
