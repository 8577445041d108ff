theorem uX10_scales_10 : ∀ w ∈ u_ws RX10 TX10 15, w ∈ wsX10_scales := by decide +kernel
def f_X10_scales (L : hL) (X : hX) (this : Nat) (a1 : Int32) (a2 : Int32) : Option (Int32 × hX) :=
  (f_X10_in L X a1 1 1000).bind fun r1 =>
  if r1 = 0 then
    some ((-100001), X)
  else
    (f_X10_in L X a2 0 2000).bind fun r4 =>
    if r4 = 0 then
      some ((-100001), X)
    else
      if tk L this 10 then
      (X.2 this 0).bind fun q8 =>
      if tk L q8 12 then
      if 8 < L.2.2 q8 then
      if 9 < L.2.2 q8 then
      if 10 < L.2.2 q8 then
      if ((smi (smi X q8 8 a1) q8 9 a2).1 q8 10) ≤ a2 then
        if (-a2) ≤ ((smi (smi X q8 8 a1) q8 9 a2).1 q8 10) then
          some ((smi (smi (smi X q8 8 a1) q8 9 a2) q8 10 ((smi (smi X q8 8 a1) q8 9 a2).1 q8 10)).1 q8 10, smi (smi (smi X q8 8 a1) q8 9 a2) q8 10 ((smi (smi X q8 8 a1) q8 9 a2).1 q8 10))
        else
          some ((smi (smi (smi X q8 8 a1) q8 9 a2) q8 10 (-a2)).1 q8 10, smi (smi (smi X q8 8 a1) q8 9 a2) q8 10 (-a2))
      else
        some ((smi (smi (smi X q8 8 a1) q8 9 a2) q8 10 a2).1 q8 10, smi (smi (smi X q8 8 a1) q8 9 a2) q8 10 a2)
      else none
      else none
      else none
      else none
      else none
set_option maxRecDepth 100000 in
set_option maxHeartbeats 4000000 in
theorem c_X10_scales {l : Launch} {dC : Nat → ClassId} {dI : Nat → Nat → Nat} {cy : Nat → ClassId} {ad : Nat → Nat} {L : hL} {X : hX} {this : Nat} {a1 : Int32} {a2 : Int32} {r : Int32} {X' : hX} (h : f_X10_scales L X this a1 a2 = some (r, X')) : hMet l dC dI cy ad L yX10_scales wsX10_scales ({ frames := 1, cells := 0, slots := 0, locals := 22 } : Room) [.ref (ad this), .int a1, .int a2] X (some (.int r)) X' := by
  unfold f_X10_scales at h
  refine hx_enter RX10 (plainFor_of_name (by decide)) rfl rfl (Nat.le_of_ble_eq_true rfl) (fun p e s m args below meth c C hr hnm ls hl => ?_)
  have hl : lv_has ls 3 [(0, .ref (ad this)), (1, .int a1), (2, .int a2)] := hl
  refine hx_iload_n C dX10_scales_0 rfl (lv_at hl 1 rfl) ?_
  refine hx_iconst (v := 1) C dX10_scales_1 (by decide) ?_
  refine hx_sipush (v := 1000) C dX10_scales_2 (by decide) ?_
  obtain ⟨r1, e2, h⟩ := hx_bind h
  refine hx_callS (As := [.int a1, .int 1, .int 1000]) (rest := []) (n := 3) C (c_X10_in e2) gX10_scales_X10_in (by decide +kernel) ⟨Nat.le_of_ble_eq_true rfl, Nat.le_of_ble_eq_true rfl⟩ rfl rfl rfl ⟨Nat.zero_le _, Nat.zero_le _⟩ hl.1 rfl rfl (Nat.le_of_ble_eq_true rfl) dX10_scales_5 ?_
  refine hx_if_eq (tgt := 22) C dX10_scales_8 (by decide) (fun c3 => ?_) (fun c3 => ?_)
  · have h := hx_pos c3 h
    refine hx_ldc (v := (-100001)) C (by decide +kernel) dX10_scales_22 ?_
    obtain ⟨rfl, rfl⟩ := hx_some2 h
    exact hx_iret C hr dX10_scales_24
  · have h := hx_neg c3 h
    refine hx_iload_n C dX10_scales_11 rfl (lv_at hl 2 rfl) ?_
    refine hx_iconst (v := 0) C dX10_scales_12 (by decide) ?_
    refine hx_sipush (v := 2000) C dX10_scales_13 (by decide) ?_
    obtain ⟨r4, e5, h⟩ := hx_bind h
    refine hx_callS (As := [.int a2, .int 0, .int 2000]) (rest := []) (n := 3) C (c_X10_in e5) gX10_scales_X10_in (by decide +kernel) ⟨Nat.le_of_ble_eq_true rfl, Nat.le_of_ble_eq_true rfl⟩ rfl rfl rfl ⟨Nat.zero_le _, Nat.zero_le _⟩ hl.1 rfl rfl (Nat.le_of_ble_eq_true rfl) dX10_scales_16 ?_
    refine hx_if_ne (tgt := 25) C dX10_scales_19 (by decide) (fun c6 => ?_) (fun c6 => ?_)
    · have h := hx_neg c6 h
      refine hx_aload_n C dX10_scales_25 rfl (lv_at hl 0 rfl) ?_
      obtain ⟨g7, h⟩ := hx_gd h
      obtain ⟨q8, e9, h⟩ := hx_bind h
      refine hx_getr C (ci := 10) (j := 0) g7 uX10_scales_10 (by decide) rfl (by decide) rfl (by decide +kernel) rfl dX10_scales_26 e9 ?_
      refine hx_bipush (v := 8) C dX10_scales_29 (by decide) ?_
      refine hx_iload_n C dX10_scales_31 rfl (lv_at hl 1 rfl) ?_
      obtain ⟨g10, h⟩ := hx_gd h
      obtain ⟨g11, h⟩ := hx_gd h
      refine hx_iast (n := 8) C g10 (hin_lit (i := 8) (by decide) rfl g11) rfl dX10_scales_32 ?_
      refine hx_aload_n C dX10_scales_33 rfl (lv_at hl 0 rfl) ?_
      refine hx_getr C (ci := 10) (j := 0) g7 uX10_scales_10 (by decide) rfl (by decide) rfl (by decide +kernel) rfl dX10_scales_34 e9 ?_
      refine hx_bipush (v := 9) C dX10_scales_37 (by decide) ?_
      refine hx_iload_n C dX10_scales_39 rfl (lv_at hl 2 rfl) ?_
      obtain ⟨g12, h⟩ := hx_gd h
      refine hx_iast (n := 9) C g10 (hin_lit (i := 9) (by decide) rfl g12) rfl dX10_scales_40 ?_
      refine hx_aload_n C dX10_scales_41 rfl (lv_at hl 0 rfl) ?_
      refine hx_getr C (ci := 10) (j := 0) g7 uX10_scales_10 (by decide) rfl (by decide) rfl (by decide +kernel) rfl dX10_scales_42 e9 ?_
      refine hx_bipush (v := 10) C dX10_scales_45 (by decide) ?_
      refine hx_aload_n C dX10_scales_47 rfl (lv_at hl 0 rfl) ?_
      refine hx_getr C (ci := 10) (j := 0) g7 uX10_scales_10 (by decide) rfl (by decide) rfl (by decide +kernel) rfl dX10_scales_48 e9 ?_
      refine hx_bipush (v := 10) C dX10_scales_51 (by decide) ?_
      obtain ⟨g13, h⟩ := hx_gd h
      refine hx_iald (n := 10) C g10 (hin_lit (i := 10) (by decide) rfl g13) rfl dX10_scales_53 ?_
      refine hx_iload_n C dX10_scales_54 rfl (lv_at hl 2 rfl) ?_
      refine hx_icmp_le (tgt := 62) C dX10_scales_55 (by decide) (fun c14 => ?_) (fun c14 => ?_)
      · have h := hx_pos c14 h
        refine hx_aload_n C dX10_scales_62 rfl (lv_at hl 0 rfl) ?_
        refine hx_getr C (ci := 10) (j := 0) g7 uX10_scales_10 (by decide) rfl (by decide) rfl (by decide +kernel) rfl dX10_scales_63 e9 ?_
        refine hx_bipush (v := 10) C dX10_scales_66 (by decide) ?_
        refine hx_iald (n := 10) C g10 (hin_lit (i := 10) (by decide) rfl g13) rfl dX10_scales_68 ?_
        refine hx_iload_n C dX10_scales_69 rfl (lv_at hl 2 rfl) ?_
        refine hx_ineg C dX10_scales_70 ?_
        refine hx_icmp_ge (tgt := 79) C dX10_scales_71 (by decide) (fun c15 => ?_) (fun c15 => ?_)
        · have h := hx_pos c15 h
          refine hx_aload_n C dX10_scales_79 rfl (lv_at hl 0 rfl) ?_
          refine hx_getr C (ci := 10) (j := 0) g7 uX10_scales_10 (by decide) rfl (by decide) rfl (by decide +kernel) rfl dX10_scales_80 e9 ?_
          refine hx_bipush (v := 10) C dX10_scales_83 (by decide) ?_
          refine hx_iald (n := 10) C g10 (hin_lit (i := 10) (by decide) rfl g13) rfl dX10_scales_85 ?_
          refine hx_iast (n := 10) C g10 (hin_lit (i := 10) (by decide) rfl g13) rfl dX10_scales_86 ?_
          refine hx_aload_n C dX10_scales_87 rfl (lv_at hl 0 rfl) ?_
          refine hx_getr C (ci := 10) (j := 0) g7 uX10_scales_10 (by decide) rfl (by decide) rfl (by decide +kernel) rfl dX10_scales_88 e9 ?_
          refine hx_bipush (v := 10) C dX10_scales_91 (by decide) ?_
          refine hx_iald (n := 10) C g10 (hin_lit (i := 10) (by decide) rfl g13) rfl dX10_scales_93 ?_
          obtain ⟨rfl, rfl⟩ := hx_some2 h
          exact hx_iret C hr dX10_scales_94
        · have h := hx_neg c15 h
          refine hx_iload_n C dX10_scales_74 rfl (lv_at hl 2 rfl) ?_
          refine hx_ineg C dX10_scales_75 ?_
          refine hx_goto (tgt := 86) C dX10_scales_76 (by decide) ?_
          refine hx_iast (n := 10) C g10 (hin_lit (i := 10) (by decide) rfl g13) rfl dX10_scales_86 ?_
          refine hx_aload_n C dX10_scales_87 rfl (lv_at hl 0 rfl) ?_
          refine hx_getr C (ci := 10) (j := 0) g7 uX10_scales_10 (by decide) rfl (by decide) rfl (by decide +kernel) rfl dX10_scales_88 e9 ?_
          refine hx_bipush (v := 10) C dX10_scales_91 (by decide) ?_
          refine hx_iald (n := 10) C g10 (hin_lit (i := 10) (by decide) rfl g13) rfl dX10_scales_93 ?_
          obtain ⟨rfl, rfl⟩ := hx_some2 h
          exact hx_iret C hr dX10_scales_94
      · have h := hx_neg c14 h
        refine hx_iload_n C dX10_scales_58 rfl (lv_at hl 2 rfl) ?_
        refine hx_goto (tgt := 86) C dX10_scales_59 (by decide) ?_
        refine hx_iast (n := 10) C g10 (hin_lit (i := 10) (by decide) rfl g13) rfl dX10_scales_86 ?_
        refine hx_aload_n C dX10_scales_87 rfl (lv_at hl 0 rfl) ?_
        refine hx_getr C (ci := 10) (j := 0) g7 uX10_scales_10 (by decide) rfl (by decide) rfl (by decide +kernel) rfl dX10_scales_88 e9 ?_
        refine hx_bipush (v := 10) C dX10_scales_91 (by decide) ?_
        refine hx_iald (n := 10) C g10 (hin_lit (i := 10) (by decide) rfl g13) rfl dX10_scales_93 ?_
        obtain ⟨rfl, rfl⟩ := hx_some2 h
        exact hx_iret C hr dX10_scales_94
    · have h := hx_pos c6 h
      refine hx_ldc (v := (-100001)) C (by decide +kernel) dX10_scales_22 ?_
      obtain ⟨rfl, rfl⟩ := hx_some2 h
      exact hx_iret C hr dX10_scales_24
def f_X10_setScale (L : hL) (X : hX) (this : Nat) (a1 : Int32) (a2 : Int32) : Option (Int32 × hX) :=
  (f_X10_keeps L X this).bind fun r1 =>
  if tk L this 10 then
  (f_X10_scales L r1 this a1 a2).bind fun r4 =>
  (f_X10_acted L r4.2 this r4.1).bind fun r6 =>
  some (r6.1, r6.2)
  else none
set_option maxRecDepth 100000 in
set_option maxHeartbeats 4000000 in
theorem c_X10_setScale {l : Launch} {dC : Nat → ClassId} {dI : Nat → Nat → Nat} {cy : Nat → ClassId} {ad : Nat → Nat} {L : hL} {X : hX} {this : Nat} {a1 : Int32} {a2 : Int32} {r : Int32} {X' : hX} (h : f_X10_setScale L X this a1 a2 = some (r, X')) : hMet l dC dI cy ad L yX10_setScale wsX10_setScale ({ frames := 2, cells := 0, slots := 0, locals := 44 } : Room) [.ref (ad this), .int a1, .int a2] X (some (.int r)) X' := by
  unfold f_X10_setScale at h
  refine hx_enter RX10 (plainFor_of_name (by decide)) rfl rfl (Nat.le_of_ble_eq_true rfl) (fun p e s m args below meth c C hr hnm ls hl => ?_)
  have hl : lv_has ls 3 [(0, .ref (ad this)), (1, .int a1), (2, .int a2)] := hl
  refine hx_aload_n C dX10_setScale_0 rfl (lv_at hl 0 rfl) ?_
  obtain ⟨r1, e2, h⟩ := hx_bind h
  obtain ⟨g3, h⟩ := hx_gd h
  refine hx_callV (As := []) (rest := []) (n := 0) (Cn := RX10) C (c_X10_keeps e2) gX10_setScale_X10_keeps g3 (by decide) rfl (by decide +kernel) ⟨Nat.le_of_ble_eq_true rfl, Nat.le_of_ble_eq_true rfl⟩ rfl rfl rfl ⟨Nat.zero_le _, Nat.zero_le _⟩ hl.1 rfl rfl (Nat.le_of_ble_eq_true rfl) dX10_setScale_1 ?_
  refine hx_aload_n C dX10_setScale_4 rfl (lv_at hl 0 rfl) ?_
  refine hx_aload_n C dX10_setScale_5 rfl (lv_at hl 0 rfl) ?_
  refine hx_iload_n C dX10_setScale_6 rfl (lv_at hl 1 rfl) ?_
  refine hx_iload_n C dX10_setScale_7 rfl (lv_at hl 2 rfl) ?_
  obtain ⟨r4, e5, h⟩ := hx_bind h
  refine hx_callV (As := [.int a1, .int a2]) (rest := [.ref (ad this)]) (n := 2) (Cn := RX10) C (c_X10_scales e5) gX10_setScale_X10_scales g3 (by decide) rfl (by decide +kernel) ⟨Nat.le_of_ble_eq_true rfl, Nat.le_of_ble_eq_true rfl⟩ rfl rfl rfl ⟨Nat.zero_le _, Nat.zero_le _⟩ hl.1 rfl rfl (Nat.le_of_ble_eq_true rfl) dX10_setScale_8 ?_
  obtain ⟨r6, e7, h⟩ := hx_bind h
  refine hx_callV (As := [.int r4.1]) (rest := []) (n := 1) (Cn := RX10) C (c_X10_acted e7) gX10_setScale_X10_acted g3 (by decide) rfl (by decide +kernel) ⟨Nat.le_of_ble_eq_true rfl, Nat.le_of_ble_eq_true rfl⟩ rfl rfl rfl ⟨Nat.zero_le _, Nat.zero_le _⟩ hl.1 rfl rfl (Nat.le_of_ble_eq_true rfl) dX10_setScale_11 ?_
  obtain ⟨rfl, rfl⟩ := hx_some2 h
  exact hx_iret C hr dX10_setScale_14
theorem uX10_sets_10 : ∀ w ∈ u_ws RX10 TX10 15, w ∈ wsX10_sets := by decide +kernel
def f_X10_sets (L : hL) (X : hX) (this : Nat) (a1 : Int32) (a2 : Int32) (a3 : Int32) (a4 : Int32) : Option (Int32 × hX) :=
  (f_X10_in L X a2 a3 a4).bind fun r1 =>
  if r1 = 0 then
    some ((-100001), X)
  else
    if tk L this 10 then
    (X.2 this 0).bind fun q5 =>
    if tk L q5 12 then
    if hin a1 (L.2.2 q5) then
    some (X.1 q5 (Int32.toNatClampNeg a1), smi X q5 (Int32.toNatClampNeg a1) a2)
    else none
    else none
    else none
set_option maxRecDepth 100000 in
set_option maxHeartbeats 4000000 in
theorem c_X10_sets {l : Launch} {dC : Nat → ClassId} {dI : Nat → Nat → Nat} {cy : Nat → ClassId} {ad : Nat → Nat} {L : hL} {X : hX} {this : Nat} {a1 : Int32} {a2 : Int32} {a3 : Int32} {a4 : Int32} {r : Int32} {X' : hX} (h : f_X10_sets L X this a1 a2 a3 a4 = some (r, X')) : hMet l dC dI cy ad L yX10_sets wsX10_sets ({ frames := 1, cells := 0, slots := 0, locals := 22 } : Room) [.ref (ad this), .int a1, .int a2, .int a3, .int a4] X (some (.int r)) X' := by
  unfold f_X10_sets at h
  refine hx_enter RX10 (plainFor_of_name (by decide)) rfl rfl (Nat.le_of_ble_eq_true rfl) (fun p e s m args below meth c C hr hnm ls hl => ?_)
  have hl : lv_has ls 6 [(0, .ref (ad this)), (1, .int a1), (2, .int a2), (3, .int a3), (4, .int a4)] := hl
  refine hx_iload_n C dX10_sets_0 rfl (lv_at hl 2 rfl) ?_
  refine hx_iload_n C dX10_sets_1 rfl (lv_at hl 3 rfl) ?_
  refine hx_iload C dX10_sets_2 (lv_at hl 4 rfl) ?_
  obtain ⟨r1, e2, h⟩ := hx_bind h
  refine hx_callS (As := [.int a2, .int a3, .int a4]) (rest := []) (n := 3) C (c_X10_in e2) gX10_sets_X10_in (by decide +kernel) ⟨Nat.le_of_ble_eq_true rfl, Nat.le_of_ble_eq_true rfl⟩ rfl rfl rfl ⟨Nat.zero_le _, Nat.zero_le _⟩ hl.1 rfl rfl (Nat.le_of_ble_eq_true rfl) dX10_sets_4 ?_
  refine hx_if_ne (tgt := 13) C dX10_sets_7 (by decide) (fun c3 => ?_) (fun c3 => ?_)
  · have h := hx_neg c3 h
    refine hx_aload_n C dX10_sets_13 rfl (lv_at hl 0 rfl) ?_
    obtain ⟨g4, h⟩ := hx_gd h
    obtain ⟨q5, e6, h⟩ := hx_bind h
    refine hx_getr C (ci := 10) (j := 0) g4 uX10_sets_10 (by decide) rfl (by decide) rfl (by decide +kernel) rfl dX10_sets_14 e6 ?_
    refine hx_iload_n C dX10_sets_17 rfl (lv_at hl 1 rfl) ?_
    obtain ⟨g7, h⟩ := hx_gd h
    obtain ⟨g8, h⟩ := hx_gd h
    refine hx_iald (n := (Int32.toNatClampNeg a1)) C g7 g8 rfl dX10_sets_18 ?_
    refine hx_istore (lv' := [(5, .int (X.1 q5 (Int32.toNatClampNeg a1))), (0, .ref (ad this)), (1, .int a1), (2, .int a2), (3, .int a3), (4, .int a4)]) C dX10_sets_19 hl (by decide) rfl (fun ls hl => ?_)
    refine hx_aload_n C dX10_sets_21 rfl (lv_at hl 1 rfl) ?_
    refine hx_getr C (ci := 10) (j := 0) g4 uX10_sets_10 (by decide) rfl (by decide) rfl (by decide +kernel) rfl dX10_sets_22 e6 ?_
    refine hx_iload_n C dX10_sets_25 rfl (lv_at hl 2 rfl) ?_
    refine hx_iload_n C dX10_sets_26 rfl (lv_at hl 3 rfl) ?_
    refine hx_iast (n := (Int32.toNatClampNeg a1)) C g7 g8 rfl dX10_sets_27 ?_
    refine hx_iload C dX10_sets_28 (lv_at hl 0 rfl) ?_
    obtain ⟨rfl, rfl⟩ := hx_some2 h
    exact hx_iret C hr dX10_sets_30
  · have h := hx_pos c3 h
    refine hx_ldc (v := (-100001)) C (by decide +kernel) dX10_sets_10 ?_
    obtain ⟨rfl, rfl⟩ := hx_some2 h
    exact hx_iret C hr dX10_sets_12
theorem uX10_setBias_10 : ∀ w ∈ u_ws RX10 TX10 15, w ∈ wsX10_setBias := by decide +kernel
def f_X10_setBias (L : hL) (X : hX) (this : Nat) (a1 : Int32) : Option (Int32 × hX) :=
  (f_X10_keeps L X this).bind fun r1 =>
  if tk L this 10 then
  (r1.2 this 0).bind fun q4 =>
  if tk L q4 12 then
  if 9 < L.2.2 q4 then
  (f_X10_sets L r1 this 10 a1 (-(r1.1 q4 9)) (r1.1 q4 9)).bind fun r8 =>
  (f_X10_acted L r8.2 this r8.1).bind fun r10 =>
  some (r10.1, r10.2)
  else none
  else none
  else none
set_option maxRecDepth 100000 in
set_option maxHeartbeats 4000000 in
theorem c_X10_setBias {l : Launch} {dC : Nat → ClassId} {dI : Nat → Nat → Nat} {cy : Nat → ClassId} {ad : Nat → Nat} {L : hL} {X : hX} {this : Nat} {a1 : Int32} {r : Int32} {X' : hX} (h : f_X10_setBias L X this a1 = some (r, X')) : hMet l dC dI cy ad L yX10_setBias wsX10_setBias ({ frames := 2, cells := 0, slots := 0, locals := 47 } : Room) [.ref (ad this), .int a1] X (some (.int r)) X' := by
  unfold f_X10_setBias at h
  refine hx_enter RX10 (plainFor_of_name (by decide)) rfl rfl (Nat.le_of_ble_eq_true rfl) (fun p e s m args below meth c C hr hnm ls hl => ?_)
  have hl : lv_has ls 2 [(0, .ref (ad this)), (1, .int a1)] := hl
  refine hx_aload_n C dX10_setBias_0 rfl (lv_at hl 0 rfl) ?_
  obtain ⟨r1, e2, h⟩ := hx_bind h
  obtain ⟨g3, h⟩ := hx_gd h
  refine hx_callV (As := []) (rest := []) (n := 0) (Cn := RX10) C (c_X10_keeps e2) gX10_setBias_X10_keeps g3 (by decide) rfl (by decide +kernel) ⟨Nat.le_of_ble_eq_true rfl, Nat.le_of_ble_eq_true rfl⟩ rfl rfl rfl ⟨Nat.zero_le _, Nat.zero_le _⟩ hl.1 rfl rfl (Nat.le_of_ble_eq_true rfl) dX10_setBias_1 ?_
  refine hx_aload_n C dX10_setBias_4 rfl (lv_at hl 0 rfl) ?_
  refine hx_aload_n C dX10_setBias_5 rfl (lv_at hl 0 rfl) ?_
  refine hx_bipush (v := 10) C dX10_setBias_6 (by decide) ?_
  refine hx_iload_n C dX10_setBias_8 rfl (lv_at hl 1 rfl) ?_
  refine hx_aload_n C dX10_setBias_9 rfl (lv_at hl 0 rfl) ?_
  obtain ⟨q4, e5, h⟩ := hx_bind h
  refine hx_getr C (ci := 10) (j := 0) g3 uX10_setBias_10 (by decide) rfl (by decide) rfl (by decide +kernel) rfl dX10_setBias_10 e5 ?_
  refine hx_bipush (v := 9) C dX10_setBias_13 (by decide) ?_
  obtain ⟨g6, h⟩ := hx_gd h
  obtain ⟨g7, h⟩ := hx_gd h
  refine hx_iald (n := 9) C g6 (hin_lit (i := 9) (by decide) rfl g7) rfl dX10_setBias_15 ?_
  refine hx_ineg C dX10_setBias_16 ?_
  refine hx_aload_n C dX10_setBias_17 rfl (lv_at hl 0 rfl) ?_
  refine hx_getr C (ci := 10) (j := 0) g3 uX10_setBias_10 (by decide) rfl (by decide) rfl (by decide +kernel) rfl dX10_setBias_18 e5 ?_
  refine hx_bipush (v := 9) C dX10_setBias_21 (by decide) ?_
  refine hx_iald (n := 9) C g6 (hin_lit (i := 9) (by decide) rfl g7) rfl dX10_setBias_23 ?_
  obtain ⟨r8, e9, h⟩ := hx_bind h
  refine hx_callV (As := [.int 10, .int a1, .int (-(r1.1 q4 9)), .int (r1.1 q4 9)]) (rest := [.ref (ad this)]) (n := 4) (Cn := RX10) C (c_X10_sets e9) gX10_setBias_X10_sets g3 (by decide) rfl (by decide +kernel) ⟨Nat.le_of_ble_eq_true rfl, Nat.le_of_ble_eq_true rfl⟩ rfl rfl rfl ⟨Nat.zero_le _, Nat.zero_le _⟩ hl.1 rfl rfl (Nat.le_of_ble_eq_true rfl) dX10_setBias_24 ?_
  obtain ⟨r10, e11, h⟩ := hx_bind h
  refine hx_callV (As := [.int r8.1]) (rest := []) (n := 1) (Cn := RX10) C (c_X10_acted e11) gX10_setBias_X10_acted g3 (by decide) rfl (by decide +kernel) ⟨Nat.le_of_ble_eq_true rfl, Nat.le_of_ble_eq_true rfl⟩ rfl rfl rfl ⟨Nat.zero_le _, Nat.zero_le _⟩ hl.1 rfl rfl (Nat.le_of_ble_eq_true rfl) dX10_setBias_27 ?_
  obtain ⟨rfl, rfl⟩ := hx_some2 h
  exact hx_iret C hr dX10_setBias_30
def f_X10_setRule (L : hL) (X : hX) (this : Nat) (a1 : Int32) : Option (Int32 × hX) :=
  (f_X10_keeps L X this).bind fun r1 =>
  if tk L this 10 then
  (f_X10_sets L r1 this 11 a1 0 3).bind fun r4 =>
  (f_X10_acted L r4.2 this r4.1).bind fun r6 =>
  some (r6.1, r6.2)
  else none
set_option maxRecDepth 100000 in
set_option maxHeartbeats 4000000 in
theorem c_X10_setRule {l : Launch} {dC : Nat → ClassId} {dI : Nat → Nat → Nat} {cy : Nat → ClassId} {ad : Nat → Nat} {L : hL} {X : hX} {this : Nat} {a1 : Int32} {r : Int32} {X' : hX} (h : f_X10_setRule L X this a1 = some (r, X')) : hMet l dC dI cy ad L yX10_setRule wsX10_setRule ({ frames := 2, cells := 0, slots := 0, locals := 47 } : Room) [.ref (ad this), .int a1] X (some (.int r)) X' := by
  unfold f_X10_setRule at h
  refine hx_enter RX10 (plainFor_of_name (by decide)) rfl rfl (Nat.le_of_ble_eq_true rfl) (fun p e s m args below meth c C hr hnm ls hl => ?_)
  have hl : lv_has ls 2 [(0, .ref (ad this)), (1, .int a1)] := hl
  refine hx_aload_n C dX10_setRule_0 rfl (lv_at hl 0 rfl) ?_
  obtain ⟨r1, e2, h⟩ := hx_bind h
  obtain ⟨g3, h⟩ := hx_gd h
  refine hx_callV (As := []) (rest := []) (n := 0) (Cn := RX10) C (c_X10_keeps e2) gX10_setRule_X10_keeps g3 (by decide) rfl (by decide +kernel) ⟨Nat.le_of_ble_eq_true rfl, Nat.le_of_ble_eq_true rfl⟩ rfl rfl rfl ⟨Nat.zero_le _, Nat.zero_le _⟩ hl.1 rfl rfl (Nat.le_of_ble_eq_true rfl) dX10_setRule_1 ?_
  refine hx_aload_n C dX10_setRule_4 rfl (lv_at hl 0 rfl) ?_
  refine hx_aload_n C dX10_setRule_5 rfl (lv_at hl 0 rfl) ?_
  refine hx_bipush (v := 11) C dX10_setRule_6 (by decide) ?_
  refine hx_iload_n C dX10_setRule_8 rfl (lv_at hl 1 rfl) ?_
  refine hx_iconst (v := 0) C dX10_setRule_9 (by decide) ?_
  refine hx_iconst (v := 3) C dX10_setRule_10 (by decide) ?_
  obtain ⟨r4, e5, h⟩ := hx_bind h
  refine hx_callV (As := [.int 11, .int a1, .int 0, .int 3]) (rest := [.ref (ad this)]) (n := 4) (Cn := RX10) C (c_X10_sets e5) gX10_setRule_X10_sets g3 (by decide) rfl (by decide +kernel) ⟨Nat.le_of_ble_eq_true rfl, Nat.le_of_ble_eq_true rfl⟩ rfl rfl rfl ⟨Nat.zero_le _, Nat.zero_le _⟩ hl.1 rfl rfl (Nat.le_of_ble_eq_true rfl) dX10_setRule_11 ?_
  obtain ⟨r6, e7, h⟩ := hx_bind h
  refine hx_callV (As := [.int r4.1]) (rest := []) (n := 1) (Cn := RX10) C (c_X10_acted e7) gX10_setRule_X10_acted g3 (by decide) rfl (by decide +kernel) ⟨Nat.le_of_ble_eq_true rfl, Nat.le_of_ble_eq_true rfl⟩ rfl rfl rfl ⟨Nat.zero_le _, Nat.zero_le _⟩ hl.1 rfl rfl (Nat.le_of_ble_eq_true rfl) dX10_setRule_14 ?_
  obtain ⟨rfl, rfl⟩ := hx_some2 h
  exact hx_iret C hr dX10_setRule_17
def f_X10_setFee (L : hL) (X : hX) (this : Nat) (a1 : Int32) : Option (Int32 × hX) :=
  (f_X10_keeps L X this).bind fun r1 =>
  if tk L this 10 then
  (f_X10_sets L r1 this 12 a1 0 100).bind fun r4 =>
  (f_X10_acted L r4.2 this r4.1).bind fun r6 =>
  some (r6.1, r6.2)
  else none
set_option maxRecDepth 100000 in
set_option maxHeartbeats 4000000 in
theorem c_X10_setFee {l : Launch} {dC : Nat → ClassId} {dI : Nat → Nat → Nat} {cy : Nat → ClassId} {ad : Nat → Nat} {L : hL} {X : hX} {this : Nat} {a1 : Int32} {r : Int32} {X' : hX} (h : f_X10_setFee L X this a1 = some (r, X')) : hMet l dC dI cy ad L yX10_setFee wsX10_setFee ({ frames := 2, cells := 0, slots := 0, locals := 47 } : Room) [.ref (ad this), .int a1] X (some (.int r)) X' := by
  unfold f_X10_setFee at h
  refine hx_enter RX10 (plainFor_of_name (by decide)) rfl rfl (Nat.le_of_ble_eq_true rfl) (fun p e s m args below meth c C hr hnm ls hl => ?_)
  have hl : lv_has ls 2 [(0, .ref (ad this)), (1, .int a1)] := hl
  refine hx_aload_n C dX10_setFee_0 rfl (lv_at hl 0 rfl) ?_
  obtain ⟨r1, e2, h⟩ := hx_bind h
  obtain ⟨g3, h⟩ := hx_gd h
  refine hx_callV (As := []) (rest := []) (n := 0) (Cn := RX10) C (c_X10_keeps e2) gX10_setFee_X10_keeps g3 (by decide) rfl (by decide +kernel) ⟨Nat.le_of_ble_eq_true rfl, Nat.le_of_ble_eq_true rfl⟩ rfl rfl rfl ⟨Nat.zero_le _, Nat.zero_le _⟩ hl.1 rfl rfl (Nat.le_of_ble_eq_true rfl) dX10_setFee_1 ?_
  refine hx_aload_n C dX10_setFee_4 rfl (lv_at hl 0 rfl) ?_
  refine hx_aload_n C dX10_setFee_5 rfl (lv_at hl 0 rfl) ?_
  refine hx_bipush (v := 12) C dX10_setFee_6 (by decide) ?_
  refine hx_iload_n C dX10_setFee_8 rfl (lv_at hl 1 rfl) ?_
  refine hx_iconst (v := 0) C dX10_setFee_9 (by decide) ?_
  refine hx_bipush (v := 100) C dX10_setFee_10 (by decide) ?_
  obtain ⟨r4, e5, h⟩ := hx_bind h
  refine hx_callV (As := [.int 12, .int a1, .int 0, .int 100]) (rest := [.ref (ad this)]) (n := 4) (Cn := RX10) C (c_X10_sets e5) gX10_setFee_X10_sets g3 (by decide) rfl (by decide +kernel) ⟨Nat.le_of_ble_eq_true rfl, Nat.le_of_ble_eq_true rfl⟩ rfl rfl rfl ⟨Nat.zero_le _, Nat.zero_le _⟩ hl.1 rfl rfl (Nat.le_of_ble_eq_true rfl) dX10_setFee_12 ?_
  obtain ⟨r6, e7, h⟩ := hx_bind h
  refine hx_callV (As := [.int r4.1]) (rest := []) (n := 1) (Cn := RX10) C (c_X10_acted e7) gX10_setFee_X10_acted g3 (by decide) rfl (by decide +kernel) ⟨Nat.le_of_ble_eq_true rfl, Nat.le_of_ble_eq_true rfl⟩ rfl rfl rfl ⟨Nat.zero_le _, Nat.zero_le _⟩ hl.1 rfl rfl (Nat.le_of_ble_eq_true rfl) dX10_setFee_15 ?_
  obtain ⟨rfl, rfl⟩ := hx_some2 h
  exact hx_iret C hr dX10_setFee_18
theorem uX10_comes_10 : ∀ w ∈ u_ws RX10 TX10 15, w ∈ wsX10_comes := by decide +kernel
def f_X10_comes (L : hL) (X : hX) (this : Nat) (a1 : Int32) : Option (Int32 × hX) :=
  (f_X10_in L X a1 0 9999).bind fun r1 =>
  if r1 = 0 then
    some ((-100001), X)
  else
    if tk L this 10 then
    (X.2 this 0).bind fun q5 =>
    if tk L q5 12 then
    if 14 < L.2.2 q5 then
    if (X.1 q5 14) = 6 then
      some ((-100003), X)
    else
      if hin (16 + (6 * (X.1 q5 14))) (L.2.2 q5) then
      if hin ((16 + (6 * (X.1 q5 14))) + 1) (L.2.2 q5) then
      some (((smi (smi (smi X q5 (Int32.toNatClampNeg (16 + (6 * (X.1 q5 14)))) a1) q5 (Int32.toNatClampNeg ((16 + (6 * (X.1 q5 14))) + 1)) 0) q5 14 (((smi (smi X q5 (Int32.toNatClampNeg (16 + (6 * (X.1 q5 14)))) a1) q5 (Int32.toNatClampNeg ((16 + (6 * (X.1 q5 14))) + 1)) 0).1 q5 14) + 1)).1 q5 14) - 1, smi (smi (smi X q5 (Int32.toNatClampNeg (16 + (6 * (X.1 q5 14)))) a1) q5 (Int32.toNatClampNeg ((16 + (6 * (X.1 q5 14))) + 1)) 0) q5 14 (((smi (smi X q5 (Int32.toNatClampNeg (16 + (6 * (X.1 q5 14)))) a1) q5 (Int32.toNatClampNeg ((16 + (6 * (X.1 q5 14))) + 1)) 0).1 q5 14) + 1))
      else none
      else none
    else none
    else none
    else none
set_option maxRecDepth 100000 in
set_option maxHeartbeats 4000000 in
theorem c_X10_comes {l : Launch} {dC : Nat → ClassId} {dI : Nat → Nat → Nat} {cy : Nat → ClassId} {ad : Nat → Nat} {L : hL} {X : hX} {this : Nat} {a1 : Int32} {r : Int32} {X' : hX} (h : f_X10_comes L X this a1 = some (r, X')) : hMet l dC dI cy ad L yX10_comes wsX10_comes ({ frames := 1, cells := 0, slots := 0, locals := 22 } : Room) [.ref (ad this), .int a1] X (some (.int r)) X' := by
  unfold f_X10_comes at h
  refine hx_enter RX10 (plainFor_of_name (by decide)) rfl rfl (Nat.le_of_ble_eq_true rfl) (fun p e s m args below meth c C hr hnm ls hl => ?_)
  have hl : lv_has ls 3 [(0, .ref (ad this)), (1, .int a1)] := hl
  refine hx_iload_n C dX10_comes_0 rfl (lv_at hl 1 rfl) ?_
  refine hx_iconst (v := 0) C dX10_comes_1 (by decide) ?_
  refine hx_sipush (v := 9999) C dX10_comes_2 (by decide) ?_
  obtain ⟨r1, e2, h⟩ := hx_bind h
  refine hx_callS (As := [.int a1, .int 0, .int 9999]) (rest := []) (n := 3) C (c_X10_in e2) gX10_comes_X10_in (by decide +kernel) ⟨Nat.le_of_ble_eq_true rfl, Nat.le_of_ble_eq_true rfl⟩ rfl rfl rfl ⟨Nat.zero_le _, Nat.zero_le _⟩ hl.1 rfl rfl (Nat.le_of_ble_eq_true rfl) dX10_comes_5 ?_
  refine hx_if_ne (tgt := 14) C dX10_comes_8 (by decide) (fun c3 => ?_) (fun c3 => ?_)
  · have h := hx_neg c3 h
    refine hx_aload_n C dX10_comes_14 rfl (lv_at hl 0 rfl) ?_
    obtain ⟨g4, h⟩ := hx_gd h
    obtain ⟨q5, e6, h⟩ := hx_bind h
    refine hx_getr C (ci := 10) (j := 0) g4 uX10_comes_10 (by decide) rfl (by decide) rfl (by decide +kernel) rfl dX10_comes_15 e6 ?_
    refine hx_bipush (v := 14) C dX10_comes_18 (by decide) ?_
    obtain ⟨g7, h⟩ := hx_gd h
    obtain ⟨g8, h⟩ := hx_gd h
    refine hx_iald (n := 14) C g7 (hin_lit (i := 14) (by decide) rfl g8) rfl dX10_comes_20 ?_
    refine hx_bipush (v := 6) C dX10_comes_21 (by decide) ?_
    refine hx_icmp_ne (tgt := 29) C dX10_comes_23 (by decide) (fun c9 => ?_) (fun c9 => ?_)
    · have h := hx_neg c9 h
      refine hx_bipush (v := 16) C dX10_comes_29 (by decide) ?_
      refine hx_bipush (v := 6) C dX10_comes_31 (by decide) ?_
      refine hx_aload_n C dX10_comes_33 rfl (lv_at hl 0 rfl) ?_
      refine hx_getr C (ci := 10) (j := 0) g4 uX10_comes_10 (by decide) rfl (by decide) rfl (by decide +kernel) rfl dX10_comes_34 e6 ?_
      refine hx_bipush (v := 14) C dX10_comes_37 (by decide) ?_
      refine hx_iald (n := 14) C g7 (hin_lit (i := 14) (by decide) rfl g8) rfl dX10_comes_39 ?_
      refine hx_imul C dX10_comes_40 ?_
      refine hx_iadd C dX10_comes_41 ?_
      refine hx_istore_n (lv' := [(2, .int (16 + (6 * (X.1 q5 14)))), (0, .ref (ad this)), (1, .int a1)]) C dX10_comes_42 rfl hl (by decide) rfl (fun ls hl => ?_)
      refine hx_aload_n C dX10_comes_43 rfl (lv_at hl 1 rfl) ?_
      refine hx_getr C (ci := 10) (j := 0) g4 uX10_comes_10 (by decide) rfl (by decide) rfl (by decide +kernel) rfl dX10_comes_44 e6 ?_
      refine hx_iload_n C dX10_comes_47 rfl (lv_at hl 0 rfl) ?_
      refine hx_iload_n C dX10_comes_48 rfl (lv_at hl 2 rfl) ?_
      obtain ⟨g10, h⟩ := hx_gd h
      refine hx_iast (n := (Int32.toNatClampNeg (16 + (6 * (X.1 q5 14))))) C g7 g10 rfl dX10_comes_49 ?_
      refine hx_aload_n C dX10_comes_50 rfl (lv_at hl 1 rfl) ?_
      refine hx_getr C (ci := 10) (j := 0) g4 uX10_comes_10 (by decide) rfl (by decide) rfl (by decide +kernel) rfl dX10_comes_51 e6 ?_
      refine hx_iload_n C dX10_comes_54 rfl (lv_at hl 0 rfl) ?_
      refine hx_iconst (v := 1) C dX10_comes_55 (by decide) ?_
      refine hx_iadd C dX10_comes_56 ?_
      refine hx_iconst (v := 0) C dX10_comes_57 (by decide) ?_
      obtain ⟨g11, h⟩ := hx_gd h
      refine hx_iast (n := (Int32.toNatClampNeg ((16 + (6 * (X.1 q5 14))) + 1))) C g7 g11 rfl dX10_comes_58 ?_
      refine hx_aload_n C dX10_comes_59 rfl (lv_at hl 1 rfl) ?_
      refine hx_getr C (ci := 10) (j := 0) g4 uX10_comes_10 (by decide) rfl (by decide) rfl (by decide +kernel) rfl dX10_comes_60 e6 ?_
      refine hx_bipush (v := 14) C dX10_comes_63 (by decide) ?_
      refine hx_dup2 C dX10_comes_65 rfl rfl ?_
      refine hx_iald (n := 14) C g7 (hin_lit (i := 14) (by decide) rfl g8) rfl dX10_comes_66 ?_
      refine hx_iconst (v := 1) C dX10_comes_67 (by decide) ?_
      refine hx_iadd C dX10_comes_68 ?_
      refine hx_iast (n := 14) C g7 (hin_lit (i := 14) (by decide) rfl g8) rfl dX10_comes_69 ?_
      refine hx_aload_n C dX10_comes_70 rfl (lv_at hl 1 rfl) ?_
      refine hx_getr C (ci := 10) (j := 0) g4 uX10_comes_10 (by decide) rfl (by decide) rfl (by decide +kernel) rfl dX10_comes_71 e6 ?_
      refine hx_bipush (v := 14) C dX10_comes_74 (by decide) ?_
      refine hx_iald (n := 14) C g7 (hin_lit (i := 14) (by decide) rfl g8) rfl dX10_comes_76 ?_
      refine hx_iconst (v := 1) C dX10_comes_77 (by decide) ?_
      refine hx_isub C dX10_comes_78 ?_
      obtain ⟨rfl, rfl⟩ := hx_some2 h
      exact hx_iret C hr dX10_comes_79
    · have h := hx_pos c9 h
      refine hx_ldc (v := (-100003)) C (by decide +kernel) dX10_comes_26 ?_
      obtain ⟨rfl, rfl⟩ := hx_some2 h
      exact hx_iret C hr dX10_comes_28
  · have h := hx_pos c3 h
    refine hx_ldc (v := (-100001)) C (by decide +kernel) dX10_comes_11 ?_
    obtain ⟨rfl, rfl⟩ := hx_some2 h
    exact hx_iret C hr dX10_comes_13
def f_X10_come (L : hL) (X : hX) (this : Nat) (a1 : Int32) : Option (Int32 × hX) :=
  (f_X10_keeps L X this).bind fun r1 =>
  if tk L this 10 then
  (f_X10_comes L r1 this a1).bind fun r4 =>
  (f_X10_acted L r4.2 this r4.1).bind fun r6 =>
  some (r6.1, r6.2)
  else none
set_option maxRecDepth 100000 in
set_option maxHeartbeats 4000000 in
theorem c_X10_come {l : Launch} {dC : Nat → ClassId} {dI : Nat → Nat → Nat} {cy : Nat → ClassId} {ad : Nat → Nat} {L : hL} {X : hX} {this : Nat} {a1 : Int32} {r : Int32} {X' : hX} (h : f_X10_come L X this a1 = some (r, X')) : hMet l dC dI cy ad L yX10_come wsX10_come ({ frames := 2, cells := 0, slots := 0, locals := 44 } : Room) [.ref (ad this), .int a1] X (some (.int r)) X' := by
  unfold f_X10_come at h
  refine hx_enter RX10 (plainFor_of_name (by decide)) rfl rfl (Nat.le_of_ble_eq_true rfl) (fun p e s m args below meth c C hr hnm ls hl => ?_)
  have hl : lv_has ls 2 [(0, .ref (ad this)), (1, .int a1)] := hl
  refine hx_aload_n C dX10_come_0 rfl (lv_at hl 0 rfl) ?_
  obtain ⟨r1, e2, h⟩ := hx_bind h
  obtain ⟨g3, h⟩ := hx_gd h
  refine hx_callV (As := []) (rest := []) (n := 0) (Cn := RX10) C (c_X10_keeps e2) gX10_come_X10_keeps g3 (by decide) rfl (by decide +kernel) ⟨Nat.le_of_ble_eq_true rfl, Nat.le_of_ble_eq_true rfl⟩ rfl rfl rfl ⟨Nat.zero_le _, Nat.zero_le _⟩ hl.1 rfl rfl (Nat.le_of_ble_eq_true rfl) dX10_come_1 ?_
  refine hx_aload_n C dX10_come_4 rfl (lv_at hl 0 rfl) ?_
  refine hx_aload_n C dX10_come_5 rfl (lv_at hl 0 rfl) ?_
  refine hx_iload_n C dX10_come_6 rfl (lv_at hl 1 rfl) ?_
  obtain ⟨r4, e5, h⟩ := hx_bind h
  refine hx_callV (As := [.int a1]) (rest := [.ref (ad this)]) (n := 1) (Cn := RX10) C (c_X10_comes e5) gX10_come_X10_comes g3 (by decide) rfl (by decide +kernel) ⟨Nat.le_of_ble_eq_true rfl, Nat.le_of_ble_eq_true rfl⟩ rfl rfl rfl ⟨Nat.zero_le _, Nat.zero_le _⟩ hl.1 rfl rfl (Nat.le_of_ble_eq_true rfl) dX10_come_7 ?_
  obtain ⟨r6, e7, h⟩ := hx_bind h
  refine hx_callV (As := [.int r4.1]) (rest := []) (n := 1) (Cn := RX10) C (c_X10_acted e7) gX10_come_X10_acted g3 (by decide) rfl (by decide +kernel) ⟨Nat.le_of_ble_eq_true rfl, Nat.le_of_ble_eq_true rfl⟩ rfl rfl rfl ⟨Nat.zero_le _, Nat.zero_le _⟩ hl.1 rfl rfl (Nat.le_of_ble_eq_true rfl) dX10_come_10 ?_
  obtain ⟨rfl, rfl⟩ := hx_some2 h
  exact hx_iret C hr dX10_come_13
theorem uX10_leave_10 : ∀ w ∈ u_ws RX10 TX10 15, w ∈ wsX10_leave := by decide +kernel
def f_X10_leave_38 (L : hL) : Nat → Nat → Int32 → Int32 → hX → Option (Int32 × hX)
  | 0, _, _, _, _ => none
  | n + 1, v0, v2, v3, X =>
    if tk L v0 10 then
    (X.2 v0 0).bind fun q2 =>
    if tk L q2 12 then
    if 14 < L.2.2 q2 then
    if (6 * (X.1 q2 14)) ≤ v3 then
      (f_X10_acted L X v0 v2).bind fun r7 =>
      some (r7.1, r7.2)
    else
      if hin ((16 + v3) + 6) (L.2.2 q2) then
      if hin (16 + v3) (L.2.2 q2) then
      f_X10_leave_38 L n v0 v2 (v3 + 1) (smi X q2 (Int32.toNatClampNeg (16 + v3)) (X.1 q2 (Int32.toNatClampNeg ((16 + v3) + 6))))
      else none
      else none
    else none
    else none
    else none
set_option maxRecDepth 100000 in
set_option maxHeartbeats 4000000 in
theorem w_X10_leave_38 {p : Program} {l : Launch} {e : Env} {s : State} {m : MethodId} {args : Array Value} {below : List Frame} {meth : Method} {c : Code} {dC : Nat → ClassId} {dI : Nat → Nat → Nat} {cy : Nat → ClassId} {ad : Nat → Nat} {L : hL} {r : Int32} {X' : hX} (C : hC p s m args meth c dC dI cy ad L (hA ad L s.heap.size) cX10_leave 4 wsX10_leave RX10) (hr : meth.sig.returnType = (some .int)) : ∀ (n : Nat) (v0 : Nat) (v2 : Int32) (v3 : Int32) (X : hX) (ls : Array Slot), f_X10_leave_38 L n v0 v2 v3 X = some (r, X') → lv_has ls 4 [(0, .ref (ad v0)), (2, .int v2), (3, .int v3)] → hG p l e (headSpec wsX10_leave ({ frames := 2, cells := 0, slots := 0, locals := 43 } : Room)).room s m args below meth c dC dI cy ad L (hA ad L s.heap.size) 0 0 (MQ below (hQ dC dI cy ad L s.heap.size (some (.int r)) X') args s 0 0 (hA ad L s.heap.size)) X 38 ls [] := by
  intro n
  induction n with
  | zero => intro v0 v2 v3 X ls h; cases h
  | succ n ih =>
    intro v0 v2 v3 X ls h hl
    rw [f_X10_leave_38] at h
    refine hx_iload_n C dX10_leave_38 rfl (lv_at hl 2 rfl) ?_
    refine hx_bipush (v := 6) C dX10_leave_39 (by decide) ?_
    refine hx_aload_n C dX10_leave_41 rfl (lv_at hl 0 rfl) ?_
    obtain ⟨g1, h⟩ := hx_gd h
    obtain ⟨q2, e3, h⟩ := hx_bind h
    refine hx_getr C (ci := 10) (j := 0) g1 uX10_leave_10 (by decide) rfl (by decide) rfl (by decide +kernel) rfl dX10_leave_42 e3 ?_
    refine hx_bipush (v := 14) C dX10_leave_45 (by decide) ?_
    obtain ⟨g4, h⟩ := hx_gd h
    obtain ⟨g5, h⟩ := hx_gd h
    refine hx_iald (n := 14) C g4 (hin_lit (i := 14) (by decide) rfl g5) rfl dX10_leave_47 ?_
    refine hx_imul C dX10_leave_48 ?_
    refine hx_icmp_ge (tgt := 79) C dX10_leave_49 (by decide) (fun c6 => ?_) (fun c6 => ?_)
    · have h := hx_pos c6 h
      refine hx_aload_n C dX10_leave_79 rfl (lv_at hl 0 rfl) ?_
      refine hx_iload_n C dX10_leave_80 rfl (lv_at hl 1 rfl) ?_
      obtain ⟨r7, e8, h⟩ := hx_bind h
      refine hx_callV (As := [.int v2]) (rest := []) (n := 1) (Cn := RX10) C (c_X10_acted e8) gX10_leave_X10_acted g1 (by decide) rfl (by decide +kernel) ⟨Nat.le_of_ble_eq_true rfl, Nat.le_of_ble_eq_true rfl⟩ rfl rfl rfl ⟨Nat.zero_le _, Nat.zero_le _⟩ hl.1 rfl rfl (Nat.le_of_ble_eq_true rfl) dX10_leave_81 ?_
      obtain ⟨rfl, rfl⟩ := hx_some2 h
      exact hx_iret C hr dX10_leave_84
    · have h := hx_neg c6 h
      refine hx_aload_n C dX10_leave_52 rfl (lv_at hl 0 rfl) ?_
      refine hx_getr C (ci := 10) (j := 0) g1 uX10_leave_10 (by decide) rfl (by decide) rfl (by decide +kernel) rfl dX10_leave_53 e3 ?_
      refine hx_bipush (v := 16) C dX10_leave_56 (by decide) ?_
      refine hx_iload_n C dX10_leave_58 rfl (lv_at hl 2 rfl) ?_
      refine hx_iadd C dX10_leave_59 ?_
      refine hx_aload_n C dX10_leave_60 rfl (lv_at hl 0 rfl) ?_
      refine hx_getr C (ci := 10) (j := 0) g1 uX10_leave_10 (by decide) rfl (by decide) rfl (by decide +kernel) rfl dX10_leave_61 e3 ?_
      refine hx_bipush (v := 16) C dX10_leave_64 (by decide) ?_
      refine hx_iload_n C dX10_leave_66 rfl (lv_at hl 2 rfl) ?_
      refine hx_iadd C dX10_leave_67 ?_
      refine hx_bipush (v := 6) C dX10_leave_68 (by decide) ?_
      refine hx_iadd C dX10_leave_70 ?_
      obtain ⟨g9, h⟩ := hx_gd h
      refine hx_iald (n := (Int32.toNatClampNeg ((16 + v3) + 6))) C g4 g9 rfl dX10_leave_71 ?_
      obtain ⟨g10, h⟩ := hx_gd h
      refine hx_iast (n := (Int32.toNatClampNeg (16 + v3))) C g4 g10 rfl dX10_leave_72 ?_
      refine hx_iinc (v := v3 + 1) (lv' := [(3, .int (v3 + 1)), (0, .ref (ad v0)), (2, .int v2)]) C dX10_leave_73 hl (k := 2) rfl rfl (by decide) rfl (fun ls hl => ?_)
      refine hx_goto (tgt := 38) C dX10_leave_76 (by decide) ?_
      exact ih v0 v2 (v3 + 1) (smi X q2 (Int32.toNatClampNeg (16 + v3)) (X.1 q2 (Int32.toNatClampNeg ((16 + v3) + 6)))) ls h (lv_sub hl [1, 2, 0] rfl)
def f_X10_leave (L : hL) (X : hX) (this : Nat) (a1 : Int32) : Option (Int32 × hX) :=
  (f_X10_isCustomer L X this a1).bind fun r11 =>
  if tk L this 10 then
  if r11 = 0 then
    some ((-100001), X)
  else
    (f_X10_keeps L X this).bind fun r15 =>
    (f_X10_of L r15 this a1 0).bind fun r17 =>
    (r15.2 this 0).bind fun q19 =>
    if tk L q19 12 then
    if 14 < L.2.2 q19 then
    f_X10_leave_38 L u_fuel this r17 (6 * a1) (smi r15 q19 14 ((r15.1 q19 14) - 1))
    else none
    else none
  else none
set_option maxRecDepth 100000 in
set_option maxHeartbeats 4000000 in
theorem c_X10_leave {l : Launch} {dC : Nat → ClassId} {dI : Nat → Nat → Nat} {cy : Nat → ClassId} {ad : Nat → Nat} {L : hL} {X : hX} {this : Nat} {a1 : Int32} {r : Int32} {X' : hX} (h : f_X10_leave L X this a1 = some (r, X')) : hMet l dC dI cy ad L yX10_leave wsX10_leave ({ frames := 2, cells := 0, slots := 0, locals := 43 } : Room) [.ref (ad this), .int a1] X (some (.int r)) X' := by
  unfold f_X10_leave at h
  refine hx_enter RX10 (plainFor_of_name (by decide)) rfl rfl (Nat.le_of_ble_eq_true rfl) (fun p e s m args below meth c C hr hnm ls hl => ?_)
  have hl : lv_has ls 4 [(0, .ref (ad this)), (1, .int a1)] := hl
  refine hx_aload_n C dX10_leave_0 rfl (lv_at hl 0 rfl) ?_
  refine hx_iload_n C dX10_leave_1 rfl (lv_at hl 1 rfl) ?_
  obtain ⟨r11, e12, h⟩ := hx_bind h
  obtain ⟨g13, h⟩ := hx_gd h
  refine hx_callV (As := [.int a1]) (rest := []) (n := 1) (Cn := RX10) C (c_X10_isCustomer e12) gX10_leave_X10_isCustomer g13 (by decide) rfl (by decide +kernel) ⟨Nat.le_of_ble_eq_true rfl, Nat.le_of_ble_eq_true rfl⟩ rfl rfl rfl ⟨Nat.zero_le _, Nat.zero_le _⟩ hl.1 rfl rfl (Nat.le_of_ble_eq_true rfl) dX10_leave_2 ?_
  refine hx_if_ne (tgt := 11) C dX10_leave_5 (by decide) (fun c14 => ?_) (fun c14 => ?_)
  · have h := hx_neg c14 h
    refine hx_aload_n C dX10_leave_11 rfl (lv_at hl 0 rfl) ?_
    obtain ⟨r15, e16, h⟩ := hx_bind h
    refine hx_callV (As := []) (rest := []) (n := 0) (Cn := RX10) C (c_X10_keeps e16) gX10_leave_X10_keeps g13 (by decide) rfl (by decide +kernel) ⟨Nat.le_of_ble_eq_true rfl, Nat.le_of_ble_eq_true rfl⟩ rfl rfl rfl ⟨Nat.zero_le _, Nat.zero_le _⟩ hl.1 rfl rfl (Nat.le_of_ble_eq_true rfl) dX10_leave_12 ?_
    refine hx_aload_n C dX10_leave_15 rfl (lv_at hl 0 rfl) ?_
    refine hx_iload_n C dX10_leave_16 rfl (lv_at hl 1 rfl) ?_
    refine hx_iconst (v := 0) C dX10_leave_17 (by decide) ?_
    obtain ⟨r17, e18, h⟩ := hx_bind h
    refine hx_callV (As := [.int a1, .int 0]) (rest := []) (n := 2) (Cn := RX10) C (c_X10_of e18) gX10_leave_X10_of g13 (by decide) rfl (by decide +kernel) ⟨Nat.le_of_ble_eq_true rfl, Nat.le_of_ble_eq_true rfl⟩ rfl rfl rfl ⟨Nat.zero_le _, Nat.zero_le _⟩ hl.1 rfl rfl (Nat.le_of_ble_eq_true rfl) dX10_leave_18 ?_
    refine hx_istore_n (lv' := [(2, .int r17), (0, .ref (ad this)), (1, .int a1)]) C dX10_leave_21 rfl hl (by decide) rfl (fun ls hl => ?_)
    refine hx_aload_n C dX10_leave_22 rfl (lv_at hl 1 rfl) ?_
    obtain ⟨q19, e20, h⟩ := hx_bind h
    refine hx_getr C (ci := 10) (j := 0) g13 uX10_leave_10 (by decide) rfl (by decide) rfl (by decide +kernel) rfl dX10_leave_23 e20 ?_
    refine hx_bipush (v := 14) C dX10_leave_26 (by decide) ?_
    refine hx_dup2 C dX10_leave_28 rfl rfl ?_
    obtain ⟨g21, h⟩ := hx_gd h
    obtain ⟨g22, h⟩ := hx_gd h
    refine hx_iald (n := 14) C g21 (hin_lit (i := 14) (by decide) rfl g22) rfl dX10_leave_29 ?_
    refine hx_iconst (v := 1) C dX10_leave_30 (by decide) ?_
    refine hx_isub C dX10_leave_31 ?_
    refine hx_iast (n := 14) C g21 (hin_lit (i := 14) (by decide) rfl g22) rfl dX10_leave_32 ?_
    refine hx_bipush (v := 6) C dX10_leave_33 (by decide) ?_
    refine hx_iload_n C dX10_leave_35 rfl (lv_at hl 2 rfl) ?_
    refine hx_imul C dX10_leave_36 ?_
    refine hx_istore_n (lv' := [(3, .int (6 * a1)), (2, .int r17), (0, .ref (ad this)), (1, .int a1)]) C dX10_leave_37 rfl hl (by decide) rfl (fun ls hl => ?_)
    exact w_X10_leave_38 C hr u_fuel this r17 (6 * a1) (smi r15 q19 14 ((r15.1 q19 14) - 1)) ls h (lv_sub hl [2, 1, 0] rfl)
  · have h := hx_pos c14 h
    refine hx_ldc (v := (-100001)) C (by decide +kernel) dX10_leave_8 ?_
    obtain ⟨rfl, rfl⟩ := hx_some2 h
    exact hx_iret C hr dX10_leave_10
theorem uX10_weighs_10 : ∀ w ∈ u_ws RX10 TX10 15, w ∈ wsX10_weighs := by decide +kernel
def f_X10_weighs (L : hL) (X : hX) (this : Nat) (a1 : Int32) (a2 : Int32) (a3 : Int32) (a4 : Int32) : Option (Int32 × hX) :=
  (f_X10_isCustomer L X this a1).bind fun r1 =>
  if tk L this 10 then
  if r1 = 0 then
    some ((-100001), X)
  else
    (f_X10_isKind L X a2).bind fun r5 =>
    if r5 = 0 then
      some ((-100001), X)
    else
      (f_X10_in L X a3 1 500).bind fun r8 =>
      if r8 = 0 then
        some ((-100001), X)
      else
        (X.2 this 0).bind fun q11 =>
        if tk L q11 12 then
        if hin (4 + a2) (L.2.2 q11) then
        (f_X10_in L X a4 ((-a3) * (X.1 q11 (Int32.toNatClampNeg (4 + a2)))) (a3 * (X.1 q11 (Int32.toNatClampNeg (4 + a2))))).bind fun r15 =>
        if r15 = 0 then
          some ((-100001), X)
        else
          if hin a2 (L.2.2 q11) then
          if 10 < L.2.2 q11 then
          if 8 < L.2.2 q11 then
          (f_X10_readsBy L X this (((a3 * (X.1 q11 (Int32.toNatClampNeg a2))) + a4) + (X.1 q11 10)) (X.1 q11 8)).bind fun r21 =>
          if 11 < L.2.2 q11 then
          (f_X10_guesses L X this r21 a2 (X.1 q11 11)).bind fun r24 =>
          (r24.2.2 this 0).bind fun q26 =>
          if tk L q26 12 then
          if hin (16 + (6 * a1)) (L.2.2 q26) then
          if hin ((16 + (6 * a1)) + 1) (L.2.2 q26) then
          if hin ((16 + (6 * a1)) + 2) (L.2.2 q26) then
          if hin ((16 + (6 * a1)) + 3) (L.2.2 q26) then
          if hin ((16 + (6 * a1)) + 4) (L.2.2 q26) then
          if hin ((16 + (6 * a1)) + 5) (L.2.2 q26) then
          if 13 < L.2.2 q26 then
          some (r24.1, smi (smi (smi (smi (smi (smi (smi r24.2 q26 (Int32.toNatClampNeg (16 + (6 * a1))) ((r24.2.1 q26 (Int32.toNatClampNeg (16 + (6 * a1)))) + r24.1)) q26 (Int32.toNatClampNeg ((16 + (6 * a1)) + 1)) 1) q26 (Int32.toNatClampNeg ((16 + (6 * a1)) + 2)) a2) q26 (Int32.toNatClampNeg ((16 + (6 * a1)) + 3)) a3) q26 (Int32.toNatClampNeg ((16 + (6 * a1)) + 4)) r21) q26 (Int32.toNatClampNeg ((16 + (6 * a1)) + 5)) r24.1) q26 13 (((smi (smi (smi (smi (smi (smi r24.2 q26 (Int32.toNatClampNeg (16 + (6 * a1))) ((r24.2.1 q26 (Int32.toNatClampNeg (16 + (6 * a1)))) + r24.1)) q26 (Int32.toNatClampNeg ((16 + (6 * a1)) + 1)) 1) q26 (Int32.toNatClampNeg ((16 + (6 * a1)) + 2)) a2) q26 (Int32.toNatClampNeg ((16 + (6 * a1)) + 3)) a3) q26 (Int32.toNatClampNeg ((16 + (6 * a1)) + 4)) r21) q26 (Int32.toNatClampNeg ((16 + (6 * a1)) + 5)) r24.1).1 q26 13) + (r24.1 - a3)))
          else none
          else none
          else none
          else none
          else none
          else none
          else none
          else none
          else none
          else none
          else none
          else none
        else none
        else none
  else none
set_option maxRecDepth 100000 in
set_option maxHeartbeats 4000000 in
theorem c_X10_weighs {l : Launch} {dC : Nat → ClassId} {dI : Nat → Nat → Nat} {cy : Nat → ClassId} {ad : Nat → Nat} {L : hL} {X : hX} {this : Nat} {a1 : Int32} {a2 : Int32} {a3 : Int32} {a4 : Int32} {r : Int32} {X' : hX} (h : f_X10_weighs L X this a1 a2 a3 a4 = some (r, X')) : hMet l dC dI cy ad L yX10_weighs wsX10_weighs ({ frames := 4, cells := 0, slots := 0, locals := 93 } : Room) [.ref (ad this), .int a1, .int a2, .int a3, .int a4] X (some (.int r)) X' := by
  unfold f_X10_weighs at h
  refine hx_enter RX10 (plainFor_of_name (by decide)) rfl rfl (Nat.le_of_ble_eq_true rfl) (fun p e s m args below meth c C hr hnm ls hl => ?_)
  have hl : lv_has ls 8 [(0, .ref (ad this)), (1, .int a1), (2, .int a2), (3, .int a3), (4, .int a4)] := hl
  refine hx_aload_n C dX10_weighs_0 rfl (lv_at hl 0 rfl) ?_
  refine hx_iload_n C dX10_weighs_1 rfl (lv_at hl 1 rfl) ?_
  obtain ⟨r1, e2, h⟩ := hx_bind h
  obtain ⟨g3, h⟩ := hx_gd h
  refine hx_callV (As := [.int a1]) (rest := []) (n := 1) (Cn := RX10) C (c_X10_isCustomer e2) gX10_weighs_X10_isCustomer g3 (by decide) rfl (by decide +kernel) ⟨Nat.le_of_ble_eq_true rfl, Nat.le_of_ble_eq_true rfl⟩ rfl rfl rfl ⟨Nat.zero_le _, Nat.zero_le _⟩ hl.1 rfl rfl (Nat.le_of_ble_eq_true rfl) dX10_weighs_2 ?_
  refine hx_if_eq (tgt := 55) C dX10_weighs_5 (by decide) (fun c4 => ?_) (fun c4 => ?_)
  · have h := hx_pos c4 h
    refine hx_ldc (v := (-100001)) C (by decide +kernel) dX10_weighs_55 ?_
    obtain ⟨rfl, rfl⟩ := hx_some2 h
    exact hx_iret C hr dX10_weighs_57
  · have h := hx_neg c4 h
    refine hx_iload_n C dX10_weighs_8 rfl (lv_at hl 2 rfl) ?_
    obtain ⟨r5, e6, h⟩ := hx_bind h
    refine hx_callS (As := [.int a2]) (rest := []) (n := 1) C (c_X10_isKind e6) gX10_weighs_X10_isKind (by decide +kernel) ⟨Nat.le_of_ble_eq_true rfl, Nat.le_of_ble_eq_true rfl⟩ rfl rfl rfl ⟨Nat.zero_le _, Nat.zero_le _⟩ hl.1 rfl rfl (Nat.le_of_ble_eq_true rfl) dX10_weighs_9 ?_
    refine hx_if_eq (tgt := 55) C dX10_weighs_12 (by decide) (fun c7 => ?_) (fun c7 => ?_)
    · have h := hx_pos c7 h
      refine hx_ldc (v := (-100001)) C (by decide +kernel) dX10_weighs_55 ?_
      obtain ⟨rfl, rfl⟩ := hx_some2 h
      exact hx_iret C hr dX10_weighs_57
    · have h := hx_neg c7 h
      refine hx_iload_n C dX10_weighs_15 rfl (lv_at hl 3 rfl) ?_
      refine hx_iconst (v := 1) C dX10_weighs_16 (by decide) ?_
      refine hx_sipush (v := 500) C dX10_weighs_17 (by decide) ?_
      obtain ⟨r8, e9, h⟩ := hx_bind h
      refine hx_callS (As := [.int a3, .int 1, .int 500]) (rest := []) (n := 3) C (c_X10_in e9) gX10_weighs_X10_in (by decide +kernel) ⟨Nat.le_of_ble_eq_true rfl, Nat.le_of_ble_eq_true rfl⟩ rfl rfl rfl ⟨Nat.zero_le _, Nat.zero_le _⟩ hl.1 rfl rfl (Nat.le_of_ble_eq_true rfl) dX10_weighs_20 ?_
      refine hx_if_eq (tgt := 55) C dX10_weighs_23 (by decide) (fun c10 => ?_) (fun c10 => ?_)
      · have h := hx_pos c10 h
        refine hx_ldc (v := (-100001)) C (by decide +kernel) dX10_weighs_55 ?_
        obtain ⟨rfl, rfl⟩ := hx_some2 h
        exact hx_iret C hr dX10_weighs_57
      · have h := hx_neg c10 h
        refine hx_iload C dX10_weighs_26 (lv_at hl 4 rfl) ?_
        refine hx_iload_n C dX10_weighs_28 rfl (lv_at hl 3 rfl) ?_
        refine hx_ineg C dX10_weighs_29 ?_
        refine hx_aload_n C dX10_weighs_30 rfl (lv_at hl 0 rfl) ?_
        obtain ⟨q11, e12, h⟩ := hx_bind h
        refine hx_getr C (ci := 10) (j := 0) g3 uX10_weighs_10 (by decide) rfl (by decide) rfl (by decide +kernel) rfl dX10_weighs_31 e12 ?_
        refine hx_iconst (v := 4) C dX10_weighs_34 (by decide) ?_
        refine hx_iload_n C dX10_weighs_35 rfl (lv_at hl 2 rfl) ?_
        refine hx_iadd C dX10_weighs_36 ?_
        obtain ⟨g13, h⟩ := hx_gd h
        obtain ⟨g14, h⟩ := hx_gd h
        refine hx_iald (n := (Int32.toNatClampNeg (4 + a2))) C g13 g14 rfl dX10_weighs_37 ?_
        refine hx_imul C dX10_weighs_38 ?_
        refine hx_iload_n C dX10_weighs_39 rfl (lv_at hl 3 rfl) ?_
        refine hx_aload_n C dX10_weighs_40 rfl (lv_at hl 0 rfl) ?_
        refine hx_getr C (ci := 10) (j := 0) g3 uX10_weighs_10 (by decide) rfl (by decide) rfl (by decide +kernel) rfl dX10_weighs_41 e12 ?_
        refine hx_iconst (v := 4) C dX10_weighs_44 (by decide) ?_
        refine hx_iload_n C dX10_weighs_45 rfl (lv_at hl 2 rfl) ?_
        refine hx_iadd C dX10_weighs_46 ?_
        refine hx_iald (n := (Int32.toNatClampNeg (4 + a2))) C g13 g14 rfl dX10_weighs_47 ?_
        refine hx_imul C dX10_weighs_48 ?_
        obtain ⟨r15, e16, h⟩ := hx_bind h
        refine hx_callS (As := [.int a4, .int ((-a3) * (X.1 q11 (Int32.toNatClampNeg (4 + a2)))), .int (a3 * (X.1 q11 (Int32.toNatClampNeg (4 + a2))))]) (rest := []) (n := 3) C (c_X10_in e16) gX10_weighs_X10_in (by decide +kernel) ⟨Nat.le_of_ble_eq_true rfl, Nat.le_of_ble_eq_true rfl⟩ rfl rfl rfl ⟨Nat.zero_le _, Nat.zero_le _⟩ hl.1 rfl rfl (Nat.le_of_ble_eq_true rfl) dX10_weighs_49 ?_
        refine hx_if_ne (tgt := 58) C dX10_weighs_52 (by decide) (fun c17 => ?_) (fun c17 => ?_)
        · have h := hx_neg c17 h
          refine hx_aload_n C dX10_weighs_58 rfl (lv_at hl 0 rfl) ?_
          refine hx_iload_n C dX10_weighs_59 rfl (lv_at hl 3 rfl) ?_
          refine hx_aload_n C dX10_weighs_60 rfl (lv_at hl 0 rfl) ?_
          refine hx_getr C (ci := 10) (j := 0) g3 uX10_weighs_10 (by decide) rfl (by decide) rfl (by decide +kernel) rfl dX10_weighs_61 e12 ?_
          refine hx_iload_n C dX10_weighs_64 rfl (lv_at hl 2 rfl) ?_
          obtain ⟨g18, h⟩ := hx_gd h
          refine hx_iald (n := (Int32.toNatClampNeg a2)) C g13 g18 rfl dX10_weighs_65 ?_
          refine hx_imul C dX10_weighs_66 ?_
          refine hx_iload C dX10_weighs_67 (lv_at hl 4 rfl) ?_
          refine hx_iadd C dX10_weighs_69 ?_
          refine hx_aload_n C dX10_weighs_70 rfl (lv_at hl 0 rfl) ?_
          refine hx_getr C (ci := 10) (j := 0) g3 uX10_weighs_10 (by decide) rfl (by decide) rfl (by decide +kernel) rfl dX10_weighs_71 e12 ?_
          refine hx_bipush (v := 10) C dX10_weighs_74 (by decide) ?_
          obtain ⟨g19, h⟩ := hx_gd h
          refine hx_iald (n := 10) C g13 (hin_lit (i := 10) (by decide) rfl g19) rfl dX10_weighs_76 ?_
          refine hx_iadd C dX10_weighs_77 ?_
          refine hx_aload_n C dX10_weighs_78 rfl (lv_at hl 0 rfl) ?_
          refine hx_getr C (ci := 10) (j := 0) g3 uX10_weighs_10 (by decide) rfl (by decide) rfl (by decide +kernel) rfl dX10_weighs_79 e12 ?_
          refine hx_bipush (v := 8) C dX10_weighs_82 (by decide) ?_
          obtain ⟨g20, h⟩ := hx_gd h
          refine hx_iald (n := 8) C g13 (hin_lit (i := 8) (by decide) rfl g20) rfl dX10_weighs_84 ?_
          obtain ⟨r21, e22, h⟩ := hx_bind h
          refine hx_callV (As := [.int (((a3 * (X.1 q11 (Int32.toNatClampNeg a2))) + a4) + (X.1 q11 10)), .int (X.1 q11 8)]) (rest := []) (n := 2) (Cn := RX10) C (c_X10_readsBy e22) gX10_weighs_X10_readsBy g3 (by decide) rfl (by decide +kernel) ⟨Nat.le_of_ble_eq_true rfl, Nat.le_of_ble_eq_true rfl⟩ rfl rfl rfl ⟨Nat.zero_le _, Nat.zero_le _⟩ hl.1 rfl rfl (Nat.le_of_ble_eq_true rfl) dX10_weighs_85 ?_
          refine hx_istore (lv' := [(5, .int r21), (0, .ref (ad this)), (1, .int a1), (2, .int a2), (3, .int a3), (4, .int a4)]) C dX10_weighs_88 hl (by decide) rfl (fun ls hl => ?_)
          refine hx_aload_n C dX10_weighs_90 rfl (lv_at hl 1 rfl) ?_
          refine hx_iload C dX10_weighs_91 (lv_at hl 0 rfl) ?_
          refine hx_iload_n C dX10_weighs_93 rfl (lv_at hl 3 rfl) ?_
          refine hx_aload_n C dX10_weighs_94 rfl (lv_at hl 1 rfl) ?_
          refine hx_getr C (ci := 10) (j := 0) g3 uX10_weighs_10 (by decide) rfl (by decide) rfl (by decide +kernel) rfl dX10_weighs_95 e12 ?_
          refine hx_bipush (v := 11) C dX10_weighs_98 (by decide) ?_
          obtain ⟨g23, h⟩ := hx_gd h
          refine hx_iald (n := 11) C g13 (hin_lit (i := 11) (by decide) rfl g23) rfl dX10_weighs_100 ?_
          obtain ⟨r24, e25, h⟩ := hx_bind h
          refine hx_callV (As := [.int r21, .int a2, .int (X.1 q11 11)]) (rest := []) (n := 3) (Cn := RX10) C (c_X10_guesses e25) gX10_weighs_X10_guesses g3 (by decide) rfl (by decide +kernel) ⟨Nat.le_of_ble_eq_true rfl, Nat.le_of_ble_eq_true rfl⟩ rfl rfl rfl ⟨Nat.zero_le _, Nat.zero_le _⟩ hl.1 rfl rfl (Nat.le_of_ble_eq_true rfl) dX10_weighs_101 ?_
          refine hx_istore (lv' := [(6, .int r24.1), (5, .int r21), (0, .ref (ad this)), (1, .int a1), (2, .int a2), (3, .int a3), (4, .int a4)]) C dX10_weighs_104 hl (by decide) rfl (fun ls hl => ?_)
          refine hx_bipush (v := 16) C dX10_weighs_106 (by decide) ?_
          refine hx_bipush (v := 6) C dX10_weighs_108 (by decide) ?_
          refine hx_iload_n C dX10_weighs_110 rfl (lv_at hl 3 rfl) ?_
          refine hx_imul C dX10_weighs_111 ?_
          refine hx_iadd C dX10_weighs_112 ?_
          refine hx_istore (lv' := [(7, .int (16 + (6 * a1))), (6, .int r24.1), (5, .int r21), (0, .ref (ad this)), (1, .int a1), (2, .int a2), (3, .int a3), (4, .int a4)]) C dX10_weighs_113 hl (by decide) rfl (fun ls hl => ?_)
          refine hx_aload_n C dX10_weighs_115 rfl (lv_at hl 3 rfl) ?_
          obtain ⟨q26, e27, h⟩ := hx_bind h
          refine hx_getr C (ci := 10) (j := 0) g3 uX10_weighs_10 (by decide) rfl (by decide) rfl (by decide +kernel) rfl dX10_weighs_116 e27 ?_
          refine hx_iload C dX10_weighs_119 (lv_at hl 0 rfl) ?_
          refine hx_dup2 C dX10_weighs_121 rfl rfl ?_
          obtain ⟨g28, h⟩ := hx_gd h
          obtain ⟨g29, h⟩ := hx_gd h
          refine hx_iald (n := (Int32.toNatClampNeg (16 + (6 * a1)))) C g28 g29 rfl dX10_weighs_122 ?_
          refine hx_iload C dX10_weighs_123 (lv_at hl 1 rfl) ?_
          refine hx_iadd C dX10_weighs_125 ?_
          refine hx_iast (n := (Int32.toNatClampNeg (16 + (6 * a1)))) C g28 g29 rfl dX10_weighs_126 ?_
          refine hx_aload_n C dX10_weighs_127 rfl (lv_at hl 3 rfl) ?_
          refine hx_getr C (ci := 10) (j := 0) g3 uX10_weighs_10 (by decide) rfl (by decide) rfl (by decide +kernel) rfl dX10_weighs_128 e27 ?_
          refine hx_iload C dX10_weighs_131 (lv_at hl 0 rfl) ?_
          refine hx_iconst (v := 1) C dX10_weighs_133 (by decide) ?_
          refine hx_iadd C dX10_weighs_134 ?_
          refine hx_iconst (v := 1) C dX10_weighs_135 (by decide) ?_
          obtain ⟨g30, h⟩ := hx_gd h
          refine hx_iast (n := (Int32.toNatClampNeg ((16 + (6 * a1)) + 1))) C g28 g30 rfl dX10_weighs_136 ?_
          refine hx_aload_n C dX10_weighs_137 rfl (lv_at hl 3 rfl) ?_
          refine hx_getr C (ci := 10) (j := 0) g3 uX10_weighs_10 (by decide) rfl (by decide) rfl (by decide +kernel) rfl dX10_weighs_138 e27 ?_
          refine hx_iload C dX10_weighs_141 (lv_at hl 0 rfl) ?_
          refine hx_iconst (v := 2) C dX10_weighs_143 (by decide) ?_
          refine hx_iadd C dX10_weighs_144 ?_
          refine hx_iload_n C dX10_weighs_145 rfl (lv_at hl 5 rfl) ?_
          obtain ⟨g31, h⟩ := hx_gd h
          refine hx_iast (n := (Int32.toNatClampNeg ((16 + (6 * a1)) + 2))) C g28 g31 rfl dX10_weighs_146 ?_
          refine hx_aload_n C dX10_weighs_147 rfl (lv_at hl 3 rfl) ?_
          refine hx_getr C (ci := 10) (j := 0) g3 uX10_weighs_10 (by decide) rfl (by decide) rfl (by decide +kernel) rfl dX10_weighs_148 e27 ?_
          refine hx_iload C dX10_weighs_151 (lv_at hl 0 rfl) ?_
          refine hx_iconst (v := 3) C dX10_weighs_153 (by decide) ?_
          refine hx_iadd C dX10_weighs_154 ?_
          refine hx_iload_n C dX10_weighs_155 rfl (lv_at hl 6 rfl) ?_
          obtain ⟨g32, h⟩ := hx_gd h
          refine hx_iast (n := (Int32.toNatClampNeg ((16 + (6 * a1)) + 3))) C g28 g32 rfl dX10_weighs_156 ?_
          refine hx_aload_n C dX10_weighs_157 rfl (lv_at hl 3 rfl) ?_
          refine hx_getr C (ci := 10) (j := 0) g3 uX10_weighs_10 (by decide) rfl (by decide) rfl (by decide +kernel) rfl dX10_weighs_158 e27 ?_
          refine hx_iload C dX10_weighs_161 (lv_at hl 0 rfl) ?_
          refine hx_iconst (v := 4) C dX10_weighs_163 (by decide) ?_
          refine hx_iadd C dX10_weighs_164 ?_
          refine hx_iload C dX10_weighs_165 (lv_at hl 2 rfl) ?_
          obtain ⟨g33, h⟩ := hx_gd h
          refine hx_iast (n := (Int32.toNatClampNeg ((16 + (6 * a1)) + 4))) C g28 g33 rfl dX10_weighs_167 ?_
          refine hx_aload_n C dX10_weighs_168 rfl (lv_at hl 3 rfl) ?_
          refine hx_getr C (ci := 10) (j := 0) g3 uX10_weighs_10 (by decide) rfl (by decide) rfl (by decide +kernel) rfl dX10_weighs_169 e27 ?_
          refine hx_iload C dX10_weighs_172 (lv_at hl 0 rfl) ?_
          refine hx_iconst (v := 5) C dX10_weighs_174 (by decide) ?_
          refine hx_iadd C dX10_weighs_175 ?_
          refine hx_iload C dX10_weighs_176 (lv_at hl 1 rfl) ?_
          obtain ⟨g34, h⟩ := hx_gd h
          refine hx_iast (n := (Int32.toNatClampNeg ((16 + (6 * a1)) + 5))) C g28 g34 rfl dX10_weighs_178 ?_
          refine hx_aload_n C dX10_weighs_179 rfl (lv_at hl 3 rfl) ?_
          refine hx_getr C (ci := 10) (j := 0) g3 uX10_weighs_10 (by decide) rfl (by decide) rfl (by decide +kernel) rfl dX10_weighs_180 e27 ?_
          refine hx_bipush (v := 13) C dX10_weighs_183 (by decide) ?_
          refine hx_dup2 C dX10_weighs_185 rfl rfl ?_
          obtain ⟨g35, h⟩ := hx_gd h
          refine hx_iald (n := 13) C g28 (hin_lit (i := 13) (by decide) rfl g35) rfl dX10_weighs_186 ?_
          refine hx_iload C dX10_weighs_187 (lv_at hl 1 rfl) ?_
          refine hx_iload_n C dX10_weighs_189 rfl (lv_at hl 6 rfl) ?_
          refine hx_isub C dX10_weighs_190 ?_
          refine hx_iadd C dX10_weighs_191 ?_
          refine hx_iast (n := 13) C g28 (hin_lit (i := 13) (by decide) rfl g35) rfl dX10_weighs_192 ?_
          refine hx_iload C dX10_weighs_193 (lv_at hl 1 rfl) ?_
          obtain ⟨rfl, rfl⟩ := hx_some2 h
          exact hx_iret C hr dX10_weighs_195
        · have h := hx_pos c17 h
          refine hx_ldc (v := (-100001)) C (by decide +kernel) dX10_weighs_55 ?_
          obtain ⟨rfl, rfl⟩ := hx_some2 h
          exact hx_iret C hr dX10_weighs_57
def f_X10_weigh (L : hL) (X : hX) (this : Nat) (a1 : Int32) (a2 : Int32) (a3 : Int32) (a4 : Int32) : Option (Int32 × hX) :=
  (f_X10_keeps L X this).bind fun r1 =>
  if tk L this 10 then
  (f_X10_weighs L r1 this a1 a2 a3 a4).bind fun r4 =>
  (f_X10_acted L r4.2 this r4.1).bind fun r6 =>
  some (r6.1, r6.2)
  else none
set_option maxRecDepth 100000 in
set_option maxHeartbeats 4000000 in
theorem c_X10_weigh {l : Launch} {dC : Nat → ClassId} {dI : Nat → Nat → Nat} {cy : Nat → ClassId} {ad : Nat → Nat} {L : hL} {X : hX} {this : Nat} {a1 : Int32} {a2 : Int32} {a3 : Int32} {a4 : Int32} {r : Int32} {X' : hX} (h : f_X10_weigh L X this a1 a2 a3 a4 = some (r, X')) : hMet l dC dI cy ad L yX10_weigh wsX10_weigh ({ frames := 5, cells := 0, slots := 0, locals := 120 } : Room) [.ref (ad this), .int a1, .int a2, .int a3, .int a4] X (some (.int r)) X' := by
  unfold f_X10_weigh at h
  refine hx_enter RX10 (plainFor_of_name (by decide)) rfl rfl (Nat.le_of_ble_eq_true rfl) (fun p e s m args below meth c C hr hnm ls hl => ?_)
  have hl : lv_has ls 5 [(0, .ref (ad this)), (1, .int a1), (2, .int a2), (3, .int a3), (4, .int a4)] := hl
  refine hx_aload_n C dX10_weigh_0 rfl (lv_at hl 0 rfl) ?_
  obtain ⟨r1, e2, h⟩ := hx_bind h
  obtain ⟨g3, h⟩ := hx_gd h
  refine hx_callV (As := []) (rest := []) (n := 0) (Cn := RX10) C (c_X10_keeps e2) gX10_weigh_X10_keeps g3 (by decide) rfl (by decide +kernel) ⟨Nat.le_of_ble_eq_true rfl, Nat.le_of_ble_eq_true rfl⟩ rfl rfl rfl ⟨Nat.zero_le _, Nat.zero_le _⟩ hl.1 rfl rfl (Nat.le_of_ble_eq_true rfl) dX10_weigh_1 ?_
  refine hx_aload_n C dX10_weigh_4 rfl (lv_at hl 0 rfl) ?_
  refine hx_aload_n C dX10_weigh_5 rfl (lv_at hl 0 rfl) ?_
  refine hx_iload_n C dX10_weigh_6 rfl (lv_at hl 1 rfl) ?_
  refine hx_iload_n C dX10_weigh_7 rfl (lv_at hl 2 rfl) ?_
  refine hx_iload_n C dX10_weigh_8 rfl (lv_at hl 3 rfl) ?_
  refine hx_iload C dX10_weigh_9 (lv_at hl 4 rfl) ?_
  obtain ⟨r4, e5, h⟩ := hx_bind h
  refine hx_callV (As := [.int a1, .int a2, .int a3, .int a4]) (rest := [.ref (ad this)]) (n := 4) (Cn := RX10) C (c_X10_weighs e5) gX10_weigh_X10_weighs g3 (by decide) rfl (by decide +kernel) ⟨Nat.le_of_ble_eq_true rfl, Nat.le_of_ble_eq_true rfl⟩ rfl rfl rfl ⟨Nat.zero_le _, Nat.zero_le _⟩ hl.1 rfl rfl (Nat.le_of_ble_eq_true rfl) dX10_weigh_11 ?_
  obtain ⟨r6, e7, h⟩ := hx_bind h
  refine hx_callV (As := [.int r4.1]) (rest := []) (n := 1) (Cn := RX10) C (c_X10_acted e7) gX10_weigh_X10_acted g3 (by decide) rfl (by decide +kernel) ⟨Nat.le_of_ble_eq_true rfl, Nat.le_of_ble_eq_true rfl⟩ rfl rfl rfl ⟨Nat.zero_le _, Nat.zero_le _⟩ hl.1 rfl rfl (Nat.le_of_ble_eq_true rfl) dX10_weigh_14 ?_
  obtain ⟨rfl, rfl⟩ := hx_some2 h
  exact hx_iret C hr dX10_weigh_17
def f_X10_far (L : hL) (X : hX) (a1 : Int32) (a2 : Int32) : Option (Int32) :=
  if a2 ≤ a1 then
    some (a1 - a2)
  else
    some (a2 - a1)
set_option maxRecDepth 100000 in
set_option maxHeartbeats 4000000 in
theorem c_X10_far {l : Launch} {dC : Nat → ClassId} {dI : Nat → Nat → Nat} {cy : Nat → ClassId} {ad : Nat → Nat} {L : hL} {X : hX} {a1 : Int32} {a2 : Int32} {r : Int32} (h : f_X10_far L X a1 a2 = some r) : hMet l dC dI cy ad L yX10_far wsX10_far ({ frames := 0, cells := 0, slots := 0, locals := 0 } : Room) [.int a1, .int a2] X (some (.int r)) X := by
  unfold f_X10_far at h
  refine hx_enter RX10 (plainFor_of_name (by decide)) rfl rfl (Nat.le_of_ble_eq_true rfl) (fun p e s m args below meth c C hr hnm ls hl => ?_)
  have hl : lv_has ls 2 [(0, .int a1), (1, .int a2)] := hl
  refine hx_iload_n C dX10_far_0 rfl (lv_at hl 0 rfl) ?_
  refine hx_iload_n C dX10_far_1 rfl (lv_at hl 1 rfl) ?_
  refine hx_icmp_ge (tgt := 11) C dX10_far_2 (by decide) (fun c1 => ?_) (fun c1 => ?_)
  · have h := hx_pos c1 h
    refine hx_iload_n C dX10_far_11 rfl (lv_at hl 0 rfl) ?_
    refine hx_iload_n C dX10_far_12 rfl (lv_at hl 1 rfl) ?_
    refine hx_isub C dX10_far_13 ?_
    obtain rfl := hx_some1 h
    exact hx_iret C hr dX10_far_14
  · have h := hx_neg c1 h
    refine hx_iload_n C dX10_far_5 rfl (lv_at hl 1 rfl) ?_
    refine hx_iload_n C dX10_far_6 rfl (lv_at hl 0 rfl) ?_
    refine hx_isub C dX10_far_7 ?_
    refine hx_goto (tgt := 14) C dX10_far_8 (by decide) ?_
    obtain rfl := hx_some1 h
    exact hx_iret C hr dX10_far_14
