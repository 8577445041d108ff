def f_X10_bestStep_24 (L : hL) : Nat → Nat → Int32 → Int32 → Int32 → hX → Option (Int32)
  | 0, _, _, _, _, _ => none
  | n + 1, v0, v1, v2, v3, X =>
    if v3 ≤ 0 then
      some (-100009)
    else
      (f_X10_apart L X v0 v1 v3 v2).bind fun r2 =>
      if tk L v0 10 then
      if r2 = v2 then
        some v3
      else
        f_X10_bestStep_24 L n v0 v1 v2 (v3 + (-1)) X
      else none
set_option maxRecDepth 100000 in
set_option maxHeartbeats 4000000 in
theorem w_X10_bestStep_24 {p : Program} {l : Launch} {e : Env} {s : State} {m : MethodId} {args : Array Value} {below : List Frame} {meth : Method} {c : Code} {dC : Nat → ClassId} {dI : Nat → Nat → Nat} {cy : Nat → ClassId} {ad : Nat → Nat} {L : hL} {r : Int32} (C : hC p s m args meth c dC dI cy ad L (hA ad L s.heap.size) cX10_bestStep 4 wsX10_bestStep RX10) (hr : meth.sig.returnType = (some .int)) : ∀ (n : Nat) (v0 : Nat) (v1 : Int32) (v2 : Int32) (v3 : Int32) (X : hX) (ls : Array Slot), f_X10_bestStep_24 L n v0 v1 v2 v3 X = some r → lv_has ls 4 [(0, .ref (ad v0)), (1, .int v1), (2, .int v2), (3, .int v3)] → hG p l e (headSpec wsX10_bestStep ({ frames := 3, cells := 0, slots := 0, locals := 71 } : Room)).room s m args below meth c dC dI cy ad L (hA ad L s.heap.size) 0 0 (MQ below (hQ dC dI cy ad L s.heap.size (some (.int r)) X) args s 0 0 (hA ad L s.heap.size)) X 24 ls [] := by
  intro n
  induction n with
  | zero => intro v0 v1 v2 v3 X ls h; cases h
  | succ n ih =>
    intro v0 v1 v2 v3 X ls h hl
    rw [f_X10_bestStep_24] at h
    refine hx_iload_n C dX10_bestStep_24 rfl (lv_at hl 3 rfl) ?_
    refine hx_if_le (tgt := 47) C dX10_bestStep_25 (by decide) (fun c1 => ?_) (fun c1 => ?_)
    · have h := hx_pos c1 h
      refine hx_ldc (v := (-100009)) C (by decide +kernel) dX10_bestStep_47 ?_
      obtain rfl := hx_some1 h
      exact hx_iret C hr dX10_bestStep_49
    · have h := hx_neg c1 h
      refine hx_aload_n C dX10_bestStep_28 rfl (lv_at hl 0 rfl) ?_
      refine hx_iload_n C dX10_bestStep_29 rfl (lv_at hl 1 rfl) ?_
      refine hx_iload_n C dX10_bestStep_30 rfl (lv_at hl 3 rfl) ?_
      refine hx_iload_n C dX10_bestStep_31 rfl (lv_at hl 2 rfl) ?_
      obtain ⟨r2, e3, h⟩ := hx_bind h
      obtain ⟨g4, h⟩ := hx_gd h
      refine hx_callV (As := [.int v1, .int v3, .int v2]) (rest := []) (n := 3) (Cn := RX10) C (c_X10_apart e3) gX10_bestStep_X10_apart g4 (by decide) rfl (by decide +kernel) ⟨Nat.le_of_ble_eq_true rfl, Nat.le_of_ble_eq_true rfl⟩ rfl rfl rfl ⟨Nat.zero_le _, Nat.zero_le _⟩ hl.1 rfl rfl (Nat.le_of_ble_eq_true rfl) dX10_bestStep_32 ?_
      refine hx_iload_n C dX10_bestStep_35 rfl (lv_at hl 2 rfl) ?_
      refine hx_icmp_ne (tgt := 41) C dX10_bestStep_36 (by decide) (fun c5 => ?_) (fun c5 => ?_)
      · have h := hx_neg c5 h
        refine hx_iinc (v := v3 + (-1)) (lv' := [(3, .int (v3 + (-1))), (0, .ref (ad v0)), (1, .int v1), (2, .int v2)]) C dX10_bestStep_41 hl (k := 3) rfl rfl (by decide) rfl (fun ls hl => ?_)
        refine hx_goto (tgt := 24) C dX10_bestStep_44 (by decide) ?_
        exact ih v0 v1 v2 (v3 + (-1)) X ls h (lv_sub hl [1, 2, 3, 0] rfl)
      · have h := hx_pos c5 h
        refine hx_iload_n C dX10_bestStep_39 rfl (lv_at hl 3 rfl) ?_
        obtain rfl := hx_some1 h
        exact hx_iret C hr dX10_bestStep_40
def f_X10_bestStep (L : hL) (X : hX) (this : Nat) (a1 : Int32) (a2 : Int32) : Option (Int32) :=
  (f_X10_isKind L X a1).bind fun r6 =>
  if r6 = 0 then
    some (-100001)
  else
    (f_X10_in L X a2 0 99).bind fun r9 =>
    if r9 = 0 then
      some (-100001)
    else
      f_X10_bestStep_24 L u_fuel this a1 a2 1000 X
set_option maxRecDepth 100000 in
set_option maxHeartbeats 4000000 in
theorem c_X10_bestStep {l : Launch} {dC : Nat → ClassId} {dI : Nat → Nat → Nat} {cy : Nat → ClassId} {ad : Nat → Nat} {L : hL} {X : hX} {this : Nat} {a1 : Int32} {a2 : Int32} {r : Int32} (h : f_X10_bestStep L X this a1 a2 = some r) : hMet l dC dI cy ad L yX10_bestStep wsX10_bestStep ({ frames := 3, cells := 0, slots := 0, locals := 71 } : Room) [.ref (ad this), .int a1, .int a2] X (some (.int r)) X := by
  unfold f_X10_bestStep at h
  refine hx_enter RX10 (plainFor_of_name (by decide)) rfl rfl (Nat.le_of_ble_eq_true rfl) (fun p e s m args below meth c C hr hnm ls hl => ?_)
  have hl : lv_has ls 4 [(0, .ref (ad this)), (1, .int a1), (2, .int a2)] := hl
  refine hx_iload_n C dX10_bestStep_0 rfl (lv_at hl 1 rfl) ?_
  obtain ⟨r6, e7, h⟩ := hx_bind h
  refine hx_callS (As := [.int a1]) (rest := []) (n := 1) C (c_X10_isKind e7) gX10_bestStep_X10_isKind (by decide +kernel) ⟨Nat.le_of_ble_eq_true rfl, Nat.le_of_ble_eq_true rfl⟩ rfl rfl rfl ⟨Nat.zero_le _, Nat.zero_le _⟩ hl.1 rfl rfl (Nat.le_of_ble_eq_true rfl) dX10_bestStep_1 ?_
  refine hx_if_eq (tgt := 17) C dX10_bestStep_4 (by decide) (fun c8 => ?_) (fun c8 => ?_)
  · have h := hx_pos c8 h
    refine hx_ldc (v := (-100001)) C (by decide +kernel) dX10_bestStep_17 ?_
    obtain rfl := hx_some1 h
    exact hx_iret C hr dX10_bestStep_19
  · have h := hx_neg c8 h
    refine hx_iload_n C dX10_bestStep_7 rfl (lv_at hl 2 rfl) ?_
    refine hx_iconst (v := 0) C dX10_bestStep_8 (by decide) ?_
    refine hx_bipush (v := 99) C dX10_bestStep_9 (by decide) ?_
    obtain ⟨r9, e10, h⟩ := hx_bind h
    refine hx_callS (As := [.int a2, .int 0, .int 99]) (rest := []) (n := 3) C (c_X10_in e10) gX10_bestStep_X10_in (by decide +kernel) ⟨Nat.le_of_ble_eq_true rfl, Nat.le_of_ble_eq_true rfl⟩ rfl rfl rfl ⟨Nat.zero_le _, Nat.zero_le _⟩ hl.1 rfl rfl (Nat.le_of_ble_eq_true rfl) dX10_bestStep_11 ?_
    refine hx_if_ne (tgt := 20) C dX10_bestStep_14 (by decide) (fun c11 => ?_) (fun c11 => ?_)
    · have h := hx_neg c11 h
      refine hx_sipush (v := 1000) C dX10_bestStep_20 (by decide) ?_
      refine hx_istore_n (lv' := [(3, .int 1000), (0, .ref (ad this)), (1, .int a1), (2, .int a2)]) C dX10_bestStep_23 rfl hl (by decide) rfl (fun ls hl => ?_)
      exact w_X10_bestStep_24 C hr u_fuel this a1 a2 1000 X ls h (lv_sub hl [1, 2, 3, 0] rfl)
    · have h := hx_pos c11 h
      refine hx_ldc (v := (-100001)) C (by decide +kernel) dX10_bestStep_17 ?_
      obtain rfl := hx_some1 h
      exact hx_iret C hr dX10_bestStep_19
theorem uX10_mixes_10 : ∀ w ∈ u_ws RX10 TX10 15, w ∈ wsX10_mixes := by decide +kernel
def f_X10_mixes (L : hL) (X : hX) (this : Nat) (a1 : Int32) (a2 : Int32) (a3 : Int32) (a4 : Int32) (a5 : Int32) : Option (Int32) :=
  if tk L this 10 then
  (X.2 this 0).bind fun q2 =>
  if tk L q2 12 then
  if hin a1 (L.2.2 q2) then
  if hin (4 + a1) (L.2.2 q2) then
  if hin a3 (L.2.2 q2) then
  if hin (4 + a3) (L.2.2 q2) then
  if 9 < L.2.2 q2 then
  if 8 < L.2.2 q2 then
  if ¬ (X.1 q2 8) = 0 then
  if (a5 - a5 / (X.1 q2 8) * (X.1 q2 8)) = 0 then
    (f_X10_highest L X this a5).bind fun r13 =>
    if r13 < (((a2 * ((X.1 q2 (Int32.toNatClampNeg a1)) - (X.1 q2 (Int32.toNatClampNeg (4 + a1))))) + (a4 * ((X.1 q2 (Int32.toNatClampNeg a3)) - (X.1 q2 (Int32.toNatClampNeg (4 + a3)))))) - (X.1 q2 9)) then
      some 0
    else
      (f_X10_lowest L X this a5).bind fun r16 =>
      if (((a2 * ((X.1 q2 (Int32.toNatClampNeg a1)) + (X.1 q2 (Int32.toNatClampNeg (4 + a1))))) + (a4 * ((X.1 q2 (Int32.toNatClampNeg a3)) + (X.1 q2 (Int32.toNatClampNeg (4 + a3)))))) + (X.1 q2 9)) < r16 then
        some 0
      else
        some 1
  else
    some 0
  else none
  else none
  else none
  else none
  else none
  else none
  else none
  else none
  else none
set_option maxRecDepth 100000 in
set_option maxHeartbeats 4000000 in
theorem c_X10_mixes {l : Launch} {dC : Nat → ClassId} {dI : Nat → Nat → Nat} {cy : Nat → ClassId} {ad : Nat → Nat} {L : hL} {X : hX} {this : Nat} {a1 : Int32} {a2 : Int32} {a3 : Int32} {a4 : Int32} {a5 : Int32} {r : Int32} (h : f_X10_mixes L X this a1 a2 a3 a4 a5 = some r) : hMet l dC dI cy ad L yX10_mixes wsX10_mixes ({ frames := 2, cells := 0, slots := 0, locals := 43 } : Room) [.ref (ad this), .int a1, .int a2, .int a3, .int a4, .int a5] X (some (.int r)) X := by
  unfold f_X10_mixes at h
  refine hx_enter RX10 (plainFor_of_name (by decide)) rfl rfl (Nat.le_of_ble_eq_true rfl) (fun p e s m args below meth c C hr hnm ls hl => ?_)
  have hl : lv_has ls 8 [(0, .ref (ad this)), (1, .int a1), (2, .int a2), (3, .int a3), (4, .int a4), (5, .int a5)] := hl
  refine hx_iload_n C dX10_mixes_0 rfl (lv_at hl 2 rfl) ?_
  refine hx_aload_n C dX10_mixes_1 rfl (lv_at hl 0 rfl) ?_
  obtain ⟨g1, h⟩ := hx_gd h
  obtain ⟨q2, e3, h⟩ := hx_bind h
  refine hx_getr C (ci := 10) (j := 0) g1 uX10_mixes_10 (by decide) rfl (by decide) rfl (by decide +kernel) rfl dX10_mixes_2 e3 ?_
  refine hx_iload_n C dX10_mixes_5 rfl (lv_at hl 1 rfl) ?_
  obtain ⟨g4, h⟩ := hx_gd h
  obtain ⟨g5, h⟩ := hx_gd h
  refine hx_iald (n := (Int32.toNatClampNeg a1)) C g4 g5 rfl dX10_mixes_6 ?_
  refine hx_aload_n C dX10_mixes_7 rfl (lv_at hl 0 rfl) ?_
  refine hx_getr C (ci := 10) (j := 0) g1 uX10_mixes_10 (by decide) rfl (by decide) rfl (by decide +kernel) rfl dX10_mixes_8 e3 ?_
  refine hx_iconst (v := 4) C dX10_mixes_11 (by decide) ?_
  refine hx_iload_n C dX10_mixes_12 rfl (lv_at hl 1 rfl) ?_
  refine hx_iadd C dX10_mixes_13 ?_
  obtain ⟨g6, h⟩ := hx_gd h
  refine hx_iald (n := (Int32.toNatClampNeg (4 + a1))) C g4 g6 rfl dX10_mixes_14 ?_
  refine hx_isub C dX10_mixes_15 ?_
  refine hx_imul C dX10_mixes_16 ?_
  refine hx_iload C dX10_mixes_17 (lv_at hl 4 rfl) ?_
  refine hx_aload_n C dX10_mixes_19 rfl (lv_at hl 0 rfl) ?_
  refine hx_getr C (ci := 10) (j := 0) g1 uX10_mixes_10 (by decide) rfl (by decide) rfl (by decide +kernel) rfl dX10_mixes_20 e3 ?_
  refine hx_iload_n C dX10_mixes_23 rfl (lv_at hl 3 rfl) ?_
  obtain ⟨g7, h⟩ := hx_gd h
  refine hx_iald (n := (Int32.toNatClampNeg a3)) C g4 g7 rfl dX10_mixes_24 ?_
  refine hx_aload_n C dX10_mixes_25 rfl (lv_at hl 0 rfl) ?_
  refine hx_getr C (ci := 10) (j := 0) g1 uX10_mixes_10 (by decide) rfl (by decide) rfl (by decide +kernel) rfl dX10_mixes_26 e3 ?_
  refine hx_iconst (v := 4) C dX10_mixes_29 (by decide) ?_
  refine hx_iload_n C dX10_mixes_30 rfl (lv_at hl 3 rfl) ?_
  refine hx_iadd C dX10_mixes_31 ?_
  obtain ⟨g8, h⟩ := hx_gd h
  refine hx_iald (n := (Int32.toNatClampNeg (4 + a3))) C g4 g8 rfl dX10_mixes_32 ?_
  refine hx_isub C dX10_mixes_33 ?_
  refine hx_imul C dX10_mixes_34 ?_
  refine hx_iadd C dX10_mixes_35 ?_
  refine hx_aload_n C dX10_mixes_36 rfl (lv_at hl 0 rfl) ?_
  refine hx_getr C (ci := 10) (j := 0) g1 uX10_mixes_10 (by decide) rfl (by decide) rfl (by decide +kernel) rfl dX10_mixes_37 e3 ?_
  refine hx_bipush (v := 9) C dX10_mixes_40 (by decide) ?_
  obtain ⟨g9, h⟩ := hx_gd h
  refine hx_iald (n := 9) C g4 (hin_lit (i := 9) (by decide) rfl g9) rfl dX10_mixes_42 ?_
  refine hx_isub C dX10_mixes_43 ?_
  refine hx_istore (lv' := [(6, .int (((a2 * ((X.1 q2 (Int32.toNatClampNeg a1)) - (X.1 q2 (Int32.toNatClampNeg (4 + a1))))) + (a4 * ((X.1 q2 (Int32.toNatClampNeg a3)) - (X.1 q2 (Int32.toNatClampNeg (4 + a3)))))) - (X.1 q2 9))), (0, .ref (ad this)), (1, .int a1), (2, .int a2), (3, .int a3), (4, .int a4), (5, .int a5)]) C dX10_mixes_44 hl (by decide) rfl (fun ls hl => ?_)
  refine hx_iload_n C dX10_mixes_46 rfl (lv_at hl 3 rfl) ?_
  refine hx_aload_n C dX10_mixes_47 rfl (lv_at hl 1 rfl) ?_
  refine hx_getr C (ci := 10) (j := 0) g1 uX10_mixes_10 (by decide) rfl (by decide) rfl (by decide +kernel) rfl dX10_mixes_48 e3 ?_
  refine hx_iload_n C dX10_mixes_51 rfl (lv_at hl 2 rfl) ?_
  refine hx_iald (n := (Int32.toNatClampNeg a1)) C g4 g5 rfl dX10_mixes_52 ?_
  refine hx_aload_n C dX10_mixes_53 rfl (lv_at hl 1 rfl) ?_
  refine hx_getr C (ci := 10) (j := 0) g1 uX10_mixes_10 (by decide) rfl (by decide) rfl (by decide +kernel) rfl dX10_mixes_54 e3 ?_
  refine hx_iconst (v := 4) C dX10_mixes_57 (by decide) ?_
  refine hx_iload_n C dX10_mixes_58 rfl (lv_at hl 2 rfl) ?_
  refine hx_iadd C dX10_mixes_59 ?_
  refine hx_iald (n := (Int32.toNatClampNeg (4 + a1))) C g4 g6 rfl dX10_mixes_60 ?_
  refine hx_iadd C dX10_mixes_61 ?_
  refine hx_imul C dX10_mixes_62 ?_
  refine hx_iload C dX10_mixes_63 (lv_at hl 5 rfl) ?_
  refine hx_aload_n C dX10_mixes_65 rfl (lv_at hl 1 rfl) ?_
  refine hx_getr C (ci := 10) (j := 0) g1 uX10_mixes_10 (by decide) rfl (by decide) rfl (by decide +kernel) rfl dX10_mixes_66 e3 ?_
  refine hx_iload_n C dX10_mixes_69 rfl (lv_at hl 4 rfl) ?_
  refine hx_iald (n := (Int32.toNatClampNeg a3)) C g4 g7 rfl dX10_mixes_70 ?_
  refine hx_aload_n C dX10_mixes_71 rfl (lv_at hl 1 rfl) ?_
  refine hx_getr C (ci := 10) (j := 0) g1 uX10_mixes_10 (by decide) rfl (by decide) rfl (by decide +kernel) rfl dX10_mixes_72 e3 ?_
  refine hx_iconst (v := 4) C dX10_mixes_75 (by decide) ?_
  refine hx_iload_n C dX10_mixes_76 rfl (lv_at hl 4 rfl) ?_
  refine hx_iadd C dX10_mixes_77 ?_
  refine hx_iald (n := (Int32.toNatClampNeg (4 + a3))) C g4 g8 rfl dX10_mixes_78 ?_
  refine hx_iadd C dX10_mixes_79 ?_
  refine hx_imul C dX10_mixes_80 ?_
  refine hx_iadd C dX10_mixes_81 ?_
  refine hx_aload_n C dX10_mixes_82 rfl (lv_at hl 1 rfl) ?_
  refine hx_getr C (ci := 10) (j := 0) g1 uX10_mixes_10 (by decide) rfl (by decide) rfl (by decide +kernel) rfl dX10_mixes_83 e3 ?_
  refine hx_bipush (v := 9) C dX10_mixes_86 (by decide) ?_
  refine hx_iald (n := 9) C g4 (hin_lit (i := 9) (by decide) rfl g9) rfl dX10_mixes_88 ?_
  refine hx_iadd C dX10_mixes_89 ?_
  refine hx_istore (lv' := [(7, .int (((a2 * ((X.1 q2 (Int32.toNatClampNeg a1)) + (X.1 q2 (Int32.toNatClampNeg (4 + a1))))) + (a4 * ((X.1 q2 (Int32.toNatClampNeg a3)) + (X.1 q2 (Int32.toNatClampNeg (4 + a3)))))) + (X.1 q2 9))), (6, .int (((a2 * ((X.1 q2 (Int32.toNatClampNeg a1)) - (X.1 q2 (Int32.toNatClampNeg (4 + a1))))) + (a4 * ((X.1 q2 (Int32.toNatClampNeg a3)) - (X.1 q2 (Int32.toNatClampNeg (4 + a3)))))) - (X.1 q2 9))), (0, .ref (ad this)), (1, .int a1), (2, .int a2), (3, .int a3), (4, .int a4), (5, .int a5)]) C dX10_mixes_90 hl (by decide) rfl (fun ls hl => ?_)
  refine hx_iload C dX10_mixes_92 (lv_at hl 7 rfl) ?_
  refine hx_aload_n C dX10_mixes_94 rfl (lv_at hl 2 rfl) ?_
  refine hx_getr C (ci := 10) (j := 0) g1 uX10_mixes_10 (by decide) rfl (by decide) rfl (by decide +kernel) rfl dX10_mixes_95 e3 ?_
  refine hx_bipush (v := 8) C dX10_mixes_98 (by decide) ?_
  obtain ⟨g10, h⟩ := hx_gd h
  refine hx_iald (n := 8) C g4 (hin_lit (i := 8) (by decide) rfl g10) rfl dX10_mixes_100 ?_
  obtain ⟨g11, h⟩ := hx_gd h
  refine hx_irem C dX10_mixes_101 g11 ?_
  refine hx_if_ne (tgt := 131) C dX10_mixes_102 (by decide) (fun c12 => ?_) (fun c12 => ?_)
  · have h := hx_neg c12 h
    refine hx_iconst (v := 0) C dX10_mixes_131 (by decide) ?_
    obtain rfl := hx_some1 h
    exact hx_zret C hr rfl dX10_mixes_132
  · have h := hx_pos c12 h
    refine hx_iload C dX10_mixes_105 (lv_at hl 1 rfl) ?_
    refine hx_aload_n C dX10_mixes_107 rfl (lv_at hl 2 rfl) ?_
    refine hx_iload C dX10_mixes_108 (lv_at hl 7 rfl) ?_
    obtain ⟨r13, e14, h⟩ := hx_bind h
    refine hx_callV (As := [.int a5]) (rest := [.int (((a2 * ((X.1 q2 (Int32.toNatClampNeg a1)) - (X.1 q2 (Int32.toNatClampNeg (4 + a1))))) + (a4 * ((X.1 q2 (Int32.toNatClampNeg a3)) - (X.1 q2 (Int32.toNatClampNeg (4 + a3)))))) - (X.1 q2 9))]) (n := 1) (Cn := RX10) C (c_X10_highest e14) gX10_mixes_X10_highest g1 (by decide) rfl (by decide +kernel) ⟨Nat.le_of_ble_eq_true rfl, Nat.le_of_ble_eq_true rfl⟩ rfl rfl rfl ⟨Nat.zero_le _, Nat.zero_le _⟩ hl.1 rfl rfl (Nat.le_of_ble_eq_true rfl) dX10_mixes_110 ?_
    refine hx_icmp_gt (tgt := 131) C dX10_mixes_113 (by decide) (fun c15 => ?_) (fun c15 => ?_)
    · have h := hx_pos c15 h
      refine hx_iconst (v := 0) C dX10_mixes_131 (by decide) ?_
      obtain rfl := hx_some1 h
      exact hx_zret C hr rfl dX10_mixes_132
    · have h := hx_neg c15 h
      refine hx_iload C dX10_mixes_116 (lv_at hl 0 rfl) ?_
      refine hx_aload_n C dX10_mixes_118 rfl (lv_at hl 2 rfl) ?_
      refine hx_iload C dX10_mixes_119 (lv_at hl 7 rfl) ?_
      obtain ⟨r16, e17, h⟩ := hx_bind h
      refine hx_callV (As := [.int a5]) (rest := [.int (((a2 * ((X.1 q2 (Int32.toNatClampNeg a1)) + (X.1 q2 (Int32.toNatClampNeg (4 + a1))))) + (a4 * ((X.1 q2 (Int32.toNatClampNeg a3)) + (X.1 q2 (Int32.toNatClampNeg (4 + a3)))))) + (X.1 q2 9))]) (n := 1) (Cn := RX10) C (c_X10_lowest e17) gX10_mixes_X10_lowest g1 (by decide) rfl (by decide +kernel) ⟨Nat.le_of_ble_eq_true rfl, Nat.le_of_ble_eq_true rfl⟩ rfl rfl rfl ⟨Nat.zero_le _, Nat.zero_le _⟩ hl.1 rfl rfl (Nat.le_of_ble_eq_true rfl) dX10_mixes_121 ?_
      refine hx_icmp_lt (tgt := 131) C dX10_mixes_124 (by decide) (fun c18 => ?_) (fun c18 => ?_)
      · have h := hx_pos c18 h
        refine hx_iconst (v := 0) C dX10_mixes_131 (by decide) ?_
        obtain rfl := hx_some1 h
        exact hx_zret C hr rfl dX10_mixes_132
      · have h := hx_neg c18 h
        refine hx_iconst (v := 1) C dX10_mixes_127 (by decide) ?_
        refine hx_goto (tgt := 132) C dX10_mixes_128 (by decide) ?_
        obtain rfl := hx_some1 h
        exact hx_zret C hr rfl dX10_mixes_132
def f_X10_mixed_113 (L : hL) (k56 : Nat → Int32 → Int32 → Int32 → Int32 → Int32 → Int32 → Int32 → Int32 → hX → Option (Int32)) (k66 : Nat → Int32 → Int32 → Int32 → Int32 → Int32 → Int32 → Int32 → Int32 → Int32 → hX → Option (Int32)) (v0 : Nat) (v1 : Int32) (v2 : Int32) (v3 : Int32) (v4 : Int32) (v5 : Int32) (v6 : Int32) (v7 : Int32) (v8 : Int32) (v9 : Int32) (X : hX) : Option (Int32) :=
  k66 v0 v1 v2 v3 v4 v5 v6 v7 v8 (v9 + 1) X
set_option maxRecDepth 100000 in
set_option maxHeartbeats 4000000 in
theorem w_X10_mixed_113 {p : Program} {l : Launch} {e : Env} {s : State} {m : MethodId} {args : Array Value} {below : List Frame} {meth : Method} {c : Code} {dC : Nat → ClassId} {dI : Nat → Nat → Nat} {cy : Nat → ClassId} {ad : Nat → Nat} {L : hL} {r : Int32} (k56 : Nat → Int32 → Int32 → Int32 → Int32 → Int32 → Int32 → Int32 → Int32 → hX → Option (Int32)) (k66 : Nat → Int32 → Int32 → Int32 → Int32 → Int32 → Int32 → Int32 → Int32 → Int32 → hX → Option (Int32)) (C : hC p s m args meth c dC dI cy ad L (hA ad L s.heap.size) cX10_mixed 10 wsX10_mixed RX10) (hr : meth.sig.returnType = (some .int)) (hk56 : ∀ (v0 : Nat) (v1 : Int32) (v2 : Int32) (v3 : Int32) (v4 : Int32) (v5 : Int32) (v6 : Int32) (v7 : Int32) (v8 : Int32) (X : hX) (ls : Array Slot), k56 v0 v1 v2 v3 v4 v5 v6 v7 v8 X = some r → lv_has ls 10 [(0, .ref (ad v0)), (1, .int v1), (2, .int v2), (3, .int v3), (4, .int v4), (5, .int v5), (6, .int v6), (7, .int v7), (8, .int v8)] → hG p l e (headSpec wsX10_mixed ({ frames := 3, cells := 0, slots := 0, locals := 70 } : Room)).room s m args below meth c dC dI cy ad L (hA ad L s.heap.size) 0 0 (MQ below (hQ dC dI cy ad L s.heap.size (some (.int r)) X) args s 0 0 (hA ad L s.heap.size)) X 56 ls []) (hk66 : ∀ (v0 : Nat) (v1 : Int32) (v2 : Int32) (v3 : Int32) (v4 : Int32) (v5 : Int32) (v6 : Int32) (v7 : Int32) (v8 : Int32) (v9 : Int32) (X : hX) (ls : Array Slot), k66 v0 v1 v2 v3 v4 v5 v6 v7 v8 v9 X = some r → lv_has ls 10 [(0, .ref (ad v0)), (1, .int v1), (2, .int v2), (3, .int v3), (4, .int v4), (5, .int v5), (6, .int v6), (7, .int v7), (8, .int v8), (9, .int v9)] → hG p l e (headSpec wsX10_mixed ({ frames := 3, cells := 0, slots := 0, locals := 70 } : Room)).room s m args below meth c dC dI cy ad L (hA ad L s.heap.size) 0 0 (MQ below (hQ dC dI cy ad L s.heap.size (some (.int r)) X) args s 0 0 (hA ad L s.heap.size)) X 66 ls []) : ∀ (v0 : Nat) (v1 : Int32) (v2 : Int32) (v3 : Int32) (v4 : Int32) (v5 : Int32) (v6 : Int32) (v7 : Int32) (v8 : Int32) (v9 : Int32) (X : hX) (ls : Array Slot), f_X10_mixed_113 L k56 k66 v0 v1 v2 v3 v4 v5 v6 v7 v8 v9 X = some r → lv_has ls 10 [(0, .ref (ad v0)), (1, .int v1), (2, .int v2), (3, .int v3), (4, .int v4), (5, .int v5), (6, .int v6), (7, .int v7), (8, .int v8), (9, .int v9)] → hG p l e (headSpec wsX10_mixed ({ frames := 3, cells := 0, slots := 0, locals := 70 } : Room)).room s m args below meth c dC dI cy ad L (hA ad L s.heap.size) 0 0 (MQ below (hQ dC dI cy ad L s.heap.size (some (.int r)) X) args s 0 0 (hA ad L s.heap.size)) X 113 ls [] := by
  intro v0 v1 v2 v3 v4 v5 v6 v7 v8 v9 X ls h hl
  unfold f_X10_mixed_113 at h
  refine hx_iinc (v := v9 + 1) (lv' := [(9, .int (v9 + 1)), (0, .ref (ad v0)), (1, .int v1), (2, .int v2), (3, .int v3), (4, .int v4), (5, .int v5), (6, .int v6), (7, .int v7), (8, .int v8)]) C dX10_mixed_113 hl (k := 9) rfl rfl (by decide) rfl (fun ls hl => ?_)
  refine hx_goto (tgt := 66) C dX10_mixed_116 (by decide) ?_
  exact hk66 v0 v1 v2 v3 v4 v5 v6 v7 v8 (v9 + 1) X ls h (lv_sub hl [1, 2, 3, 4, 5, 6, 7, 8, 9, 0] rfl)
def f_X10_mixed_107 (L : hL) (k56 : Nat → Int32 → Int32 → Int32 → Int32 → Int32 → Int32 → Int32 → Int32 → hX → Option (Int32)) (k66 : Nat → Int32 → Int32 → Int32 → Int32 → Int32 → Int32 → Int32 → Int32 → Int32 → hX → Option (Int32)) (v0 : Nat) (v1 : Int32) (v2 : Int32) (v3 : Int32) (v4 : Int32) (v5 : Int32) (v8 : Int32) (v9 : Int32) (s0 : Int32) (X : hX) : Option (Int32) :=
  f_X10_mixed_113 L k56 k66 v0 v1 v2 v3 v4 v5 s0 v8 v8 v9 X
set_option maxRecDepth 100000 in
set_option maxHeartbeats 4000000 in
theorem w_X10_mixed_107 {p : Program} {l : Launch} {e : Env} {s : State} {m : MethodId} {args : Array Value} {below : List Frame} {meth : Method} {c : Code} {dC : Nat → ClassId} {dI : Nat → Nat → Nat} {cy : Nat → ClassId} {ad : Nat → Nat} {L : hL} {r : Int32} (k56 : Nat → Int32 → Int32 → Int32 → Int32 → Int32 → Int32 → Int32 → Int32 → hX → Option (Int32)) (k66 : Nat → Int32 → Int32 → Int32 → Int32 → Int32 → Int32 → Int32 → Int32 → Int32 → hX → Option (Int32)) (C : hC p s m args meth c dC dI cy ad L (hA ad L s.heap.size) cX10_mixed 10 wsX10_mixed RX10) (hr : meth.sig.returnType = (some .int)) (hk56 : ∀ (v0 : Nat) (v1 : Int32) (v2 : Int32) (v3 : Int32) (v4 : Int32) (v5 : Int32) (v6 : Int32) (v7 : Int32) (v8 : Int32) (X : hX) (ls : Array Slot), k56 v0 v1 v2 v3 v4 v5 v6 v7 v8 X = some r → lv_has ls 10 [(0, .ref (ad v0)), (1, .int v1), (2, .int v2), (3, .int v3), (4, .int v4), (5, .int v5), (6, .int v6), (7, .int v7), (8, .int v8)] → hG p l e (headSpec wsX10_mixed ({ frames := 3, cells := 0, slots := 0, locals := 70 } : Room)).room s m args below meth c dC dI cy ad L (hA ad L s.heap.size) 0 0 (MQ below (hQ dC dI cy ad L s.heap.size (some (.int r)) X) args s 0 0 (hA ad L s.heap.size)) X 56 ls []) (hk66 : ∀ (v0 : Nat) (v1 : Int32) (v2 : Int32) (v3 : Int32) (v4 : Int32) (v5 : Int32) (v6 : Int32) (v7 : Int32) (v8 : Int32) (v9 : Int32) (X : hX) (ls : Array Slot), k66 v0 v1 v2 v3 v4 v5 v6 v7 v8 v9 X = some r → lv_has ls 10 [(0, .ref (ad v0)), (1, .int v1), (2, .int v2), (3, .int v3), (4, .int v4), (5, .int v5), (6, .int v6), (7, .int v7), (8, .int v8), (9, .int v9)] → hG p l e (headSpec wsX10_mixed ({ frames := 3, cells := 0, slots := 0, locals := 70 } : Room)).room s m args below meth c dC dI cy ad L (hA ad L s.heap.size) 0 0 (MQ below (hQ dC dI cy ad L s.heap.size (some (.int r)) X) args s 0 0 (hA ad L s.heap.size)) X 66 ls []) : ∀ (v0 : Nat) (v1 : Int32) (v2 : Int32) (v3 : Int32) (v4 : Int32) (v5 : Int32) (v8 : Int32) (v9 : Int32) (s0 : Int32) (X : hX) (ls : Array Slot), f_X10_mixed_107 L k56 k66 v0 v1 v2 v3 v4 v5 v8 v9 s0 X = some r → lv_has ls 10 [(0, .ref (ad v0)), (1, .int v1), (2, .int v2), (3, .int v3), (4, .int v4), (5, .int v5), (8, .int v8), (9, .int v9)] → hG p l e (headSpec wsX10_mixed ({ frames := 3, cells := 0, slots := 0, locals := 70 } : Room)).room s m args below meth c dC dI cy ad L (hA ad L s.heap.size) 0 0 (MQ below (hQ dC dI cy ad L s.heap.size (some (.int r)) X) args s 0 0 (hA ad L s.heap.size)) X 107 ls [.int s0] := by
  intro v0 v1 v2 v3 v4 v5 v8 v9 s0 X ls h hl
  unfold f_X10_mixed_107 at h
  refine hx_istore (lv' := [(6, .int s0), (0, .ref (ad v0)), (1, .int v1), (2, .int v2), (3, .int v3), (4, .int v4), (5, .int v5), (8, .int v8), (9, .int v9)]) C dX10_mixed_107 hl (by decide) rfl (fun ls hl => ?_)
  refine hx_iload C dX10_mixed_109 (lv_at hl 7 rfl) ?_
  refine hx_istore (lv' := [(7, .int v8), (6, .int s0), (0, .ref (ad v0)), (1, .int v1), (2, .int v2), (3, .int v3), (4, .int v4), (5, .int v5), (8, .int v8), (9, .int v9)]) C dX10_mixed_111 hl (by decide) rfl (fun ls hl => ?_)
  exact w_X10_mixed_113 k56 k66 C hr hk56 hk66 v0 v1 v2 v3 v4 v5 s0 v8 v8 v9 X ls h (lv_sub hl [2, 3, 4, 5, 6, 7, 1, 0, 8, 9] rfl)
def f_X10_mixed_66 (L : hL) (k56 : Nat → Int32 → Int32 → Int32 → Int32 → Int32 → Int32 → Int32 → Int32 → hX → Option (Int32)) : Nat → Nat → Int32 → Int32 → Int32 → Int32 → Int32 → Int32 → Int32 → Int32 → Int32 → hX → Option (Int32)
  | 0, _, _, _, _, _, _, _, _, _, _, _ => none
  | n + 1, v0, v1, v2, v3, v4, v5, v6, v7, v8, v9, X =>
    if v8 < v9 then
      k56 v0 v1 v2 v3 v4 v5 v6 v7 (v8 + 1) X
    else
      (f_X10_mixes L X v0 v1 v9 v2 (v8 - v9) v3).bind fun r2 =>
      if tk L v0 10 then
      if r2 = 0 then
        f_X10_mixed_113 L k56 (f_X10_mixed_66 L k56 n) v0 v1 v2 v3 v4 v5 v6 v7 v8 v9 X
      else
        if v6 = (-100009) then
          f_X10_mixed_107 L k56 (f_X10_mixed_66 L k56 n) v0 v1 v2 v3 v4 (v5 + 1) v8 v9 v8 X
        else
          f_X10_mixed_107 L k56 (f_X10_mixed_66 L k56 n) v0 v1 v2 v3 v4 (v5 + 1) v8 v9 v6 X
      else none
set_option maxRecDepth 100000 in
set_option maxHeartbeats 4000000 in
theorem w_X10_mixed_66 {p : Program} {l : Launch} {e : Env} {s : State} {m : MethodId} {args : Array Value} {below : List Frame} {meth : Method} {c : Code} {dC : Nat → ClassId} {dI : Nat → Nat → Nat} {cy : Nat → ClassId} {ad : Nat → Nat} {L : hL} {r : Int32} (k56 : Nat → Int32 → Int32 → Int32 → Int32 → Int32 → Int32 → Int32 → Int32 → hX → Option (Int32)) (C : hC p s m args meth c dC dI cy ad L (hA ad L s.heap.size) cX10_mixed 10 wsX10_mixed RX10) (hr : meth.sig.returnType = (some .int)) (hk56 : ∀ (v0 : Nat) (v1 : Int32) (v2 : Int32) (v3 : Int32) (v4 : Int32) (v5 : Int32) (v6 : Int32) (v7 : Int32) (v8 : Int32) (X : hX) (ls : Array Slot), k56 v0 v1 v2 v3 v4 v5 v6 v7 v8 X = some r → lv_has ls 10 [(0, .ref (ad v0)), (1, .int v1), (2, .int v2), (3, .int v3), (4, .int v4), (5, .int v5), (6, .int v6), (7, .int v7), (8, .int v8)] → hG p l e (headSpec wsX10_mixed ({ frames := 3, cells := 0, slots := 0, locals := 70 } : Room)).room s m args below meth c dC dI cy ad L (hA ad L s.heap.size) 0 0 (MQ below (hQ dC dI cy ad L s.heap.size (some (.int r)) X) args s 0 0 (hA ad L s.heap.size)) X 56 ls []) : ∀ (n : Nat) (v0 : Nat) (v1 : Int32) (v2 : Int32) (v3 : Int32) (v4 : Int32) (v5 : Int32) (v6 : Int32) (v7 : Int32) (v8 : Int32) (v9 : Int32) (X : hX) (ls : Array Slot), f_X10_mixed_66 L k56 n v0 v1 v2 v3 v4 v5 v6 v7 v8 v9 X = some r → lv_has ls 10 [(0, .ref (ad v0)), (1, .int v1), (2, .int v2), (3, .int v3), (4, .int v4), (5, .int v5), (6, .int v6), (7, .int v7), (8, .int v8), (9, .int v9)] → hG p l e (headSpec wsX10_mixed ({ frames := 3, cells := 0, slots := 0, locals := 70 } : Room)).room s m args below meth c dC dI cy ad L (hA ad L s.heap.size) 0 0 (MQ below (hQ dC dI cy ad L s.heap.size (some (.int r)) X) args s 0 0 (hA ad L s.heap.size)) X 66 ls [] := by
  intro n
  induction n with
  | zero => intro v0 v1 v2 v3 v4 v5 v6 v7 v8 v9 X ls h; cases h
  | succ n ih =>
    intro v0 v1 v2 v3 v4 v5 v6 v7 v8 v9 X ls h hl
    rw [f_X10_mixed_66] at h
    refine hx_iload C dX10_mixed_66 (lv_at hl 9 rfl) ?_
    refine hx_iload C dX10_mixed_68 (lv_at hl 8 rfl) ?_
    refine hx_icmp_gt (tgt := 119) C dX10_mixed_70 (by decide) (fun c1 => ?_) (fun c1 => ?_)
    · have h := hx_pos c1 h
      refine hx_iinc (v := v8 + 1) (lv' := [(8, .int (v8 + 1)), (0, .ref (ad v0)), (1, .int v1), (2, .int v2), (3, .int v3), (4, .int v4), (5, .int v5), (6, .int v6), (7, .int v7), (9, .int v9)]) C dX10_mixed_119 hl (k := 8) rfl rfl (by decide) rfl (fun ls hl => ?_)
      refine hx_goto (tgt := 56) C dX10_mixed_122 (by decide) ?_
      exact hk56 v0 v1 v2 v3 v4 v5 v6 v7 (v8 + 1) X ls h (lv_sub hl [1, 2, 3, 4, 5, 6, 7, 8, 0] rfl)
    · have h := hx_neg c1 h
      refine hx_aload_n C dX10_mixed_73 rfl (lv_at hl 0 rfl) ?_
      refine hx_iload_n C dX10_mixed_74 rfl (lv_at hl 1 rfl) ?_
      refine hx_iload C dX10_mixed_75 (lv_at hl 9 rfl) ?_
      refine hx_iload_n C dX10_mixed_77 rfl (lv_at hl 2 rfl) ?_
      refine hx_iload C dX10_mixed_78 (lv_at hl 8 rfl) ?_
      refine hx_iload C dX10_mixed_80 (lv_at hl 9 rfl) ?_
      refine hx_isub C dX10_mixed_82 ?_
      refine hx_iload_n C dX10_mixed_83 rfl (lv_at hl 3 rfl) ?_
      obtain ⟨r2, e3, h⟩ := hx_bind h
      obtain ⟨g4, h⟩ := hx_gd h
      refine hx_callV (As := [.int v1, .int v9, .int v2, .int (v8 - v9), .int v3]) (rest := []) (n := 5) (Cn := RX10) C (c_X10_mixes e3) gX10_mixed_X10_mixes g4 (by decide) rfl (by decide +kernel) ⟨Nat.le_of_ble_eq_true rfl, Nat.le_of_ble_eq_true rfl⟩ rfl rfl rfl ⟨Nat.zero_le _, Nat.zero_le _⟩ hl.1 rfl rfl (Nat.le_of_ble_eq_true rfl) dX10_mixed_84 ?_
      refine hx_if_eq (tgt := 113) C dX10_mixed_87 (by decide) (fun c5 => ?_) (fun c5 => ?_)
      · have h := hx_pos c5 h
        exact w_X10_mixed_113 k56 (f_X10_mixed_66 L k56 n) C hr hk56 ih v0 v1 v2 v3 v4 v5 v6 v7 v8 v9 X ls h (lv_sub hl [0, 1, 2, 3, 4, 5, 6, 7, 8, 9] rfl)
      · have h := hx_neg c5 h
        refine hx_iinc (v := v5 + 1) (lv' := [(5, .int (v5 + 1)), (0, .ref (ad v0)), (1, .int v1), (2, .int v2), (3, .int v3), (4, .int v4), (6, .int v6), (7, .int v7), (8, .int v8), (9, .int v9)]) C dX10_mixed_90 hl (k := 5) rfl rfl (by decide) rfl (fun ls hl => ?_)
        refine hx_iload C dX10_mixed_93 (lv_at hl 6 rfl) ?_
        refine hx_ldc (v := (-100009)) C (by decide +kernel) dX10_mixed_95 ?_
        refine hx_icmp_ne (tgt := 105) C dX10_mixed_97 (by decide) (fun c6 => ?_) (fun c6 => ?_)
        · have h := hx_neg c6 h
          refine hx_iload C dX10_mixed_105 (lv_at hl 6 rfl) ?_
          exact w_X10_mixed_107 k56 (f_X10_mixed_66 L k56 n) C hr hk56 ih v0 v1 v2 v3 v4 (v5 + 1) v8 v9 v6 X ls h (lv_sub hl [1, 2, 3, 4, 5, 0, 8, 9] rfl)
        · have h := hx_pos c6 h
          refine hx_iload C dX10_mixed_100 (lv_at hl 8 rfl) ?_
          refine hx_goto (tgt := 107) C dX10_mixed_102 (by decide) ?_
          exact w_X10_mixed_107 k56 (f_X10_mixed_66 L k56 n) C hr hk56 ih v0 v1 v2 v3 v4 (v5 + 1) v8 v9 v8 X ls h (lv_sub hl [1, 2, 3, 4, 5, 0, 8, 9] rfl)
def f_X10_mixed_56 (L : hL) : Nat → Nat → Int32 → Int32 → Int32 → Int32 → Int32 → Int32 → Int32 → Int32 → hX → Option (Int32)
  | 0, _, _, _, _, _, _, _, _, _, _ => none
  | n + 1, v0, v1, v2, v3, v4, v5, v6, v7, v8, X =>
    if 60 < v8 then
      if v4 = 0 then
        some v5
      else
        if v4 = 1 then
          some v6
        else
          some v7
    else
      f_X10_mixed_66 L (f_X10_mixed_56 L n) u_fuel v0 v1 v2 v3 v4 v5 v6 v7 v8 0 X
set_option maxRecDepth 100000 in
set_option maxHeartbeats 4000000 in
theorem w_X10_mixed_56 {p : Program} {l : Launch} {e : Env} {s : State} {m : MethodId} {args : Array Value} {below : List Frame} {meth : Method} {c : Code} {dC : Nat → ClassId} {dI : Nat → Nat → Nat} {cy : Nat → ClassId} {ad : Nat → Nat} {L : hL} {r : Int32} (C : hC p s m args meth c dC dI cy ad L (hA ad L s.heap.size) cX10_mixed 10 wsX10_mixed RX10) (hr : meth.sig.returnType = (some .int)) : ∀ (n : Nat) (v0 : Nat) (v1 : Int32) (v2 : Int32) (v3 : Int32) (v4 : Int32) (v5 : Int32) (v6 : Int32) (v7 : Int32) (v8 : Int32) (X : hX) (ls : Array Slot), f_X10_mixed_56 L n v0 v1 v2 v3 v4 v5 v6 v7 v8 X = some r → lv_has ls 10 [(0, .ref (ad v0)), (1, .int v1), (2, .int v2), (3, .int v3), (4, .int v4), (5, .int v5), (6, .int v6), (7, .int v7), (8, .int v8)] → hG p l e (headSpec wsX10_mixed ({ frames := 3, cells := 0, slots := 0, locals := 70 } : Room)).room s m args below meth c dC dI cy ad L (hA ad L s.heap.size) 0 0 (MQ below (hQ dC dI cy ad L s.heap.size (some (.int r)) X) args s 0 0 (hA ad L s.heap.size)) X 56 ls [] := by
  intro n
  induction n with
  | zero => intro v0 v1 v2 v3 v4 v5 v6 v7 v8 X ls h; cases h
  | succ n ih =>
    intro v0 v1 v2 v3 v4 v5 v6 v7 v8 X ls h hl
    rw [f_X10_mixed_56] at h
    refine hx_iload C dX10_mixed_56 (lv_at hl 8 rfl) ?_
    refine hx_bipush (v := 60) C dX10_mixed_58 (by decide) ?_
    refine hx_icmp_gt (tgt := 125) C dX10_mixed_60 (by decide) (fun c7 => ?_) (fun c7 => ?_)
    · have h := hx_pos c7 h
      refine hx_iload C dX10_mixed_125 (lv_at hl 4 rfl) ?_
      refine hx_if_ne (tgt := 135) C dX10_mixed_127 (by decide) (fun c8 => ?_) (fun c8 => ?_)
      · have h := hx_neg c8 h
        refine hx_iload C dX10_mixed_135 (lv_at hl 4 rfl) ?_
        refine hx_iconst (v := 1) C dX10_mixed_137 (by decide) ?_
        refine hx_icmp_ne (tgt := 146) C dX10_mixed_138 (by decide) (fun c9 => ?_) (fun c9 => ?_)
        · have h := hx_neg c9 h
          refine hx_iload C dX10_mixed_146 (lv_at hl 7 rfl) ?_
          obtain rfl := hx_some1 h
          exact hx_iret C hr dX10_mixed_148
        · have h := hx_pos c9 h
          refine hx_iload C dX10_mixed_141 (lv_at hl 6 rfl) ?_
          refine hx_goto (tgt := 148) C dX10_mixed_143 (by decide) ?_
          obtain rfl := hx_some1 h
          exact hx_iret C hr dX10_mixed_148
      · have h := hx_pos c8 h
        refine hx_iload C dX10_mixed_130 (lv_at hl 5 rfl) ?_
        refine hx_goto (tgt := 148) C dX10_mixed_132 (by decide) ?_
        obtain rfl := hx_some1 h
        exact hx_iret C hr dX10_mixed_148
    · have h := hx_neg c7 h
      refine hx_iconst (v := 0) C dX10_mixed_63 (by decide) ?_
      refine hx_istore (lv' := [(9, .int 0), (0, .ref (ad v0)), (1, .int v1), (2, .int v2), (3, .int v3), (4, .int v4), (5, .int v5), (6, .int v6), (7, .int v7), (8, .int v8)]) C dX10_mixed_64 hl (by decide) rfl (fun ls hl => ?_)
      exact w_X10_mixed_66 (f_X10_mixed_56 L n) C hr ih u_fuel v0 v1 v2 v3 v4 v5 v6 v7 v8 0 X ls h (lv_sub hl [1, 2, 3, 4, 5, 6, 7, 8, 9, 0] rfl)
def f_X10_mixed (L : hL) (X : hX) (this : Nat) (a1 : Int32) (a2 : Int32) (a3 : Int32) (a4 : Int32) : Option (Int32) :=
  (f_X10_isKind L X a1).bind fun r10 =>
  if r10 = 0 then
    some (-100001)
  else
    (f_X10_isKind L X a2).bind fun r13 =>
    if r13 = 0 then
      some (-100001)
    else
      (f_X10_in L X a3 0 3000000).bind fun r16 =>
      if r16 = 0 then
        some (-100001)
      else
        (f_X10_in L X a4 0 2).bind fun r19 =>
        if r19 = 0 then
          some (-100001)
        else
          if a1 = a2 then
            some (-100001)
          else
            f_X10_mixed_56 L u_fuel this a1 a2 a3 a4 0 (-100009) (-100009) 0 X
set_option maxRecDepth 100000 in
set_option maxHeartbeats 4000000 in
theorem c_X10_mixed {l : Launch} {dC : Nat → ClassId} {dI : Nat → Nat → Nat} {cy : Nat → ClassId} {ad : Nat → Nat} {L : hL} {X : hX} {this : Nat} {a1 : Int32} {a2 : Int32} {a3 : Int32} {a4 : Int32} {r : Int32} (h : f_X10_mixed L X this a1 a2 a3 a4 = some r) : hMet l dC dI cy ad L yX10_mixed wsX10_mixed ({ frames := 3, cells := 0, slots := 0, locals := 70 } : Room) [.ref (ad this), .int a1, .int a2, .int a3, .int a4] X (some (.int r)) X := by
  unfold f_X10_mixed at h
  refine hx_enter RX10 (plainFor_of_name (by decide)) rfl rfl (Nat.le_of_ble_eq_true rfl) (fun p e s m args below meth c C hr hnm ls hl => ?_)
  have hl : lv_has ls 10 [(0, .ref (ad this)), (1, .int a1), (2, .int a2), (3, .int a3), (4, .int a4)] := hl
  refine hx_iload_n C dX10_mixed_0 rfl (lv_at hl 1 rfl) ?_
  obtain ⟨r10, e11, h⟩ := hx_bind h
  refine hx_callS (As := [.int a1]) (rest := []) (n := 1) C (c_X10_isKind e11) gX10_mixed_X10_isKind (by decide +kernel) ⟨Nat.le_of_ble_eq_true rfl, Nat.le_of_ble_eq_true rfl⟩ rfl rfl rfl ⟨Nat.zero_le _, Nat.zero_le _⟩ hl.1 rfl rfl (Nat.le_of_ble_eq_true rfl) dX10_mixed_1 ?_
  refine hx_if_eq (tgt := 39) C dX10_mixed_4 (by decide) (fun c12 => ?_) (fun c12 => ?_)
  · have h := hx_pos c12 h
    refine hx_ldc (v := (-100001)) C (by decide +kernel) dX10_mixed_39 ?_
    obtain rfl := hx_some1 h
    exact hx_iret C hr dX10_mixed_41
  · have h := hx_neg c12 h
    refine hx_iload_n C dX10_mixed_7 rfl (lv_at hl 2 rfl) ?_
    obtain ⟨r13, e14, h⟩ := hx_bind h
    refine hx_callS (As := [.int a2]) (rest := []) (n := 1) C (c_X10_isKind e14) gX10_mixed_X10_isKind (by decide +kernel) ⟨Nat.le_of_ble_eq_true rfl, Nat.le_of_ble_eq_true rfl⟩ rfl rfl rfl ⟨Nat.zero_le _, Nat.zero_le _⟩ hl.1 rfl rfl (Nat.le_of_ble_eq_true rfl) dX10_mixed_8 ?_
    refine hx_if_eq (tgt := 39) C dX10_mixed_11 (by decide) (fun c15 => ?_) (fun c15 => ?_)
    · have h := hx_pos c15 h
      refine hx_ldc (v := (-100001)) C (by decide +kernel) dX10_mixed_39 ?_
      obtain rfl := hx_some1 h
      exact hx_iret C hr dX10_mixed_41
    · have h := hx_neg c15 h
      refine hx_iload_n C dX10_mixed_14 rfl (lv_at hl 3 rfl) ?_
      refine hx_iconst (v := 0) C dX10_mixed_15 (by decide) ?_
      refine hx_ldc (v := 3000000) C (by decide +kernel) dX10_mixed_16 ?_
      obtain ⟨r16, e17, h⟩ := hx_bind h
      refine hx_callS (As := [.int a3, .int 0, .int 3000000]) (rest := []) (n := 3) C (c_X10_in e17) gX10_mixed_X10_in (by decide +kernel) ⟨Nat.le_of_ble_eq_true rfl, Nat.le_of_ble_eq_true rfl⟩ rfl rfl rfl ⟨Nat.zero_le _, Nat.zero_le _⟩ hl.1 rfl rfl (Nat.le_of_ble_eq_true rfl) dX10_mixed_18 ?_
      refine hx_if_eq (tgt := 39) C dX10_mixed_21 (by decide) (fun c18 => ?_) (fun c18 => ?_)
      · have h := hx_pos c18 h
        refine hx_ldc (v := (-100001)) C (by decide +kernel) dX10_mixed_39 ?_
        obtain rfl := hx_some1 h
        exact hx_iret C hr dX10_mixed_41
      · have h := hx_neg c18 h
        refine hx_iload C dX10_mixed_24 (lv_at hl 4 rfl) ?_
        refine hx_iconst (v := 0) C dX10_mixed_26 (by decide) ?_
        refine hx_iconst (v := 2) C dX10_mixed_27 (by decide) ?_
        obtain ⟨r19, e20, h⟩ := hx_bind h
        refine hx_callS (As := [.int a4, .int 0, .int 2]) (rest := []) (n := 3) C (c_X10_in e20) gX10_mixed_X10_in (by decide +kernel) ⟨Nat.le_of_ble_eq_true rfl, Nat.le_of_ble_eq_true rfl⟩ rfl rfl rfl ⟨Nat.zero_le _, Nat.zero_le _⟩ hl.1 rfl rfl (Nat.le_of_ble_eq_true rfl) dX10_mixed_28 ?_
        refine hx_if_eq (tgt := 39) C dX10_mixed_31 (by decide) (fun c21 => ?_) (fun c21 => ?_)
        · have h := hx_pos c21 h
          refine hx_ldc (v := (-100001)) C (by decide +kernel) dX10_mixed_39 ?_
          obtain rfl := hx_some1 h
          exact hx_iret C hr dX10_mixed_41
        · have h := hx_neg c21 h
          refine hx_iload_n C dX10_mixed_34 rfl (lv_at hl 1 rfl) ?_
          refine hx_iload_n C dX10_mixed_35 rfl (lv_at hl 2 rfl) ?_
          refine hx_icmp_ne (tgt := 42) C dX10_mixed_36 (by decide) (fun c22 => ?_) (fun c22 => ?_)
          · have h := hx_neg c22 h
            refine hx_iconst (v := 0) C dX10_mixed_42 (by decide) ?_
            refine hx_istore (lv' := [(5, .int 0), (0, .ref (ad this)), (1, .int a1), (2, .int a2), (3, .int a3), (4, .int a4)]) C dX10_mixed_43 hl (by decide) rfl (fun ls hl => ?_)
            refine hx_ldc (v := (-100009)) C (by decide +kernel) dX10_mixed_45 ?_
            refine hx_istore (lv' := [(6, .int (-100009)), (5, .int 0), (0, .ref (ad this)), (1, .int a1), (2, .int a2), (3, .int a3), (4, .int a4)]) C dX10_mixed_47 hl (by decide) rfl (fun ls hl => ?_)
            refine hx_ldc (v := (-100009)) C (by decide +kernel) dX10_mixed_49 ?_
            refine hx_istore (lv' := [(7, .int (-100009)), (6, .int (-100009)), (5, .int 0), (0, .ref (ad this)), (1, .int a1), (2, .int a2), (3, .int a3), (4, .int a4)]) C dX10_mixed_51 hl (by decide) rfl (fun ls hl => ?_)
            refine hx_iconst (v := 0) C dX10_mixed_53 (by decide) ?_
            refine hx_istore (lv' := [(8, .int 0), (7, .int (-100009)), (6, .int (-100009)), (5, .int 0), (0, .ref (ad this)), (1, .int a1), (2, .int a2), (3, .int a3), (4, .int a4)]) C dX10_mixed_54 hl (by decide) rfl (fun ls hl => ?_)
            exact w_X10_mixed_56 C hr u_fuel this a1 a2 a3 a4 0 (-100009) (-100009) 0 X ls h (lv_sub hl [4, 5, 6, 7, 8, 3, 2, 1, 0] rfl)
          · have h := hx_pos c22 h
            refine hx_ldc (v := (-100001)) C (by decide +kernel) dX10_mixed_39 ?_
            obtain rfl := hx_some1 h
            exact hx_iret C hr dX10_mixed_41
theorem uX10_given_10 : ∀ w ∈ u_ws RX10 TX10 15, w ∈ wsX10_given := by decide +kernel
def f_X10_given_66 (L : hL) (k4 : Nat → Int32 → Int32 → Int32 → hX → Option (Int32 × hX)) (v0 : Nat) (v1 : Int32) (v2 : Int32) (v3 : Int32) (X : hX) : Option (Int32 × hX) :=
  k4 v0 v1 v2 (v3 + 1) X
set_option maxRecDepth 100000 in
set_option maxHeartbeats 4000000 in
theorem w_X10_given_66 {p : Program} {l : Launch} {e : Env} {s : State} {m : MethodId} {args : Array Value} {below : List Frame} {meth : Method} {c : Code} {dC : Nat → ClassId} {dI : Nat → Nat → Nat} {cy : Nat → ClassId} {ad : Nat → Nat} {L : hL} {r : Int32} {X' : hX} (k4 : Nat → Int32 → Int32 → Int32 → hX → Option (Int32 × hX)) (C : hC p s m args meth c dC dI cy ad L (hA ad L s.heap.size) cX10_given 5 wsX10_given RX10) (hr : meth.sig.returnType = (some .int)) (hk4 : ∀ (v0 : Nat) (v1 : Int32) (v2 : Int32) (v3 : Int32) (X : hX) (ls : Array Slot), k4 v0 v1 v2 v3 X = some (r, X') → lv_has ls 5 [(0, .ref (ad v0)), (1, .int v1), (2, .int v2), (3, .int v3)] → hG p l e (headSpec wsX10_given ({ frames := 4, cells := 0, slots := 0, locals := 93 } : Room)).room s m args below meth c dC dI cy ad L (hA ad L s.heap.size) 0 0 (MQ below (hQ dC dI cy ad L s.heap.size (some (.int r)) X') args s 0 0 (hA ad L s.heap.size)) X 4 ls []) : ∀ (v0 : Nat) (v1 : Int32) (v2 : Int32) (v3 : Int32) (X : hX) (ls : Array Slot), f_X10_given_66 L k4 v0 v1 v2 v3 X = some (r, X') → lv_has ls 5 [(0, .ref (ad v0)), (1, .int v1), (2, .int v2), (3, .int v3)] → hG p l e (headSpec wsX10_given ({ frames := 4, cells := 0, slots := 0, locals := 93 } : Room)).room s m args below meth c dC dI cy ad L (hA ad L s.heap.size) 0 0 (MQ below (hQ dC dI cy ad L s.heap.size (some (.int r)) X') args s 0 0 (hA ad L s.heap.size)) X 66 ls [] := by
  intro v0 v1 v2 v3 X ls h hl
  unfold f_X10_given_66 at h
  refine hx_iinc (v := v3 + 1) (lv' := [(3, .int (v3 + 1)), (0, .ref (ad v0)), (1, .int v1), (2, .int v2)]) C dX10_given_66 hl (k := 3) rfl rfl (by decide) rfl (fun ls hl => ?_)
  refine hx_goto (tgt := 4) C dX10_given_69 (by decide) ?_
  exact hk4 v0 v1 v2 (v3 + 1) X ls h (lv_sub hl [1, 2, 3, 0] rfl)
def f_X10_given_4 (L : hL) : Nat → Nat → Int32 → Int32 → Int32 → hX → Option (Int32 × hX)
  | 0, _, _, _, _, _ => none
  | n + 1, v0, v1, v2, v3, X =>
    if tk L v0 10 then
    (X.2 v0 0).bind fun q2 =>
    if tk L q2 12 then
    if 14 < L.2.2 q2 then
    if (X.1 q2 14) ≤ v3 then
      some (v2, X)
    else
      (f_X10_of L X v0 v3 1).bind fun r7 =>
      if r7 = 1 then
        (f_X10_of L X v0 v3 4).bind fun r10 =>
        (f_X10_of L X v0 v3 2).bind fun r12 =>
        (f_X10_guesses L X v0 r10 r12 v1).bind fun r14 =>
        if r14.1 = (-100009) then
          some ((-100009), r14.2)
        else
          (f_X10_of L r14.2 v0 v3 3).bind fun r17 =>
          f_X10_given_66 L (f_X10_given_4 L n) v0 v1 (v2 + (r14.1 - r17)) v3 r14.2
      else
        f_X10_given_66 L (f_X10_given_4 L n) v0 v1 v2 v3 X
    else none
    else none
    else none
set_option maxRecDepth 100000 in
set_option maxHeartbeats 4000000 in
theorem w_X10_given_4 {p : Program} {l : Launch} {e : Env} {s : State} {m : MethodId} {args : Array Value} {below : List Frame} {meth : Method} {c : Code} {dC : Nat → ClassId} {dI : Nat → Nat → Nat} {cy : Nat → ClassId} {ad : Nat → Nat} {L : hL} {r : Int32} {X' : hX} (C : hC p s m args meth c dC dI cy ad L (hA ad L s.heap.size) cX10_given 5 wsX10_given RX10) (hr : meth.sig.returnType = (some .int)) : ∀ (n : Nat) (v0 : Nat) (v1 : Int32) (v2 : Int32) (v3 : Int32) (X : hX) (ls : Array Slot), f_X10_given_4 L n v0 v1 v2 v3 X = some (r, X') → lv_has ls 5 [(0, .ref (ad v0)), (1, .int v1), (2, .int v2), (3, .int v3)] → hG p l e (headSpec wsX10_given ({ frames := 4, cells := 0, slots := 0, locals := 93 } : Room)).room s m args below meth c dC dI cy ad L (hA ad L s.heap.size) 0 0 (MQ below (hQ dC dI cy ad L s.heap.size (some (.int r)) X') args s 0 0 (hA ad L s.heap.size)) X 4 ls [] := by
  intro n
  induction n with
  | zero => intro v0 v1 v2 v3 X ls h; cases h
  | succ n ih =>
    intro v0 v1 v2 v3 X ls h hl
    rw [f_X10_given_4] at h
    refine hx_iload_n C dX10_given_4 rfl (lv_at hl 3 rfl) ?_
    refine hx_aload_n C dX10_given_5 rfl (lv_at hl 0 rfl) ?_
    obtain ⟨g1, h⟩ := hx_gd h
    obtain ⟨q2, e3, h⟩ := hx_bind h
    refine hx_getr C (ci := 10) (j := 0) g1 uX10_given_10 (by decide) rfl (by decide) rfl (by decide +kernel) rfl dX10_given_6 e3 ?_
    refine hx_bipush (v := 14) C dX10_given_9 (by decide) ?_
    obtain ⟨g4, h⟩ := hx_gd h
    obtain ⟨g5, h⟩ := hx_gd h
    refine hx_iald (n := 14) C g4 (hin_lit (i := 14) (by decide) rfl g5) rfl dX10_given_11 ?_
    refine hx_icmp_ge (tgt := 72) C dX10_given_12 (by decide) (fun c6 => ?_) (fun c6 => ?_)
    · have h := hx_pos c6 h
      refine hx_iload_n C dX10_given_72 rfl (lv_at hl 2 rfl) ?_
      obtain ⟨rfl, rfl⟩ := hx_some2 h
      exact hx_iret C hr dX10_given_73
    · have h := hx_neg c6 h
      refine hx_aload_n C dX10_given_15 rfl (lv_at hl 0 rfl) ?_
      refine hx_iload_n C dX10_given_16 rfl (lv_at hl 3 rfl) ?_
      refine hx_iconst (v := 1) C dX10_given_17 (by decide) ?_
      obtain ⟨r7, e8, h⟩ := hx_bind h
      refine hx_callV (As := [.int v3, .int 1]) (rest := []) (n := 2) (Cn := RX10) C (c_X10_of e8) gX10_given_X10_of g1 (by decide) rfl (by decide +kernel) ⟨Nat.le_of_ble_eq_true rfl, Nat.le_of_ble_eq_true rfl⟩ rfl rfl rfl ⟨Nat.zero_le _, Nat.zero_le _⟩ hl.1 rfl rfl (Nat.le_of_ble_eq_true rfl) dX10_given_18 ?_
      refine hx_iconst (v := 1) C dX10_given_21 (by decide) ?_
      refine hx_icmp_ne (tgt := 66) C dX10_given_22 (by decide) (fun c9 => ?_) (fun c9 => ?_)
      · have h := hx_neg c9 h
        exact w_X10_given_66 (f_X10_given_4 L n) C hr ih v0 v1 v2 v3 X ls h (lv_sub hl [0, 1, 2, 3] rfl)
      · have h := hx_pos c9 h
        refine hx_aload_n C dX10_given_25 rfl (lv_at hl 0 rfl) ?_
        refine hx_aload_n C dX10_given_26 rfl (lv_at hl 0 rfl) ?_
        refine hx_iload_n C dX10_given_27 rfl (lv_at hl 3 rfl) ?_
        refine hx_iconst (v := 4) C dX10_given_28 (by decide) ?_
        obtain ⟨r10, e11, h⟩ := hx_bind h
        refine hx_callV (As := [.int v3, .int 4]) (rest := [.ref (ad v0)]) (n := 2) (Cn := RX10) C (c_X10_of e11) gX10_given_X10_of g1 (by decide) rfl (by decide +kernel) ⟨Nat.le_of_ble_eq_true rfl, Nat.le_of_ble_eq_true rfl⟩ rfl rfl rfl ⟨Nat.zero_le _, Nat.zero_le _⟩ hl.1 rfl rfl (Nat.le_of_ble_eq_true rfl) dX10_given_29 ?_
        refine hx_aload_n C dX10_given_32 rfl (lv_at hl 0 rfl) ?_
        refine hx_iload_n C dX10_given_33 rfl (lv_at hl 3 rfl) ?_
        refine hx_iconst (v := 2) C dX10_given_34 (by decide) ?_
        obtain ⟨r12, e13, h⟩ := hx_bind h
        refine hx_callV (As := [.int v3, .int 2]) (rest := [.int r10, .ref (ad v0)]) (n := 2) (Cn := RX10) C (c_X10_of e13) gX10_given_X10_of g1 (by decide) rfl (by decide +kernel) ⟨Nat.le_of_ble_eq_true rfl, Nat.le_of_ble_eq_true rfl⟩ rfl rfl rfl ⟨Nat.zero_le _, Nat.zero_le _⟩ hl.1 rfl rfl (Nat.le_of_ble_eq_true rfl) dX10_given_35 ?_
        refine hx_iload_n C dX10_given_38 rfl (lv_at hl 1 rfl) ?_
        obtain ⟨r14, e15, h⟩ := hx_bind h
        refine hx_callV (As := [.int r10, .int r12, .int v1]) (rest := []) (n := 3) (Cn := RX10) C (c_X10_guesses e15) gX10_given_X10_guesses g1 (by decide) rfl (by decide +kernel) ⟨Nat.le_of_ble_eq_true rfl, Nat.le_of_ble_eq_true rfl⟩ rfl rfl rfl ⟨Nat.zero_le _, Nat.zero_le _⟩ hl.1 rfl rfl (Nat.le_of_ble_eq_true rfl) dX10_given_39 ?_
        refine hx_istore (lv' := [(4, .int r14.1), (0, .ref (ad v0)), (1, .int v1), (2, .int v2), (3, .int v3)]) C dX10_given_42 hl (by decide) rfl (fun ls hl => ?_)
        refine hx_iload C dX10_given_44 (lv_at hl 0 rfl) ?_
        refine hx_ldc (v := (-100009)) C (by decide +kernel) dX10_given_46 ?_
        refine hx_icmp_ne (tgt := 54) C dX10_given_48 (by decide) (fun c16 => ?_) (fun c16 => ?_)
        · have h := hx_neg c16 h
          refine hx_iload_n C dX10_given_54 rfl (lv_at hl 3 rfl) ?_
          refine hx_iload C dX10_given_55 (lv_at hl 0 rfl) ?_
          refine hx_aload_n C dX10_given_57 rfl (lv_at hl 1 rfl) ?_
          refine hx_iload_n C dX10_given_58 rfl (lv_at hl 4 rfl) ?_
          refine hx_iconst (v := 3) C dX10_given_59 (by decide) ?_
          obtain ⟨r17, e18, h⟩ := hx_bind h
          refine hx_callV (As := [.int v3, .int 3]) (rest := [.int r14.1, .int v2]) (n := 2) (Cn := RX10) C (c_X10_of e18) gX10_given_X10_of g1 (by decide) rfl (by decide +kernel) ⟨Nat.le_of_ble_eq_true rfl, Nat.le_of_ble_eq_true rfl⟩ rfl rfl rfl ⟨Nat.zero_le _, Nat.zero_le _⟩ hl.1 rfl rfl (Nat.le_of_ble_eq_true rfl) dX10_given_60 ?_
          refine hx_isub C dX10_given_63 ?_
          refine hx_iadd C dX10_given_64 ?_
          refine hx_istore_n (lv' := [(2, .int (v2 + (r14.1 - r17))), (4, .int r14.1), (0, .ref (ad v0)), (1, .int v1), (3, .int v3)]) C dX10_given_65 rfl hl (by decide) rfl (fun ls hl => ?_)
          exact w_X10_given_66 (f_X10_given_4 L n) C hr ih v0 v1 (v2 + (r14.1 - r17)) v3 r14.2 ls h (lv_sub hl [2, 3, 0, 4] rfl)
        · have h := hx_pos c16 h
          refine hx_ldc (v := (-100009)) C (by decide +kernel) dX10_given_51 ?_
          obtain ⟨rfl, rfl⟩ := hx_some2 h
          exact hx_iret C hr dX10_given_53
def f_X10_given (L : hL) (X : hX) (this : Nat) (a1 : Int32) : Option (Int32 × hX) :=
  f_X10_given_4 L u_fuel this a1 0 0 X
set_option maxRecDepth 100000 in
set_option maxHeartbeats 4000000 in
theorem c_X10_given {l : Launch} {dC : Nat → ClassId} {dI : Nat → Nat → Nat} {cy : Nat → ClassId} {ad : Nat → Nat} {L : hL} {X : hX} {this : Nat} {a1 : Int32} {r : Int32} {X' : hX} (h : f_X10_given L X this a1 = some (r, X')) : hMet l dC dI cy ad L yX10_given wsX10_given ({ frames := 4, cells := 0, slots := 0, locals := 93 } : Room) [.ref (ad this), .int a1] X (some (.int r)) X' := by
  unfold f_X10_given at h
  refine hx_enter RX10 (plainFor_of_name (by decide)) rfl rfl (Nat.le_of_ble_eq_true rfl) (fun p e s m args below meth c C hr hnm ls hl => ?_)
  have hl : lv_has ls 5 [(0, .ref (ad this)), (1, .int a1)] := hl
  refine hx_iconst (v := 0) C dX10_given_0 (by decide) ?_
  refine hx_istore_n (lv' := [(2, .int 0), (0, .ref (ad this)), (1, .int a1)]) C dX10_given_1 rfl hl (by decide) rfl (fun ls hl => ?_)
  refine hx_iconst (v := 0) C dX10_given_2 (by decide) ?_
  refine hx_istore_n (lv' := [(3, .int 0), (2, .int 0), (0, .ref (ad this)), (1, .int a1)]) C dX10_given_3 rfl hl (by decide) rfl (fun ls hl => ?_)
  exact w_X10_given_4 C hr u_fuel this a1 0 0 X ls h (lv_sub hl [2, 3, 1, 0] rfl)
def f_X10_would (L : hL) (X : hX) (this : Nat) (a1 : Int32) : Option (Int32 × hX) :=
  (f_X10_in L X a1 0 3).bind fun r1 =>
  if r1 = 0 then
    some ((-100001), X)
  else
    (f_X10_given L X this a1).bind fun r4 =>
    if tk L this 10 then
    if r4.1 = (-100009) then
      some ((-100009), r4.2)
    else
      some (100000 + r4.1, r4.2)
    else none
set_option maxRecDepth 100000 in
set_option maxHeartbeats 4000000 in
theorem c_X10_would {l : Launch} {dC : Nat → ClassId} {dI : Nat → Nat → Nat} {cy : Nat → ClassId} {ad : Nat → Nat} {L : hL} {X : hX} {this : Nat} {a1 : Int32} {r : Int32} {X' : hX} (h : f_X10_would L X this a1 = some (r, X')) : hMet l dC dI cy ad L yX10_would wsX10_would ({ frames := 5, cells := 0, slots := 0, locals := 117 } : Room) [.ref (ad this), .int a1] X (some (.int r)) X' := by
  unfold f_X10_would at h
  refine hx_enter RX10 (plainFor_of_name (by decide)) rfl rfl (Nat.le_of_ble_eq_true rfl) (fun p e s m args below meth c C hr hnm ls hl => ?_)
  have hl : lv_has ls 3 [(0, .ref (ad this)), (1, .int a1)] := hl
  refine hx_iload_n C dX10_would_0 rfl (lv_at hl 1 rfl) ?_
  refine hx_iconst (v := 0) C dX10_would_1 (by decide) ?_
  refine hx_iconst (v := 3) C dX10_would_2 (by decide) ?_
  obtain ⟨r1, e2, h⟩ := hx_bind h
  refine hx_callS (As := [.int a1, .int 0, .int 3]) (rest := []) (n := 3) C (c_X10_in e2) gX10_would_X10_in (by decide +kernel) ⟨Nat.le_of_ble_eq_true rfl, Nat.le_of_ble_eq_true rfl⟩ rfl rfl rfl ⟨Nat.zero_le _, Nat.zero_le _⟩ hl.1 rfl rfl (Nat.le_of_ble_eq_true rfl) dX10_would_3 ?_
  refine hx_if_ne (tgt := 12) C dX10_would_6 (by decide) (fun c3 => ?_) (fun c3 => ?_)
  · have h := hx_neg c3 h
    refine hx_aload_n C dX10_would_12 rfl (lv_at hl 0 rfl) ?_
    refine hx_iload_n C dX10_would_13 rfl (lv_at hl 1 rfl) ?_
    obtain ⟨r4, e5, h⟩ := hx_bind h
    obtain ⟨g6, h⟩ := hx_gd h
    refine hx_callV (As := [.int a1]) (rest := []) (n := 1) (Cn := RX10) C (c_X10_given e5) gX10_would_X10_given g6 (by decide) rfl (by decide +kernel) ⟨Nat.le_of_ble_eq_true rfl, Nat.le_of_ble_eq_true rfl⟩ rfl rfl rfl ⟨Nat.zero_le _, Nat.zero_le _⟩ hl.1 rfl rfl (Nat.le_of_ble_eq_true rfl) dX10_would_14 ?_
    refine hx_istore_n (lv' := [(2, .int r4.1), (0, .ref (ad this)), (1, .int a1)]) C dX10_would_17 rfl hl (by decide) rfl (fun ls hl => ?_)
    refine hx_iload_n C dX10_would_18 rfl (lv_at hl 0 rfl) ?_
    refine hx_ldc (v := (-100009)) C (by decide +kernel) dX10_would_19 ?_
    refine hx_icmp_ne (tgt := 29) C dX10_would_21 (by decide) (fun c7 => ?_) (fun c7 => ?_)
    · have h := hx_neg c7 h
      refine hx_ldc (v := 100000) C (by decide +kernel) dX10_would_29 ?_
      refine hx_iload_n C dX10_would_31 rfl (lv_at hl 0 rfl) ?_
      refine hx_iadd C dX10_would_32 ?_
      obtain ⟨rfl, rfl⟩ := hx_some2 h
      exact hx_iret C hr dX10_would_33
    · have h := hx_pos c7 h
      refine hx_ldc (v := (-100009)) C (by decide +kernel) dX10_would_24 ?_
      refine hx_goto (tgt := 33) C dX10_would_26 (by decide) ?_
      obtain ⟨rfl, rfl⟩ := hx_some2 h
      exact hx_iret C hr dX10_would_33
  · have h := hx_pos c3 h
    refine hx_ldc (v := (-100001)) C (by decide +kernel) dX10_would_9 ?_
    obtain ⟨rfl, rfl⟩ := hx_some2 h
    exact hx_iret C hr dX10_would_11
def f_X10_fairest_53 (L : hL) (k5 : Nat → Int32 → Int32 → hX → Option (Int32 × hX)) (v0 : Nat) (v2 : Int32) (s0 : Int32) (X : hX) : Option (Int32 × hX) :=
  k5 v0 s0 (v2 + 1) X
set_option maxRecDepth 100000 in
set_option maxHeartbeats 4000000 in
theorem w_X10_fairest_53 {p : Program} {l : Launch} {e : Env} {s : State} {m : MethodId} {args : Array Value} {below : List Frame} {meth : Method} {c : Code} {dC : Nat → ClassId} {dI : Nat → Nat → Nat} {cy : Nat → ClassId} {ad : Nat → Nat} {L : hL} {r : Int32} {X' : hX} (k5 : Nat → Int32 → Int32 → hX → Option (Int32 × hX)) (C : hC p s m args meth c dC dI cy ad L (hA ad L s.heap.size) cX10_fairest 4 wsX10_fairest RX10) (hr : meth.sig.returnType = (some .int)) (hk5 : ∀ (v0 : Nat) (v1 : Int32) (v2 : Int32) (X : hX) (ls : Array Slot), k5 v0 v1 v2 X = some (r, X') → lv_has ls 4 [(0, .ref (ad v0)), (1, .int v1), (2, .int v2)] → hG p l e (headSpec wsX10_fairest ({ frames := 5, cells := 0, slots := 0, locals := 117 } : Room)).room s m args below meth c dC dI cy ad L (hA ad L s.heap.size) 0 0 (MQ below (hQ dC dI cy ad L s.heap.size (some (.int r)) X') args s 0 0 (hA ad L s.heap.size)) X 5 ls []) : ∀ (v0 : Nat) (v2 : Int32) (s0 : Int32) (X : hX) (ls : Array Slot), f_X10_fairest_53 L k5 v0 v2 s0 X = some (r, X') → lv_has ls 4 [(0, .ref (ad v0)), (2, .int v2)] → hG p l e (headSpec wsX10_fairest ({ frames := 5, cells := 0, slots := 0, locals := 117 } : Room)).room s m args below meth c dC dI cy ad L (hA ad L s.heap.size) 0 0 (MQ below (hQ dC dI cy ad L s.heap.size (some (.int r)) X') args s 0 0 (hA ad L s.heap.size)) X 53 ls [.int s0] := by
  intro v0 v2 s0 X ls h hl
  unfold f_X10_fairest_53 at h
  refine hx_istore_n (lv' := [(1, .int s0), (0, .ref (ad v0)), (2, .int v2)]) C dX10_fairest_53 rfl hl (by decide) rfl (fun ls hl => ?_)
  refine hx_iinc (v := v2 + 1) (lv' := [(2, .int (v2 + 1)), (1, .int s0), (0, .ref (ad v0))]) C dX10_fairest_54 hl (k := 2) rfl rfl (by decide) rfl (fun ls hl => ?_)
  refine hx_goto (tgt := 5) C dX10_fairest_57 (by decide) ?_
  exact hk5 v0 s0 (v2 + 1) X ls h (lv_sub hl [2, 1, 0] rfl)
def f_X10_fairest_48 (L : hL) (k5 : Nat → Int32 → Int32 → hX → Option (Int32 × hX)) (v0 : Nat) (v2 : Int32) (X : hX) : Option (Int32 × hX) :=
  f_X10_fairest_53 L k5 v0 v2 v2 X
set_option maxRecDepth 100000 in
set_option maxHeartbeats 4000000 in
theorem w_X10_fairest_48 {p : Program} {l : Launch} {e : Env} {s : State} {m : MethodId} {args : Array Value} {below : List Frame} {meth : Method} {c : Code} {dC : Nat → ClassId} {dI : Nat → Nat → Nat} {cy : Nat → ClassId} {ad : Nat → Nat} {L : hL} {r : Int32} {X' : hX} (k5 : Nat → Int32 → Int32 → hX → Option (Int32 × hX)) (C : hC p s m args meth c dC dI cy ad L (hA ad L s.heap.size) cX10_fairest 4 wsX10_fairest RX10) (hr : meth.sig.returnType = (some .int)) (hk5 : ∀ (v0 : Nat) (v1 : Int32) (v2 : Int32) (X : hX) (ls : Array Slot), k5 v0 v1 v2 X = some (r, X') → lv_has ls 4 [(0, .ref (ad v0)), (1, .int v1), (2, .int v2)] → hG p l e (headSpec wsX10_fairest ({ frames := 5, cells := 0, slots := 0, locals := 117 } : Room)).room s m args below meth c dC dI cy ad L (hA ad L s.heap.size) 0 0 (MQ below (hQ dC dI cy ad L s.heap.size (some (.int r)) X') args s 0 0 (hA ad L s.heap.size)) X 5 ls []) : ∀ (v0 : Nat) (v2 : Int32) (X : hX) (ls : Array Slot), f_X10_fairest_48 L k5 v0 v2 X = some (r, X') → lv_has ls 4 [(0, .ref (ad v0)), (2, .int v2)] → hG p l e (headSpec wsX10_fairest ({ frames := 5, cells := 0, slots := 0, locals := 117 } : Room)).room s m args below meth c dC dI cy ad L (hA ad L s.heap.size) 0 0 (MQ below (hQ dC dI cy ad L s.heap.size (some (.int r)) X') args s 0 0 (hA ad L s.heap.size)) X 48 ls [] := by
  intro v0 v2 X ls h hl
  unfold f_X10_fairest_48 at h
  refine hx_iload_n C dX10_fairest_48 rfl (lv_at hl 1 rfl) ?_
  refine hx_goto (tgt := 53) C dX10_fairest_49 (by decide) ?_
  exact w_X10_fairest_53 k5 C hr hk5 v0 v2 v2 X ls h (lv_sub hl [0, 1] rfl)
def f_X10_fairest_5 (L : hL) : Nat → Nat → Int32 → Int32 → hX → Option (Int32 × hX)
  | 0, _, _, _, _ => none
  | n + 1, v0, v1, v2, X =>
    if 4 ≤ v2 then
      some (v1, X)
    else
      (f_X10_given L X v0 v2).bind fun r2 =>
      if tk L v0 10 then
      if r2.1 = (-100009) then
        some ((-100009), r2.2)
      else
        if v1 = (-100009) then
          f_X10_fairest_48 L (f_X10_fairest_5 L n) v0 v2 r2.2
        else
          (f_X10_far L r2.2 r2.1 0).bind fun r7 =>
          (f_X10_given L r2.2 v0 v1).bind fun r9 =>
          (f_X10_far L r9.2 r9.1 0).bind fun r11 =>
          if r11 ≤ r7 then
            f_X10_fairest_53 L (f_X10_fairest_5 L n) v0 v2 v1 r9.2
          else
            f_X10_fairest_48 L (f_X10_fairest_5 L n) v0 v2 r9.2
      else none
set_option maxRecDepth 100000 in
set_option maxHeartbeats 4000000 in
theorem w_X10_fairest_5 {p : Program} {l : Launch} {e : Env} {s : State} {m : MethodId} {args : Array Value} {below : List Frame} {meth : Method} {c : Code} {dC : Nat → ClassId} {dI : Nat → Nat → Nat} {cy : Nat → ClassId} {ad : Nat → Nat} {L : hL} {r : Int32} {X' : hX} (C : hC p s m args meth c dC dI cy ad L (hA ad L s.heap.size) cX10_fairest 4 wsX10_fairest RX10) (hr : meth.sig.returnType = (some .int)) : ∀ (n : Nat) (v0 : Nat) (v1 : Int32) (v2 : Int32) (X : hX) (ls : Array Slot), f_X10_fairest_5 L n v0 v1 v2 X = some (r, X') → lv_has ls 4 [(0, .ref (ad v0)), (1, .int v1), (2, .int v2)] → hG p l e (headSpec wsX10_fairest ({ frames := 5, cells := 0, slots := 0, locals := 117 } : Room)).room s m args below meth c dC dI cy ad L (hA ad L s.heap.size) 0 0 (MQ below (hQ dC dI cy ad L s.heap.size (some (.int r)) X') args s 0 0 (hA ad L s.heap.size)) X 5 ls [] := by
  intro n
  induction n with
  | zero => intro v0 v1 v2 X ls h; cases h
  | succ n ih =>
    intro v0 v1 v2 X ls h hl
    rw [f_X10_fairest_5] at h
    refine hx_iload_n C dX10_fairest_5 rfl (lv_at hl 2 rfl) ?_
    refine hx_iconst (v := 4) C dX10_fairest_6 (by decide) ?_
    refine hx_icmp_ge (tgt := 60) C dX10_fairest_7 (by decide) (fun c1 => ?_) (fun c1 => ?_)
    · have h := hx_pos c1 h
      refine hx_iload_n C dX10_fairest_60 rfl (lv_at hl 1 rfl) ?_
      obtain ⟨rfl, rfl⟩ := hx_some2 h
      exact hx_iret C hr dX10_fairest_61
    · have h := hx_neg c1 h
      refine hx_aload_n C dX10_fairest_10 rfl (lv_at hl 0 rfl) ?_
      refine hx_iload_n C dX10_fairest_11 rfl (lv_at hl 2 rfl) ?_
      obtain ⟨r2, e3, h⟩ := hx_bind h
      obtain ⟨g4, h⟩ := hx_gd h
      refine hx_callV (As := [.int v2]) (rest := []) (n := 1) (Cn := RX10) C (c_X10_given e3) gX10_fairest_X10_given g4 (by decide) rfl (by decide +kernel) ⟨Nat.le_of_ble_eq_true rfl, Nat.le_of_ble_eq_true rfl⟩ rfl rfl rfl ⟨Nat.zero_le _, Nat.zero_le _⟩ hl.1 rfl rfl (Nat.le_of_ble_eq_true rfl) dX10_fairest_12 ?_
      refine hx_istore_n (lv' := [(3, .int r2.1), (0, .ref (ad v0)), (1, .int v1), (2, .int v2)]) C dX10_fairest_15 rfl hl (by decide) rfl (fun ls hl => ?_)
      refine hx_iload_n C dX10_fairest_16 rfl (lv_at hl 0 rfl) ?_
      refine hx_ldc (v := (-100009)) C (by decide +kernel) dX10_fairest_17 ?_
      refine hx_icmp_ne (tgt := 25) C dX10_fairest_19 (by decide) (fun c5 => ?_) (fun c5 => ?_)
      · have h := hx_neg c5 h
        refine hx_iload_n C dX10_fairest_25 rfl (lv_at hl 2 rfl) ?_
        refine hx_ldc (v := (-100009)) C (by decide +kernel) dX10_fairest_26 ?_
        refine hx_icmp_eq (tgt := 48) C dX10_fairest_28 (by decide) (fun c6 => ?_) (fun c6 => ?_)
        · have h := hx_pos c6 h
          exact w_X10_fairest_48 (f_X10_fairest_5 L n) C hr ih v0 v2 r2.2 ls h (lv_sub hl [1, 3] rfl)
        · have h := hx_neg c6 h
          refine hx_iload_n C dX10_fairest_31 rfl (lv_at hl 0 rfl) ?_
          refine hx_iconst (v := 0) C dX10_fairest_32 (by decide) ?_
          obtain ⟨r7, e8, h⟩ := hx_bind h
          refine hx_callS (As := [.int r2.1, .int 0]) (rest := []) (n := 2) C (c_X10_far e8) gX10_fairest_X10_far (by decide +kernel) ⟨Nat.le_of_ble_eq_true rfl, Nat.le_of_ble_eq_true rfl⟩ rfl rfl rfl ⟨Nat.zero_le _, Nat.zero_le _⟩ hl.1 rfl rfl (Nat.le_of_ble_eq_true rfl) dX10_fairest_33 ?_
          refine hx_aload_n C dX10_fairest_36 rfl (lv_at hl 1 rfl) ?_
          refine hx_iload_n C dX10_fairest_37 rfl (lv_at hl 2 rfl) ?_
          obtain ⟨r9, e10, h⟩ := hx_bind h
          refine hx_callV (As := [.int v1]) (rest := [.int r7]) (n := 1) (Cn := RX10) C (c_X10_given e10) gX10_fairest_X10_given g4 (by decide) rfl (by decide +kernel) ⟨Nat.le_of_ble_eq_true rfl, Nat.le_of_ble_eq_true rfl⟩ rfl rfl rfl ⟨Nat.zero_le _, Nat.zero_le _⟩ hl.1 rfl rfl (Nat.le_of_ble_eq_true rfl) dX10_fairest_38 ?_
          refine hx_iconst (v := 0) C dX10_fairest_41 (by decide) ?_
          obtain ⟨r11, e12, h⟩ := hx_bind h
          refine hx_callS (As := [.int r9.1, .int 0]) (rest := [.int r7]) (n := 2) C (c_X10_far e12) gX10_fairest_X10_far (by decide +kernel) ⟨Nat.le_of_ble_eq_true rfl, Nat.le_of_ble_eq_true rfl⟩ rfl rfl rfl ⟨Nat.zero_le _, Nat.zero_le _⟩ hl.1 rfl rfl (Nat.le_of_ble_eq_true rfl) dX10_fairest_42 ?_
          refine hx_icmp_ge (tgt := 52) C dX10_fairest_45 (by decide) (fun c13 => ?_) (fun c13 => ?_)
          · have h := hx_pos c13 h
            refine hx_iload_n C dX10_fairest_52 rfl (lv_at hl 2 rfl) ?_
            exact w_X10_fairest_53 (f_X10_fairest_5 L n) C hr ih v0 v2 v1 r9.2 ls h (lv_sub hl [1, 3] rfl)
          · have h := hx_neg c13 h
            exact w_X10_fairest_48 (f_X10_fairest_5 L n) C hr ih v0 v2 r9.2 ls h (lv_sub hl [1, 3] rfl)
      · have h := hx_pos c5 h
        refine hx_ldc (v := (-100009)) C (by decide +kernel) dX10_fairest_22 ?_
        obtain ⟨rfl, rfl⟩ := hx_some2 h
        exact hx_iret C hr dX10_fairest_24
def f_X10_fairest (L : hL) (X : hX) (this : Nat) : Option (Int32 × hX) :=
  f_X10_fairest_5 L u_fuel this (-100009) 0 X
set_option maxRecDepth 100000 in
set_option maxHeartbeats 4000000 in
theorem c_X10_fairest {l : Launch} {dC : Nat → ClassId} {dI : Nat → Nat → Nat} {cy : Nat → ClassId} {ad : Nat → Nat} {L : hL} {X : hX} {this : Nat} {r : Int32} {X' : hX} (h : f_X10_fairest L X this = some (r, X')) : hMet l dC dI cy ad L yX10_fairest wsX10_fairest ({ frames := 5, cells := 0, slots := 0, locals := 117 } : Room) [.ref (ad this)] X (some (.int r)) X' := by
  unfold f_X10_fairest at h
  refine hx_enter RX10 (plainFor_of_name (by decide)) rfl rfl (Nat.le_of_ble_eq_true rfl) (fun p e s m args below meth c C hr hnm ls hl => ?_)
  have hl : lv_has ls 4 [(0, .ref (ad this))] := hl
  refine hx_ldc (v := (-100009)) C (by decide +kernel) dX10_fairest_0 ?_
  refine hx_istore_n (lv' := [(1, .int (-100009)), (0, .ref (ad this))]) C dX10_fairest_2 rfl hl (by decide) rfl (fun ls hl => ?_)
  refine hx_iconst (v := 0) C dX10_fairest_3 (by decide) ?_
  refine hx_istore_n (lv' := [(2, .int 0), (1, .int (-100009)), (0, .ref (ad this))]) C dX10_fairest_4 rfl hl (by decide) rfl (fun ls hl => ?_)
  exact w_X10_fairest_5 C hr u_fuel this (-100009) 0 X ls h (lv_sub hl [2, 1, 0] rfl)
def f_X10_soldOut_43 (L : hL) : Nat → Nat → Int32 → Int32 → Int32 → Int32 → Int32 → hX → Option (Int32)
  | 0, _, _, _, _, _, _, _ => none
  | n + 1, v0, v1, v2, v3, v4, v5, X =>
    if 1000 ≤ v5 then
      some (-100009)
    else
      if v2 = 0 then
        some v5
      else
        (f_X10_priced L X v0 v1 1).bind fun r3 =>
        if tk L v0 10 then
        (f_X10_priced L X v0 v1 3).bind fun r6 =>
        if ¬ r6 = 0 then
        (f_X10_stocked L X (v2 - 1) ((v3 + r3) / r6) v4).bind fun r9 =>
        (f_X10_priced L X v0 v1 3).bind fun r11 =>
        if ¬ r11 = 0 then
        f_X10_soldOut_43 L n v0 v1 r9 ((v3 + r3) - (v3 + r3) / r11 * r11) v4 (v5 + 1) X
        else none
        else none
        else none
set_option maxRecDepth 100000 in
set_option maxHeartbeats 4000000 in
theorem w_X10_soldOut_43 {p : Program} {l : Launch} {e : Env} {s : State} {m : MethodId} {args : Array Value} {below : List Frame} {meth : Method} {c : Code} {dC : Nat → ClassId} {dI : Nat → Nat → Nat} {cy : Nat → ClassId} {ad : Nat → Nat} {L : hL} {r : Int32} (C : hC p s m args meth c dC dI cy ad L (hA ad L s.heap.size) cX10_soldOut 6 wsX10_soldOut RX10) (hr : meth.sig.returnType = (some .int)) : ∀ (n : Nat) (v0 : Nat) (v1 : Int32) (v2 : Int32) (v3 : Int32) (v4 : Int32) (v5 : Int32) (X : hX) (ls : Array Slot), f_X10_soldOut_43 L n v0 v1 v2 v3 v4 v5 X = some r → lv_has ls 6 [(0, .ref (ad v0)), (1, .int v1), (2, .int v2), (3, .int v3), (4, .int v4), (5, .int v5)] → hG p l e (headSpec wsX10_soldOut ({ frames := 2, cells := 0, slots := 0, locals := 43 } : Room)).room s m args below meth c dC dI cy ad L (hA ad L s.heap.size) 0 0 (MQ below (hQ dC dI cy ad L s.heap.size (some (.int r)) X) args s 0 0 (hA ad L s.heap.size)) X 43 ls [] := by
  intro n
  induction n with
  | zero => intro v0 v1 v2 v3 v4 v5 X ls h; cases h
  | succ n ih =>
    intro v0 v1 v2 v3 v4 v5 X ls h hl
    rw [f_X10_soldOut_43] at h
    refine hx_iload C dX10_soldOut_43 (lv_at hl 5 rfl) ?_
    refine hx_sipush (v := 1000) C dX10_soldOut_45 (by decide) ?_
    refine hx_icmp_ge (tgt := 99) C dX10_soldOut_48 (by decide) (fun c1 => ?_) (fun c1 => ?_)
    · have h := hx_pos c1 h
      refine hx_ldc (v := (-100009)) C (by decide +kernel) dX10_soldOut_99 ?_
      obtain rfl := hx_some1 h
      exact hx_iret C hr dX10_soldOut_101
    · have h := hx_neg c1 h
      refine hx_iload_n C dX10_soldOut_51 rfl (lv_at hl 2 rfl) ?_
      refine hx_if_ne (tgt := 58) C dX10_soldOut_52 (by decide) (fun c2 => ?_) (fun c2 => ?_)
      · have h := hx_neg c2 h
        refine hx_iload_n C dX10_soldOut_58 rfl (lv_at hl 3 rfl) ?_
        refine hx_aload_n C dX10_soldOut_59 rfl (lv_at hl 0 rfl) ?_
        refine hx_iload_n C dX10_soldOut_60 rfl (lv_at hl 1 rfl) ?_
        refine hx_iconst (v := 1) C dX10_soldOut_61 (by decide) ?_
        obtain ⟨r3, e4, h⟩ := hx_bind h
        obtain ⟨g5, h⟩ := hx_gd h
        refine hx_callV (As := [.int v1, .int 1]) (rest := [.int v3]) (n := 2) (Cn := RX10) C (c_X10_priced e4) gX10_soldOut_X10_priced g5 (by decide) rfl (by decide +kernel) ⟨Nat.le_of_ble_eq_true rfl, Nat.le_of_ble_eq_true rfl⟩ rfl rfl rfl ⟨Nat.zero_le _, Nat.zero_le _⟩ hl.1 rfl rfl (Nat.le_of_ble_eq_true rfl) dX10_soldOut_62 ?_
        refine hx_iadd C dX10_soldOut_65 ?_
        refine hx_istore_n (lv' := [(3, .int (v3 + r3)), (0, .ref (ad v0)), (1, .int v1), (2, .int v2), (4, .int v4), (5, .int v5)]) C dX10_soldOut_66 rfl hl (by decide) rfl (fun ls hl => ?_)
        refine hx_iload_n C dX10_soldOut_67 rfl (lv_at hl 3 rfl) ?_
        refine hx_iconst (v := 1) C dX10_soldOut_68 (by decide) ?_
        refine hx_isub C dX10_soldOut_69 ?_
        refine hx_iload_n C dX10_soldOut_70 rfl (lv_at hl 0 rfl) ?_
        refine hx_aload_n C dX10_soldOut_71 rfl (lv_at hl 1 rfl) ?_
        refine hx_iload_n C dX10_soldOut_72 rfl (lv_at hl 2 rfl) ?_
        refine hx_iconst (v := 3) C dX10_soldOut_73 (by decide) ?_
        obtain ⟨r6, e7, h⟩ := hx_bind h
        refine hx_callV (As := [.int v1, .int 3]) (rest := [.int (v3 + r3), .int (v2 - 1)]) (n := 2) (Cn := RX10) C (c_X10_priced e7) gX10_soldOut_X10_priced g5 (by decide) rfl (by decide +kernel) ⟨Nat.le_of_ble_eq_true rfl, Nat.le_of_ble_eq_true rfl⟩ rfl rfl rfl ⟨Nat.zero_le _, Nat.zero_le _⟩ hl.1 rfl rfl (Nat.le_of_ble_eq_true rfl) dX10_soldOut_74 ?_
        obtain ⟨g8, h⟩ := hx_gd h
        refine hx_idiv C dX10_soldOut_77 g8 ?_
        refine hx_iload C dX10_soldOut_78 (lv_at hl 4 rfl) ?_
        obtain ⟨r9, e10, h⟩ := hx_bind h
        refine hx_callS (As := [.int (v2 - 1), .int ((v3 + r3) / r6), .int v4]) (rest := []) (n := 3) C (c_X10_stocked e10) gX10_soldOut_X10_stocked (by decide +kernel) ⟨Nat.le_of_ble_eq_true rfl, Nat.le_of_ble_eq_true rfl⟩ rfl rfl rfl ⟨Nat.zero_le _, Nat.zero_le _⟩ hl.1 rfl rfl (Nat.le_of_ble_eq_true rfl) dX10_soldOut_80 ?_
        refine hx_istore_n (lv' := [(2, .int r9), (3, .int (v3 + r3)), (0, .ref (ad v0)), (1, .int v1), (4, .int v4), (5, .int v5)]) C dX10_soldOut_83 rfl hl (by decide) rfl (fun ls hl => ?_)
        refine hx_iload_n C dX10_soldOut_84 rfl (lv_at hl 1 rfl) ?_
        refine hx_aload_n C dX10_soldOut_85 rfl (lv_at hl 2 rfl) ?_
        refine hx_iload_n C dX10_soldOut_86 rfl (lv_at hl 3 rfl) ?_
        refine hx_iconst (v := 3) C dX10_soldOut_87 (by decide) ?_
        obtain ⟨r11, e12, h⟩ := hx_bind h
        refine hx_callV (As := [.int v1, .int 3]) (rest := [.int (v3 + r3)]) (n := 2) (Cn := RX10) C (c_X10_priced e12) gX10_soldOut_X10_priced g5 (by decide) rfl (by decide +kernel) ⟨Nat.le_of_ble_eq_true rfl, Nat.le_of_ble_eq_true rfl⟩ rfl rfl rfl ⟨Nat.zero_le _, Nat.zero_le _⟩ hl.1 rfl rfl (Nat.le_of_ble_eq_true rfl) dX10_soldOut_88 ?_
        obtain ⟨g13, h⟩ := hx_gd h
        refine hx_irem C dX10_soldOut_91 g13 ?_
        refine hx_istore_n (lv' := [(3, .int ((v3 + r3) - (v3 + r3) / r11 * r11)), (2, .int r9), (0, .ref (ad v0)), (1, .int v1), (4, .int v4), (5, .int v5)]) C dX10_soldOut_92 rfl hl (by decide) rfl (fun ls hl => ?_)
        refine hx_iinc (v := v5 + 1) (lv' := [(5, .int (v5 + 1)), (3, .int ((v3 + r3) - (v3 + r3) / r11 * r11)), (2, .int r9), (0, .ref (ad v0)), (1, .int v1), (4, .int v4)]) C dX10_soldOut_93 hl (k := 5) rfl rfl (by decide) rfl (fun ls hl => ?_)
        refine hx_goto (tgt := 43) C dX10_soldOut_96 (by decide) ?_
        exact ih v0 v1 r9 ((v3 + r3) - (v3 + r3) / r11 * r11) v4 (v5 + 1) X ls h (lv_sub hl [3, 4, 2, 1, 5, 0] rfl)
      · have h := hx_pos c2 h
        refine hx_iload C dX10_soldOut_55 (lv_at hl 5 rfl) ?_
        obtain rfl := hx_some1 h
        exact hx_iret C hr dX10_soldOut_57
def f_X10_soldOut (L : hL) (X : hX) (this : Nat) (a1 : Int32) : Option (Int32) :=
  (f_X10_isPrize L X this a1).bind fun r14 =>
  if tk L this 10 then
  if r14 = 0 then
    some (-100001)
  else
    (f_X10_priced L X this a1 2).bind fun r18 =>
    (f_X10_priced L X this a1 5).bind fun r20 =>
    (f_X10_priced L X this a1 4).bind fun r22 =>
    (f_X10_priced L X this a1 1).bind fun r24 =>
    if ¬ r24 = 0 then
    f_X10_soldOut_43 L u_fuel this a1 r18 r20 (r22 / r24) 0 X
    else none
  else none
set_option maxRecDepth 100000 in
set_option maxHeartbeats 4000000 in
theorem c_X10_soldOut {l : Launch} {dC : Nat → ClassId} {dI : Nat → Nat → Nat} {cy : Nat → ClassId} {ad : Nat → Nat} {L : hL} {X : hX} {this : Nat} {a1 : Int32} {r : Int32} (h : f_X10_soldOut L X this a1 = some r) : hMet l dC dI cy ad L yX10_soldOut wsX10_soldOut ({ frames := 2, cells := 0, slots := 0, locals := 43 } : Room) [.ref (ad this), .int a1] X (some (.int r)) X := by
  unfold f_X10_soldOut at h
  refine hx_enter RX10 (plainFor_of_name (by decide)) rfl rfl (Nat.le_of_ble_eq_true rfl) (fun p e s m args below meth c C hr hnm ls hl => ?_)
  have hl : lv_has ls 6 [(0, .ref (ad this)), (1, .int a1)] := hl
  refine hx_aload_n C dX10_soldOut_0 rfl (lv_at hl 0 rfl) ?_
  refine hx_iload_n C dX10_soldOut_1 rfl (lv_at hl 1 rfl) ?_
  obtain ⟨r14, e15, h⟩ := hx_bind h
  obtain ⟨g16, h⟩ := hx_gd h
  refine hx_callV (As := [.int a1]) (rest := []) (n := 1) (Cn := RX10) C (c_X10_isPrize e15) gX10_soldOut_X10_isPrize g16 (by decide) rfl (by decide +kernel) ⟨Nat.le_of_ble_eq_true rfl, Nat.le_of_ble_eq_true rfl⟩ rfl rfl rfl ⟨Nat.zero_le _, Nat.zero_le _⟩ hl.1 rfl rfl (Nat.le_of_ble_eq_true rfl) dX10_soldOut_2 ?_
  refine hx_if_ne (tgt := 11) C dX10_soldOut_5 (by decide) (fun c17 => ?_) (fun c17 => ?_)
  · have h := hx_neg c17 h
    refine hx_aload_n C dX10_soldOut_11 rfl (lv_at hl 0 rfl) ?_
    refine hx_iload_n C dX10_soldOut_12 rfl (lv_at hl 1 rfl) ?_
    refine hx_iconst (v := 2) C dX10_soldOut_13 (by decide) ?_
    obtain ⟨r18, e19, h⟩ := hx_bind h
    refine hx_callV (As := [.int a1, .int 2]) (rest := []) (n := 2) (Cn := RX10) C (c_X10_priced e19) gX10_soldOut_X10_priced g16 (by decide) rfl (by decide +kernel) ⟨Nat.le_of_ble_eq_true rfl, Nat.le_of_ble_eq_true rfl⟩ rfl rfl rfl ⟨Nat.zero_le _, Nat.zero_le _⟩ hl.1 rfl rfl (Nat.le_of_ble_eq_true rfl) dX10_soldOut_14 ?_
    refine hx_istore_n (lv' := [(2, .int r18), (0, .ref (ad this)), (1, .int a1)]) C dX10_soldOut_17 rfl hl (by decide) rfl (fun ls hl => ?_)
    refine hx_aload_n C dX10_soldOut_18 rfl (lv_at hl 1 rfl) ?_
    refine hx_iload_n C dX10_soldOut_19 rfl (lv_at hl 2 rfl) ?_
    refine hx_iconst (v := 5) C dX10_soldOut_20 (by decide) ?_
    obtain ⟨r20, e21, h⟩ := hx_bind h
    refine hx_callV (As := [.int a1, .int 5]) (rest := []) (n := 2) (Cn := RX10) C (c_X10_priced e21) gX10_soldOut_X10_priced g16 (by decide) rfl (by decide +kernel) ⟨Nat.le_of_ble_eq_true rfl, Nat.le_of_ble_eq_true rfl⟩ rfl rfl rfl ⟨Nat.zero_le _, Nat.zero_le _⟩ hl.1 rfl rfl (Nat.le_of_ble_eq_true rfl) dX10_soldOut_21 ?_
    refine hx_istore_n (lv' := [(3, .int r20), (2, .int r18), (0, .ref (ad this)), (1, .int a1)]) C dX10_soldOut_24 rfl hl (by decide) rfl (fun ls hl => ?_)
    refine hx_aload_n C dX10_soldOut_25 rfl (lv_at hl 2 rfl) ?_
    refine hx_iload_n C dX10_soldOut_26 rfl (lv_at hl 3 rfl) ?_
    refine hx_iconst (v := 4) C dX10_soldOut_27 (by decide) ?_
    obtain ⟨r22, e23, h⟩ := hx_bind h
    refine hx_callV (As := [.int a1, .int 4]) (rest := []) (n := 2) (Cn := RX10) C (c_X10_priced e23) gX10_soldOut_X10_priced g16 (by decide) rfl (by decide +kernel) ⟨Nat.le_of_ble_eq_true rfl, Nat.le_of_ble_eq_true rfl⟩ rfl rfl rfl ⟨Nat.zero_le _, Nat.zero_le _⟩ hl.1 rfl rfl (Nat.le_of_ble_eq_true rfl) dX10_soldOut_28 ?_
    refine hx_aload_n C dX10_soldOut_31 rfl (lv_at hl 2 rfl) ?_
    refine hx_iload_n C dX10_soldOut_32 rfl (lv_at hl 3 rfl) ?_
    refine hx_iconst (v := 1) C dX10_soldOut_33 (by decide) ?_
    obtain ⟨r24, e25, h⟩ := hx_bind h
    refine hx_callV (As := [.int a1, .int 1]) (rest := [.int r22]) (n := 2) (Cn := RX10) C (c_X10_priced e25) gX10_soldOut_X10_priced g16 (by decide) rfl (by decide +kernel) ⟨Nat.le_of_ble_eq_true rfl, Nat.le_of_ble_eq_true rfl⟩ rfl rfl rfl ⟨Nat.zero_le _, Nat.zero_le _⟩ hl.1 rfl rfl (Nat.le_of_ble_eq_true rfl) dX10_soldOut_34 ?_
    obtain ⟨g26, h⟩ := hx_gd h
    refine hx_idiv C dX10_soldOut_37 g26 ?_
    refine hx_istore (lv' := [(4, .int (r22 / r24)), (3, .int r20), (2, .int r18), (0, .ref (ad this)), (1, .int a1)]) C dX10_soldOut_38 hl (by decide) rfl (fun ls hl => ?_)
    refine hx_iconst (v := 0) C dX10_soldOut_40 (by decide) ?_
    refine hx_istore (lv' := [(5, .int 0), (4, .int (r22 / r24)), (3, .int r20), (2, .int r18), (0, .ref (ad this)), (1, .int a1)]) C dX10_soldOut_41 hl (by decide) rfl (fun ls hl => ?_)
    exact w_X10_soldOut_43 C hr u_fuel this a1 r18 r20 (r22 / r24) 0 X ls h (lv_sub hl [4, 5, 3, 2, 1, 0] rfl)
  · have h := hx_pos c17 h
    refine hx_ldc (v := (-100001)) C (by decide +kernel) dX10_soldOut_8 ?_
    obtain rfl := hx_some1 h
    exact hx_iret C hr dX10_soldOut_10
theorem uX10_ahead_10 : ∀ w ∈ u_ws RX10 TX10 15, w ∈ wsX10_ahead := by decide +kernel
def f_X10_ahead_56 (L : hL) (k4 : Nat → Int32 → Int32 → Int32 → hX → Option (Int32)) (v0 : Nat) (v1 : Int32) (v3 : Int32) (s0 : Int32) (s1 : Int32) (X : hX) : Option (Int32) :=
  k4 v0 v1 (s1 + s0) (v3 + 1) X
set_option maxRecDepth 100000 in
set_option maxHeartbeats 4000000 in
theorem w_X10_ahead_56 {p : Program} {l : Launch} {e : Env} {s : State} {m : MethodId} {args : Array Value} {below : List Frame} {meth : Method} {c : Code} {dC : Nat → ClassId} {dI : Nat → Nat → Nat} {cy : Nat → ClassId} {ad : Nat → Nat} {L : hL} {r : Int32} (k4 : Nat → Int32 → Int32 → Int32 → hX → Option (Int32)) (C : hC p s m args meth c dC dI cy ad L (hA ad L s.heap.size) cX10_ahead 4 wsX10_ahead RX10) (hr : meth.sig.returnType = (some .int)) (hk4 : ∀ (v0 : Nat) (v1 : Int32) (v2 : Int32) (v3 : Int32) (X : hX) (ls : Array Slot), k4 v0 v1 v2 v3 X = some r → lv_has ls 4 [(0, .ref (ad v0)), (1, .int v1), (2, .int v2), (3, .int v3)] → hG p l e (headSpec wsX10_ahead ({ frames := 1, cells := 0, slots := 0, locals := 22 } : Room)).room s m args below meth c dC dI cy ad L (hA ad L s.heap.size) 0 0 (MQ below (hQ dC dI cy ad L s.heap.size (some (.int r)) X) args s 0 0 (hA ad L s.heap.size)) X 4 ls []) : ∀ (v0 : Nat) (v1 : Int32) (v3 : Int32) (s0 : Int32) (s1 : Int32) (X : hX) (ls : Array Slot), f_X10_ahead_56 L k4 v0 v1 v3 s0 s1 X = some r → lv_has ls 4 [(0, .ref (ad v0)), (1, .int v1), (3, .int v3)] → hG p l e (headSpec wsX10_ahead ({ frames := 1, cells := 0, slots := 0, locals := 22 } : Room)).room s m args below meth c dC dI cy ad L (hA ad L s.heap.size) 0 0 (MQ below (hQ dC dI cy ad L s.heap.size (some (.int r)) X) args s 0 0 (hA ad L s.heap.size)) X 56 ls [.int s0, .int s1] := by
  intro v0 v1 v3 s0 s1 X ls h hl
  unfold f_X10_ahead_56 at h
  refine hx_iadd C dX10_ahead_56 ?_
  refine hx_istore_n (lv' := [(2, .int (s1 + s0)), (0, .ref (ad v0)), (1, .int v1), (3, .int v3)]) C dX10_ahead_57 rfl hl (by decide) rfl (fun ls hl => ?_)
  refine hx_iinc (v := v3 + 1) (lv' := [(3, .int (v3 + 1)), (2, .int (s1 + s0)), (0, .ref (ad v0)), (1, .int v1)]) C dX10_ahead_58 hl (k := 3) rfl rfl (by decide) rfl (fun ls hl => ?_)
  refine hx_goto (tgt := 4) C dX10_ahead_61 (by decide) ?_
  exact hk4 v0 v1 (s1 + s0) (v3 + 1) X ls h (lv_sub hl [2, 3, 1, 0] rfl)
def f_X10_ahead_51 (L : hL) (k4 : Nat → Int32 → Int32 → Int32 → hX → Option (Int32)) (v0 : Nat) (v1 : Int32) (v3 : Int32) (s0 : Int32) (X : hX) : Option (Int32) :=
  f_X10_ahead_56 L k4 v0 v1 v3 1 s0 X
set_option maxRecDepth 100000 in
set_option maxHeartbeats 4000000 in
theorem w_X10_ahead_51 {p : Program} {l : Launch} {e : Env} {s : State} {m : MethodId} {args : Array Value} {below : List Frame} {meth : Method} {c : Code} {dC : Nat → ClassId} {dI : Nat → Nat → Nat} {cy : Nat → ClassId} {ad : Nat → Nat} {L : hL} {r : Int32} (k4 : Nat → Int32 → Int32 → Int32 → hX → Option (Int32)) (C : hC p s m args meth c dC dI cy ad L (hA ad L s.heap.size) cX10_ahead 4 wsX10_ahead RX10) (hr : meth.sig.returnType = (some .int)) (hk4 : ∀ (v0 : Nat) (v1 : Int32) (v2 : Int32) (v3 : Int32) (X : hX) (ls : Array Slot), k4 v0 v1 v2 v3 X = some r → lv_has ls 4 [(0, .ref (ad v0)), (1, .int v1), (2, .int v2), (3, .int v3)] → hG p l e (headSpec wsX10_ahead ({ frames := 1, cells := 0, slots := 0, locals := 22 } : Room)).room s m args below meth c dC dI cy ad L (hA ad L s.heap.size) 0 0 (MQ below (hQ dC dI cy ad L s.heap.size (some (.int r)) X) args s 0 0 (hA ad L s.heap.size)) X 4 ls []) : ∀ (v0 : Nat) (v1 : Int32) (v3 : Int32) (s0 : Int32) (X : hX) (ls : Array Slot), f_X10_ahead_51 L k4 v0 v1 v3 s0 X = some r → lv_has ls 4 [(0, .ref (ad v0)), (1, .int v1), (3, .int v3)] → hG p l e (headSpec wsX10_ahead ({ frames := 1, cells := 0, slots := 0, locals := 22 } : Room)).room s m args below meth c dC dI cy ad L (hA ad L s.heap.size) 0 0 (MQ below (hQ dC dI cy ad L s.heap.size (some (.int r)) X) args s 0 0 (hA ad L s.heap.size)) X 51 ls [.int s0] := by
  intro v0 v1 v3 s0 X ls h hl
  unfold f_X10_ahead_51 at h
  refine hx_iconst (v := 1) C dX10_ahead_51 (by decide) ?_
  refine hx_goto (tgt := 56) C dX10_ahead_52 (by decide) ?_
  exact w_X10_ahead_56 k4 C hr hk4 v0 v1 v3 1 s0 X ls h (lv_sub hl [0, 1, 2] rfl)
def f_X10_ahead_55 (L : hL) (k4 : Nat → Int32 → Int32 → Int32 → hX → Option (Int32)) (v0 : Nat) (v1 : Int32) (v3 : Int32) (s0 : Int32) (X : hX) : Option (Int32) :=
  f_X10_ahead_56 L k4 v0 v1 v3 0 s0 X
set_option maxRecDepth 100000 in
set_option maxHeartbeats 4000000 in
theorem w_X10_ahead_55 {p : Program} {l : Launch} {e : Env} {s : State} {m : MethodId} {args : Array Value} {below : List Frame} {meth : Method} {c : Code} {dC : Nat → ClassId} {dI : Nat → Nat → Nat} {cy : Nat → ClassId} {ad : Nat → Nat} {L : hL} {r : Int32} (k4 : Nat → Int32 → Int32 → Int32 → hX → Option (Int32)) (C : hC p s m args meth c dC dI cy ad L (hA ad L s.heap.size) cX10_ahead 4 wsX10_ahead RX10) (hr : meth.sig.returnType = (some .int)) (hk4 : ∀ (v0 : Nat) (v1 : Int32) (v2 : Int32) (v3 : Int32) (X : hX) (ls : Array Slot), k4 v0 v1 v2 v3 X = some r → lv_has ls 4 [(0, .ref (ad v0)), (1, .int v1), (2, .int v2), (3, .int v3)] → hG p l e (headSpec wsX10_ahead ({ frames := 1, cells := 0, slots := 0, locals := 22 } : Room)).room s m args below meth c dC dI cy ad L (hA ad L s.heap.size) 0 0 (MQ below (hQ dC dI cy ad L s.heap.size (some (.int r)) X) args s 0 0 (hA ad L s.heap.size)) X 4 ls []) : ∀ (v0 : Nat) (v1 : Int32) (v3 : Int32) (s0 : Int32) (X : hX) (ls : Array Slot), f_X10_ahead_55 L k4 v0 v1 v3 s0 X = some r → lv_has ls 4 [(0, .ref (ad v0)), (1, .int v1), (3, .int v3)] → hG p l e (headSpec wsX10_ahead ({ frames := 1, cells := 0, slots := 0, locals := 22 } : Room)).room s m args below meth c dC dI cy ad L (hA ad L s.heap.size) 0 0 (MQ below (hQ dC dI cy ad L s.heap.size (some (.int r)) X) args s 0 0 (hA ad L s.heap.size)) X 55 ls [.int s0] := by
  intro v0 v1 v3 s0 X ls h hl
  unfold f_X10_ahead_55 at h
  refine hx_iconst (v := 0) C dX10_ahead_55 (by decide) ?_
  exact w_X10_ahead_56 k4 C hr hk4 v0 v1 v3 0 s0 X ls h (lv_sub hl [0, 1, 2] rfl)
def f_X10_ahead_4 (L : hL) : Nat → Nat → Int32 → Int32 → Int32 → hX → Option (Int32)
  | 0, _, _, _, _, _ => none
  | n + 1, v0, v1, v2, v3, X =>
    if tk L v0 10 then
    (X.2 v0 0).bind fun q2 =>
    if tk L q2 12 then
    if 15 < L.2.2 q2 then
    if (X.1 q2 15) ≤ v3 then
      some v2
    else
      (f_X10_priced L X v0 v3 0).bind fun r7 =>
      (f_X10_priced L X v0 v1 0).bind fun r9 =>
      if r7 < r9 then
        f_X10_ahead_51 L (f_X10_ahead_4 L n) v0 v1 v3 v2 X
      else
        (f_X10_priced L X v0 v3 0).bind fun r12 =>
        (f_X10_priced L X v0 v1 0).bind fun r14 =>
        if r12 = r14 then
          if v1 ≤ v3 then
            f_X10_ahead_55 L (f_X10_ahead_4 L n) v0 v1 v3 v2 X
          else
            f_X10_ahead_51 L (f_X10_ahead_4 L n) v0 v1 v3 v2 X
        else
          f_X10_ahead_55 L (f_X10_ahead_4 L n) v0 v1 v3 v2 X
    else none
    else none
    else none
set_option maxRecDepth 100000 in
set_option maxHeartbeats 4000000 in
theorem w_X10_ahead_4 {p : Program} {l : Launch} {e : Env} {s : State} {m : MethodId} {args : Array Value} {below : List Frame} {meth : Method} {c : Code} {dC : Nat → ClassId} {dI : Nat → Nat → Nat} {cy : Nat → ClassId} {ad : Nat → Nat} {L : hL} {r : Int32} (C : hC p s m args meth c dC dI cy ad L (hA ad L s.heap.size) cX10_ahead 4 wsX10_ahead RX10) (hr : meth.sig.returnType = (some .int)) : ∀ (n : Nat) (v0 : Nat) (v1 : Int32) (v2 : Int32) (v3 : Int32) (X : hX) (ls : Array Slot), f_X10_ahead_4 L n v0 v1 v2 v3 X = some r → lv_has ls 4 [(0, .ref (ad v0)), (1, .int v1), (2, .int v2), (3, .int v3)] → hG p l e (headSpec wsX10_ahead ({ frames := 1, cells := 0, slots := 0, locals := 22 } : Room)).room s m args below meth c dC dI cy ad L (hA ad L s.heap.size) 0 0 (MQ below (hQ dC dI cy ad L s.heap.size (some (.int r)) X) args s 0 0 (hA ad L s.heap.size)) X 4 ls [] := by
  intro n
  induction n with
  | zero => intro v0 v1 v2 v3 X ls h; cases h
  | succ n ih =>
    intro v0 v1 v2 v3 X ls h hl
    rw [f_X10_ahead_4] at h
    refine hx_iload_n C dX10_ahead_4 rfl (lv_at hl 3 rfl) ?_
    refine hx_aload_n C dX10_ahead_5 rfl (lv_at hl 0 rfl) ?_
    obtain ⟨g1, h⟩ := hx_gd h
    obtain ⟨q2, e3, h⟩ := hx_bind h
    refine hx_getr C (ci := 10) (j := 0) g1 uX10_ahead_10 (by decide) rfl (by decide) rfl (by decide +kernel) rfl dX10_ahead_6 e3 ?_
    refine hx_bipush (v := 15) C dX10_ahead_9 (by decide) ?_
    obtain ⟨g4, h⟩ := hx_gd h
    obtain ⟨g5, h⟩ := hx_gd h
    refine hx_iald (n := 15) C g4 (hin_lit (i := 15) (by decide) rfl g5) rfl dX10_ahead_11 ?_
    refine hx_icmp_ge (tgt := 64) C dX10_ahead_12 (by decide) (fun c6 => ?_) (fun c6 => ?_)
    · have h := hx_pos c6 h
      refine hx_iload_n C dX10_ahead_64 rfl (lv_at hl 2 rfl) ?_
      obtain rfl := hx_some1 h
      exact hx_iret C hr dX10_ahead_65
    · have h := hx_neg c6 h
      refine hx_iload_n C dX10_ahead_15 rfl (lv_at hl 2 rfl) ?_
      refine hx_aload_n C dX10_ahead_16 rfl (lv_at hl 0 rfl) ?_
      refine hx_iload_n C dX10_ahead_17 rfl (lv_at hl 3 rfl) ?_
      refine hx_iconst (v := 0) C dX10_ahead_18 (by decide) ?_
      obtain ⟨r7, e8, h⟩ := hx_bind h
      refine hx_callV (As := [.int v3, .int 0]) (rest := [.int v2]) (n := 2) (Cn := RX10) C (c_X10_priced e8) gX10_ahead_X10_priced g1 (by decide) rfl (by decide +kernel) ⟨Nat.le_of_ble_eq_true rfl, Nat.le_of_ble_eq_true rfl⟩ rfl rfl rfl ⟨Nat.zero_le _, Nat.zero_le _⟩ hl.1 rfl rfl (Nat.le_of_ble_eq_true rfl) dX10_ahead_19 ?_
      refine hx_aload_n C dX10_ahead_22 rfl (lv_at hl 0 rfl) ?_
      refine hx_iload_n C dX10_ahead_23 rfl (lv_at hl 1 rfl) ?_
      refine hx_iconst (v := 0) C dX10_ahead_24 (by decide) ?_
      obtain ⟨r9, e10, h⟩ := hx_bind h
      refine hx_callV (As := [.int v1, .int 0]) (rest := [.int r7, .int v2]) (n := 2) (Cn := RX10) C (c_X10_priced e10) gX10_ahead_X10_priced g1 (by decide) rfl (by decide +kernel) ⟨Nat.le_of_ble_eq_true rfl, Nat.le_of_ble_eq_true rfl⟩ rfl rfl rfl ⟨Nat.zero_le _, Nat.zero_le _⟩ hl.1 rfl rfl (Nat.le_of_ble_eq_true rfl) dX10_ahead_25 ?_
      refine hx_icmp_lt (tgt := 51) C dX10_ahead_28 (by decide) (fun c11 => ?_) (fun c11 => ?_)
      · have h := hx_pos c11 h
        exact w_X10_ahead_51 (f_X10_ahead_4 L n) C hr ih v0 v1 v3 v2 X ls h (lv_sub hl [0, 1, 3] rfl)
      · have h := hx_neg c11 h
        refine hx_aload_n C dX10_ahead_31 rfl (lv_at hl 0 rfl) ?_
        refine hx_iload_n C dX10_ahead_32 rfl (lv_at hl 3 rfl) ?_
        refine hx_iconst (v := 0) C dX10_ahead_33 (by decide) ?_
        obtain ⟨r12, e13, h⟩ := hx_bind h
        refine hx_callV (As := [.int v3, .int 0]) (rest := [.int v2]) (n := 2) (Cn := RX10) C (c_X10_priced e13) gX10_ahead_X10_priced g1 (by decide) rfl (by decide +kernel) ⟨Nat.le_of_ble_eq_true rfl, Nat.le_of_ble_eq_true rfl⟩ rfl rfl rfl ⟨Nat.zero_le _, Nat.zero_le _⟩ hl.1 rfl rfl (Nat.le_of_ble_eq_true rfl) dX10_ahead_34 ?_
        refine hx_aload_n C dX10_ahead_37 rfl (lv_at hl 0 rfl) ?_
        refine hx_iload_n C dX10_ahead_38 rfl (lv_at hl 1 rfl) ?_
        refine hx_iconst (v := 0) C dX10_ahead_39 (by decide) ?_
        obtain ⟨r14, e15, h⟩ := hx_bind h
        refine hx_callV (As := [.int v1, .int 0]) (rest := [.int r12, .int v2]) (n := 2) (Cn := RX10) C (c_X10_priced e15) gX10_ahead_X10_priced g1 (by decide) rfl (by decide +kernel) ⟨Nat.le_of_ble_eq_true rfl, Nat.le_of_ble_eq_true rfl⟩ rfl rfl rfl ⟨Nat.zero_le _, Nat.zero_le _⟩ hl.1 rfl rfl (Nat.le_of_ble_eq_true rfl) dX10_ahead_40 ?_
        refine hx_icmp_ne (tgt := 55) C dX10_ahead_43 (by decide) (fun c16 => ?_) (fun c16 => ?_)
        · have h := hx_neg c16 h
          exact w_X10_ahead_55 (f_X10_ahead_4 L n) C hr ih v0 v1 v3 v2 X ls h (lv_sub hl [0, 1, 3] rfl)
        · have h := hx_pos c16 h
          refine hx_iload_n C dX10_ahead_46 rfl (lv_at hl 3 rfl) ?_
          refine hx_iload_n C dX10_ahead_47 rfl (lv_at hl 1 rfl) ?_
          refine hx_icmp_ge (tgt := 55) C dX10_ahead_48 (by decide) (fun c17 => ?_) (fun c17 => ?_)
          · have h := hx_pos c17 h
            exact w_X10_ahead_55 (f_X10_ahead_4 L n) C hr ih v0 v1 v3 v2 X ls h (lv_sub hl [0, 1, 3] rfl)
          · have h := hx_neg c17 h
            exact w_X10_ahead_51 (f_X10_ahead_4 L n) C hr ih v0 v1 v3 v2 X ls h (lv_sub hl [0, 1, 3] rfl)
def f_X10_ahead (L : hL) (X : hX) (this : Nat) (a1 : Int32) : Option (Int32) :=
  f_X10_ahead_4 L u_fuel this a1 0 0 X
set_option maxRecDepth 100000 in
set_option maxHeartbeats 4000000 in
theorem c_X10_ahead {l : Launch} {dC : Nat → ClassId} {dI : Nat → Nat → Nat} {cy : Nat → ClassId} {ad : Nat → Nat} {L : hL} {X : hX} {this : Nat} {a1 : Int32} {r : Int32} (h : f_X10_ahead L X this a1 = some r) : hMet l dC dI cy ad L yX10_ahead wsX10_ahead ({ frames := 1, cells := 0, slots := 0, locals := 22 } : Room) [.ref (ad this), .int a1] X (some (.int r)) X := by
  unfold f_X10_ahead at h
  refine hx_enter RX10 (plainFor_of_name (by decide)) rfl rfl (Nat.le_of_ble_eq_true rfl) (fun p e s m args below meth c C hr hnm ls hl => ?_)
  have hl : lv_has ls 4 [(0, .ref (ad this)), (1, .int a1)] := hl
  refine hx_iconst (v := 0) C dX10_ahead_0 (by decide) ?_
  refine hx_istore_n (lv' := [(2, .int 0), (0, .ref (ad this)), (1, .int a1)]) C dX10_ahead_1 rfl hl (by decide) rfl (fun ls hl => ?_)
  refine hx_iconst (v := 0) C dX10_ahead_2 (by decide) ?_
  refine hx_istore_n (lv' := [(3, .int 0), (2, .int 0), (0, .ref (ad this)), (1, .int a1)]) C dX10_ahead_3 rfl hl (by decide) rfl (fun ls hl => ?_)
  exact w_X10_ahead_4 C hr u_fuel this a1 0 0 X ls h (lv_sub hl [2, 3, 1, 0] rfl)
