theorem uX10_run_10 : ∀ w ∈ u_ws RX10 TX10 15, w ∈ wsX10_run := by decide +kernel
def f_X10_run_85 (L : hL) (v0 : Nat) (v1 : Int32) (X : hX) : Option (Int32 × hX) :=
  if tk L v0 10 then
  (f_X10_fails L X v0 1 (X.1 v0 9) (-100009) v1).bind fun r2 =>
  some (r2.1, r2.2)
  else none
set_option maxRecDepth 100000 in
set_option maxHeartbeats 4000000 in
theorem w_X10_run_85 {p : Program} {l : Launch} {e : Env} {s : State} {m : MethodId} {args : Array Value} {below : List Frame} {meth : Method} {c : Code} {dC : Nat → ClassId} {dI : Nat → Nat → Nat} {cy : Nat → ClassId} {ad : Nat → Nat} {L : hL} {r : Int32} {X' : hX} (C : hC p s m args meth c dC dI cy ad L (hA ad L s.heap.size) cX10_run 5 wsX10_run RX10) (hr : meth.sig.returnType = (some .int)) : ∀ (v0 : Nat) (v1 : Int32) (X : hX) (ls : Array Slot), f_X10_run_85 L v0 v1 X = some (r, X') → lv_has ls 5 [(0, .ref (ad v0)), (1, .int v1)] → hG p l e (headSpec wsX10_run ({ frames := 6, cells := 0, slots := 0, locals := 141 } : Room)).room s m args below meth c dC dI cy ad L (hA ad L s.heap.size) 0 0 (MQ below (hQ dC dI cy ad L s.heap.size (some (.int r)) X') args s 0 0 (hA ad L s.heap.size)) X 85 ls [] := by
  intro v0 v1 X ls h hl
  unfold f_X10_run_85 at h
  refine hx_aload_n C dX10_run_85 rfl (lv_at hl 0 rfl) ?_
  refine hx_iconst (v := 1) C dX10_run_86 (by decide) ?_
  refine hx_aload_n C dX10_run_87 rfl (lv_at hl 0 rfl) ?_
  obtain ⟨g1, h⟩ := hx_gd h
  refine hx_geti C (ci := 10) (j := 9) g1 uX10_run_10 (by decide) rfl (by decide) rfl (by decide +kernel) rfl dX10_run_88 ?_
  refine hx_ldc (v := (-100009)) C (by decide +kernel) dX10_run_91 ?_
  refine hx_iload_n C dX10_run_93 rfl (lv_at hl 1 rfl) ?_
  obtain ⟨r2, e3, h⟩ := hx_bind h
  refine hx_callV (As := [.int 1, .int (X.1 v0 9), .int (-100009), .int v1]) (rest := []) (n := 4) (Cn := RX10) C (c_X10_fails e3) gX10_run_X10_fails g1 (by decide) rfl (by decide +kernel) ⟨Nat.le_of_ble_eq_true rfl, Nat.le_of_ble_eq_true rfl⟩ rfl rfl rfl ⟨Nat.zero_le _, Nat.zero_le _⟩ hl.1 rfl rfl (Nat.le_of_ble_eq_true rfl) dX10_run_94 ?_
  obtain ⟨rfl, rfl⟩ := hx_some2 h
  exact hx_iret C hr dX10_run_97
def f_X10_run_66 (L : hL) (k38 : Nat → Int32 → hX → Option (Int32 × hX)) (v0 : Nat) (v1 : Int32) (v2 : Int32) (s0 : Int32) (X : hX) : Option (Int32 × hX) :=
  (f_X10_numbers L X s0).bind fun r4 =>
  if r4 < 0 then
    f_X10_run_85 L v0 v1 X
  else
    (f_X10_numbers L X s0).bind fun r7 =>
    (f_X10_readsNumbers L X v0 r7).bind fun r9 =>
    if tk L v0 10 then
    if r9.1 = 0 then
      f_X10_run_85 L v0 v1 r9.2
    else
      (f_X10_does L r9.2 v0 s0).bind fun r13 =>
      if (-100001) < r13.1 then
        (f_X10_reads L r13.2 v0).bind fun r16 =>
        k38 v0 (v1 + 1) r16
      else
        if r13.1 = (-100001) then
          (f_X10_fails L r13.2 v0 2 v2 r13.1 v1).bind fun r21 =>
          some (r21.1, r21.2)
        else
          (f_X10_fails L r13.2 v0 3 v2 r13.1 v1).bind fun r19 =>
          some (r19.1, r19.2)
    else none
set_option maxRecDepth 100000 in
set_option maxHeartbeats 4000000 in
theorem w_X10_run_66 {p : Program} {l : Launch} {e : Env} {s : State} {m : MethodId} {args : Array Value} {below : List Frame} {meth : Method} {c : Code} {dC : Nat → ClassId} {dI : Nat → Nat → Nat} {cy : Nat → ClassId} {ad : Nat → Nat} {L : hL} {r : Int32} {X' : hX} (k38 : Nat → Int32 → hX → Option (Int32 × hX)) (C : hC p s m args meth c dC dI cy ad L (hA ad L s.heap.size) cX10_run 5 wsX10_run RX10) (hr : meth.sig.returnType = (some .int)) (hk38 : ∀ (v0 : Nat) (v1 : Int32) (X : hX) (ls : Array Slot), k38 v0 v1 X = some (r, X') → lv_has ls 5 [(0, .ref (ad v0)), (1, .int v1)] → hG p l e (headSpec wsX10_run ({ frames := 6, cells := 0, slots := 0, locals := 141 } : Room)).room s m args below meth c dC dI cy ad L (hA ad L s.heap.size) 0 0 (MQ below (hQ dC dI cy ad L s.heap.size (some (.int r)) X') args s 0 0 (hA ad L s.heap.size)) X 38 ls []) : ∀ (v0 : Nat) (v1 : Int32) (v2 : Int32) (s0 : Int32) (X : hX) (ls : Array Slot), f_X10_run_66 L k38 v0 v1 v2 s0 X = some (r, X') → lv_has ls 5 [(0, .ref (ad v0)), (1, .int v1), (2, .int v2)] → hG p l e (headSpec wsX10_run ({ frames := 6, cells := 0, slots := 0, locals := 141 } : Room)).room s m args below meth c dC dI cy ad L (hA ad L s.heap.size) 0 0 (MQ below (hQ dC dI cy ad L s.heap.size (some (.int r)) X') args s 0 0 (hA ad L s.heap.size)) X 66 ls [.int s0] := by
  intro v0 v1 v2 s0 X ls h hl
  unfold f_X10_run_66 at h
  refine hx_istore_n (lv' := [(3, .int s0), (0, .ref (ad v0)), (1, .int v1), (2, .int v2)]) C dX10_run_66 rfl hl (by decide) rfl (fun ls hl => ?_)
  refine hx_iload_n C dX10_run_67 rfl (lv_at hl 0 rfl) ?_
  obtain ⟨r4, e5, h⟩ := hx_bind h
  refine hx_callS (As := [.int s0]) (rest := []) (n := 1) C (c_X10_numbers e5) gX10_run_X10_numbers (by decide +kernel) ⟨Nat.le_of_ble_eq_true rfl, Nat.le_of_ble_eq_true rfl⟩ rfl rfl rfl ⟨Nat.zero_le _, Nat.zero_le _⟩ hl.1 rfl rfl (Nat.le_of_ble_eq_true rfl) dX10_run_68 ?_
  refine hx_if_lt (tgt := 85) C dX10_run_71 (by decide) (fun c6 => ?_) (fun c6 => ?_)
  · have h := hx_pos c6 h
    exact w_X10_run_85 C hr v0 v1 X ls h (lv_sub hl [1, 2] rfl)
  · have h := hx_neg c6 h
    refine hx_aload_n C dX10_run_74 rfl (lv_at hl 1 rfl) ?_
    refine hx_iload_n C dX10_run_75 rfl (lv_at hl 0 rfl) ?_
    obtain ⟨r7, e8, h⟩ := hx_bind h
    refine hx_callS (As := [.int s0]) (rest := [.ref (ad v0)]) (n := 1) C (c_X10_numbers e8) gX10_run_X10_numbers (by decide +kernel) ⟨Nat.le_of_ble_eq_true rfl, Nat.le_of_ble_eq_true rfl⟩ rfl rfl rfl ⟨Nat.zero_le _, Nat.zero_le _⟩ hl.1 rfl rfl (Nat.le_of_ble_eq_true rfl) dX10_run_76 ?_
    obtain ⟨r9, e10, h⟩ := hx_bind h
    obtain ⟨g11, h⟩ := hx_gd h
    refine hx_callV (As := [.int r7]) (rest := []) (n := 1) (Cn := RX10) C (c_X10_readsNumbers e10) gX10_run_X10_readsNumbers g11 (by decide) rfl (by decide +kernel) ⟨Nat.le_of_ble_eq_true rfl, Nat.le_of_ble_eq_true rfl⟩ rfl rfl rfl ⟨Nat.zero_le _, Nat.zero_le _⟩ hl.1 rfl rfl (Nat.le_of_ble_eq_true rfl) dX10_run_79 ?_
    refine hx_if_ne (tgt := 98) C dX10_run_82 (by decide) (fun c12 => ?_) (fun c12 => ?_)
    · have h := hx_neg c12 h
      refine hx_aload_n C dX10_run_98 rfl (lv_at hl 1 rfl) ?_
      refine hx_iload_n C dX10_run_99 rfl (lv_at hl 0 rfl) ?_
      obtain ⟨r13, e14, h⟩ := hx_bind h
      refine hx_callV (As := [.int s0]) (rest := []) (n := 1) (Cn := RX10) C (c_X10_does e14) gX10_run_X10_does g11 (by decide) rfl (by decide +kernel) ⟨Nat.le_of_ble_eq_true rfl, Nat.le_of_ble_eq_true rfl⟩ rfl rfl rfl ⟨Nat.zero_le _, Nat.zero_le _⟩ hl.1 rfl rfl (Nat.le_of_ble_eq_true rfl) dX10_run_100 ?_
      refine hx_istore (lv' := [(4, .int r13.1), (3, .int s0), (0, .ref (ad v0)), (1, .int v1), (2, .int v2)]) C dX10_run_103 hl (by decide) rfl (fun ls hl => ?_)
      refine hx_iload C dX10_run_105 (lv_at hl 0 rfl) ?_
      refine hx_ldc (v := (-100001)) C (by decide +kernel) dX10_run_107 ?_
      refine hx_icmp_gt (tgt := 133) C dX10_run_109 (by decide) (fun c15 => ?_) (fun c15 => ?_)
      · have h := hx_pos c15 h
        refine hx_iinc (v := v1 + 1) (lv' := [(1, .int (v1 + 1)), (4, .int r13.1), (3, .int s0), (0, .ref (ad v0)), (2, .int v2)]) C dX10_run_133 hl (k := 3) rfl rfl (by decide) rfl (fun ls hl => ?_)
        refine hx_aload_n C dX10_run_136 rfl (lv_at hl 3 rfl) ?_
        obtain ⟨r16, e17, h⟩ := hx_bind h
        refine hx_callV (As := []) (rest := []) (n := 0) (Cn := RX10) C (c_X10_reads e17) gX10_run_X10_reads g11 (by decide) rfl (by decide +kernel) ⟨Nat.le_of_ble_eq_true rfl, Nat.le_of_ble_eq_true rfl⟩ rfl rfl rfl ⟨Nat.zero_le _, Nat.zero_le _⟩ hl.1 rfl rfl (Nat.le_of_ble_eq_true rfl) dX10_run_137 ?_
        refine hx_goto (tgt := 38) C dX10_run_140 (by decide) ?_
        exact hk38 v0 (v1 + 1) r16 ls h (lv_sub hl [3, 0] rfl)
      · have h := hx_neg c15 h
        refine hx_aload_n C dX10_run_112 rfl (lv_at hl 2 rfl) ?_
        refine hx_iload C dX10_run_113 (lv_at hl 0 rfl) ?_
        refine hx_ldc (v := (-100001)) C (by decide +kernel) dX10_run_115 ?_
        refine hx_icmp_ne (tgt := 124) C dX10_run_117 (by decide) (fun c18 => ?_) (fun c18 => ?_)
        · have h := hx_neg c18 h
          refine hx_iconst (v := 3) C dX10_run_124 (by decide) ?_
          refine hx_iload_n C dX10_run_125 rfl (lv_at hl 4 rfl) ?_
          refine hx_iload C dX10_run_126 (lv_at hl 0 rfl) ?_
          refine hx_iload_n C dX10_run_128 rfl (lv_at hl 3 rfl) ?_
          obtain ⟨r19, e20, h⟩ := hx_bind h
          refine hx_callV (As := [.int 3, .int v2, .int r13.1, .int v1]) (rest := []) (n := 4) (Cn := RX10) C (c_X10_fails e20) gX10_run_X10_fails g11 (by decide) rfl (by decide +kernel) ⟨Nat.le_of_ble_eq_true rfl, Nat.le_of_ble_eq_true rfl⟩ rfl rfl rfl ⟨Nat.zero_le _, Nat.zero_le _⟩ hl.1 rfl rfl (Nat.le_of_ble_eq_true rfl) dX10_run_129 ?_
          obtain ⟨rfl, rfl⟩ := hx_some2 h
          exact hx_iret C hr dX10_run_132
        · have h := hx_pos c18 h
          refine hx_iconst (v := 2) C dX10_run_120 (by decide) ?_
          refine hx_goto (tgt := 125) C dX10_run_121 (by decide) ?_
          refine hx_iload_n C dX10_run_125 rfl (lv_at hl 4 rfl) ?_
          refine hx_iload C dX10_run_126 (lv_at hl 0 rfl) ?_
          refine hx_iload_n C dX10_run_128 rfl (lv_at hl 3 rfl) ?_
          obtain ⟨r21, e22, h⟩ := hx_bind h
          refine hx_callV (As := [.int 2, .int v2, .int r13.1, .int v1]) (rest := []) (n := 4) (Cn := RX10) C (c_X10_fails e22) gX10_run_X10_fails g11 (by decide) rfl (by decide +kernel) ⟨Nat.le_of_ble_eq_true rfl, Nat.le_of_ble_eq_true rfl⟩ rfl rfl rfl ⟨Nat.zero_le _, Nat.zero_le _⟩ hl.1 rfl rfl (Nat.le_of_ble_eq_true rfl) dX10_run_129 ?_
          obtain ⟨rfl, rfl⟩ := hx_some2 h
          exact hx_iret C hr dX10_run_132
    · have h := hx_pos c12 h
      exact w_X10_run_85 C hr v0 v1 r9.2 ls h (lv_sub hl [1, 2] rfl)
def f_X10_run_38 (L : hL) : Nat → Nat → Int32 → hX → Option (Int32 × hX)
  | 0, _, _, _ => none
  | n + 1, v0, v1, X =>
    if tk L v0 10 then
    if (X.1 v0 11) = 0 then
      (X.2 v0 2).bind fun q25 =>
      (f_X10_pushes L X v0 q25).bind fun r27 =>
      some (v1, smi r27 v0 6 0)
    else
      if (X.1 v0 11) = 1 then
        (f_X10_word L X v0).bind fun r30 =>
        f_X10_run_66 L (f_X10_run_38 L n) v0 v1 (X.1 v0 9) r30 X
      else
        f_X10_run_66 L (f_X10_run_38 L n) v0 v1 (X.1 v0 9) 0 X
    else none
set_option maxRecDepth 100000 in
set_option maxHeartbeats 4000000 in
theorem w_X10_run_38 {p : Program} {l : Launch} {e : Env} {s : State} {m : MethodId} {args : Array Value} {below : List Frame} {meth : Method} {c : Code} {dC : Nat → ClassId} {dI : Nat → Nat → Nat} {cy : Nat → ClassId} {ad : Nat → Nat} {L : hL} {r : Int32} {X' : hX} (C : hC p s m args meth c dC dI cy ad L (hA ad L s.heap.size) cX10_run 5 wsX10_run RX10) (hr : meth.sig.returnType = (some .int)) : ∀ (n : Nat) (v0 : Nat) (v1 : Int32) (X : hX) (ls : Array Slot), f_X10_run_38 L n v0 v1 X = some (r, X') → lv_has ls 5 [(0, .ref (ad v0)), (1, .int v1)] → hG p l e (headSpec wsX10_run ({ frames := 6, cells := 0, slots := 0, locals := 141 } : Room)).room s m args below meth c dC dI cy ad L (hA ad L s.heap.size) 0 0 (MQ below (hQ dC dI cy ad L s.heap.size (some (.int r)) X') args s 0 0 (hA ad L s.heap.size)) X 38 ls [] := by
  intro n
  induction n with
  | zero => intro v0 v1 X ls h; cases h
  | succ n ih =>
    intro v0 v1 X ls h hl
    rw [f_X10_run_38] at h
    refine hx_aload_n C dX10_run_38 rfl (lv_at hl 0 rfl) ?_
    obtain ⟨g23, h⟩ := hx_gd h
    refine hx_geti C (ci := 10) (j := 11) g23 uX10_run_10 (by decide) rfl (by decide) rfl (by decide +kernel) rfl dX10_run_39 ?_
    refine hx_if_eq (tgt := 143) C dX10_run_42 (by decide) (fun c24 => ?_) (fun c24 => ?_)
    · have h := hx_pos c24 h
      refine hx_aload_n C dX10_run_143 rfl (lv_at hl 0 rfl) ?_
      refine hx_aload_n C dX10_run_144 rfl (lv_at hl 0 rfl) ?_
      obtain ⟨q25, e26, h⟩ := hx_bind h
      refine hx_getr C (ci := 10) (j := 2) g23 uX10_run_10 (by decide) rfl (by decide) rfl (by decide +kernel) rfl dX10_run_145 e26 ?_
      obtain ⟨r27, e28, h⟩ := hx_bind h
      refine hx_callV (As := [.ref (ad q25)]) (rest := []) (n := 1) (Cn := RX10) C (c_X10_pushes e28) gX10_run_X10_pushes g23 (by decide) rfl (by decide +kernel) ⟨Nat.le_of_ble_eq_true rfl, Nat.le_of_ble_eq_true rfl⟩ rfl rfl rfl ⟨Nat.zero_le _, Nat.zero_le _⟩ hl.1 rfl rfl (Nat.le_of_ble_eq_true rfl) dX10_run_148 ?_
      refine hx_aload_n C dX10_run_151 rfl (lv_at hl 0 rfl) ?_
      refine hx_iconst (v := 0) C dX10_run_152 (by decide) ?_
      refine hx_puti C (ci := 10) (j := 6) tyX10 tyX10_ok nmX10 g23 uX10_run_10 (by decide) rfl (by decide) rfl (by decide +kernel) rfl rfl (tyX10_ok 6 (by decide)) dX10_run_153 rfl rfl ?_
      refine hx_iload_n C dX10_run_156 rfl (lv_at hl 1 rfl) ?_
      obtain ⟨rfl, rfl⟩ := hx_some2 h
      exact hx_iret C hr dX10_run_157
    · have h := hx_neg c24 h
      refine hx_aload_n C dX10_run_45 rfl (lv_at hl 0 rfl) ?_
      refine hx_geti C (ci := 10) (j := 9) g23 uX10_run_10 (by decide) rfl (by decide) rfl (by decide +kernel) rfl dX10_run_46 ?_
      refine hx_istore_n (lv' := [(2, .int (X.1 v0 9)), (0, .ref (ad v0)), (1, .int v1)]) C dX10_run_49 rfl hl (by decide) rfl (fun ls hl => ?_)
      refine hx_aload_n C dX10_run_50 rfl (lv_at hl 1 rfl) ?_
      refine hx_geti C (ci := 10) (j := 11) g23 uX10_run_10 (by decide) rfl (by decide) rfl (by decide +kernel) rfl dX10_run_51 ?_
      refine hx_iconst (v := 1) C dX10_run_54 (by decide) ?_
      refine hx_icmp_ne (tgt := 65) C dX10_run_55 (by decide) (fun c29 => ?_) (fun c29 => ?_)
      · have h := hx_neg c29 h
        refine hx_iconst (v := 0) C dX10_run_65 (by decide) ?_
        exact w_X10_run_66 (f_X10_run_38 L n) C hr ih v0 v1 (X.1 v0 9) 0 X ls h (lv_sub hl [1, 2, 0] rfl)
      · have h := hx_pos c29 h
        refine hx_aload_n C dX10_run_58 rfl (lv_at hl 1 rfl) ?_
        obtain ⟨r30, e31, h⟩ := hx_bind h
        refine hx_callV (As := []) (rest := []) (n := 0) (Cn := RX10) C (c_X10_word e31) gX10_run_X10_word g23 (by decide) rfl (by decide +kernel) ⟨Nat.le_of_ble_eq_true rfl, Nat.le_of_ble_eq_true rfl⟩ rfl rfl rfl ⟨Nat.zero_le _, Nat.zero_le _⟩ hl.1 rfl rfl (Nat.le_of_ble_eq_true rfl) dX10_run_59 ?_
        refine hx_goto (tgt := 66) C dX10_run_62 (by decide) ?_
        exact w_X10_run_66 (f_X10_run_38 L n) C hr ih v0 v1 (X.1 v0 9) r30 X ls h (lv_sub hl [1, 2, 0] rfl)
def f_X10_run_2 (L : hL) : Nat → Nat → Int32 → hX → Option (Int32 × hX)
  | 0, _, _, _ => none
  | n + 1, v0, v1, X =>
    if 284 ≤ v1 then
      if tk L v0 10 then
      (f_X10_reads L (smi X v0 10 0) v0).bind fun r34 =>
      f_X10_run_38 L u_fuel v0 0 r34
      else none
    else
      if tk L v0 10 then
      (X.2 v0 2).bind fun q37 =>
      (X.2 v0 0).bind fun q39 =>
      if tk L q39 12 then
      if hin v1 (L.2.2 q39) then
      if tk L q37 12 then
      if hin v1 (L.2.2 q37) then
      f_X10_run_2 L n v0 (v1 + 1) (smi X q37 (Int32.toNatClampNeg v1) (X.1 q39 (Int32.toNatClampNeg v1)))
      else none
      else none
      else none
      else none
      else none
set_option maxRecDepth 100000 in
set_option maxHeartbeats 4000000 in
theorem w_X10_run_2 {p : Program} {l : Launch} {e : Env} {s : State} {m : MethodId} {args : Array Value} {below : List Frame} {meth : Method} {c : Code} {dC : Nat → ClassId} {dI : Nat → Nat → Nat} {cy : Nat → ClassId} {ad : Nat → Nat} {L : hL} {r : Int32} {X' : hX} (C : hC p s m args meth c dC dI cy ad L (hA ad L s.heap.size) cX10_run 5 wsX10_run RX10) (hr : meth.sig.returnType = (some .int)) : ∀ (n : Nat) (v0 : Nat) (v1 : Int32) (X : hX) (ls : Array Slot), f_X10_run_2 L n v0 v1 X = some (r, X') → lv_has ls 5 [(0, .ref (ad v0)), (1, .int v1)] → hG p l e (headSpec wsX10_run ({ frames := 6, cells := 0, slots := 0, locals := 141 } : Room)).room s m args below meth c dC dI cy ad L (hA ad L s.heap.size) 0 0 (MQ below (hQ dC dI cy ad L s.heap.size (some (.int r)) X') args s 0 0 (hA ad L s.heap.size)) X 2 ls [] := by
  intro n
  induction n with
  | zero => intro v0 v1 X ls h; cases h
  | succ n ih =>
    intro v0 v1 X ls h hl
    rw [f_X10_run_2] at h
    refine hx_iload_n C dX10_run_2 rfl (lv_at hl 1 rfl) ?_
    refine hx_sipush (v := 284) C dX10_run_3 (by decide) ?_
    refine hx_icmp_ge (tgt := 27) C dX10_run_6 (by decide) (fun c32 => ?_) (fun c32 => ?_)
    · have h := hx_pos c32 h
      refine hx_iconst (v := 0) C dX10_run_27 (by decide) ?_
      refine hx_istore_n (lv' := [(1, .int 0), (0, .ref (ad v0))]) C dX10_run_28 rfl hl (by decide) rfl (fun ls hl => ?_)
      refine hx_aload_n C dX10_run_29 rfl (lv_at hl 1 rfl) ?_
      refine hx_iconst (v := 0) C dX10_run_30 (by decide) ?_
      obtain ⟨g33, h⟩ := hx_gd h
      refine hx_puti C (ci := 10) (j := 10) tyX10 tyX10_ok nmX10 g33 uX10_run_10 (by decide) rfl (by decide) rfl (by decide +kernel) rfl rfl (tyX10_ok 10 (by decide)) dX10_run_31 rfl rfl ?_
      refine hx_aload_n C dX10_run_34 rfl (lv_at hl 1 rfl) ?_
      obtain ⟨r34, e35, h⟩ := hx_bind h
      refine hx_callV (As := []) (rest := []) (n := 0) (Cn := RX10) C (c_X10_reads e35) gX10_run_X10_reads g33 (by decide) rfl (by decide +kernel) ⟨Nat.le_of_ble_eq_true rfl, Nat.le_of_ble_eq_true rfl⟩ rfl rfl rfl ⟨Nat.zero_le _, Nat.zero_le _⟩ hl.1 rfl rfl (Nat.le_of_ble_eq_true rfl) dX10_run_35 ?_
      exact w_X10_run_38 C hr u_fuel v0 0 r34 ls h (lv_sub hl [1, 0] rfl)
    · have h := hx_neg c32 h
      refine hx_aload_n C dX10_run_9 rfl (lv_at hl 0 rfl) ?_
      obtain ⟨g36, h⟩ := hx_gd h
      obtain ⟨q37, e38, h⟩ := hx_bind h
      refine hx_getr C (ci := 10) (j := 2) g36 uX10_run_10 (by decide) rfl (by decide) rfl (by decide +kernel) rfl dX10_run_10 e38 ?_
      refine hx_iload_n C dX10_run_13 rfl (lv_at hl 1 rfl) ?_
      refine hx_aload_n C dX10_run_14 rfl (lv_at hl 0 rfl) ?_
      obtain ⟨q39, e40, h⟩ := hx_bind h
      refine hx_getr C (ci := 10) (j := 0) g36 uX10_run_10 (by decide) rfl (by decide) rfl (by decide +kernel) rfl dX10_run_15 e40 ?_
      refine hx_iload_n C dX10_run_18 rfl (lv_at hl 1 rfl) ?_
      obtain ⟨g41, h⟩ := hx_gd h
      obtain ⟨g42, h⟩ := hx_gd h
      refine hx_iald (n := (Int32.toNatClampNeg v1)) C g41 g42 rfl dX10_run_19 ?_
      obtain ⟨g43, h⟩ := hx_gd h
      obtain ⟨g44, h⟩ := hx_gd h
      refine hx_iast (n := (Int32.toNatClampNeg v1)) C g43 g44 rfl dX10_run_20 ?_
      refine hx_iinc (v := v1 + 1) (lv' := [(1, .int (v1 + 1)), (0, .ref (ad v0))]) C dX10_run_21 hl (k := 1) rfl rfl (by decide) rfl (fun ls hl => ?_)
      refine hx_goto (tgt := 2) C dX10_run_24 (by decide) ?_
      exact ih v0 (v1 + 1) (smi X q37 (Int32.toNatClampNeg v1) (X.1 q39 (Int32.toNatClampNeg v1))) ls h (lv_sub hl [1, 0] rfl)
def f_X10_run (L : hL) (X : hX) (this : Nat) : Option (Int32 × hX) :=
  f_X10_run_2 L u_fuel this 0 X
set_option maxRecDepth 100000 in
set_option maxHeartbeats 4000000 in
theorem c_X10_run {l : Launch} {dC : Nat → ClassId} {dI : Nat → Nat → Nat} {cy : Nat → ClassId} {ad : Nat → Nat} {L : hL} {X : hX} {this : Nat} {r : Int32} {X' : hX} (h : f_X10_run L X this = some (r, X')) : hMet l dC dI cy ad L yX10_run wsX10_run ({ frames := 6, cells := 0, slots := 0, locals := 141 } : Room) [.ref (ad this)] X (some (.int r)) X' := by
  unfold f_X10_run at h
  refine hx_enter RX10 (plainFor_of_name (by decide)) rfl rfl (Nat.le_of_ble_eq_true rfl) (fun p e s m args below meth c C hr hnm ls hl => ?_)
  have hl : lv_has ls 5 [(0, .ref (ad this))] := hl
  refine hx_iconst (v := 0) C dX10_run_0 (by decide) ?_
  refine hx_istore_n (lv' := [(1, .int 0), (0, .ref (ad this))]) C dX10_run_1 rfl hl (by decide) rfl (fun ls hl => ?_)
  exact w_X10_run_2 C hr u_fuel this 0 X ls h (lv_sub hl [1, 0] rfl)
theorem uX10_failure_10 : ∀ w ∈ u_ws RX10 TX10 15, w ∈ wsX10_failure := by decide +kernel
def f_X10_failure (L : hL) (X : hX) (this : Nat) (a1 : Int32) : Option (Int32) :=
  (f_X10_in L X a1 0 4).bind fun r1 =>
  if r1 = 0 then
    some (-100001)
  else
    if tk L this 10 then
    if (X.1 this 8) = 0 then
      some (-100009)
    else
      (X.2 this 7).bind fun q6 =>
      if tk L q6 12 then
      if hin a1 (L.2.2 q6) then
      some (X.1 q6 (Int32.toNatClampNeg a1))
      else none
      else none
    else none
set_option maxRecDepth 100000 in
set_option maxHeartbeats 4000000 in
theorem c_X10_failure {l : Launch} {dC : Nat → ClassId} {dI : Nat → Nat → Nat} {cy : Nat → ClassId} {ad : Nat → Nat} {L : hL} {X : hX} {this : Nat} {a1 : Int32} {r : Int32} (h : f_X10_failure L X this a1 = some r) : hMet l dC dI cy ad L yX10_failure wsX10_failure ({ frames := 1, cells := 0, slots := 0, locals := 22 } : Room) [.ref (ad this), .int a1] X (some (.int r)) X := by
  unfold f_X10_failure at h
  refine hx_enter RX10 (plainFor_of_name (by decide)) rfl rfl (Nat.le_of_ble_eq_true rfl) (fun p e s m args below meth c C hr hnm ls hl => ?_)
  have hl : lv_has ls 2 [(0, .ref (ad this)), (1, .int a1)] := hl
  refine hx_iload_n C dX10_failure_0 rfl (lv_at hl 1 rfl) ?_
  refine hx_iconst (v := 0) C dX10_failure_1 (by decide) ?_
  refine hx_iconst (v := 4) C dX10_failure_2 (by decide) ?_
  obtain ⟨r1, e2, h⟩ := hx_bind h
  refine hx_callS (As := [.int a1, .int 0, .int 4]) (rest := []) (n := 3) C (c_X10_in e2) gX10_failure_X10_in (by decide +kernel) ⟨Nat.le_of_ble_eq_true rfl, Nat.le_of_ble_eq_true rfl⟩ rfl rfl rfl ⟨Nat.zero_le _, Nat.zero_le _⟩ hl.1 rfl rfl (Nat.le_of_ble_eq_true rfl) dX10_failure_3 ?_
  refine hx_if_ne (tgt := 12) C dX10_failure_6 (by decide) (fun c3 => ?_) (fun c3 => ?_)
  · have h := hx_neg c3 h
    refine hx_aload_n C dX10_failure_12 rfl (lv_at hl 0 rfl) ?_
    obtain ⟨g4, h⟩ := hx_gd h
    refine hx_geti C (ci := 10) (j := 8) g4 uX10_failure_10 (by decide) rfl (by decide) rfl (by decide +kernel) rfl dX10_failure_13 ?_
    refine hx_if_eq (tgt := 28) C dX10_failure_16 (by decide) (fun c5 => ?_) (fun c5 => ?_)
    · have h := hx_pos c5 h
      refine hx_ldc (v := (-100009)) C (by decide +kernel) dX10_failure_28 ?_
      obtain rfl := hx_some1 h
      exact hx_iret C hr dX10_failure_30
    · have h := hx_neg c5 h
      refine hx_aload_n C dX10_failure_19 rfl (lv_at hl 0 rfl) ?_
      obtain ⟨q6, e7, h⟩ := hx_bind h
      refine hx_getr C (ci := 10) (j := 7) g4 uX10_failure_10 (by decide) rfl (by decide) rfl (by decide +kernel) rfl dX10_failure_20 e7 ?_
      refine hx_iload_n C dX10_failure_23 rfl (lv_at hl 1 rfl) ?_
      obtain ⟨g8, h⟩ := hx_gd h
      obtain ⟨g9, h⟩ := hx_gd h
      refine hx_iald (n := (Int32.toNatClampNeg a1)) C g8 g9 rfl dX10_failure_24 ?_
      refine hx_goto (tgt := 30) C dX10_failure_25 (by decide) ?_
      obtain rfl := hx_some1 h
      exact hx_iret C hr dX10_failure_30
  · have h := hx_pos c3 h
    refine hx_ldc (v := (-100001)) C (by decide +kernel) dX10_failure_9 ?_
    obtain rfl := hx_some1 h
    exact hx_iret C hr dX10_failure_11
theorem uX10_kept_10 : ∀ w ∈ u_ws RX10 TX10 15, w ∈ wsX10_kept := by decide +kernel
def f_X10_kept_4 (L : hL) : Nat → Nat → Int32 → Int32 → hX → Option (Int32)
  | 0, _, _, _, _ => none
  | n + 1, v0, v1, v2, X =>
    if tk L v0 10 then
    (X.2 v0 0).bind fun q2 =>
    if tk L q2 12 then
    if 14 < L.2.2 q2 then
    if (X.1 q2 14) ≤ v2 then
      some v1
    else
      (f_X10_of L X v0 v2 1).bind fun r7 =>
      f_X10_kept_4 L n v0 (v1 + r7) (v2 + 1) X
    else none
    else none
    else none
set_option maxRecDepth 100000 in
set_option maxHeartbeats 4000000 in
theorem w_X10_kept_4 {p : Program} {l : Launch} {e : Env} {s : State} {m : MethodId} {args : Array Value} {below : List Frame} {meth : Method} {c : Code} {dC : Nat → ClassId} {dI : Nat → Nat → Nat} {cy : Nat → ClassId} {ad : Nat → Nat} {L : hL} {r : Int32} (C : hC p s m args meth c dC dI cy ad L (hA ad L s.heap.size) cX10_kept 3 wsX10_kept RX10) (hr : meth.sig.returnType = (some .int)) : ∀ (n : Nat) (v0 : Nat) (v1 : Int32) (v2 : Int32) (X : hX) (ls : Array Slot), f_X10_kept_4 L n v0 v1 v2 X = some r → lv_has ls 3 [(0, .ref (ad v0)), (1, .int v1), (2, .int v2)] → hG p l e (headSpec wsX10_kept ({ frames := 1, cells := 0, slots := 0, locals := 22 } : Room)).room s m args below meth c dC dI cy ad L (hA ad L s.heap.size) 0 0 (MQ below (hQ dC dI cy ad L s.heap.size (some (.int r)) X) args s 0 0 (hA ad L s.heap.size)) X 4 ls [] := by
  intro n
  induction n with
  | zero => intro v0 v1 v2 X ls h; cases h
  | succ n ih =>
    intro v0 v1 v2 X ls h hl
    rw [f_X10_kept_4] at h
    refine hx_iload_n C dX10_kept_4 rfl (lv_at hl 2 rfl) ?_
    refine hx_aload_n C dX10_kept_5 rfl (lv_at hl 0 rfl) ?_
    obtain ⟨g1, h⟩ := hx_gd h
    obtain ⟨q2, e3, h⟩ := hx_bind h
    refine hx_getr C (ci := 10) (j := 0) g1 uX10_kept_10 (by decide) rfl (by decide) rfl (by decide +kernel) rfl dX10_kept_6 e3 ?_
    refine hx_bipush (v := 14) C dX10_kept_9 (by decide) ?_
    obtain ⟨g4, h⟩ := hx_gd h
    obtain ⟨g5, h⟩ := hx_gd h
    refine hx_iald (n := 14) C g4 (hin_lit (i := 14) (by decide) rfl g5) rfl dX10_kept_11 ?_
    refine hx_icmp_ge (tgt := 30) C dX10_kept_12 (by decide) (fun c6 => ?_) (fun c6 => ?_)
    · have h := hx_pos c6 h
      refine hx_iload_n C dX10_kept_30 rfl (lv_at hl 1 rfl) ?_
      obtain rfl := hx_some1 h
      exact hx_iret C hr dX10_kept_31
    · have h := hx_neg c6 h
      refine hx_iload_n C dX10_kept_15 rfl (lv_at hl 1 rfl) ?_
      refine hx_aload_n C dX10_kept_16 rfl (lv_at hl 0 rfl) ?_
      refine hx_iload_n C dX10_kept_17 rfl (lv_at hl 2 rfl) ?_
      refine hx_iconst (v := 1) C dX10_kept_18 (by decide) ?_
      obtain ⟨r7, e8, h⟩ := hx_bind h
      refine hx_callV (As := [.int v2, .int 1]) (rest := [.int v1]) (n := 2) (Cn := RX10) C (c_X10_of e8) gX10_kept_X10_of g1 (by decide) rfl (by decide +kernel) ⟨Nat.le_of_ble_eq_true rfl, Nat.le_of_ble_eq_true rfl⟩ rfl rfl rfl ⟨Nat.zero_le _, Nat.zero_le _⟩ hl.1 rfl rfl (Nat.le_of_ble_eq_true rfl) dX10_kept_19 ?_
      refine hx_iadd C dX10_kept_22 ?_
      refine hx_istore_n (lv' := [(1, .int (v1 + r7)), (0, .ref (ad v0)), (2, .int v2)]) C dX10_kept_23 rfl hl (by decide) rfl (fun ls hl => ?_)
      refine hx_iinc (v := v2 + 1) (lv' := [(2, .int (v2 + 1)), (1, .int (v1 + r7)), (0, .ref (ad v0))]) C dX10_kept_24 hl (k := 2) rfl rfl (by decide) rfl (fun ls hl => ?_)
      refine hx_goto (tgt := 4) C dX10_kept_27 (by decide) ?_
      exact ih v0 (v1 + r7) (v2 + 1) X ls h (lv_sub hl [2, 1, 0] rfl)
def f_X10_kept (L : hL) (X : hX) (this : Nat) : Option (Int32) :=
  f_X10_kept_4 L u_fuel this 0 0 X
set_option maxRecDepth 100000 in
set_option maxHeartbeats 4000000 in
theorem c_X10_kept {l : Launch} {dC : Nat → ClassId} {dI : Nat → Nat → Nat} {cy : Nat → ClassId} {ad : Nat → Nat} {L : hL} {X : hX} {this : Nat} {r : Int32} (h : f_X10_kept L X this = some r) : hMet l dC dI cy ad L yX10_kept wsX10_kept ({ frames := 1, cells := 0, slots := 0, locals := 22 } : Room) [.ref (ad this)] X (some (.int r)) X := by
  unfold f_X10_kept at h
  refine hx_enter RX10 (plainFor_of_name (by decide)) rfl rfl (Nat.le_of_ble_eq_true rfl) (fun p e s m args below meth c C hr hnm ls hl => ?_)
  have hl : lv_has ls 3 [(0, .ref (ad this))] := hl
  refine hx_iconst (v := 0) C dX10_kept_0 (by decide) ?_
  refine hx_istore_n (lv' := [(1, .int 0), (0, .ref (ad this))]) C dX10_kept_1 rfl hl (by decide) rfl (fun ls hl => ?_)
  refine hx_iconst (v := 0) C dX10_kept_2 (by decide) ?_
  refine hx_istore_n (lv' := [(2, .int 0), (1, .int 0), (0, .ref (ad this))]) C dX10_kept_3 rfl hl (by decide) rfl (fun ls hl => ?_)
  exact w_X10_kept_4 C hr u_fuel this 0 0 X ls h (lv_sub hl [2, 1, 0] rfl)
theorem uX10_stocks_10 : ∀ w ∈ u_ws RX10 TX10 15, w ∈ wsX10_stocks := by decide +kernel
def f_X10_stocks_4 (L : hL) : Nat → Nat → Int32 → Int32 → hX → Option (Int32)
  | 0, _, _, _, _ => none
  | n + 1, v0, v1, v2, X =>
    if tk L v0 10 then
    (X.2 v0 0).bind fun q2 =>
    if tk L q2 12 then
    if 15 < L.2.2 q2 then
    if (X.1 q2 15) ≤ v2 then
      some v1
    else
      (f_X10_priced L X v0 v2 2).bind fun r7 =>
      f_X10_stocks_4 L n v0 (v1 + r7) (v2 + 1) X
    else none
    else none
    else none
set_option maxRecDepth 100000 in
set_option maxHeartbeats 4000000 in
theorem w_X10_stocks_4 {p : Program} {l : Launch} {e : Env} {s : State} {m : MethodId} {args : Array Value} {below : List Frame} {meth : Method} {c : Code} {dC : Nat → ClassId} {dI : Nat → Nat → Nat} {cy : Nat → ClassId} {ad : Nat → Nat} {L : hL} {r : Int32} (C : hC p s m args meth c dC dI cy ad L (hA ad L s.heap.size) cX10_stocks 3 wsX10_stocks RX10) (hr : meth.sig.returnType = (some .int)) : ∀ (n : Nat) (v0 : Nat) (v1 : Int32) (v2 : Int32) (X : hX) (ls : Array Slot), f_X10_stocks_4 L n v0 v1 v2 X = some r → lv_has ls 3 [(0, .ref (ad v0)), (1, .int v1), (2, .int v2)] → hG p l e (headSpec wsX10_stocks ({ frames := 1, cells := 0, slots := 0, locals := 22 } : Room)).room s m args below meth c dC dI cy ad L (hA ad L s.heap.size) 0 0 (MQ below (hQ dC dI cy ad L s.heap.size (some (.int r)) X) args s 0 0 (hA ad L s.heap.size)) X 4 ls [] := by
  intro n
  induction n with
  | zero => intro v0 v1 v2 X ls h; cases h
  | succ n ih =>
    intro v0 v1 v2 X ls h hl
    rw [f_X10_stocks_4] at h
    refine hx_iload_n C dX10_stocks_4 rfl (lv_at hl 2 rfl) ?_
    refine hx_aload_n C dX10_stocks_5 rfl (lv_at hl 0 rfl) ?_
    obtain ⟨g1, h⟩ := hx_gd h
    obtain ⟨q2, e3, h⟩ := hx_bind h
    refine hx_getr C (ci := 10) (j := 0) g1 uX10_stocks_10 (by decide) rfl (by decide) rfl (by decide +kernel) rfl dX10_stocks_6 e3 ?_
    refine hx_bipush (v := 15) C dX10_stocks_9 (by decide) ?_
    obtain ⟨g4, h⟩ := hx_gd h
    obtain ⟨g5, h⟩ := hx_gd h
    refine hx_iald (n := 15) C g4 (hin_lit (i := 15) (by decide) rfl g5) rfl dX10_stocks_11 ?_
    refine hx_icmp_ge (tgt := 30) C dX10_stocks_12 (by decide) (fun c6 => ?_) (fun c6 => ?_)
    · have h := hx_pos c6 h
      refine hx_iload_n C dX10_stocks_30 rfl (lv_at hl 1 rfl) ?_
      obtain rfl := hx_some1 h
      exact hx_iret C hr dX10_stocks_31
    · have h := hx_neg c6 h
      refine hx_iload_n C dX10_stocks_15 rfl (lv_at hl 1 rfl) ?_
      refine hx_aload_n C dX10_stocks_16 rfl (lv_at hl 0 rfl) ?_
      refine hx_iload_n C dX10_stocks_17 rfl (lv_at hl 2 rfl) ?_
      refine hx_iconst (v := 2) C dX10_stocks_18 (by decide) ?_
      obtain ⟨r7, e8, h⟩ := hx_bind h
      refine hx_callV (As := [.int v2, .int 2]) (rest := [.int v1]) (n := 2) (Cn := RX10) C (c_X10_priced e8) gX10_stocks_X10_priced g1 (by decide) rfl (by decide +kernel) ⟨Nat.le_of_ble_eq_true rfl, Nat.le_of_ble_eq_true rfl⟩ rfl rfl rfl ⟨Nat.zero_le _, Nat.zero_le _⟩ hl.1 rfl rfl (Nat.le_of_ble_eq_true rfl) dX10_stocks_19 ?_
      refine hx_iadd C dX10_stocks_22 ?_
      refine hx_istore_n (lv' := [(1, .int (v1 + r7)), (0, .ref (ad v0)), (2, .int v2)]) C dX10_stocks_23 rfl hl (by decide) rfl (fun ls hl => ?_)
      refine hx_iinc (v := v2 + 1) (lv' := [(2, .int (v2 + 1)), (1, .int (v1 + r7)), (0, .ref (ad v0))]) C dX10_stocks_24 hl (k := 2) rfl rfl (by decide) rfl (fun ls hl => ?_)
      refine hx_goto (tgt := 4) C dX10_stocks_27 (by decide) ?_
      exact ih v0 (v1 + r7) (v2 + 1) X ls h (lv_sub hl [2, 1, 0] rfl)
def f_X10_stocks (L : hL) (X : hX) (this : Nat) : Option (Int32) :=
  f_X10_stocks_4 L u_fuel this 0 0 X
set_option maxRecDepth 100000 in
set_option maxHeartbeats 4000000 in
theorem c_X10_stocks {l : Launch} {dC : Nat → ClassId} {dI : Nat → Nat → Nat} {cy : Nat → ClassId} {ad : Nat → Nat} {L : hL} {X : hX} {this : Nat} {r : Int32} (h : f_X10_stocks L X this = some r) : hMet l dC dI cy ad L yX10_stocks wsX10_stocks ({ frames := 1, cells := 0, slots := 0, locals := 22 } : Room) [.ref (ad this)] X (some (.int r)) X := by
  unfold f_X10_stocks at h
  refine hx_enter RX10 (plainFor_of_name (by decide)) rfl rfl (Nat.le_of_ble_eq_true rfl) (fun p e s m args below meth c C hr hnm ls hl => ?_)
  have hl : lv_has ls 3 [(0, .ref (ad this))] := hl
  refine hx_iconst (v := 0) C dX10_stocks_0 (by decide) ?_
  refine hx_istore_n (lv' := [(1, .int 0), (0, .ref (ad this))]) C dX10_stocks_1 rfl hl (by decide) rfl (fun ls hl => ?_)
  refine hx_iconst (v := 0) C dX10_stocks_2 (by decide) ?_
  refine hx_istore_n (lv' := [(2, .int 0), (1, .int 0), (0, .ref (ad this))]) C dX10_stocks_3 rfl hl (by decide) rfl (fun ls hl => ?_)
  exact w_X10_stocks_4 C hr u_fuel this 0 0 X ls h (lv_sub hl [2, 1, 0] rfl)
theorem uX10_count_10 : ∀ w ∈ u_ws RX10 TX10 15, w ∈ wsX10_count := by decide +kernel
def f_X10_count (L : hL) (X : hX) (this : Nat) (a1 : Int32) : Option (Int32) :=
  if a1 = 0 then
    if tk L this 10 then
    (X.2 this 0).bind fun q3 =>
    if tk L q3 12 then
    if hin (8 + a1) (L.2.2 q3) then
    some (X.1 q3 (Int32.toNatClampNeg (8 + a1)))
    else none
    else none
    else none
  else
  if a1 = 1 then
    if tk L this 10 then
    (X.2 this 0).bind fun q9 =>
    if tk L q9 12 then
    if hin (8 + a1) (L.2.2 q9) then
    some (X.1 q9 (Int32.toNatClampNeg (8 + a1)))
    else none
    else none
    else none
  else
  if a1 = 2 then
    if tk L this 10 then
    (X.2 this 0).bind fun q15 =>
    if tk L q15 12 then
    if hin (8 + a1) (L.2.2 q15) then
    some (X.1 q15 (Int32.toNatClampNeg (8 + a1)))
    else none
    else none
    else none
  else
  if a1 = 3 then
    if tk L this 10 then
    (X.2 this 0).bind fun q21 =>
    if tk L q21 12 then
    if hin (8 + a1) (L.2.2 q21) then
    some (X.1 q21 (Int32.toNatClampNeg (8 + a1)))
    else none
    else none
    else none
  else
  if a1 = 4 then
    if tk L this 10 then
    (X.2 this 0).bind fun q27 =>
    if tk L q27 12 then
    if hin (8 + a1) (L.2.2 q27) then
    some (X.1 q27 (Int32.toNatClampNeg (8 + a1)))
    else none
    else none
    else none
  else
  if a1 = 5 then
    if tk L this 10 then
    (X.2 this 0).bind fun q33 =>
    if tk L q33 12 then
    if 14 < L.2.2 q33 then
    some (X.1 q33 14)
    else none
    else none
    else none
  else
  if a1 = 6 then
    if tk L this 10 then
    (X.2 this 0).bind fun q39 =>
    if tk L q39 12 then
    if 15 < L.2.2 q39 then
    some (X.1 q39 15)
    else none
    else none
    else none
  else
  if a1 = 7 then
    (f_X10_kept L X this).bind fun r44 =>
    if tk L this 10 then
    some r44
    else none
  else
  if a1 = 8 then
    if tk L this 10 then
    (X.2 this 0).bind fun q49 =>
    if tk L q49 12 then
    if 13 < L.2.2 q49 then
    some (X.1 q49 13)
    else none
    else none
    else none
  else
  if a1 = 9 then
    (f_X10_pointsOfAll L X this).bind fun r54 =>
    if tk L this 10 then
    some r54
    else none
  else
  if a1 = 10 then
    (f_X10_stocks L X this).bind fun r58 =>
    if tk L this 10 then
    some r58
    else none
  else
  if a1 = 11 then
    if tk L this 10 then
    (X.2 this 0).bind fun q63 =>
    if tk L q63 12 then
    if 94 < L.2.2 q63 then
    if 189 < L.2.2 q63 then
    some ((X.1 q63 94) + (X.1 q63 189))
    else none
    else none
    else none
    else none
  else
  if a1 = 12 then
    if tk L this 10 then
    some (X.1 this 4)
    else none
  else
  if a1 = 13 then
    if tk L this 10 then
    some (X.1 this 6)
    else none
  else
  some (-100001)
set_option maxRecDepth 100000 in
set_option maxHeartbeats 4000000 in
theorem c_X10_count {l : Launch} {dC : Nat → ClassId} {dI : Nat → Nat → Nat} {cy : Nat → ClassId} {ad : Nat → Nat} {L : hL} {X : hX} {this : Nat} {a1 : Int32} {r : Int32} (h : f_X10_count L X this a1 = some r) : hMet l dC dI cy ad L yX10_count wsX10_count ({ frames := 2, cells := 0, slots := 0, locals := 44 } : Room) [.ref (ad this), .int a1] X (some (.int r)) X := by
  unfold f_X10_count at h
  refine hx_enter RX10 (plainFor_of_name (by decide)) rfl rfl (Nat.le_of_ble_eq_true rfl) (fun p e s m args below meth c C hr hnm ls hl => ?_)
  have hl : lv_has ls 2 [(0, .ref (ad this)), (1, .int a1)] := hl
  refine hx_iload_n C dX10_count_0 rfl (lv_at hl 1 rfl) ?_
  by_cases c1 : a1 = 0
  · have h := hx_pos c1 h
    have hz : Int32.toInt a1 = 0 := by rw [c1]; rfl
    refine hx_tableIn (tgt := 72) C dX10_count_1 (by rw [hz] <;> decide) (by rw [hz] <;> decide) (off := 71) (by rw [hz] <;> rfl) (by decide) ?_
    refine hx_aload_n C dX10_count_72 rfl (lv_at hl 0 rfl) ?_
    obtain ⟨g2, h⟩ := hx_gd h
    obtain ⟨q3, e4, h⟩ := hx_bind h
    refine hx_getr C (ci := 10) (j := 0) g2 uX10_count_10 (by decide) rfl (by decide) rfl (by decide +kernel) rfl dX10_count_73 e4 ?_
    refine hx_bipush (v := 8) C dX10_count_76 (by decide) ?_
    refine hx_iload_n C dX10_count_78 rfl (lv_at hl 1 rfl) ?_
    refine hx_iadd C dX10_count_79 ?_
    obtain ⟨g5, h⟩ := hx_gd h
    obtain ⟨g6, h⟩ := hx_gd h
    refine hx_iald (n := (Int32.toNatClampNeg (8 + a1))) C g5 g6 rfl dX10_count_80 ?_
    obtain rfl := hx_some1 h
    exact hx_iret C hr dX10_count_81
  have h := hx_neg c1 h
  have zc1 : Int32.toInt a1 ≠ 0 := fun z => c1 (Int32.toInt_inj.mp (z.trans rfl))
  by_cases c7 : a1 = 1
  · have h := hx_pos c7 h
    have hz : Int32.toInt a1 = 1 := by rw [c7]; rfl
    refine hx_tableIn (tgt := 72) C dX10_count_1 (by rw [hz] <;> decide) (by rw [hz] <;> decide) (off := 71) (by rw [hz] <;> rfl) (by decide) ?_
    refine hx_aload_n C dX10_count_72 rfl (lv_at hl 0 rfl) ?_
    obtain ⟨g8, h⟩ := hx_gd h
    obtain ⟨q9, e10, h⟩ := hx_bind h
    refine hx_getr C (ci := 10) (j := 0) g8 uX10_count_10 (by decide) rfl (by decide) rfl (by decide +kernel) rfl dX10_count_73 e10 ?_
    refine hx_bipush (v := 8) C dX10_count_76 (by decide) ?_
    refine hx_iload_n C dX10_count_78 rfl (lv_at hl 1 rfl) ?_
    refine hx_iadd C dX10_count_79 ?_
    obtain ⟨g11, h⟩ := hx_gd h
    obtain ⟨g12, h⟩ := hx_gd h
    refine hx_iald (n := (Int32.toNatClampNeg (8 + a1))) C g11 g12 rfl dX10_count_80 ?_
    obtain rfl := hx_some1 h
    exact hx_iret C hr dX10_count_81
  have h := hx_neg c7 h
  have zc7 : Int32.toInt a1 ≠ 1 := fun z => c7 (Int32.toInt_inj.mp (z.trans rfl))
  by_cases c13 : a1 = 2
  · have h := hx_pos c13 h
    have hz : Int32.toInt a1 = 2 := by rw [c13]; rfl
    refine hx_tableIn (tgt := 72) C dX10_count_1 (by rw [hz] <;> decide) (by rw [hz] <;> decide) (off := 71) (by rw [hz] <;> rfl) (by decide) ?_
    refine hx_aload_n C dX10_count_72 rfl (lv_at hl 0 rfl) ?_
    obtain ⟨g14, h⟩ := hx_gd h
    obtain ⟨q15, e16, h⟩ := hx_bind h
    refine hx_getr C (ci := 10) (j := 0) g14 uX10_count_10 (by decide) rfl (by decide) rfl (by decide +kernel) rfl dX10_count_73 e16 ?_
    refine hx_bipush (v := 8) C dX10_count_76 (by decide) ?_
    refine hx_iload_n C dX10_count_78 rfl (lv_at hl 1 rfl) ?_
    refine hx_iadd C dX10_count_79 ?_
    obtain ⟨g17, h⟩ := hx_gd h
    obtain ⟨g18, h⟩ := hx_gd h
    refine hx_iald (n := (Int32.toNatClampNeg (8 + a1))) C g17 g18 rfl dX10_count_80 ?_
    obtain rfl := hx_some1 h
    exact hx_iret C hr dX10_count_81
  have h := hx_neg c13 h
  have zc13 : Int32.toInt a1 ≠ 2 := fun z => c13 (Int32.toInt_inj.mp (z.trans rfl))
  by_cases c19 : a1 = 3
  · have h := hx_pos c19 h
    have hz : Int32.toInt a1 = 3 := by rw [c19]; rfl
    refine hx_tableIn (tgt := 72) C dX10_count_1 (by rw [hz] <;> decide) (by rw [hz] <;> decide) (off := 71) (by rw [hz] <;> rfl) (by decide) ?_
    refine hx_aload_n C dX10_count_72 rfl (lv_at hl 0 rfl) ?_
    obtain ⟨g20, h⟩ := hx_gd h
    obtain ⟨q21, e22, h⟩ := hx_bind h
    refine hx_getr C (ci := 10) (j := 0) g20 uX10_count_10 (by decide) rfl (by decide) rfl (by decide +kernel) rfl dX10_count_73 e22 ?_
    refine hx_bipush (v := 8) C dX10_count_76 (by decide) ?_
    refine hx_iload_n C dX10_count_78 rfl (lv_at hl 1 rfl) ?_
    refine hx_iadd C dX10_count_79 ?_
    obtain ⟨g23, h⟩ := hx_gd h
    obtain ⟨g24, h⟩ := hx_gd h
    refine hx_iald (n := (Int32.toNatClampNeg (8 + a1))) C g23 g24 rfl dX10_count_80 ?_
    obtain rfl := hx_some1 h
    exact hx_iret C hr dX10_count_81
  have h := hx_neg c19 h
  have zc19 : Int32.toInt a1 ≠ 3 := fun z => c19 (Int32.toInt_inj.mp (z.trans rfl))
  by_cases c25 : a1 = 4
  · have h := hx_pos c25 h
    have hz : Int32.toInt a1 = 4 := by rw [c25]; rfl
    refine hx_tableIn (tgt := 72) C dX10_count_1 (by rw [hz] <;> decide) (by rw [hz] <;> decide) (off := 71) (by rw [hz] <;> rfl) (by decide) ?_
    refine hx_aload_n C dX10_count_72 rfl (lv_at hl 0 rfl) ?_
    obtain ⟨g26, h⟩ := hx_gd h
    obtain ⟨q27, e28, h⟩ := hx_bind h
    refine hx_getr C (ci := 10) (j := 0) g26 uX10_count_10 (by decide) rfl (by decide) rfl (by decide +kernel) rfl dX10_count_73 e28 ?_
    refine hx_bipush (v := 8) C dX10_count_76 (by decide) ?_
    refine hx_iload_n C dX10_count_78 rfl (lv_at hl 1 rfl) ?_
    refine hx_iadd C dX10_count_79 ?_
    obtain ⟨g29, h⟩ := hx_gd h
    obtain ⟨g30, h⟩ := hx_gd h
    refine hx_iald (n := (Int32.toNatClampNeg (8 + a1))) C g29 g30 rfl dX10_count_80 ?_
    obtain rfl := hx_some1 h
    exact hx_iret C hr dX10_count_81
  have h := hx_neg c25 h
  have zc25 : Int32.toInt a1 ≠ 4 := fun z => c25 (Int32.toInt_inj.mp (z.trans rfl))
  by_cases c31 : a1 = 5
  · have h := hx_pos c31 h
    have hz : Int32.toInt a1 = 5 := by rw [c31]; rfl
    refine hx_tableIn (tgt := 82) C dX10_count_1 (by rw [hz] <;> decide) (by rw [hz] <;> decide) (off := 81) (by rw [hz] <;> rfl) (by decide) ?_
    refine hx_aload_n C dX10_count_82 rfl (lv_at hl 0 rfl) ?_
    obtain ⟨g32, h⟩ := hx_gd h
    obtain ⟨q33, e34, h⟩ := hx_bind h
    refine hx_getr C (ci := 10) (j := 0) g32 uX10_count_10 (by decide) rfl (by decide) rfl (by decide +kernel) rfl dX10_count_83 e34 ?_
    refine hx_bipush (v := 14) C dX10_count_86 (by decide) ?_
    obtain ⟨g35, h⟩ := hx_gd h
    obtain ⟨g36, h⟩ := hx_gd h
    refine hx_iald (n := 14) C g35 (hin_lit (i := 14) (by decide) rfl g36) rfl dX10_count_88 ?_
    obtain rfl := hx_some1 h
    exact hx_iret C hr dX10_count_89
  have h := hx_neg c31 h
  have zc31 : Int32.toInt a1 ≠ 5 := fun z => c31 (Int32.toInt_inj.mp (z.trans rfl))
  by_cases c37 : a1 = 6
  · have h := hx_pos c37 h
    have hz : Int32.toInt a1 = 6 := by rw [c37]; rfl
    refine hx_tableIn (tgt := 90) C dX10_count_1 (by rw [hz] <;> decide) (by rw [hz] <;> decide) (off := 89) (by rw [hz] <;> rfl) (by decide) ?_
    refine hx_aload_n C dX10_count_90 rfl (lv_at hl 0 rfl) ?_
    obtain ⟨g38, h⟩ := hx_gd h
    obtain ⟨q39, e40, h⟩ := hx_bind h
    refine hx_getr C (ci := 10) (j := 0) g38 uX10_count_10 (by decide) rfl (by decide) rfl (by decide +kernel) rfl dX10_count_91 e40 ?_
    refine hx_bipush (v := 15) C dX10_count_94 (by decide) ?_
    obtain ⟨g41, h⟩ := hx_gd h
    obtain ⟨g42, h⟩ := hx_gd h
    refine hx_iald (n := 15) C g41 (hin_lit (i := 15) (by decide) rfl g42) rfl dX10_count_96 ?_
    obtain rfl := hx_some1 h
    exact hx_iret C hr dX10_count_97
  have h := hx_neg c37 h
  have zc37 : Int32.toInt a1 ≠ 6 := fun z => c37 (Int32.toInt_inj.mp (z.trans rfl))
  by_cases c43 : a1 = 7
  · have h := hx_pos c43 h
    have hz : Int32.toInt a1 = 7 := by rw [c43]; rfl
    refine hx_tableIn (tgt := 98) C dX10_count_1 (by rw [hz] <;> decide) (by rw [hz] <;> decide) (off := 97) (by rw [hz] <;> rfl) (by decide) ?_
    refine hx_aload_n C dX10_count_98 rfl (lv_at hl 0 rfl) ?_
    obtain ⟨r44, e45, h⟩ := hx_bind h
    obtain ⟨g46, h⟩ := hx_gd h
    refine hx_callV (As := []) (rest := []) (n := 0) (Cn := RX10) C (c_X10_kept e45) gX10_count_X10_kept g46 (by decide) rfl (by decide +kernel) ⟨Nat.le_of_ble_eq_true rfl, Nat.le_of_ble_eq_true rfl⟩ rfl rfl rfl ⟨Nat.zero_le _, Nat.zero_le _⟩ hl.1 rfl rfl (Nat.le_of_ble_eq_true rfl) dX10_count_99 ?_
    obtain rfl := hx_some1 h
    exact hx_iret C hr dX10_count_102
  have h := hx_neg c43 h
  have zc43 : Int32.toInt a1 ≠ 7 := fun z => c43 (Int32.toInt_inj.mp (z.trans rfl))
  by_cases c47 : a1 = 8
  · have h := hx_pos c47 h
    have hz : Int32.toInt a1 = 8 := by rw [c47]; rfl
    refine hx_tableIn (tgt := 103) C dX10_count_1 (by rw [hz] <;> decide) (by rw [hz] <;> decide) (off := 102) (by rw [hz] <;> rfl) (by decide) ?_
    refine hx_aload_n C dX10_count_103 rfl (lv_at hl 0 rfl) ?_
    obtain ⟨g48, h⟩ := hx_gd h
    obtain ⟨q49, e50, h⟩ := hx_bind h
    refine hx_getr C (ci := 10) (j := 0) g48 uX10_count_10 (by decide) rfl (by decide) rfl (by decide +kernel) rfl dX10_count_104 e50 ?_
    refine hx_bipush (v := 13) C dX10_count_107 (by decide) ?_
    obtain ⟨g51, h⟩ := hx_gd h
    obtain ⟨g52, h⟩ := hx_gd h
    refine hx_iald (n := 13) C g51 (hin_lit (i := 13) (by decide) rfl g52) rfl dX10_count_109 ?_
    obtain rfl := hx_some1 h
    exact hx_iret C hr dX10_count_110
  have h := hx_neg c47 h
  have zc47 : Int32.toInt a1 ≠ 8 := fun z => c47 (Int32.toInt_inj.mp (z.trans rfl))
  by_cases c53 : a1 = 9
  · have h := hx_pos c53 h
    have hz : Int32.toInt a1 = 9 := by rw [c53]; rfl
    refine hx_tableIn (tgt := 111) C dX10_count_1 (by rw [hz] <;> decide) (by rw [hz] <;> decide) (off := 110) (by rw [hz] <;> rfl) (by decide) ?_
    refine hx_aload_n C dX10_count_111 rfl (lv_at hl 0 rfl) ?_
    obtain ⟨r54, e55, h⟩ := hx_bind h
    obtain ⟨g56, h⟩ := hx_gd h
    refine hx_callV (As := []) (rest := []) (n := 0) (Cn := RX10) C (c_X10_pointsOfAll e55) gX10_count_X10_pointsOfAll g56 (by decide) rfl (by decide +kernel) ⟨Nat.le_of_ble_eq_true rfl, Nat.le_of_ble_eq_true rfl⟩ rfl rfl rfl ⟨Nat.zero_le _, Nat.zero_le _⟩ hl.1 rfl rfl (Nat.le_of_ble_eq_true rfl) dX10_count_112 ?_
    obtain rfl := hx_some1 h
    exact hx_iret C hr dX10_count_115
  have h := hx_neg c53 h
  have zc53 : Int32.toInt a1 ≠ 9 := fun z => c53 (Int32.toInt_inj.mp (z.trans rfl))
  by_cases c57 : a1 = 10
  · have h := hx_pos c57 h
    have hz : Int32.toInt a1 = 10 := by rw [c57]; rfl
    refine hx_tableIn (tgt := 116) C dX10_count_1 (by rw [hz] <;> decide) (by rw [hz] <;> decide) (off := 115) (by rw [hz] <;> rfl) (by decide) ?_
    refine hx_aload_n C dX10_count_116 rfl (lv_at hl 0 rfl) ?_
    obtain ⟨r58, e59, h⟩ := hx_bind h
    obtain ⟨g60, h⟩ := hx_gd h
    refine hx_callV (As := []) (rest := []) (n := 0) (Cn := RX10) C (c_X10_stocks e59) gX10_count_X10_stocks g60 (by decide) rfl (by decide +kernel) ⟨Nat.le_of_ble_eq_true rfl, Nat.le_of_ble_eq_true rfl⟩ rfl rfl rfl ⟨Nat.zero_le _, Nat.zero_le _⟩ hl.1 rfl rfl (Nat.le_of_ble_eq_true rfl) dX10_count_117 ?_
    obtain rfl := hx_some1 h
    exact hx_iret C hr dX10_count_120
  have h := hx_neg c57 h
  have zc57 : Int32.toInt a1 ≠ 10 := fun z => c57 (Int32.toInt_inj.mp (z.trans rfl))
  by_cases c61 : a1 = 11
  · have h := hx_pos c61 h
    have hz : Int32.toInt a1 = 11 := by rw [c61]; rfl
    refine hx_tableIn (tgt := 121) C dX10_count_1 (by rw [hz] <;> decide) (by rw [hz] <;> decide) (off := 120) (by rw [hz] <;> rfl) (by decide) ?_
    refine hx_aload_n C dX10_count_121 rfl (lv_at hl 0 rfl) ?_
    obtain ⟨g62, h⟩ := hx_gd h
    obtain ⟨q63, e64, h⟩ := hx_bind h
    refine hx_getr C (ci := 10) (j := 0) g62 uX10_count_10 (by decide) rfl (by decide) rfl (by decide +kernel) rfl dX10_count_122 e64 ?_
    refine hx_bipush (v := 94) C dX10_count_125 (by decide) ?_
    obtain ⟨g65, h⟩ := hx_gd h
    obtain ⟨g66, h⟩ := hx_gd h
    refine hx_iald (n := 94) C g65 (hin_lit (i := 94) (by decide) rfl g66) rfl dX10_count_127 ?_
    refine hx_aload_n C dX10_count_128 rfl (lv_at hl 0 rfl) ?_
    refine hx_getr C (ci := 10) (j := 0) g62 uX10_count_10 (by decide) rfl (by decide) rfl (by decide +kernel) rfl dX10_count_129 e64 ?_
    refine hx_sipush (v := 189) C dX10_count_132 (by decide) ?_
    obtain ⟨g67, h⟩ := hx_gd h
    refine hx_iald (n := 189) C g65 (hin_lit (i := 189) (by decide) rfl g67) rfl dX10_count_135 ?_
    refine hx_iadd C dX10_count_136 ?_
    obtain rfl := hx_some1 h
    exact hx_iret C hr dX10_count_137
  have h := hx_neg c61 h
  have zc61 : Int32.toInt a1 ≠ 11 := fun z => c61 (Int32.toInt_inj.mp (z.trans rfl))
  by_cases c68 : a1 = 12
  · have h := hx_pos c68 h
    have hz : Int32.toInt a1 = 12 := by rw [c68]; rfl
    refine hx_tableIn (tgt := 138) C dX10_count_1 (by rw [hz] <;> decide) (by rw [hz] <;> decide) (off := 137) (by rw [hz] <;> rfl) (by decide) ?_
    refine hx_aload_n C dX10_count_138 rfl (lv_at hl 0 rfl) ?_
    obtain ⟨g69, h⟩ := hx_gd h
    refine hx_geti C (ci := 10) (j := 4) g69 uX10_count_10 (by decide) rfl (by decide) rfl (by decide +kernel) rfl dX10_count_139 ?_
    obtain rfl := hx_some1 h
    exact hx_iret C hr dX10_count_142
  have h := hx_neg c68 h
  have zc68 : Int32.toInt a1 ≠ 12 := fun z => c68 (Int32.toInt_inj.mp (z.trans rfl))
  by_cases c70 : a1 = 13
  · have h := hx_pos c70 h
    have hz : Int32.toInt a1 = 13 := by rw [c70]; rfl
    refine hx_tableIn (tgt := 143) C dX10_count_1 (by rw [hz] <;> decide) (by rw [hz] <;> decide) (off := 142) (by rw [hz] <;> rfl) (by decide) ?_
    refine hx_aload_n C dX10_count_143 rfl (lv_at hl 0 rfl) ?_
    obtain ⟨g71, h⟩ := hx_gd h
    refine hx_geti C (ci := 10) (j := 6) g71 uX10_count_10 (by decide) rfl (by decide) rfl (by decide +kernel) rfl dX10_count_144 ?_
    obtain rfl := hx_some1 h
    exact hx_iret C hr dX10_count_147
  have h := hx_neg c70 h
  have zc70 : Int32.toInt a1 ≠ 13 := fun z => c70 (Int32.toInt_inj.mp (z.trans rfl))
  refine hx_tableOut (tgt := 148) C dX10_count_1 (by omega) (by decide) ?_
  refine hx_ldc (v := (-100001)) C (by decide +kernel) dX10_count_148 ?_
  obtain rfl := hx_some1 h
  exact hx_iret C hr dX10_count_150
theorem uX10_kind_10 : ∀ w ∈ u_ws RX10 TX10 15, w ∈ wsX10_kind := by decide +kernel
def f_X10_kind (L : hL) (X : hX) (this : Nat) (a1 : Int32) (a2 : Int32) : Option (Int32) :=
  (f_X10_isKind L X a1).bind fun r1 =>
  if r1 = 0 then
    some (-100001)
  else
    (f_X10_in L X a2 0 1).bind fun r4 =>
    if r4 = 0 then
      some (-100001)
    else
      if tk L this 10 then
      (X.2 this 0).bind fun q8 =>
      if tk L q8 12 then
      if hin ((4 * a2) + a1) (L.2.2 q8) then
      some (X.1 q8 (Int32.toNatClampNeg ((4 * a2) + a1)))
      else none
      else none
      else none
set_option maxRecDepth 100000 in
set_option maxHeartbeats 4000000 in
theorem c_X10_kind {l : Launch} {dC : Nat → ClassId} {dI : Nat → Nat → Nat} {cy : Nat → ClassId} {ad : Nat → Nat} {L : hL} {X : hX} {this : Nat} {a1 : Int32} {a2 : Int32} {r : Int32} (h : f_X10_kind L X this a1 a2 = some r) : hMet l dC dI cy ad L yX10_kind wsX10_kind ({ frames := 2, cells := 0, slots := 0, locals := 42 } : Room) [.ref (ad this), .int a1, .int a2] X (some (.int r)) X := by
  unfold f_X10_kind at h
  refine hx_enter RX10 (plainFor_of_name (by decide)) rfl rfl (Nat.le_of_ble_eq_true rfl) (fun p e s m args below meth c C hr hnm ls hl => ?_)
  have hl : lv_has ls 3 [(0, .ref (ad this)), (1, .int a1), (2, .int a2)] := hl
  refine hx_iload_n C dX10_kind_0 rfl (lv_at hl 1 rfl) ?_
  obtain ⟨r1, e2, h⟩ := hx_bind h
  refine hx_callS (As := [.int a1]) (rest := []) (n := 1) C (c_X10_isKind e2) gX10_kind_X10_isKind (by decide +kernel) ⟨Nat.le_of_ble_eq_true rfl, Nat.le_of_ble_eq_true rfl⟩ rfl rfl rfl ⟨Nat.zero_le _, Nat.zero_le _⟩ hl.1 rfl rfl (Nat.le_of_ble_eq_true rfl) dX10_kind_1 ?_
  refine hx_if_eq (tgt := 29) C dX10_kind_4 (by decide) (fun c3 => ?_) (fun c3 => ?_)
  · have h := hx_pos c3 h
    refine hx_ldc (v := (-100001)) C (by decide +kernel) dX10_kind_29 ?_
    obtain rfl := hx_some1 h
    exact hx_iret C hr dX10_kind_31
  · have h := hx_neg c3 h
    refine hx_iload_n C dX10_kind_7 rfl (lv_at hl 2 rfl) ?_
    refine hx_iconst (v := 0) C dX10_kind_8 (by decide) ?_
    refine hx_iconst (v := 1) C dX10_kind_9 (by decide) ?_
    obtain ⟨r4, e5, h⟩ := hx_bind h
    refine hx_callS (As := [.int a2, .int 0, .int 1]) (rest := []) (n := 3) C (c_X10_in e5) gX10_kind_X10_in (by decide +kernel) ⟨Nat.le_of_ble_eq_true rfl, Nat.le_of_ble_eq_true rfl⟩ rfl rfl rfl ⟨Nat.zero_le _, Nat.zero_le _⟩ hl.1 rfl rfl (Nat.le_of_ble_eq_true rfl) dX10_kind_10 ?_
    refine hx_if_eq (tgt := 29) C dX10_kind_13 (by decide) (fun c6 => ?_) (fun c6 => ?_)
    · have h := hx_pos c6 h
      refine hx_ldc (v := (-100001)) C (by decide +kernel) dX10_kind_29 ?_
      obtain rfl := hx_some1 h
      exact hx_iret C hr dX10_kind_31
    · have h := hx_neg c6 h
      refine hx_aload_n C dX10_kind_16 rfl (lv_at hl 0 rfl) ?_
      obtain ⟨g7, h⟩ := hx_gd h
      obtain ⟨q8, e9, h⟩ := hx_bind h
      refine hx_getr C (ci := 10) (j := 0) g7 uX10_kind_10 (by decide) rfl (by decide) rfl (by decide +kernel) rfl dX10_kind_17 e9 ?_
      refine hx_iconst (v := 4) C dX10_kind_20 (by decide) ?_
      refine hx_iload_n C dX10_kind_21 rfl (lv_at hl 2 rfl) ?_
      refine hx_imul C dX10_kind_22 ?_
      refine hx_iload_n C dX10_kind_23 rfl (lv_at hl 1 rfl) ?_
      refine hx_iadd C dX10_kind_24 ?_
      obtain ⟨g10, h⟩ := hx_gd h
      obtain ⟨g11, h⟩ := hx_gd h
      refine hx_iald (n := (Int32.toNatClampNeg ((4 * a2) + a1))) C g10 g11 rfl dX10_kind_25 ?_
      refine hx_goto (tgt := 31) C dX10_kind_26 (by decide) ?_
      obtain rfl := hx_some1 h
      exact hx_iret C hr dX10_kind_31
def f_X10_customer (L : hL) (X : hX) (this : Nat) (a1 : Int32) (a2 : Int32) : Option (Int32) :=
  (f_X10_isCustomer L X this a1).bind fun r1 =>
  if tk L this 10 then
  if r1 = 0 then
    some (-100001)
  else
    (f_X10_in L X a2 0 4).bind fun r5 =>
    if r5 = 0 then
      some (-100001)
    else
      if a2 = 0 then
        (f_X10_of L X this a1 0).bind fun r14 =>
        some r14
      else
        (f_X10_of L X this a1 1).bind fun r9 =>
        if r9 = 0 then
          some (-100009)
        else
          (f_X10_of L X this a1 (a2 + 1)).bind fun r12 =>
          some r12
  else none
set_option maxRecDepth 100000 in
set_option maxHeartbeats 4000000 in
theorem c_X10_customer {l : Launch} {dC : Nat → ClassId} {dI : Nat → Nat → Nat} {cy : Nat → ClassId} {ad : Nat → Nat} {L : hL} {X : hX} {this : Nat} {a1 : Int32} {a2 : Int32} {r : Int32} (h : f_X10_customer L X this a1 a2 = some r) : hMet l dC dI cy ad L yX10_customer wsX10_customer ({ frames := 2, cells := 0, slots := 0, locals := 43 } : Room) [.ref (ad this), .int a1, .int a2] X (some (.int r)) X := by
  unfold f_X10_customer at h
  refine hx_enter RX10 (plainFor_of_name (by decide)) rfl rfl (Nat.le_of_ble_eq_true rfl) (fun p e s m args below meth c C hr hnm ls hl => ?_)
  have hl : lv_has ls 3 [(0, .ref (ad this)), (1, .int a1), (2, .int a2)] := hl
  refine hx_aload_n C dX10_customer_0 rfl (lv_at hl 0 rfl) ?_
  refine hx_iload_n C dX10_customer_1 rfl (lv_at hl 1 rfl) ?_
  obtain ⟨r1, e2, h⟩ := hx_bind h
  obtain ⟨g3, h⟩ := hx_gd h
  refine hx_callV (As := [.int a1]) (rest := []) (n := 1) (Cn := RX10) C (c_X10_isCustomer e2) gX10_customer_X10_isCustomer g3 (by decide) rfl (by decide +kernel) ⟨Nat.le_of_ble_eq_true rfl, Nat.le_of_ble_eq_true rfl⟩ rfl rfl rfl ⟨Nat.zero_le _, Nat.zero_le _⟩ hl.1 rfl rfl (Nat.le_of_ble_eq_true rfl) dX10_customer_2 ?_
  refine hx_if_eq (tgt := 17) C dX10_customer_5 (by decide) (fun c4 => ?_) (fun c4 => ?_)
  · have h := hx_pos c4 h
    refine hx_ldc (v := (-100001)) C (by decide +kernel) dX10_customer_17 ?_
    obtain rfl := hx_some1 h
    exact hx_iret C hr dX10_customer_19
  · have h := hx_neg c4 h
    refine hx_iload_n C dX10_customer_8 rfl (lv_at hl 2 rfl) ?_
    refine hx_iconst (v := 0) C dX10_customer_9 (by decide) ?_
    refine hx_iconst (v := 4) C dX10_customer_10 (by decide) ?_
    obtain ⟨r5, e6, h⟩ := hx_bind h
    refine hx_callS (As := [.int a2, .int 0, .int 4]) (rest := []) (n := 3) C (c_X10_in e6) gX10_customer_X10_in (by decide +kernel) ⟨Nat.le_of_ble_eq_true rfl, Nat.le_of_ble_eq_true rfl⟩ rfl rfl rfl ⟨Nat.zero_le _, Nat.zero_le _⟩ hl.1 rfl rfl (Nat.le_of_ble_eq_true rfl) dX10_customer_11 ?_
    refine hx_if_ne (tgt := 20) C dX10_customer_14 (by decide) (fun c7 => ?_) (fun c7 => ?_)
    · have h := hx_neg c7 h
      refine hx_iload_n C dX10_customer_20 rfl (lv_at hl 2 rfl) ?_
      refine hx_if_ne (tgt := 33) C dX10_customer_21 (by decide) (fun c8 => ?_) (fun c8 => ?_)
      · have h := hx_neg c8 h
        refine hx_aload_n C dX10_customer_33 rfl (lv_at hl 0 rfl) ?_
        refine hx_iload_n C dX10_customer_34 rfl (lv_at hl 1 rfl) ?_
        refine hx_iconst (v := 1) C dX10_customer_35 (by decide) ?_
        obtain ⟨r9, e10, h⟩ := hx_bind h
        refine hx_callV (As := [.int a1, .int 1]) (rest := []) (n := 2) (Cn := RX10) C (c_X10_of e10) gX10_customer_X10_of g3 (by decide) rfl (by decide +kernel) ⟨Nat.le_of_ble_eq_true rfl, Nat.le_of_ble_eq_true rfl⟩ rfl rfl rfl ⟨Nat.zero_le _, Nat.zero_le _⟩ hl.1 rfl rfl (Nat.le_of_ble_eq_true rfl) dX10_customer_36 ?_
        refine hx_if_ne (tgt := 47) C dX10_customer_39 (by decide) (fun c11 => ?_) (fun c11 => ?_)
        · have h := hx_neg c11 h
          refine hx_aload_n C dX10_customer_47 rfl (lv_at hl 0 rfl) ?_
          refine hx_iload_n C dX10_customer_48 rfl (lv_at hl 1 rfl) ?_
          refine hx_iload_n C dX10_customer_49 rfl (lv_at hl 2 rfl) ?_
          refine hx_iconst (v := 1) C dX10_customer_50 (by decide) ?_
          refine hx_iadd C dX10_customer_51 ?_
          obtain ⟨r12, e13, h⟩ := hx_bind h
          refine hx_callV (As := [.int a1, .int (a2 + 1)]) (rest := []) (n := 2) (Cn := RX10) C (c_X10_of e13) gX10_customer_X10_of g3 (by decide) rfl (by decide +kernel) ⟨Nat.le_of_ble_eq_true rfl, Nat.le_of_ble_eq_true rfl⟩ rfl rfl rfl ⟨Nat.zero_le _, Nat.zero_le _⟩ hl.1 rfl rfl (Nat.le_of_ble_eq_true rfl) dX10_customer_52 ?_
          obtain rfl := hx_some1 h
          exact hx_iret C hr dX10_customer_55
        · have h := hx_pos c11 h
          refine hx_ldc (v := (-100009)) C (by decide +kernel) dX10_customer_42 ?_
          refine hx_goto (tgt := 55) C dX10_customer_44 (by decide) ?_
          obtain rfl := hx_some1 h
          exact hx_iret C hr dX10_customer_55
      · have h := hx_pos c8 h
        refine hx_aload_n C dX10_customer_24 rfl (lv_at hl 0 rfl) ?_
        refine hx_iload_n C dX10_customer_25 rfl (lv_at hl 1 rfl) ?_
        refine hx_iconst (v := 0) C dX10_customer_26 (by decide) ?_
        obtain ⟨r14, e15, h⟩ := hx_bind h
        refine hx_callV (As := [.int a1, .int 0]) (rest := []) (n := 2) (Cn := RX10) C (c_X10_of e15) gX10_customer_X10_of g3 (by decide) rfl (by decide +kernel) ⟨Nat.le_of_ble_eq_true rfl, Nat.le_of_ble_eq_true rfl⟩ rfl rfl rfl ⟨Nat.zero_le _, Nat.zero_le _⟩ hl.1 rfl rfl (Nat.le_of_ble_eq_true rfl) dX10_customer_27 ?_
        refine hx_goto (tgt := 55) C dX10_customer_30 (by decide) ?_
        obtain rfl := hx_some1 h
        exact hx_iret C hr dX10_customer_55
    · have h := hx_pos c7 h
      refine hx_ldc (v := (-100001)) C (by decide +kernel) dX10_customer_17 ?_
      obtain rfl := hx_some1 h
      exact hx_iret C hr dX10_customer_19
def f_X10_prize (L : hL) (X : hX) (this : Nat) (a1 : Int32) (a2 : Int32) : Option (Int32) :=
  (f_X10_isPrize L X this a1).bind fun r1 =>
  if tk L this 10 then
  if r1 = 0 then
    some (-100001)
  else
    (f_X10_in L X a2 0 6).bind fun r5 =>
    if r5 = 0 then
      some (-100001)
    else
      (f_X10_priced L X this a1 a2).bind fun r8 =>
      some r8
  else none
set_option maxRecDepth 100000 in
set_option maxHeartbeats 4000000 in
theorem c_X10_prize {l : Launch} {dC : Nat → ClassId} {dI : Nat → Nat → Nat} {cy : Nat → ClassId} {ad : Nat → Nat} {L : hL} {X : hX} {this : Nat} {a1 : Int32} {a2 : Int32} {r : Int32} (h : f_X10_prize L X this a1 a2 = some r) : hMet l dC dI cy ad L yX10_prize wsX10_prize ({ frames := 2, cells := 0, slots := 0, locals := 43 } : Room) [.ref (ad this), .int a1, .int a2] X (some (.int r)) X := by
  unfold f_X10_prize at h
  refine hx_enter RX10 (plainFor_of_name (by decide)) rfl rfl (Nat.le_of_ble_eq_true rfl) (fun p e s m args below meth c C hr hnm ls hl => ?_)
  have hl : lv_has ls 3 [(0, .ref (ad this)), (1, .int a1), (2, .int a2)] := hl
  refine hx_aload_n C dX10_prize_0 rfl (lv_at hl 0 rfl) ?_
  refine hx_iload_n C dX10_prize_1 rfl (lv_at hl 1 rfl) ?_
  obtain ⟨r1, e2, h⟩ := hx_bind h
  obtain ⟨g3, h⟩ := hx_gd h
  refine hx_callV (As := [.int a1]) (rest := []) (n := 1) (Cn := RX10) C (c_X10_isPrize e2) gX10_prize_X10_isPrize g3 (by decide) rfl (by decide +kernel) ⟨Nat.le_of_ble_eq_true rfl, Nat.le_of_ble_eq_true rfl⟩ rfl rfl rfl ⟨Nat.zero_le _, Nat.zero_le _⟩ hl.1 rfl rfl (Nat.le_of_ble_eq_true rfl) dX10_prize_2 ?_
  refine hx_if_eq (tgt := 27) C dX10_prize_5 (by decide) (fun c4 => ?_) (fun c4 => ?_)
  · have h := hx_pos c4 h
    refine hx_ldc (v := (-100001)) C (by decide +kernel) dX10_prize_27 ?_
    obtain rfl := hx_some1 h
    exact hx_iret C hr dX10_prize_29
  · have h := hx_neg c4 h
    refine hx_iload_n C dX10_prize_8 rfl (lv_at hl 2 rfl) ?_
    refine hx_iconst (v := 0) C dX10_prize_9 (by decide) ?_
    refine hx_bipush (v := 6) C dX10_prize_10 (by decide) ?_
    obtain ⟨r5, e6, h⟩ := hx_bind h
    refine hx_callS (As := [.int a2, .int 0, .int 6]) (rest := []) (n := 3) C (c_X10_in e6) gX10_prize_X10_in (by decide +kernel) ⟨Nat.le_of_ble_eq_true rfl, Nat.le_of_ble_eq_true rfl⟩ rfl rfl rfl ⟨Nat.zero_le _, Nat.zero_le _⟩ hl.1 rfl rfl (Nat.le_of_ble_eq_true rfl) dX10_prize_12 ?_
    refine hx_if_eq (tgt := 27) C dX10_prize_15 (by decide) (fun c7 => ?_) (fun c7 => ?_)
    · have h := hx_pos c7 h
      refine hx_ldc (v := (-100001)) C (by decide +kernel) dX10_prize_27 ?_
      obtain rfl := hx_some1 h
      exact hx_iret C hr dX10_prize_29
    · have h := hx_neg c7 h
      refine hx_aload_n C dX10_prize_18 rfl (lv_at hl 0 rfl) ?_
      refine hx_iload_n C dX10_prize_19 rfl (lv_at hl 1 rfl) ?_
      refine hx_iload_n C dX10_prize_20 rfl (lv_at hl 2 rfl) ?_
      obtain ⟨r8, e9, h⟩ := hx_bind h
      refine hx_callV (As := [.int a1, .int a2]) (rest := []) (n := 2) (Cn := RX10) C (c_X10_priced e9) gX10_prize_X10_priced g3 (by decide) rfl (by decide +kernel) ⟨Nat.le_of_ble_eq_true rfl, Nat.le_of_ble_eq_true rfl⟩ rfl rfl rfl ⟨Nat.zero_le _, Nat.zero_le _⟩ hl.1 rfl rfl (Nat.le_of_ble_eq_true rfl) dX10_prize_21 ?_
      refine hx_goto (tgt := 29) C dX10_prize_24 (by decide) ?_
      obtain rfl := hx_some1 h
      exact hx_iret C hr dX10_prize_29
theorem uX10_read_10 : ∀ w ∈ u_ws RX10 TX10 15, w ∈ wsX10_read := by decide +kernel
def f_X10_read (L : hL) (X : hX) (this : Nat) (a1 : Int32) : Option (Int32) :=
  (f_X10_in L X a1 (-5000) 3000000).bind fun r1 =>
  if r1 = 0 then
    some (-100001)
  else
    if tk L this 10 then
    (X.2 this 0).bind fun q5 =>
    if tk L q5 12 then
    if 8 < L.2.2 q5 then
    (f_X10_readsBy L X this a1 (X.1 q5 8)).bind fun r9 =>
    some r9
    else none
    else none
    else none
set_option maxRecDepth 100000 in
set_option maxHeartbeats 4000000 in
theorem c_X10_read {l : Launch} {dC : Nat → ClassId} {dI : Nat → Nat → Nat} {cy : Nat → ClassId} {ad : Nat → Nat} {L : hL} {X : hX} {this : Nat} {a1 : Int32} {r : Int32} (h : f_X10_read L X this a1 = some r) : hMet l dC dI cy ad L yX10_read wsX10_read ({ frames := 2, cells := 0, slots := 0, locals := 45 } : Room) [.ref (ad this), .int a1] X (some (.int r)) X := by
  unfold f_X10_read at h
  refine hx_enter RX10 (plainFor_of_name (by decide)) rfl rfl (Nat.le_of_ble_eq_true rfl) (fun p e s m args below meth c C hr hnm ls hl => ?_)
  have hl : lv_has ls 2 [(0, .ref (ad this)), (1, .int a1)] := hl
  refine hx_iload_n C dX10_read_0 rfl (lv_at hl 1 rfl) ?_
  refine hx_sipush (v := (-5000)) C dX10_read_1 (by decide) ?_
  refine hx_ldc (v := 3000000) C (by decide +kernel) dX10_read_4 ?_
  obtain ⟨r1, e2, h⟩ := hx_bind h
  refine hx_callS (As := [.int a1, .int (-5000), .int 3000000]) (rest := []) (n := 3) C (c_X10_in e2) gX10_read_X10_in (by decide +kernel) ⟨Nat.le_of_ble_eq_true rfl, Nat.le_of_ble_eq_true rfl⟩ rfl rfl rfl ⟨Nat.zero_le _, Nat.zero_le _⟩ hl.1 rfl rfl (Nat.le_of_ble_eq_true rfl) dX10_read_6 ?_
  refine hx_if_eq (tgt := 27) C dX10_read_9 (by decide) (fun c3 => ?_) (fun c3 => ?_)
  · have h := hx_pos c3 h
    refine hx_ldc (v := (-100001)) C (by decide +kernel) dX10_read_27 ?_
    obtain rfl := hx_some1 h
    exact hx_iret C hr dX10_read_29
  · have h := hx_neg c3 h
    refine hx_aload_n C dX10_read_12 rfl (lv_at hl 0 rfl) ?_
    refine hx_iload_n C dX10_read_13 rfl (lv_at hl 1 rfl) ?_
    refine hx_aload_n C dX10_read_14 rfl (lv_at hl 0 rfl) ?_
    obtain ⟨g4, h⟩ := hx_gd h
    obtain ⟨q5, e6, h⟩ := hx_bind h
    refine hx_getr C (ci := 10) (j := 0) g4 uX10_read_10 (by decide) rfl (by decide) rfl (by decide +kernel) rfl dX10_read_15 e6 ?_
    refine hx_bipush (v := 8) C dX10_read_18 (by decide) ?_
    obtain ⟨g7, h⟩ := hx_gd h
    obtain ⟨g8, h⟩ := hx_gd h
    refine hx_iald (n := 8) C g7 (hin_lit (i := 8) (by decide) rfl g8) rfl dX10_read_20 ?_
    obtain ⟨r9, e10, h⟩ := hx_bind h
    refine hx_callV (As := [.int a1, .int (X.1 q5 8)]) (rest := []) (n := 2) (Cn := RX10) C (c_X10_readsBy e10) gX10_read_X10_readsBy g4 (by decide) rfl (by decide +kernel) ⟨Nat.le_of_ble_eq_true rfl, Nat.le_of_ble_eq_true rfl⟩ rfl rfl rfl ⟨Nat.zero_le _, Nat.zero_le _⟩ hl.1 rfl rfl (Nat.le_of_ble_eq_true rfl) dX10_read_21 ?_
    refine hx_goto (tgt := 29) C dX10_read_24 (by decide) ?_
    obtain rfl := hx_some1 h
    exact hx_iret C hr dX10_read_29
theorem uX10_allowed_10 : ∀ w ∈ u_ws RX10 TX10 15, w ∈ wsX10_allowed := by decide +kernel
def f_X10_allowed (L : hL) (X : hX) (this : Nat) (a1 : Int32) (a2 : Int32) (a3 : Int32) : Option (Int32 × hX) :=
  (f_X10_in L X a1 0 3000000).bind fun r1 =>
  if r1 = 0 then
    some ((-100001), X)
  else
    (f_X10_isKind L X a2).bind fun r4 =>
    if r4 = 0 then
      some ((-100001), X)
    else
      (f_X10_in L X a3 0 2).bind fun r7 =>
      if r7 = 0 then
        some ((-100001), X)
      else
        (f_X10_allows L X this a1 a2).bind fun r10 =>
        if tk L this 10 then
        if r10.1 = 0 then
          if a3 = 2 then
            some (0, r10.2)
          else
            some ((-100009), r10.2)
        else
          if a3 = 0 then
            some (r10.2.1 this 13, r10.2)
          else
            if a3 = 1 then
              some (r10.2.1 this 14, r10.2)
            else
              some (((r10.2.1 this 14) - (r10.2.1 this 13)) + 1, r10.2)
        else none
set_option maxRecDepth 100000 in
set_option maxHeartbeats 4000000 in
theorem c_X10_allowed {l : Launch} {dC : Nat → ClassId} {dI : Nat → Nat → Nat} {cy : Nat → ClassId} {ad : Nat → Nat} {L : hL} {X : hX} {this : Nat} {a1 : Int32} {a2 : Int32} {a3 : Int32} {r : Int32} {X' : hX} (h : f_X10_allowed L X this a1 a2 a3 = some (r, X')) : hMet l dC dI cy ad L yX10_allowed wsX10_allowed ({ frames := 3, cells := 0, slots := 0, locals := 68 } : Room) [.ref (ad this), .int a1, .int a2, .int a3] X (some (.int r)) X' := by
  unfold f_X10_allowed at h
  refine hx_enter RX10 (plainFor_of_name (by decide)) rfl rfl (Nat.le_of_ble_eq_true rfl) (fun p e s m args below meth c C hr hnm ls hl => ?_)
  have hl : lv_has ls 4 [(0, .ref (ad this)), (1, .int a1), (2, .int a2), (3, .int a3)] := hl
  refine hx_iload_n C dX10_allowed_0 rfl (lv_at hl 1 rfl) ?_
  refine hx_iconst (v := 0) C dX10_allowed_1 (by decide) ?_
  refine hx_ldc (v := 3000000) C (by decide +kernel) dX10_allowed_2 ?_
  obtain ⟨r1, e2, h⟩ := hx_bind h
  refine hx_callS (As := [.int a1, .int 0, .int 3000000]) (rest := []) (n := 3) C (c_X10_in e2) gX10_allowed_X10_in (by decide +kernel) ⟨Nat.le_of_ble_eq_true rfl, Nat.le_of_ble_eq_true rfl⟩ rfl rfl rfl ⟨Nat.zero_le _, Nat.zero_le _⟩ hl.1 rfl rfl (Nat.le_of_ble_eq_true rfl) dX10_allowed_4 ?_
  refine hx_if_eq (tgt := 26) C dX10_allowed_7 (by decide) (fun c3 => ?_) (fun c3 => ?_)
  · have h := hx_pos c3 h
    refine hx_ldc (v := (-100001)) C (by decide +kernel) dX10_allowed_26 ?_
    obtain ⟨rfl, rfl⟩ := hx_some2 h
    exact hx_iret C hr dX10_allowed_28
  · have h := hx_neg c3 h
    refine hx_iload_n C dX10_allowed_10 rfl (lv_at hl 2 rfl) ?_
    obtain ⟨r4, e5, h⟩ := hx_bind h
    refine hx_callS (As := [.int a2]) (rest := []) (n := 1) C (c_X10_isKind e5) gX10_allowed_X10_isKind (by decide +kernel) ⟨Nat.le_of_ble_eq_true rfl, Nat.le_of_ble_eq_true rfl⟩ rfl rfl rfl ⟨Nat.zero_le _, Nat.zero_le _⟩ hl.1 rfl rfl (Nat.le_of_ble_eq_true rfl) dX10_allowed_11 ?_
    refine hx_if_eq (tgt := 26) C dX10_allowed_14 (by decide) (fun c6 => ?_) (fun c6 => ?_)
    · have h := hx_pos c6 h
      refine hx_ldc (v := (-100001)) C (by decide +kernel) dX10_allowed_26 ?_
      obtain ⟨rfl, rfl⟩ := hx_some2 h
      exact hx_iret C hr dX10_allowed_28
    · have h := hx_neg c6 h
      refine hx_iload_n C dX10_allowed_17 rfl (lv_at hl 3 rfl) ?_
      refine hx_iconst (v := 0) C dX10_allowed_18 (by decide) ?_
      refine hx_iconst (v := 2) C dX10_allowed_19 (by decide) ?_
      obtain ⟨r7, e8, h⟩ := hx_bind h
      refine hx_callS (As := [.int a3, .int 0, .int 2]) (rest := []) (n := 3) C (c_X10_in e8) gX10_allowed_X10_in (by decide +kernel) ⟨Nat.le_of_ble_eq_true rfl, Nat.le_of_ble_eq_true rfl⟩ rfl rfl rfl ⟨Nat.zero_le _, Nat.zero_le _⟩ hl.1 rfl rfl (Nat.le_of_ble_eq_true rfl) dX10_allowed_20 ?_
      refine hx_if_ne (tgt := 29) C dX10_allowed_23 (by decide) (fun c9 => ?_) (fun c9 => ?_)
      · have h := hx_neg c9 h
        refine hx_aload_n C dX10_allowed_29 rfl (lv_at hl 0 rfl) ?_
        refine hx_iload_n C dX10_allowed_30 rfl (lv_at hl 1 rfl) ?_
        refine hx_iload_n C dX10_allowed_31 rfl (lv_at hl 2 rfl) ?_
        obtain ⟨r10, e11, h⟩ := hx_bind h
        obtain ⟨g12, h⟩ := hx_gd h
        refine hx_callV (As := [.int a1, .int a2]) (rest := []) (n := 2) (Cn := RX10) C (c_X10_allows e11) gX10_allowed_X10_allows g12 (by decide) rfl (by decide +kernel) ⟨Nat.le_of_ble_eq_true rfl, Nat.le_of_ble_eq_true rfl⟩ rfl rfl rfl ⟨Nat.zero_le _, Nat.zero_le _⟩ hl.1 rfl rfl (Nat.le_of_ble_eq_true rfl) dX10_allowed_32 ?_
        refine hx_if_ne (tgt := 50) C dX10_allowed_35 (by decide) (fun c13 => ?_) (fun c13 => ?_)
        · have h := hx_neg c13 h
          refine hx_iload_n C dX10_allowed_50 rfl (lv_at hl 3 rfl) ?_
          refine hx_if_ne (tgt := 61) C dX10_allowed_51 (by decide) (fun c14 => ?_) (fun c14 => ?_)
          · have h := hx_neg c14 h
            refine hx_iload_n C dX10_allowed_61 rfl (lv_at hl 3 rfl) ?_
            refine hx_iconst (v := 1) C dX10_allowed_62 (by decide) ?_
            refine hx_icmp_ne (tgt := 73) C dX10_allowed_63 (by decide) (fun c15 => ?_) (fun c15 => ?_)
            · have h := hx_neg c15 h
              refine hx_aload_n C dX10_allowed_73 rfl (lv_at hl 0 rfl) ?_
              refine hx_geti C (ci := 10) (j := 14) g12 uX10_allowed_10 (by decide) rfl (by decide) rfl (by decide +kernel) rfl dX10_allowed_74 ?_
              refine hx_aload_n C dX10_allowed_77 rfl (lv_at hl 0 rfl) ?_
              refine hx_geti C (ci := 10) (j := 13) g12 uX10_allowed_10 (by decide) rfl (by decide) rfl (by decide +kernel) rfl dX10_allowed_78 ?_
              refine hx_isub C dX10_allowed_81 ?_
              refine hx_iconst (v := 1) C dX10_allowed_82 (by decide) ?_
              refine hx_iadd C dX10_allowed_83 ?_
              obtain ⟨rfl, rfl⟩ := hx_some2 h
              exact hx_iret C hr dX10_allowed_84
            · have h := hx_pos c15 h
              refine hx_aload_n C dX10_allowed_66 rfl (lv_at hl 0 rfl) ?_
              refine hx_geti C (ci := 10) (j := 14) g12 uX10_allowed_10 (by decide) rfl (by decide) rfl (by decide +kernel) rfl dX10_allowed_67 ?_
              refine hx_goto (tgt := 84) C dX10_allowed_70 (by decide) ?_
              obtain ⟨rfl, rfl⟩ := hx_some2 h
              exact hx_iret C hr dX10_allowed_84
          · have h := hx_pos c14 h
            refine hx_aload_n C dX10_allowed_54 rfl (lv_at hl 0 rfl) ?_
            refine hx_geti C (ci := 10) (j := 13) g12 uX10_allowed_10 (by decide) rfl (by decide) rfl (by decide +kernel) rfl dX10_allowed_55 ?_
            refine hx_goto (tgt := 84) C dX10_allowed_58 (by decide) ?_
            obtain ⟨rfl, rfl⟩ := hx_some2 h
            exact hx_iret C hr dX10_allowed_84
        · have h := hx_pos c13 h
          refine hx_iload_n C dX10_allowed_38 rfl (lv_at hl 3 rfl) ?_
          refine hx_iconst (v := 2) C dX10_allowed_39 (by decide) ?_
          refine hx_icmp_ne (tgt := 47) C dX10_allowed_40 (by decide) (fun c16 => ?_) (fun c16 => ?_)
          · have h := hx_neg c16 h
            refine hx_ldc (v := (-100009)) C (by decide +kernel) dX10_allowed_47 ?_
            obtain ⟨rfl, rfl⟩ := hx_some2 h
            exact hx_iret C hr dX10_allowed_49
          · have h := hx_pos c16 h
            refine hx_iconst (v := 0) C dX10_allowed_43 (by decide) ?_
            refine hx_goto (tgt := 49) C dX10_allowed_44 (by decide) ?_
            obtain ⟨rfl, rfl⟩ := hx_some2 h
            exact hx_iret C hr dX10_allowed_49
      · have h := hx_pos c9 h
        refine hx_ldc (v := (-100001)) C (by decide +kernel) dX10_allowed_26 ?_
        obtain ⟨rfl, rfl⟩ := hx_some2 h
        exact hx_iret C hr dX10_allowed_28
def f_X10_guess (L : hL) (X : hX) (this : Nat) (a1 : Int32) (a2 : Int32) (a3 : Int32) : Option (Int32 × hX) :=
  (f_X10_in L X a1 0 3000000).bind fun r1 =>
  if r1 = 0 then
    some ((-100001), X)
  else
    (f_X10_isKind L X a2).bind fun r4 =>
    if r4 = 0 then
      some ((-100001), X)
    else
      (f_X10_in L X a3 0 3).bind fun r7 =>
      if r7 = 0 then
        some ((-100001), X)
      else
        (f_X10_guesses L X this a1 a2 a3).bind fun r10 =>
        if tk L this 10 then
        some (r10.1, r10.2)
        else none
set_option maxRecDepth 100000 in
set_option maxHeartbeats 4000000 in
theorem c_X10_guess {l : Launch} {dC : Nat → ClassId} {dI : Nat → Nat → Nat} {cy : Nat → ClassId} {ad : Nat → Nat} {L : hL} {X : hX} {this : Nat} {a1 : Int32} {a2 : Int32} {a3 : Int32} {r : Int32} {X' : hX} (h : f_X10_guess L X this a1 a2 a3 = some (r, X')) : hMet l dC dI cy ad L yX10_guess wsX10_guess ({ frames := 4, cells := 0, slots := 0, locals := 93 } : Room) [.ref (ad this), .int a1, .int a2, .int a3] X (some (.int r)) X' := by
  unfold f_X10_guess at h
  refine hx_enter RX10 (plainFor_of_name (by decide)) rfl rfl (Nat.le_of_ble_eq_true rfl) (fun p e s m args below meth c C hr hnm ls hl => ?_)
  have hl : lv_has ls 4 [(0, .ref (ad this)), (1, .int a1), (2, .int a2), (3, .int a3)] := hl
  refine hx_iload_n C dX10_guess_0 rfl (lv_at hl 1 rfl) ?_
  refine hx_iconst (v := 0) C dX10_guess_1 (by decide) ?_
  refine hx_ldc (v := 3000000) C (by decide +kernel) dX10_guess_2 ?_
  obtain ⟨r1, e2, h⟩ := hx_bind h
  refine hx_callS (As := [.int a1, .int 0, .int 3000000]) (rest := []) (n := 3) C (c_X10_in e2) gX10_guess_X10_in (by decide +kernel) ⟨Nat.le_of_ble_eq_true rfl, Nat.le_of_ble_eq_true rfl⟩ rfl rfl rfl ⟨Nat.zero_le _, Nat.zero_le _⟩ hl.1 rfl rfl (Nat.le_of_ble_eq_true rfl) dX10_guess_4 ?_
  refine hx_if_eq (tgt := 36) C dX10_guess_7 (by decide) (fun c3 => ?_) (fun c3 => ?_)
  · have h := hx_pos c3 h
    refine hx_ldc (v := (-100001)) C (by decide +kernel) dX10_guess_36 ?_
    obtain ⟨rfl, rfl⟩ := hx_some2 h
    exact hx_iret C hr dX10_guess_38
  · have h := hx_neg c3 h
    refine hx_iload_n C dX10_guess_10 rfl (lv_at hl 2 rfl) ?_
    obtain ⟨r4, e5, h⟩ := hx_bind h
    refine hx_callS (As := [.int a2]) (rest := []) (n := 1) C (c_X10_isKind e5) gX10_guess_X10_isKind (by decide +kernel) ⟨Nat.le_of_ble_eq_true rfl, Nat.le_of_ble_eq_true rfl⟩ rfl rfl rfl ⟨Nat.zero_le _, Nat.zero_le _⟩ hl.1 rfl rfl (Nat.le_of_ble_eq_true rfl) dX10_guess_11 ?_
    refine hx_if_eq (tgt := 36) C dX10_guess_14 (by decide) (fun c6 => ?_) (fun c6 => ?_)
    · have h := hx_pos c6 h
      refine hx_ldc (v := (-100001)) C (by decide +kernel) dX10_guess_36 ?_
      obtain ⟨rfl, rfl⟩ := hx_some2 h
      exact hx_iret C hr dX10_guess_38
    · have h := hx_neg c6 h
      refine hx_iload_n C dX10_guess_17 rfl (lv_at hl 3 rfl) ?_
      refine hx_iconst (v := 0) C dX10_guess_18 (by decide) ?_
      refine hx_iconst (v := 3) C dX10_guess_19 (by decide) ?_
      obtain ⟨r7, e8, h⟩ := hx_bind h
      refine hx_callS (As := [.int a3, .int 0, .int 3]) (rest := []) (n := 3) C (c_X10_in e8) gX10_guess_X10_in (by decide +kernel) ⟨Nat.le_of_ble_eq_true rfl, Nat.le_of_ble_eq_true rfl⟩ rfl rfl rfl ⟨Nat.zero_le _, Nat.zero_le _⟩ hl.1 rfl rfl (Nat.le_of_ble_eq_true rfl) dX10_guess_20 ?_
      refine hx_if_eq (tgt := 36) C dX10_guess_23 (by decide) (fun c9 => ?_) (fun c9 => ?_)
      · have h := hx_pos c9 h
        refine hx_ldc (v := (-100001)) C (by decide +kernel) dX10_guess_36 ?_
        obtain ⟨rfl, rfl⟩ := hx_some2 h
        exact hx_iret C hr dX10_guess_38
      · have h := hx_neg c9 h
        refine hx_aload_n C dX10_guess_26 rfl (lv_at hl 0 rfl) ?_
        refine hx_iload_n C dX10_guess_27 rfl (lv_at hl 1 rfl) ?_
        refine hx_iload_n C dX10_guess_28 rfl (lv_at hl 2 rfl) ?_
        refine hx_iload_n C dX10_guess_29 rfl (lv_at hl 3 rfl) ?_
        obtain ⟨r10, e11, h⟩ := hx_bind h
        obtain ⟨g12, h⟩ := hx_gd h
        refine hx_callV (As := [.int a1, .int a2, .int a3]) (rest := []) (n := 3) (Cn := RX10) C (c_X10_guesses e11) gX10_guess_X10_guesses g12 (by decide) rfl (by decide +kernel) ⟨Nat.le_of_ble_eq_true rfl, Nat.le_of_ble_eq_true rfl⟩ rfl rfl rfl ⟨Nat.zero_le _, Nat.zero_le _⟩ hl.1 rfl rfl (Nat.le_of_ble_eq_true rfl) dX10_guess_30 ?_
        refine hx_goto (tgt := 38) C dX10_guess_33 (by decide) ?_
        obtain ⟨rfl, rfl⟩ := hx_some2 h
        exact hx_iret C hr dX10_guess_38
theorem uX10_apart_10 : ∀ w ∈ u_ws RX10 TX10 15, w ∈ wsX10_apart := by decide +kernel
def f_X10_apart_37 (L : hL) : Nat → Nat → Int32 → Int32 → Int32 → Int32 → Int32 → hX → Option (Int32)
  | 0, _, _, _, _, _, _, _ => none
  | n + 1, v0, v2, v3, v4, v5, v6, X =>
    if v3 ≤ v6 then
      some v6
    else
      if tk L v0 10 then
      (X.2 v0 0).bind fun q3 =>
      if tk L q3 12 then
      if 9 < L.2.2 q3 then
      (f_X10_readsBy L X v0 (((v6 + 1) * v4) - (X.1 q3 9)) v2).bind fun r7 =>
      (f_X10_readsBy L X v0 ((v6 * v5) + (X.1 q3 9)) v2).bind fun r9 =>
      if r7 ≤ r9 then
        some v6
      else
        f_X10_apart_37 L n v0 v2 v3 v4 v5 (v6 + 1) X
      else none
      else none
      else none
set_option maxRecDepth 100000 in
set_option maxHeartbeats 4000000 in
theorem w_X10_apart_37 {p : Program} {l : Launch} {e : Env} {s : State} {m : MethodId} {args : Array Value} {below : List Frame} {meth : Method} {c : Code} {dC : Nat → ClassId} {dI : Nat → Nat → Nat} {cy : Nat → ClassId} {ad : Nat → Nat} {L : hL} {r : Int32} (C : hC p s m args meth c dC dI cy ad L (hA ad L s.heap.size) cX10_apart 7 wsX10_apart RX10) (hr : meth.sig.returnType = (some .int)) : ∀ (n : Nat) (v0 : Nat) (v2 : Int32) (v3 : Int32) (v4 : Int32) (v5 : Int32) (v6 : Int32) (X : hX) (ls : Array Slot), f_X10_apart_37 L n v0 v2 v3 v4 v5 v6 X = some r → lv_has ls 7 [(0, .ref (ad v0)), (2, .int v2), (3, .int v3), (4, .int v4), (5, .int v5), (6, .int v6)] → hG p l e (headSpec wsX10_apart ({ frames := 2, cells := 0, slots := 0, locals := 45 } : Room)).room s m args below meth c dC dI cy ad L (hA ad L s.heap.size) 0 0 (MQ below (hQ dC dI cy ad L s.heap.size (some (.int r)) X) args s 0 0 (hA ad L s.heap.size)) X 37 ls [] := by
  intro n
  induction n with
  | zero => intro v0 v2 v3 v4 v5 v6 X ls h; cases h
  | succ n ih =>
    intro v0 v2 v3 v4 v5 v6 X ls h hl
    rw [f_X10_apart_37] at h
    refine hx_iload C dX10_apart_37 (lv_at hl 5 rfl) ?_
    refine hx_iload_n C dX10_apart_39 rfl (lv_at hl 2 rfl) ?_
    refine hx_icmp_ge (tgt := 90) C dX10_apart_40 (by decide) (fun c1 => ?_) (fun c1 => ?_)
    · have h := hx_pos c1 h
      refine hx_iload C dX10_apart_90 (lv_at hl 5 rfl) ?_
      obtain rfl := hx_some1 h
      exact hx_iret C hr dX10_apart_92
    · have h := hx_neg c1 h
      refine hx_aload_n C dX10_apart_43 rfl (lv_at hl 0 rfl) ?_
      refine hx_iload C dX10_apart_44 (lv_at hl 5 rfl) ?_
      refine hx_iconst (v := 1) C dX10_apart_46 (by decide) ?_
      refine hx_iadd C dX10_apart_47 ?_
      refine hx_iload C dX10_apart_48 (lv_at hl 3 rfl) ?_
      refine hx_imul C dX10_apart_50 ?_
      refine hx_aload_n C dX10_apart_51 rfl (lv_at hl 0 rfl) ?_
      obtain ⟨g2, h⟩ := hx_gd h
      obtain ⟨q3, e4, h⟩ := hx_bind h
      refine hx_getr C (ci := 10) (j := 0) g2 uX10_apart_10 (by decide) rfl (by decide) rfl (by decide +kernel) rfl dX10_apart_52 e4 ?_
      refine hx_bipush (v := 9) C dX10_apart_55 (by decide) ?_
      obtain ⟨g5, h⟩ := hx_gd h
      obtain ⟨g6, h⟩ := hx_gd h
      refine hx_iald (n := 9) C g5 (hin_lit (i := 9) (by decide) rfl g6) rfl dX10_apart_57 ?_
      refine hx_isub C dX10_apart_58 ?_
      refine hx_iload_n C dX10_apart_59 rfl (lv_at hl 1 rfl) ?_
      obtain ⟨r7, e8, h⟩ := hx_bind h
      refine hx_callV (As := [.int (((v6 + 1) * v4) - (X.1 q3 9)), .int v2]) (rest := []) (n := 2) (Cn := RX10) C (c_X10_readsBy e8) gX10_apart_X10_readsBy g2 (by decide) rfl (by decide +kernel) ⟨Nat.le_of_ble_eq_true rfl, Nat.le_of_ble_eq_true rfl⟩ rfl rfl rfl ⟨Nat.zero_le _, Nat.zero_le _⟩ hl.1 rfl rfl (Nat.le_of_ble_eq_true rfl) dX10_apart_60 ?_
      refine hx_aload_n C dX10_apart_63 rfl (lv_at hl 0 rfl) ?_
      refine hx_iload C dX10_apart_64 (lv_at hl 5 rfl) ?_
      refine hx_iload C dX10_apart_66 (lv_at hl 4 rfl) ?_
      refine hx_imul C dX10_apart_68 ?_
      refine hx_aload_n C dX10_apart_69 rfl (lv_at hl 0 rfl) ?_
      refine hx_getr C (ci := 10) (j := 0) g2 uX10_apart_10 (by decide) rfl (by decide) rfl (by decide +kernel) rfl dX10_apart_70 e4 ?_
      refine hx_bipush (v := 9) C dX10_apart_73 (by decide) ?_
      refine hx_iald (n := 9) C g5 (hin_lit (i := 9) (by decide) rfl g6) rfl dX10_apart_75 ?_
      refine hx_iadd C dX10_apart_76 ?_
      refine hx_iload_n C dX10_apart_77 rfl (lv_at hl 1 rfl) ?_
      obtain ⟨r9, e10, h⟩ := hx_bind h
      refine hx_callV (As := [.int ((v6 * v5) + (X.1 q3 9)), .int v2]) (rest := [.int r7]) (n := 2) (Cn := RX10) C (c_X10_readsBy e10) gX10_apart_X10_readsBy g2 (by decide) rfl (by decide +kernel) ⟨Nat.le_of_ble_eq_true rfl, Nat.le_of_ble_eq_true rfl⟩ rfl rfl rfl ⟨Nat.zero_le _, Nat.zero_le _⟩ hl.1 rfl rfl (Nat.le_of_ble_eq_true rfl) dX10_apart_78 ?_
      refine hx_icmp_le (tgt := 90) C dX10_apart_81 (by decide) (fun c11 => ?_) (fun c11 => ?_)
      · have h := hx_pos c11 h
        refine hx_iload C dX10_apart_90 (lv_at hl 5 rfl) ?_
        obtain rfl := hx_some1 h
        exact hx_iret C hr dX10_apart_92
      · have h := hx_neg c11 h
        refine hx_iinc (v := v6 + 1) (lv' := [(6, .int (v6 + 1)), (0, .ref (ad v0)), (2, .int v2), (3, .int v3), (4, .int v4), (5, .int v5)]) C dX10_apart_84 hl (k := 5) rfl rfl (by decide) rfl (fun ls hl => ?_)
        refine hx_goto (tgt := 37) C dX10_apart_87 (by decide) ?_
        exact ih v0 v2 v3 v4 v5 (v6 + 1) X ls h (lv_sub hl [1, 2, 3, 4, 5, 0] rfl)
def f_X10_apart (L : hL) (X : hX) (this : Nat) (a1 : Int32) (a2 : Int32) (a3 : Int32) : Option (Int32) :=
  if tk L this 10 then
  (X.2 this 0).bind fun q13 =>
  if tk L q13 12 then
  if hin a1 (L.2.2 q13) then
  if hin (4 + a1) (L.2.2 q13) then
  f_X10_apart_37 L u_fuel this a2 a3 ((X.1 q13 (Int32.toNatClampNeg a1)) - (X.1 q13 (Int32.toNatClampNeg (4 + a1)))) ((X.1 q13 (Int32.toNatClampNeg a1)) + (X.1 q13 (Int32.toNatClampNeg (4 + a1)))) 0 X
  else none
  else none
  else none
  else none
set_option maxRecDepth 100000 in
set_option maxHeartbeats 4000000 in
theorem c_X10_apart {l : Launch} {dC : Nat → ClassId} {dI : Nat → Nat → Nat} {cy : Nat → ClassId} {ad : Nat → Nat} {L : hL} {X : hX} {this : Nat} {a1 : Int32} {a2 : Int32} {a3 : Int32} {r : Int32} (h : f_X10_apart L X this a1 a2 a3 = some r) : hMet l dC dI cy ad L yX10_apart wsX10_apart ({ frames := 2, cells := 0, slots := 0, locals := 45 } : Room) [.ref (ad this), .int a1, .int a2, .int a3] X (some (.int r)) X := by
  unfold f_X10_apart at h
  refine hx_enter RX10 (plainFor_of_name (by decide)) rfl rfl (Nat.le_of_ble_eq_true rfl) (fun p e s m args below meth c C hr hnm ls hl => ?_)
  have hl : lv_has ls 7 [(0, .ref (ad this)), (1, .int a1), (2, .int a2), (3, .int a3)] := hl
  refine hx_aload_n C dX10_apart_0 rfl (lv_at hl 0 rfl) ?_
  obtain ⟨g12, h⟩ := hx_gd h
  obtain ⟨q13, e14, h⟩ := hx_bind h
  refine hx_getr C (ci := 10) (j := 0) g12 uX10_apart_10 (by decide) rfl (by decide) rfl (by decide +kernel) rfl dX10_apart_1 e14 ?_
  refine hx_iload_n C dX10_apart_4 rfl (lv_at hl 1 rfl) ?_
  obtain ⟨g15, h⟩ := hx_gd h
  obtain ⟨g16, h⟩ := hx_gd h
  refine hx_iald (n := (Int32.toNatClampNeg a1)) C g15 g16 rfl dX10_apart_5 ?_
  refine hx_aload_n C dX10_apart_6 rfl (lv_at hl 0 rfl) ?_
  refine hx_getr C (ci := 10) (j := 0) g12 uX10_apart_10 (by decide) rfl (by decide) rfl (by decide +kernel) rfl dX10_apart_7 e14 ?_
  refine hx_iconst (v := 4) C dX10_apart_10 (by decide) ?_
  refine hx_iload_n C dX10_apart_11 rfl (lv_at hl 1 rfl) ?_
  refine hx_iadd C dX10_apart_12 ?_
  obtain ⟨g17, h⟩ := hx_gd h
  refine hx_iald (n := (Int32.toNatClampNeg (4 + a1))) C g15 g17 rfl dX10_apart_13 ?_
  refine hx_isub C dX10_apart_14 ?_
  refine hx_istore (lv' := [(4, .int ((X.1 q13 (Int32.toNatClampNeg a1)) - (X.1 q13 (Int32.toNatClampNeg (4 + a1))))), (0, .ref (ad this)), (1, .int a1), (2, .int a2), (3, .int a3)]) C dX10_apart_15 hl (by decide) rfl (fun ls hl => ?_)
  refine hx_aload_n C dX10_apart_17 rfl (lv_at hl 1 rfl) ?_
  refine hx_getr C (ci := 10) (j := 0) g12 uX10_apart_10 (by decide) rfl (by decide) rfl (by decide +kernel) rfl dX10_apart_18 e14 ?_
  refine hx_iload_n C dX10_apart_21 rfl (lv_at hl 2 rfl) ?_
  refine hx_iald (n := (Int32.toNatClampNeg a1)) C g15 g16 rfl dX10_apart_22 ?_
  refine hx_aload_n C dX10_apart_23 rfl (lv_at hl 1 rfl) ?_
  refine hx_getr C (ci := 10) (j := 0) g12 uX10_apart_10 (by decide) rfl (by decide) rfl (by decide +kernel) rfl dX10_apart_24 e14 ?_
  refine hx_iconst (v := 4) C dX10_apart_27 (by decide) ?_
  refine hx_iload_n C dX10_apart_28 rfl (lv_at hl 2 rfl) ?_
  refine hx_iadd C dX10_apart_29 ?_
  refine hx_iald (n := (Int32.toNatClampNeg (4 + a1))) C g15 g17 rfl dX10_apart_30 ?_
  refine hx_iadd C dX10_apart_31 ?_
  refine hx_istore (lv' := [(5, .int ((X.1 q13 (Int32.toNatClampNeg a1)) + (X.1 q13 (Int32.toNatClampNeg (4 + a1))))), (4, .int ((X.1 q13 (Int32.toNatClampNeg a1)) - (X.1 q13 (Int32.toNatClampNeg (4 + a1))))), (0, .ref (ad this)), (1, .int a1), (2, .int a2), (3, .int a3)]) C dX10_apart_32 hl (by decide) rfl (fun ls hl => ?_)
  refine hx_iconst (v := 0) C dX10_apart_34 (by decide) ?_
  refine hx_istore (lv' := [(6, .int 0), (5, .int ((X.1 q13 (Int32.toNatClampNeg a1)) + (X.1 q13 (Int32.toNatClampNeg (4 + a1))))), (4, .int ((X.1 q13 (Int32.toNatClampNeg a1)) - (X.1 q13 (Int32.toNatClampNeg (4 + a1))))), (0, .ref (ad this)), (1, .int a1), (2, .int a2), (3, .int a3)]) C dX10_apart_35 hl (by decide) rfl (fun ls hl => ?_)
  exact w_X10_apart_37 C hr u_fuel this a2 a3 ((X.1 q13 (Int32.toNatClampNeg a1)) - (X.1 q13 (Int32.toNatClampNeg (4 + a1)))) ((X.1 q13 (Int32.toNatClampNeg a1)) + (X.1 q13 (Int32.toNatClampNeg (4 + a1)))) 0 X ls h (lv_sub hl [3, 5, 6, 2, 1, 0] rfl)
theorem uX10_apartUpTo_10 : ∀ w ∈ u_ws RX10 TX10 15, w ∈ wsX10_apartUpTo := by decide +kernel
def f_X10_apartUpTo (L : hL) (X : hX) (this : Nat) (a1 : Int32) : Option (Int32) :=
  (f_X10_isKind L X a1).bind fun r1 =>
  if r1 = 0 then
    some (-100001)
  else
    if tk L this 10 then
    (X.2 this 0).bind fun q5 =>
    if tk L q5 12 then
    if 8 < L.2.2 q5 then
    (f_X10_apart L X this a1 (X.1 q5 8) 999).bind fun r9 =>
    some r9
    else none
    else none
    else none
set_option maxRecDepth 100000 in
set_option maxHeartbeats 4000000 in
theorem c_X10_apartUpTo {l : Launch} {dC : Nat → ClassId} {dI : Nat → Nat → Nat} {cy : Nat → ClassId} {ad : Nat → Nat} {L : hL} {X : hX} {this : Nat} {a1 : Int32} {r : Int32} (h : f_X10_apartUpTo L X this a1 = some r) : hMet l dC dI cy ad L yX10_apartUpTo wsX10_apartUpTo ({ frames := 3, cells := 0, slots := 0, locals := 71 } : Room) [.ref (ad this), .int a1] X (some (.int r)) X := by
  unfold f_X10_apartUpTo at h
  refine hx_enter RX10 (plainFor_of_name (by decide)) rfl rfl (Nat.le_of_ble_eq_true rfl) (fun p e s m args below meth c C hr hnm ls hl => ?_)
  have hl : lv_has ls 2 [(0, .ref (ad this)), (1, .int a1)] := hl
  refine hx_iload_n C dX10_apartUpTo_0 rfl (lv_at hl 1 rfl) ?_
  obtain ⟨r1, e2, h⟩ := hx_bind h
  refine hx_callS (As := [.int a1]) (rest := []) (n := 1) C (c_X10_isKind e2) gX10_apartUpTo_X10_isKind (by decide +kernel) ⟨Nat.le_of_ble_eq_true rfl, Nat.le_of_ble_eq_true rfl⟩ rfl rfl rfl ⟨Nat.zero_le _, Nat.zero_le _⟩ hl.1 rfl rfl (Nat.le_of_ble_eq_true rfl) dX10_apartUpTo_1 ?_
  refine hx_if_eq (tgt := 25) C dX10_apartUpTo_4 (by decide) (fun c3 => ?_) (fun c3 => ?_)
  · have h := hx_pos c3 h
    refine hx_ldc (v := (-100001)) C (by decide +kernel) dX10_apartUpTo_25 ?_
    obtain rfl := hx_some1 h
    exact hx_iret C hr dX10_apartUpTo_27
  · have h := hx_neg c3 h
    refine hx_aload_n C dX10_apartUpTo_7 rfl (lv_at hl 0 rfl) ?_
    refine hx_iload_n C dX10_apartUpTo_8 rfl (lv_at hl 1 rfl) ?_
    refine hx_aload_n C dX10_apartUpTo_9 rfl (lv_at hl 0 rfl) ?_
    obtain ⟨g4, h⟩ := hx_gd h
    obtain ⟨q5, e6, h⟩ := hx_bind h
    refine hx_getr C (ci := 10) (j := 0) g4 uX10_apartUpTo_10 (by decide) rfl (by decide) rfl (by decide +kernel) rfl dX10_apartUpTo_10 e6 ?_
    refine hx_bipush (v := 8) C dX10_apartUpTo_13 (by decide) ?_
    obtain ⟨g7, h⟩ := hx_gd h
    obtain ⟨g8, h⟩ := hx_gd h
    refine hx_iald (n := 8) C g7 (hin_lit (i := 8) (by decide) rfl g8) rfl dX10_apartUpTo_15 ?_
    refine hx_sipush (v := 999) C dX10_apartUpTo_16 (by decide) ?_
    obtain ⟨r9, e10, h⟩ := hx_bind h
    refine hx_callV (As := [.int a1, .int (X.1 q5 8), .int 999]) (rest := []) (n := 3) (Cn := RX10) C (c_X10_apart e10) gX10_apartUpTo_X10_apart g4 (by decide) rfl (by decide +kernel) ⟨Nat.le_of_ble_eq_true rfl, Nat.le_of_ble_eq_true rfl⟩ rfl rfl rfl ⟨Nat.zero_le _, Nat.zero_le _⟩ hl.1 rfl rfl (Nat.le_of_ble_eq_true rfl) dX10_apartUpTo_19 ?_
    refine hx_goto (tgt := 27) C dX10_apartUpTo_22 (by decide) ?_
    obtain rfl := hx_some1 h
    exact hx_iret C hr dX10_apartUpTo_27
