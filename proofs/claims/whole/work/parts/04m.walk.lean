theorem uX10_reads_10 : ∀ w ∈ u_ws RX10 TX10 15, w ∈ wsX10_reads := by decide +kernel
def f_X10_reads_134 (L : hL) (k96 : Nat → hX → Option (hX)) (v0 : Nat) (X : hX) : Option (hX) :=
  if tk L v0 10 then
  k96 v0 (smi X v0 10 ((X.1 v0 10) + 1))
  else none
set_option maxRecDepth 100000 in
set_option maxHeartbeats 4000000 in
theorem w_X10_reads_134 {p : Program} {l : Launch} {e : Env} {s : State} {m : MethodId} {args : Array Value} {below : List Frame} {meth : Method} {c : Code} {dC : Nat → ClassId} {dI : Nat → Nat → Nat} {cy : Nat → ClassId} {ad : Nat → Nat} {L : hL} {X' : hX} (k96 : Nat → hX → Option (hX)) (C : hC p s m args meth c dC dI cy ad L (hA ad L s.heap.size) cX10_reads 1 wsX10_reads RX10) (hr : meth.sig.returnType = none) (hk96 : ∀ (v0 : Nat) (X : hX) (ls : Array Slot), k96 v0 X = some X' → lv_has ls 1 [(0, .ref (ad v0))] → hG p l e (headSpec wsX10_reads ({ frames := 2, cells := 0, slots := 0, locals := 44 } : Room)).room s m args below meth c dC dI cy ad L (hA ad L s.heap.size) 0 0 (MQ below (hQ dC dI cy ad L s.heap.size none X') args s 0 0 (hA ad L s.heap.size)) X 96 ls []) : ∀ (v0 : Nat) (X : hX) (ls : Array Slot), f_X10_reads_134 L k96 v0 X = some X' → lv_has ls 1 [(0, .ref (ad v0))] → hG p l e (headSpec wsX10_reads ({ frames := 2, cells := 0, slots := 0, locals := 44 } : Room)).room s m args below meth c dC dI cy ad L (hA ad L s.heap.size) 0 0 (MQ below (hQ dC dI cy ad L s.heap.size none X') args s 0 0 (hA ad L s.heap.size)) X 134 ls [] := by
  intro v0 X ls h hl
  unfold f_X10_reads_134 at h
  refine hx_aload_n C dX10_reads_134 rfl (lv_at hl 0 rfl) ?_
  refine hx_dup C dX10_reads_135 rfl ?_
  obtain ⟨g1, h⟩ := hx_gd h
  refine hx_geti C (ci := 10) (j := 10) g1 uX10_reads_10 (by decide) rfl (by decide) rfl (by decide +kernel) rfl dX10_reads_136 ?_
  refine hx_iconst (v := 1) C dX10_reads_139 (by decide) ?_
  refine hx_iadd C dX10_reads_140 ?_
  refine hx_puti C (ci := 10) (j := 10) tyX10 tyX10_ok nmX10 g1 uX10_reads_10 (by decide) rfl (by decide) rfl (by decide +kernel) rfl rfl (tyX10_ok 10 (by decide)) dX10_reads_141 rfl rfl ?_
  refine hx_goto (tgt := 96) C dX10_reads_144 (by decide) ?_
  exact hk96 v0 (smi X v0 10 ((X.1 v0 10) + 1)) ls h (lv_sub hl [0] rfl)
def f_X10_reads_147 (L : hL) (v0 : Nat) (X : hX) : Option (hX) :=
  if tk L v0 10 then
  if (X.1 v0 11) = 3 then
    some (smi X v0 10 ((X.1 v0 10) + 1))
  else
    some (smi X v0 10 ((X.1 v0 10) + 0))
  else none
set_option maxRecDepth 100000 in
set_option maxHeartbeats 4000000 in
theorem w_X10_reads_147 {p : Program} {l : Launch} {e : Env} {s : State} {m : MethodId} {args : Array Value} {below : List Frame} {meth : Method} {c : Code} {dC : Nat → ClassId} {dI : Nat → Nat → Nat} {cy : Nat → ClassId} {ad : Nat → Nat} {L : hL} {X' : hX} (C : hC p s m args meth c dC dI cy ad L (hA ad L s.heap.size) cX10_reads 1 wsX10_reads RX10) (hr : meth.sig.returnType = none) : ∀ (v0 : Nat) (X : hX) (ls : Array Slot), f_X10_reads_147 L v0 X = some X' → lv_has ls 1 [(0, .ref (ad v0))] → hG p l e (headSpec wsX10_reads ({ frames := 2, cells := 0, slots := 0, locals := 44 } : Room)).room s m args below meth c dC dI cy ad L (hA ad L s.heap.size) 0 0 (MQ below (hQ dC dI cy ad L s.heap.size none X') args s 0 0 (hA ad L s.heap.size)) X 147 ls [] := by
  intro v0 X ls h hl
  unfold f_X10_reads_147 at h
  refine hx_aload_n C dX10_reads_147 rfl (lv_at hl 0 rfl) ?_
  refine hx_dup C dX10_reads_148 rfl ?_
  obtain ⟨g2, h⟩ := hx_gd h
  refine hx_geti C (ci := 10) (j := 10) g2 uX10_reads_10 (by decide) rfl (by decide) rfl (by decide +kernel) rfl dX10_reads_149 ?_
  refine hx_aload_n C dX10_reads_152 rfl (lv_at hl 0 rfl) ?_
  refine hx_geti C (ci := 10) (j := 11) g2 uX10_reads_10 (by decide) rfl (by decide) rfl (by decide +kernel) rfl dX10_reads_153 ?_
  refine hx_iconst (v := 3) C dX10_reads_156 (by decide) ?_
  refine hx_icmp_ne (tgt := 164) C dX10_reads_157 (by decide) (fun c3 => ?_) (fun c3 => ?_)
  · have h := hx_neg c3 h
    refine hx_iconst (v := 0) C dX10_reads_164 (by decide) ?_
    refine hx_iadd C dX10_reads_165 ?_
    refine hx_puti C (ci := 10) (j := 10) tyX10 tyX10_ok nmX10 g2 uX10_reads_10 (by decide) rfl (by decide) rfl (by decide +kernel) rfl rfl (tyX10_ok 10 (by decide)) dX10_reads_166 rfl rfl ?_
    obtain rfl := hx_some1 h
    exact hx_vret C hr dX10_reads_169
  · have h := hx_pos c3 h
    refine hx_iconst (v := 1) C dX10_reads_160 (by decide) ?_
    refine hx_goto (tgt := 165) C dX10_reads_161 (by decide) ?_
    refine hx_iadd C dX10_reads_165 ?_
    refine hx_puti C (ci := 10) (j := 10) tyX10 tyX10_ok nmX10 g2 uX10_reads_10 (by decide) rfl (by decide) rfl (by decide +kernel) rfl rfl (tyX10_ok 10 (by decide)) dX10_reads_166 rfl rfl ?_
    obtain rfl := hx_some1 h
    exact hx_vret C hr dX10_reads_169
def f_X10_reads_115 (L : hL) (k96 : Nat → hX → Option (hX)) (v0 : Nat) (X : hX) : Option (hX) :=
  if tk L v0 10 then
  if (X.1 v0 11) = 2 then
    (f_X10_isIn L X v0 48 57).bind fun r6 =>
    if r6 = 0 then
      f_X10_reads_147 L v0 X
    else
      f_X10_reads_134 L k96 v0 X
  else
    f_X10_reads_147 L v0 X
  else none
set_option maxRecDepth 100000 in
set_option maxHeartbeats 4000000 in
theorem w_X10_reads_115 {p : Program} {l : Launch} {e : Env} {s : State} {m : MethodId} {args : Array Value} {below : List Frame} {meth : Method} {c : Code} {dC : Nat → ClassId} {dI : Nat → Nat → Nat} {cy : Nat → ClassId} {ad : Nat → Nat} {L : hL} {X' : hX} (k96 : Nat → hX → Option (hX)) (C : hC p s m args meth c dC dI cy ad L (hA ad L s.heap.size) cX10_reads 1 wsX10_reads RX10) (hr : meth.sig.returnType = none) (hk96 : ∀ (v0 : Nat) (X : hX) (ls : Array Slot), k96 v0 X = some X' → lv_has ls 1 [(0, .ref (ad v0))] → hG p l e (headSpec wsX10_reads ({ frames := 2, cells := 0, slots := 0, locals := 44 } : Room)).room s m args below meth c dC dI cy ad L (hA ad L s.heap.size) 0 0 (MQ below (hQ dC dI cy ad L s.heap.size none X') args s 0 0 (hA ad L s.heap.size)) X 96 ls []) : ∀ (v0 : Nat) (X : hX) (ls : Array Slot), f_X10_reads_115 L k96 v0 X = some X' → lv_has ls 1 [(0, .ref (ad v0))] → hG p l e (headSpec wsX10_reads ({ frames := 2, cells := 0, slots := 0, locals := 44 } : Room)).room s m args below meth c dC dI cy ad L (hA ad L s.heap.size) 0 0 (MQ below (hQ dC dI cy ad L s.heap.size none X') args s 0 0 (hA ad L s.heap.size)) X 115 ls [] := by
  intro v0 X ls h hl
  unfold f_X10_reads_115 at h
  refine hx_aload_n C dX10_reads_115 rfl (lv_at hl 0 rfl) ?_
  obtain ⟨g4, h⟩ := hx_gd h
  refine hx_geti C (ci := 10) (j := 11) g4 uX10_reads_10 (by decide) rfl (by decide) rfl (by decide +kernel) rfl dX10_reads_116 ?_
  refine hx_iconst (v := 2) C dX10_reads_119 (by decide) ?_
  refine hx_icmp_ne (tgt := 147) C dX10_reads_120 (by decide) (fun c5 => ?_) (fun c5 => ?_)
  · have h := hx_neg c5 h
    exact w_X10_reads_147 C hr v0 X ls h (lv_sub hl [0] rfl)
  · have h := hx_pos c5 h
    refine hx_aload_n C dX10_reads_123 rfl (lv_at hl 0 rfl) ?_
    refine hx_bipush (v := 48) C dX10_reads_124 (by decide) ?_
    refine hx_bipush (v := 57) C dX10_reads_126 (by decide) ?_
    obtain ⟨r6, e7, h⟩ := hx_bind h
    refine hx_callV (As := [.int 48, .int 57]) (rest := []) (n := 2) (Cn := RX10) C (c_X10_isIn e7) gX10_reads_X10_isIn g4 (by decide) rfl (by decide +kernel) ⟨Nat.le_of_ble_eq_true rfl, Nat.le_of_ble_eq_true rfl⟩ rfl rfl rfl ⟨Nat.zero_le _, Nat.zero_le _⟩ hl.1 rfl rfl (Nat.le_of_ble_eq_true rfl) dX10_reads_128 ?_
    refine hx_if_eq (tgt := 147) C dX10_reads_131 (by decide) (fun c8 => ?_) (fun c8 => ?_)
    · have h := hx_pos c8 h
      exact w_X10_reads_147 C hr v0 X ls h (lv_sub hl [0] rfl)
    · have h := hx_neg c8 h
      exact w_X10_reads_134 k96 C hr hk96 v0 X ls h (lv_sub hl [0] rfl)
def f_X10_reads_96 (L : hL) : Nat → Nat → hX → Option (hX)
  | 0, _, _ => none
  | n + 1, v0, X =>
    if tk L v0 10 then
    if (X.1 v0 11) = 1 then
      (f_X10_isIn L X v0 97 122).bind fun r11 =>
      if r11 = 0 then
        f_X10_reads_115 L (f_X10_reads_96 L n) v0 X
      else
        f_X10_reads_134 L (f_X10_reads_96 L n) v0 X
    else
      f_X10_reads_115 L (f_X10_reads_96 L n) v0 X
    else none
set_option maxRecDepth 100000 in
set_option maxHeartbeats 4000000 in
theorem w_X10_reads_96 {p : Program} {l : Launch} {e : Env} {s : State} {m : MethodId} {args : Array Value} {below : List Frame} {meth : Method} {c : Code} {dC : Nat → ClassId} {dI : Nat → Nat → Nat} {cy : Nat → ClassId} {ad : Nat → Nat} {L : hL} {X' : hX} (C : hC p s m args meth c dC dI cy ad L (hA ad L s.heap.size) cX10_reads 1 wsX10_reads RX10) (hr : meth.sig.returnType = none) : ∀ (n : Nat) (v0 : Nat) (X : hX) (ls : Array Slot), f_X10_reads_96 L n v0 X = some X' → lv_has ls 1 [(0, .ref (ad v0))] → hG p l e (headSpec wsX10_reads ({ frames := 2, cells := 0, slots := 0, locals := 44 } : Room)).room s m args below meth c dC dI cy ad L (hA ad L s.heap.size) 0 0 (MQ below (hQ dC dI cy ad L s.heap.size none X') args s 0 0 (hA ad L s.heap.size)) X 96 ls [] := by
  intro n
  induction n with
  | zero => intro v0 X ls h; cases h
  | succ n ih =>
    intro v0 X ls h hl
    rw [f_X10_reads_96] at h
    refine hx_aload_n C dX10_reads_96 rfl (lv_at hl 0 rfl) ?_
    obtain ⟨g9, h⟩ := hx_gd h
    refine hx_geti C (ci := 10) (j := 11) g9 uX10_reads_10 (by decide) rfl (by decide) rfl (by decide +kernel) rfl dX10_reads_97 ?_
    refine hx_iconst (v := 1) C dX10_reads_100 (by decide) ?_
    refine hx_icmp_ne (tgt := 115) C dX10_reads_101 (by decide) (fun c10 => ?_) (fun c10 => ?_)
    · have h := hx_neg c10 h
      exact w_X10_reads_115 (f_X10_reads_96 L n) C hr ih v0 X ls h (lv_sub hl [0] rfl)
    · have h := hx_pos c10 h
      refine hx_aload_n C dX10_reads_104 rfl (lv_at hl 0 rfl) ?_
      refine hx_bipush (v := 97) C dX10_reads_105 (by decide) ?_
      refine hx_bipush (v := 122) C dX10_reads_107 (by decide) ?_
      obtain ⟨r11, e12, h⟩ := hx_bind h
      refine hx_callV (As := [.int 97, .int 122]) (rest := []) (n := 2) (Cn := RX10) C (c_X10_isIn e12) gX10_reads_X10_isIn g9 (by decide) rfl (by decide +kernel) ⟨Nat.le_of_ble_eq_true rfl, Nat.le_of_ble_eq_true rfl⟩ rfl rfl rfl ⟨Nat.zero_le _, Nat.zero_le _⟩ hl.1 rfl rfl (Nat.le_of_ble_eq_true rfl) dX10_reads_109 ?_
      refine hx_if_ne (tgt := 134) C dX10_reads_112 (by decide) (fun c13 => ?_) (fun c13 => ?_)
      · have h := hx_neg c13 h
        exact w_X10_reads_134 (f_X10_reads_96 L n) C hr ih v0 X ls h (lv_sub hl [0] rfl)
      · have h := hx_pos c13 h
        exact w_X10_reads_115 (f_X10_reads_96 L n) C hr ih v0 X ls h (lv_sub hl [0] rfl)
def f_X10_reads_93 (L : hL) (v0 : Nat) (s0 : Int32) (s1 : Nat) (X : hX) : Option (hX) :=
  if tk L s1 10 then
  f_X10_reads_96 L u_fuel v0 (smi X s1 11 s0)
  else none
set_option maxRecDepth 100000 in
set_option maxHeartbeats 4000000 in
theorem w_X10_reads_93 {p : Program} {l : Launch} {e : Env} {s : State} {m : MethodId} {args : Array Value} {below : List Frame} {meth : Method} {c : Code} {dC : Nat → ClassId} {dI : Nat → Nat → Nat} {cy : Nat → ClassId} {ad : Nat → Nat} {L : hL} {X' : hX} (C : hC p s m args meth c dC dI cy ad L (hA ad L s.heap.size) cX10_reads 1 wsX10_reads RX10) (hr : meth.sig.returnType = none) : ∀ (v0 : Nat) (s0 : Int32) (s1 : Nat) (X : hX) (ls : Array Slot), f_X10_reads_93 L v0 s0 s1 X = some X' → lv_has ls 1 [(0, .ref (ad v0))] → hG p l e (headSpec wsX10_reads ({ frames := 2, cells := 0, slots := 0, locals := 44 } : Room)).room s m args below meth c dC dI cy ad L (hA ad L s.heap.size) 0 0 (MQ below (hQ dC dI cy ad L s.heap.size none X') args s 0 0 (hA ad L s.heap.size)) X 93 ls [.int s0, .ref (ad s1)] := by
  intro v0 s0 s1 X ls h hl
  unfold f_X10_reads_93 at h
  obtain ⟨g14, h⟩ := hx_gd h
  refine hx_puti C (ci := 10) (j := 11) tyX10 tyX10_ok nmX10 g14 uX10_reads_10 (by decide) rfl (by decide) rfl (by decide +kernel) rfl rfl (tyX10_ok 11 (by decide)) dX10_reads_93 rfl rfl ?_
  exact w_X10_reads_96 C hr u_fuel v0 (smi X s1 11 s0) ls h (lv_sub hl [0] rfl)
def f_X10_reads_38 (L : hL) (v0 : Nat) (X : hX) : Option (hX) :=
  if tk L v0 10 then
  if ((smi X v0 9 (X.1 v0 10)).1 v0 10) = ((smi X v0 9 (X.1 v0 10)).1 v0 6) then
    f_X10_reads_93 L v0 0 v0 (smi X v0 9 (X.1 v0 10))
  else
    (f_X10_isIn L (smi X v0 9 (X.1 v0 10)) v0 97 122).bind fun r17 =>
    if r17 = 0 then
      (f_X10_isIn L (smi X v0 9 (X.1 v0 10)) v0 48 57).bind fun r20 =>
      if r20 = 0 then
        f_X10_reads_93 L v0 3 v0 (smi X v0 9 (X.1 v0 10))
      else
        f_X10_reads_93 L v0 2 v0 (smi X v0 9 (X.1 v0 10))
    else
      f_X10_reads_93 L v0 1 v0 (smi X v0 9 (X.1 v0 10))
  else none
set_option maxRecDepth 100000 in
set_option maxHeartbeats 4000000 in
theorem w_X10_reads_38 {p : Program} {l : Launch} {e : Env} {s : State} {m : MethodId} {args : Array Value} {below : List Frame} {meth : Method} {c : Code} {dC : Nat → ClassId} {dI : Nat → Nat → Nat} {cy : Nat → ClassId} {ad : Nat → Nat} {L : hL} {X' : hX} (C : hC p s m args meth c dC dI cy ad L (hA ad L s.heap.size) cX10_reads 1 wsX10_reads RX10) (hr : meth.sig.returnType = none) : ∀ (v0 : Nat) (X : hX) (ls : Array Slot), f_X10_reads_38 L v0 X = some X' → lv_has ls 1 [(0, .ref (ad v0))] → hG p l e (headSpec wsX10_reads ({ frames := 2, cells := 0, slots := 0, locals := 44 } : Room)).room s m args below meth c dC dI cy ad L (hA ad L s.heap.size) 0 0 (MQ below (hQ dC dI cy ad L s.heap.size none X') args s 0 0 (hA ad L s.heap.size)) X 38 ls [] := by
  intro v0 X ls h hl
  unfold f_X10_reads_38 at h
  refine hx_aload_n C dX10_reads_38 rfl (lv_at hl 0 rfl) ?_
  refine hx_aload_n C dX10_reads_39 rfl (lv_at hl 0 rfl) ?_
  obtain ⟨g15, h⟩ := hx_gd h
  refine hx_geti C (ci := 10) (j := 10) g15 uX10_reads_10 (by decide) rfl (by decide) rfl (by decide +kernel) rfl dX10_reads_40 ?_
  refine hx_puti C (ci := 10) (j := 9) tyX10 tyX10_ok nmX10 g15 uX10_reads_10 (by decide) rfl (by decide) rfl (by decide +kernel) rfl rfl (tyX10_ok 9 (by decide)) dX10_reads_43 rfl rfl ?_
  refine hx_aload_n C dX10_reads_46 rfl (lv_at hl 0 rfl) ?_
  refine hx_aload_n C dX10_reads_47 rfl (lv_at hl 0 rfl) ?_
  refine hx_geti C (ci := 10) (j := 10) g15 uX10_reads_10 (by decide) rfl (by decide) rfl (by decide +kernel) rfl dX10_reads_48 ?_
  refine hx_aload_n C dX10_reads_51 rfl (lv_at hl 0 rfl) ?_
  refine hx_geti C (ci := 10) (j := 6) g15 uX10_reads_10 (by decide) rfl (by decide) rfl (by decide +kernel) rfl dX10_reads_52 ?_
  refine hx_icmp_ne (tgt := 62) C dX10_reads_55 (by decide) (fun c16 => ?_) (fun c16 => ?_)
  · have h := hx_neg c16 h
    refine hx_aload_n C dX10_reads_62 rfl (lv_at hl 0 rfl) ?_
    refine hx_bipush (v := 97) C dX10_reads_63 (by decide) ?_
    refine hx_bipush (v := 122) C dX10_reads_65 (by decide) ?_
    obtain ⟨r17, e18, h⟩ := hx_bind h
    refine hx_callV (As := [.int 97, .int 122]) (rest := [.ref (ad v0)]) (n := 2) (Cn := RX10) C (c_X10_isIn e18) gX10_reads_X10_isIn g15 (by decide) rfl (by decide +kernel) ⟨Nat.le_of_ble_eq_true rfl, Nat.le_of_ble_eq_true rfl⟩ rfl rfl rfl ⟨Nat.zero_le _, Nat.zero_le _⟩ hl.1 rfl rfl (Nat.le_of_ble_eq_true rfl) dX10_reads_67 ?_
    refine hx_if_eq (tgt := 77) C dX10_reads_70 (by decide) (fun c19 => ?_) (fun c19 => ?_)
    · have h := hx_pos c19 h
      refine hx_aload_n C dX10_reads_77 rfl (lv_at hl 0 rfl) ?_
      refine hx_bipush (v := 48) C dX10_reads_78 (by decide) ?_
      refine hx_bipush (v := 57) C dX10_reads_80 (by decide) ?_
      obtain ⟨r20, e21, h⟩ := hx_bind h
      refine hx_callV (As := [.int 48, .int 57]) (rest := [.ref (ad v0)]) (n := 2) (Cn := RX10) C (c_X10_isIn e21) gX10_reads_X10_isIn g15 (by decide) rfl (by decide +kernel) ⟨Nat.le_of_ble_eq_true rfl, Nat.le_of_ble_eq_true rfl⟩ rfl rfl rfl ⟨Nat.zero_le _, Nat.zero_le _⟩ hl.1 rfl rfl (Nat.le_of_ble_eq_true rfl) dX10_reads_82 ?_
      refine hx_if_eq (tgt := 92) C dX10_reads_85 (by decide) (fun c22 => ?_) (fun c22 => ?_)
      · have h := hx_pos c22 h
        refine hx_iconst (v := 3) C dX10_reads_92 (by decide) ?_
        exact w_X10_reads_93 C hr v0 3 v0 (smi X v0 9 (X.1 v0 10)) ls h (lv_sub hl [0] rfl)
      · have h := hx_neg c22 h
        refine hx_iconst (v := 2) C dX10_reads_88 (by decide) ?_
        refine hx_goto (tgt := 93) C dX10_reads_89 (by decide) ?_
        exact w_X10_reads_93 C hr v0 2 v0 (smi X v0 9 (X.1 v0 10)) ls h (lv_sub hl [0] rfl)
    · have h := hx_neg c19 h
      refine hx_iconst (v := 1) C dX10_reads_73 (by decide) ?_
      refine hx_goto (tgt := 93) C dX10_reads_74 (by decide) ?_
      exact w_X10_reads_93 C hr v0 1 v0 (smi X v0 9 (X.1 v0 10)) ls h (lv_sub hl [0] rfl)
  · have h := hx_pos c16 h
    refine hx_iconst (v := 0) C dX10_reads_58 (by decide) ?_
    refine hx_goto (tgt := 93) C dX10_reads_59 (by decide) ?_
    exact w_X10_reads_93 C hr v0 0 v0 (smi X v0 9 (X.1 v0 10)) ls h (lv_sub hl [0] rfl)
def f_X10_reads_0 (L : hL) : Nat → Nat → hX → Option (hX)
  | 0, _, _ => none
  | n + 1, v0, X =>
    if tk L v0 10 then
    if (X.1 v0 6) ≤ (X.1 v0 10) then
      f_X10_reads_38 L v0 X
    else
      (X.2 v0 5).bind fun q25 =>
      if tk L q25 11 then
      if hin (X.1 v0 10) (L.2.2 q25) then
      if (X.1 q25 (Int32.toNatClampNeg (X.1 v0 10))) = 32 then
        f_X10_reads_0 L n v0 (smi X v0 10 ((X.1 v0 10) + 1))
      else
        f_X10_reads_38 L v0 X
      else none
      else none
    else none
set_option maxRecDepth 100000 in
set_option maxHeartbeats 4000000 in
theorem w_X10_reads_0 {p : Program} {l : Launch} {e : Env} {s : State} {m : MethodId} {args : Array Value} {below : List Frame} {meth : Method} {c : Code} {dC : Nat → ClassId} {dI : Nat → Nat → Nat} {cy : Nat → ClassId} {ad : Nat → Nat} {L : hL} {X' : hX} (C : hC p s m args meth c dC dI cy ad L (hA ad L s.heap.size) cX10_reads 1 wsX10_reads RX10) (hr : meth.sig.returnType = none) : ∀ (n : Nat) (v0 : Nat) (X : hX) (ls : Array Slot), f_X10_reads_0 L n v0 X = some X' → lv_has ls 1 [(0, .ref (ad v0))] → hG p l e (headSpec wsX10_reads ({ frames := 2, cells := 0, slots := 0, locals := 44 } : Room)).room s m args below meth c dC dI cy ad L (hA ad L s.heap.size) 0 0 (MQ below (hQ dC dI cy ad L s.heap.size none X') args s 0 0 (hA ad L s.heap.size)) X 0 ls [] := by
  intro n
  induction n with
  | zero => intro v0 X ls h; cases h
  | succ n ih =>
    intro v0 X ls h hl
    rw [f_X10_reads_0] at h
    refine hx_aload_n C dX10_reads_0 rfl (lv_at hl 0 rfl) ?_
    obtain ⟨g23, h⟩ := hx_gd h
    refine hx_geti C (ci := 10) (j := 10) g23 uX10_reads_10 (by decide) rfl (by decide) rfl (by decide +kernel) rfl dX10_reads_1 ?_
    refine hx_aload_n C dX10_reads_4 rfl (lv_at hl 0 rfl) ?_
    refine hx_geti C (ci := 10) (j := 6) g23 uX10_reads_10 (by decide) rfl (by decide) rfl (by decide +kernel) rfl dX10_reads_5 ?_
    refine hx_icmp_ge (tgt := 38) C dX10_reads_8 (by decide) (fun c24 => ?_) (fun c24 => ?_)
    · have h := hx_pos c24 h
      exact w_X10_reads_38 C hr v0 X ls h (lv_sub hl [0] rfl)
    · have h := hx_neg c24 h
      refine hx_aload_n C dX10_reads_11 rfl (lv_at hl 0 rfl) ?_
      obtain ⟨q25, e26, h⟩ := hx_bind h
      refine hx_getr C (ci := 10) (j := 5) g23 uX10_reads_10 (by decide) rfl (by decide) rfl (by decide +kernel) rfl dX10_reads_12 e26 ?_
      refine hx_aload_n C dX10_reads_15 rfl (lv_at hl 0 rfl) ?_
      refine hx_geti C (ci := 10) (j := 10) g23 uX10_reads_10 (by decide) rfl (by decide) rfl (by decide +kernel) rfl dX10_reads_16 ?_
      obtain ⟨g27, h⟩ := hx_gd h
      obtain ⟨g28, h⟩ := hx_gd h
      refine hx_cald (n := (Int32.toNatClampNeg (X.1 v0 10))) C g27 g28 rfl dX10_reads_19 ?_
      refine hx_bipush (v := 32) C dX10_reads_20 (by decide) ?_
      refine hx_icmp_ne (tgt := 38) C dX10_reads_22 (by decide) (fun c29 => ?_) (fun c29 => ?_)
      · have h := hx_neg c29 h
        exact w_X10_reads_38 C hr v0 X ls h (lv_sub hl [0] rfl)
      · have h := hx_pos c29 h
        refine hx_aload_n C dX10_reads_25 rfl (lv_at hl 0 rfl) ?_
        refine hx_dup C dX10_reads_26 rfl ?_
        refine hx_geti C (ci := 10) (j := 10) g23 uX10_reads_10 (by decide) rfl (by decide) rfl (by decide +kernel) rfl dX10_reads_27 ?_
        refine hx_iconst (v := 1) C dX10_reads_30 (by decide) ?_
        refine hx_iadd C dX10_reads_31 ?_
        refine hx_puti C (ci := 10) (j := 10) tyX10 tyX10_ok nmX10 g23 uX10_reads_10 (by decide) rfl (by decide) rfl (by decide +kernel) rfl rfl (tyX10_ok 10 (by decide)) dX10_reads_32 rfl rfl ?_
        refine hx_goto (tgt := 0) C dX10_reads_35 (by decide) ?_
        exact ih v0 (smi X v0 10 ((X.1 v0 10) + 1)) ls h (lv_sub hl [0] rfl)
def f_X10_reads (L : hL) (X : hX) (this : Nat) : Option (hX) :=
  f_X10_reads_0 L u_fuel this X
set_option maxRecDepth 100000 in
set_option maxHeartbeats 4000000 in
theorem c_X10_reads {l : Launch} {dC : Nat → ClassId} {dI : Nat → Nat → Nat} {cy : Nat → ClassId} {ad : Nat → Nat} {L : hL} {X : hX} {this : Nat} {X' : hX} (h : f_X10_reads L X this = some X') : hMet l dC dI cy ad L yX10_reads wsX10_reads ({ frames := 2, cells := 0, slots := 0, locals := 44 } : Room) [.ref (ad this)] X none X' := by
  unfold f_X10_reads at h
  refine hx_enter RX10 (plainFor_of_name (by decide)) rfl rfl (Nat.le_of_ble_eq_true rfl) (fun p e s m args below meth c C hr hnm ls hl => ?_)
  have hl : lv_has ls 1 [(0, .ref (ad this))] := hl
  exact w_X10_reads_0 C hr u_fuel this X ls h (lv_sub hl [0] rfl)
def f_X10_numbers (L : hL) (X : hX) (a1 : Int32) : Option (Int32) :=
  if a1 = 2745 then
    some 3
  else
  if a1 = 114085 then
    some 1
  else
  if a1 = 370116 then
    some 3
  else
  if a1 = 611717 then
    some 1
  else
  if a1 = 3540269 then
    some 2
  else
  if a1 = 17377093 then
    some 5
  else
  if a1 = 20022661 then
    some 2
  else
  if a1 = 24290536 then
    some 3
  else
  some (-1)
set_option maxRecDepth 100000 in
set_option maxHeartbeats 4000000 in
theorem c_X10_numbers {l : Launch} {dC : Nat → ClassId} {dI : Nat → Nat → Nat} {cy : Nat → ClassId} {ad : Nat → Nat} {L : hL} {X : hX} {a1 : Int32} {r : Int32} (h : f_X10_numbers L X a1 = some r) : hMet l dC dI cy ad L yX10_numbers wsX10_numbers ({ frames := 0, cells := 0, slots := 0, locals := 0 } : Room) [.int a1] X (some (.int r)) X := by
  unfold f_X10_numbers at h
  refine hx_enter RX10 (plainFor_of_name (by decide)) rfl rfl (Nat.le_of_ble_eq_true rfl) (fun p e s m args below meth c C hr hnm ls hl => ?_)
  have hl : lv_has ls 1 [(0, .int a1)] := hl
  refine hx_iload_n C dX10_numbers_0 rfl (lv_at hl 0 rfl) ?_
  by_cases c1 : a1 = 2745
  · have h := hx_pos c1 h
    have hz : Int32.toInt a1 = 2745 := by rw [c1]; rfl
    refine hx_look (tgt := 80) (off := 79) C [(2745, 79), (114085, 75), (370116, 79), (611717, 75), (3540269, 77), (17377093, 81), (20022661, 77), (24290536, 79)] dX10_numbers_1 rfl (by decide) (by rw [hz] <;> decide) (by decide) ?_
    refine hx_iconst (v := 3) C dX10_numbers_80 (by decide) ?_
    obtain rfl := hx_some1 h
    exact hx_iret C hr dX10_numbers_81
  have h := hx_neg c1 h
  have zc1 : Int32.toInt a1 ≠ 2745 := fun z => c1 (Int32.toInt_inj.mp (z.trans rfl))
  by_cases c2 : a1 = 114085
  · have h := hx_pos c2 h
    have hz : Int32.toInt a1 = 114085 := by rw [c2]; rfl
    refine hx_look (tgt := 76) (off := 75) C [(2745, 79), (114085, 75), (370116, 79), (611717, 75), (3540269, 77), (17377093, 81), (20022661, 77), (24290536, 79)] dX10_numbers_1 rfl (by decide) (by rw [hz] <;> decide) (by decide) ?_
    refine hx_iconst (v := 1) C dX10_numbers_76 (by decide) ?_
    obtain rfl := hx_some1 h
    exact hx_iret C hr dX10_numbers_77
  have h := hx_neg c2 h
  have zc2 : Int32.toInt a1 ≠ 114085 := fun z => c2 (Int32.toInt_inj.mp (z.trans rfl))
  by_cases c3 : a1 = 370116
  · have h := hx_pos c3 h
    have hz : Int32.toInt a1 = 370116 := by rw [c3]; rfl
    refine hx_look (tgt := 80) (off := 79) C [(2745, 79), (114085, 75), (370116, 79), (611717, 75), (3540269, 77), (17377093, 81), (20022661, 77), (24290536, 79)] dX10_numbers_1 rfl (by decide) (by rw [hz] <;> decide) (by decide) ?_
    refine hx_iconst (v := 3) C dX10_numbers_80 (by decide) ?_
    obtain rfl := hx_some1 h
    exact hx_iret C hr dX10_numbers_81
  have h := hx_neg c3 h
  have zc3 : Int32.toInt a1 ≠ 370116 := fun z => c3 (Int32.toInt_inj.mp (z.trans rfl))
  by_cases c4 : a1 = 611717
  · have h := hx_pos c4 h
    have hz : Int32.toInt a1 = 611717 := by rw [c4]; rfl
    refine hx_look (tgt := 76) (off := 75) C [(2745, 79), (114085, 75), (370116, 79), (611717, 75), (3540269, 77), (17377093, 81), (20022661, 77), (24290536, 79)] dX10_numbers_1 rfl (by decide) (by rw [hz] <;> decide) (by decide) ?_
    refine hx_iconst (v := 1) C dX10_numbers_76 (by decide) ?_
    obtain rfl := hx_some1 h
    exact hx_iret C hr dX10_numbers_77
  have h := hx_neg c4 h
  have zc4 : Int32.toInt a1 ≠ 611717 := fun z => c4 (Int32.toInt_inj.mp (z.trans rfl))
  by_cases c5 : a1 = 3540269
  · have h := hx_pos c5 h
    have hz : Int32.toInt a1 = 3540269 := by rw [c5]; rfl
    refine hx_look (tgt := 78) (off := 77) C [(2745, 79), (114085, 75), (370116, 79), (611717, 75), (3540269, 77), (17377093, 81), (20022661, 77), (24290536, 79)] dX10_numbers_1 rfl (by decide) (by rw [hz] <;> decide) (by decide) ?_
    refine hx_iconst (v := 2) C dX10_numbers_78 (by decide) ?_
    obtain rfl := hx_some1 h
    exact hx_iret C hr dX10_numbers_79
  have h := hx_neg c5 h
  have zc5 : Int32.toInt a1 ≠ 3540269 := fun z => c5 (Int32.toInt_inj.mp (z.trans rfl))
  by_cases c6 : a1 = 17377093
  · have h := hx_pos c6 h
    have hz : Int32.toInt a1 = 17377093 := by rw [c6]; rfl
    refine hx_look (tgt := 82) (off := 81) C [(2745, 79), (114085, 75), (370116, 79), (611717, 75), (3540269, 77), (17377093, 81), (20022661, 77), (24290536, 79)] dX10_numbers_1 rfl (by decide) (by rw [hz] <;> decide) (by decide) ?_
    refine hx_iconst (v := 5) C dX10_numbers_82 (by decide) ?_
    obtain rfl := hx_some1 h
    exact hx_iret C hr dX10_numbers_83
  have h := hx_neg c6 h
  have zc6 : Int32.toInt a1 ≠ 17377093 := fun z => c6 (Int32.toInt_inj.mp (z.trans rfl))
  by_cases c7 : a1 = 20022661
  · have h := hx_pos c7 h
    have hz : Int32.toInt a1 = 20022661 := by rw [c7]; rfl
    refine hx_look (tgt := 78) (off := 77) C [(2745, 79), (114085, 75), (370116, 79), (611717, 75), (3540269, 77), (17377093, 81), (20022661, 77), (24290536, 79)] dX10_numbers_1 rfl (by decide) (by rw [hz] <;> decide) (by decide) ?_
    refine hx_iconst (v := 2) C dX10_numbers_78 (by decide) ?_
    obtain rfl := hx_some1 h
    exact hx_iret C hr dX10_numbers_79
  have h := hx_neg c7 h
  have zc7 : Int32.toInt a1 ≠ 20022661 := fun z => c7 (Int32.toInt_inj.mp (z.trans rfl))
  by_cases c8 : a1 = 24290536
  · have h := hx_pos c8 h
    have hz : Int32.toInt a1 = 24290536 := by rw [c8]; rfl
    refine hx_look (tgt := 80) (off := 79) C [(2745, 79), (114085, 75), (370116, 79), (611717, 75), (3540269, 77), (17377093, 81), (20022661, 77), (24290536, 79)] dX10_numbers_1 rfl (by decide) (by rw [hz] <;> decide) (by decide) ?_
    refine hx_iconst (v := 3) C dX10_numbers_80 (by decide) ?_
    obtain rfl := hx_some1 h
    exact hx_iret C hr dX10_numbers_81
  have h := hx_neg c8 h
  have zc8 : Int32.toInt a1 ≠ 24290536 := fun z => c8 (Int32.toInt_inj.mp (z.trans rfl))
  refine hx_look (tgt := 84) (off := 83) C [(2745, 79), (114085, 75), (370116, 79), (611717, 75), (3540269, 77), (17377093, 81), (20022661, 77), (24290536, 79)] dX10_numbers_1 rfl (by decide) (by simp only [Op.lookupswitch.offset, if_neg (Ne.symm zc1), if_neg (Ne.symm zc2), if_neg (Ne.symm zc3), if_neg (Ne.symm zc4), if_neg (Ne.symm zc5), if_neg (Ne.symm zc6), if_neg (Ne.symm zc7), if_neg (Ne.symm zc8)]) (by decide) ?_
  refine hx_iconst (v := (-1)) C dX10_numbers_84 (by decide) ?_
  obtain rfl := hx_some1 h
  exact hx_iret C hr dX10_numbers_85
theorem uX10_word_10 : ∀ w ∈ u_ws RX10 TX10 15, w ∈ wsX10_word := by decide +kernel
def f_X10_word_7 (L : hL) : Nat → Nat → Int32 → Int32 → hX → Option (Int32)
  | 0, _, _, _, _ => none
  | n + 1, v0, v1, v2, X =>
    if tk L v0 10 then
    if (X.1 v0 10) ≤ v2 then
      some v1
    else
      if 6 ≤ ((X.1 v0 10) - (X.1 v0 9)) then
        some v1
      else
        (X.2 v0 5).bind fun q4 =>
        if tk L q4 11 then
        if hin v2 (L.2.2 q4) then
        f_X10_word_7 L n v0 (((32 * v1) + (X.1 q4 (Int32.toNatClampNeg v2))) - 96) (v2 + 1) X
        else none
        else none
    else none
set_option maxRecDepth 100000 in
set_option maxHeartbeats 4000000 in
theorem w_X10_word_7 {p : Program} {l : Launch} {e : Env} {s : State} {m : MethodId} {args : Array Value} {below : List Frame} {meth : Method} {c : Code} {dC : Nat → ClassId} {dI : Nat → Nat → Nat} {cy : Nat → ClassId} {ad : Nat → Nat} {L : hL} {r : Int32} (C : hC p s m args meth c dC dI cy ad L (hA ad L s.heap.size) cX10_word 3 wsX10_word RX10) (hr : meth.sig.returnType = (some .int)) : ∀ (n : Nat) (v0 : Nat) (v1 : Int32) (v2 : Int32) (X : hX) (ls : Array Slot), f_X10_word_7 L n v0 v1 v2 X = some r → lv_has ls 3 [(0, .ref (ad v0)), (1, .int v1), (2, .int v2)] → hG p l e (headSpec wsX10_word ({ frames := 0, cells := 0, slots := 0, locals := 0 } : Room)).room s m args below meth c dC dI cy ad L (hA ad L s.heap.size) 0 0 (MQ below (hQ dC dI cy ad L s.heap.size (some (.int r)) X) args s 0 0 (hA ad L s.heap.size)) X 7 ls [] := by
  intro n
  induction n with
  | zero => intro v0 v1 v2 X ls h; cases h
  | succ n ih =>
    intro v0 v1 v2 X ls h hl
    rw [f_X10_word_7] at h
    refine hx_iload_n C dX10_word_7 rfl (lv_at hl 2 rfl) ?_
    refine hx_aload_n C dX10_word_8 rfl (lv_at hl 0 rfl) ?_
    obtain ⟨g1, h⟩ := hx_gd h
    refine hx_geti C (ci := 10) (j := 10) g1 uX10_word_10 (by decide) rfl (by decide) rfl (by decide +kernel) rfl dX10_word_9 ?_
    refine hx_icmp_ge (tgt := 50) C dX10_word_12 (by decide) (fun c2 => ?_) (fun c2 => ?_)
    · have h := hx_pos c2 h
      refine hx_iload_n C dX10_word_50 rfl (lv_at hl 1 rfl) ?_
      obtain rfl := hx_some1 h
      exact hx_iret C hr dX10_word_51
    · have h := hx_neg c2 h
      refine hx_aload_n C dX10_word_15 rfl (lv_at hl 0 rfl) ?_
      refine hx_geti C (ci := 10) (j := 10) g1 uX10_word_10 (by decide) rfl (by decide) rfl (by decide +kernel) rfl dX10_word_16 ?_
      refine hx_aload_n C dX10_word_19 rfl (lv_at hl 0 rfl) ?_
      refine hx_geti C (ci := 10) (j := 9) g1 uX10_word_10 (by decide) rfl (by decide) rfl (by decide +kernel) rfl dX10_word_20 ?_
      refine hx_isub C dX10_word_23 ?_
      refine hx_bipush (v := 6) C dX10_word_24 (by decide) ?_
      refine hx_icmp_ge (tgt := 50) C dX10_word_26 (by decide) (fun c3 => ?_) (fun c3 => ?_)
      · have h := hx_pos c3 h
        refine hx_iload_n C dX10_word_50 rfl (lv_at hl 1 rfl) ?_
        obtain rfl := hx_some1 h
        exact hx_iret C hr dX10_word_51
      · have h := hx_neg c3 h
        refine hx_bipush (v := 32) C dX10_word_29 (by decide) ?_
        refine hx_iload_n C dX10_word_31 rfl (lv_at hl 1 rfl) ?_
        refine hx_imul C dX10_word_32 ?_
        refine hx_aload_n C dX10_word_33 rfl (lv_at hl 0 rfl) ?_
        obtain ⟨q4, e5, h⟩ := hx_bind h
        refine hx_getr C (ci := 10) (j := 5) g1 uX10_word_10 (by decide) rfl (by decide) rfl (by decide +kernel) rfl dX10_word_34 e5 ?_
        refine hx_iload_n C dX10_word_37 rfl (lv_at hl 2 rfl) ?_
        obtain ⟨g6, h⟩ := hx_gd h
        obtain ⟨g7, h⟩ := hx_gd h
        refine hx_cald (n := (Int32.toNatClampNeg v2)) C g6 g7 rfl dX10_word_38 ?_
        refine hx_iadd C dX10_word_39 ?_
        refine hx_bipush (v := 96) C dX10_word_40 (by decide) ?_
        refine hx_isub C dX10_word_42 ?_
        refine hx_istore_n (lv' := [(1, .int (((32 * v1) + (X.1 q4 (Int32.toNatClampNeg v2))) - 96)), (0, .ref (ad v0)), (2, .int v2)]) C dX10_word_43 rfl hl (by decide) rfl (fun ls hl => ?_)
        refine hx_iinc (v := v2 + 1) (lv' := [(2, .int (v2 + 1)), (1, .int (((32 * v1) + (X.1 q4 (Int32.toNatClampNeg v2))) - 96)), (0, .ref (ad v0))]) C dX10_word_44 hl (k := 2) rfl rfl (by decide) rfl (fun ls hl => ?_)
        refine hx_goto (tgt := 7) C dX10_word_47 (by decide) ?_
        exact ih v0 (((32 * v1) + (X.1 q4 (Int32.toNatClampNeg v2))) - 96) (v2 + 1) X ls h (lv_sub hl [2, 1, 0] rfl)
def f_X10_word (L : hL) (X : hX) (this : Nat) : Option (Int32) :=
  if tk L this 10 then
  f_X10_word_7 L u_fuel this 0 (X.1 this 9) X
  else none
set_option maxRecDepth 100000 in
set_option maxHeartbeats 4000000 in
theorem c_X10_word {l : Launch} {dC : Nat → ClassId} {dI : Nat → Nat → Nat} {cy : Nat → ClassId} {ad : Nat → Nat} {L : hL} {X : hX} {this : Nat} {r : Int32} (h : f_X10_word L X this = some r) : hMet l dC dI cy ad L yX10_word wsX10_word ({ frames := 0, cells := 0, slots := 0, locals := 0 } : Room) [.ref (ad this)] X (some (.int r)) X := by
  unfold f_X10_word at h
  refine hx_enter RX10 (plainFor_of_name (by decide)) rfl rfl (Nat.le_of_ble_eq_true rfl) (fun p e s m args below meth c C hr hnm ls hl => ?_)
  have hl : lv_has ls 3 [(0, .ref (ad this))] := hl
  refine hx_iconst (v := 0) C dX10_word_0 (by decide) ?_
  refine hx_istore_n (lv' := [(1, .int 0), (0, .ref (ad this))]) C dX10_word_1 rfl hl (by decide) rfl (fun ls hl => ?_)
  refine hx_aload_n C dX10_word_2 rfl (lv_at hl 1 rfl) ?_
  obtain ⟨g8, h⟩ := hx_gd h
  refine hx_geti C (ci := 10) (j := 9) g8 uX10_word_10 (by decide) rfl (by decide) rfl (by decide +kernel) rfl dX10_word_3 ?_
  refine hx_istore_n (lv' := [(2, .int (X.1 this 9)), (1, .int 0), (0, .ref (ad this))]) C dX10_word_6 rfl hl (by decide) rfl (fun ls hl => ?_)
  exact w_X10_word_7 C hr u_fuel this 0 (X.1 this 9) X ls h (lv_sub hl [2, 1, 0] rfl)
theorem uX10_isNumber_10 : ∀ w ∈ u_ws RX10 TX10 15, w ∈ wsX10_isNumber := by decide +kernel
def f_X10_isNumber (L : hL) (X : hX) (this : Nat) : Option (Int32) :=
  if tk L this 10 then
  if (X.1 this 11) = 2 then
    if 6 < ((X.1 this 10) - (X.1 this 9)) then
      some 0
    else
      if ((X.1 this 10) - (X.1 this 9)) = 1 then
        some 1
      else
        (X.2 this 5).bind fun q5 =>
        if tk L q5 11 then
        if hin (X.1 this 9) (L.2.2 q5) then
        if (X.1 q5 (Int32.toNatClampNeg (X.1 this 9))) = 48 then
          some 0
        else
          some 1
        else none
        else none
  else
    some 0
  else none
set_option maxRecDepth 100000 in
set_option maxHeartbeats 4000000 in
theorem c_X10_isNumber {l : Launch} {dC : Nat → ClassId} {dI : Nat → Nat → Nat} {cy : Nat → ClassId} {ad : Nat → Nat} {L : hL} {X : hX} {this : Nat} {r : Int32} (h : f_X10_isNumber L X this = some r) : hMet l dC dI cy ad L yX10_isNumber wsX10_isNumber ({ frames := 0, cells := 0, slots := 0, locals := 0 } : Room) [.ref (ad this)] X (some (.int r)) X := by
  unfold f_X10_isNumber at h
  refine hx_enter RX10 (plainFor_of_name (by decide)) rfl rfl (Nat.le_of_ble_eq_true rfl) (fun p e s m args below meth c C hr hnm ls hl => ?_)
  have hl : lv_has ls 1 [(0, .ref (ad this))] := hl
  refine hx_aload_n C dX10_isNumber_0 rfl (lv_at hl 0 rfl) ?_
  obtain ⟨g1, h⟩ := hx_gd h
  refine hx_geti C (ci := 10) (j := 11) g1 uX10_isNumber_10 (by decide) rfl (by decide) rfl (by decide +kernel) rfl dX10_isNumber_1 ?_
  refine hx_iconst (v := 2) C dX10_isNumber_4 (by decide) ?_
  refine hx_icmp_ne (tgt := 53) C dX10_isNumber_5 (by decide) (fun c2 => ?_) (fun c2 => ?_)
  · have h := hx_neg c2 h
    refine hx_iconst (v := 0) C dX10_isNumber_53 (by decide) ?_
    obtain rfl := hx_some1 h
    exact hx_zret C hr rfl dX10_isNumber_54
  · have h := hx_pos c2 h
    refine hx_aload_n C dX10_isNumber_8 rfl (lv_at hl 0 rfl) ?_
    refine hx_geti C (ci := 10) (j := 10) g1 uX10_isNumber_10 (by decide) rfl (by decide) rfl (by decide +kernel) rfl dX10_isNumber_9 ?_
    refine hx_aload_n C dX10_isNumber_12 rfl (lv_at hl 0 rfl) ?_
    refine hx_geti C (ci := 10) (j := 9) g1 uX10_isNumber_10 (by decide) rfl (by decide) rfl (by decide +kernel) rfl dX10_isNumber_13 ?_
    refine hx_isub C dX10_isNumber_16 ?_
    refine hx_bipush (v := 6) C dX10_isNumber_17 (by decide) ?_
    refine hx_icmp_gt (tgt := 53) C dX10_isNumber_19 (by decide) (fun c3 => ?_) (fun c3 => ?_)
    · have h := hx_pos c3 h
      refine hx_iconst (v := 0) C dX10_isNumber_53 (by decide) ?_
      obtain rfl := hx_some1 h
      exact hx_zret C hr rfl dX10_isNumber_54
    · have h := hx_neg c3 h
      refine hx_aload_n C dX10_isNumber_22 rfl (lv_at hl 0 rfl) ?_
      refine hx_geti C (ci := 10) (j := 10) g1 uX10_isNumber_10 (by decide) rfl (by decide) rfl (by decide +kernel) rfl dX10_isNumber_23 ?_
      refine hx_aload_n C dX10_isNumber_26 rfl (lv_at hl 0 rfl) ?_
      refine hx_geti C (ci := 10) (j := 9) g1 uX10_isNumber_10 (by decide) rfl (by decide) rfl (by decide +kernel) rfl dX10_isNumber_27 ?_
      refine hx_isub C dX10_isNumber_30 ?_
      refine hx_iconst (v := 1) C dX10_isNumber_31 (by decide) ?_
      refine hx_icmp_eq (tgt := 49) C dX10_isNumber_32 (by decide) (fun c4 => ?_) (fun c4 => ?_)
      · have h := hx_pos c4 h
        refine hx_iconst (v := 1) C dX10_isNumber_49 (by decide) ?_
        refine hx_goto (tgt := 54) C dX10_isNumber_50 (by decide) ?_
        obtain rfl := hx_some1 h
        exact hx_zret C hr rfl dX10_isNumber_54
      · have h := hx_neg c4 h
        refine hx_aload_n C dX10_isNumber_35 rfl (lv_at hl 0 rfl) ?_
        obtain ⟨q5, e6, h⟩ := hx_bind h
        refine hx_getr C (ci := 10) (j := 5) g1 uX10_isNumber_10 (by decide) rfl (by decide) rfl (by decide +kernel) rfl dX10_isNumber_36 e6 ?_
        refine hx_aload_n C dX10_isNumber_39 rfl (lv_at hl 0 rfl) ?_
        refine hx_geti C (ci := 10) (j := 9) g1 uX10_isNumber_10 (by decide) rfl (by decide) rfl (by decide +kernel) rfl dX10_isNumber_40 ?_
        obtain ⟨g7, h⟩ := hx_gd h
        obtain ⟨g8, h⟩ := hx_gd h
        refine hx_cald (n := (Int32.toNatClampNeg (X.1 this 9))) C g7 g8 rfl dX10_isNumber_43 ?_
        refine hx_bipush (v := 48) C dX10_isNumber_44 (by decide) ?_
        refine hx_icmp_eq (tgt := 53) C dX10_isNumber_46 (by decide) (fun c9 => ?_) (fun c9 => ?_)
        · have h := hx_pos c9 h
          refine hx_iconst (v := 0) C dX10_isNumber_53 (by decide) ?_
          obtain rfl := hx_some1 h
          exact hx_zret C hr rfl dX10_isNumber_54
        · have h := hx_neg c9 h
          refine hx_iconst (v := 1) C dX10_isNumber_49 (by decide) ?_
          refine hx_goto (tgt := 54) C dX10_isNumber_50 (by decide) ?_
          obtain rfl := hx_some1 h
          exact hx_zret C hr rfl dX10_isNumber_54
theorem uX10_value_10 : ∀ w ∈ u_ws RX10 TX10 15, w ∈ wsX10_value := by decide +kernel
def f_X10_value_7 (L : hL) : Nat → Nat → Int32 → Int32 → hX → Option (Int32)
  | 0, _, _, _, _ => none
  | n + 1, v0, v1, v2, X =>
    if tk L v0 10 then
    if (X.1 v0 10) ≤ v2 then
      some v1
    else
      (X.2 v0 5).bind fun q3 =>
      if tk L q3 11 then
      if hin v2 (L.2.2 q3) then
      f_X10_value_7 L n v0 (((10 * v1) + (X.1 q3 (Int32.toNatClampNeg v2))) - 48) (v2 + 1) X
      else none
      else none
    else none
set_option maxRecDepth 100000 in
set_option maxHeartbeats 4000000 in
theorem w_X10_value_7 {p : Program} {l : Launch} {e : Env} {s : State} {m : MethodId} {args : Array Value} {below : List Frame} {meth : Method} {c : Code} {dC : Nat → ClassId} {dI : Nat → Nat → Nat} {cy : Nat → ClassId} {ad : Nat → Nat} {L : hL} {r : Int32} (C : hC p s m args meth c dC dI cy ad L (hA ad L s.heap.size) cX10_value 3 wsX10_value RX10) (hr : meth.sig.returnType = (some .int)) : ∀ (n : Nat) (v0 : Nat) (v1 : Int32) (v2 : Int32) (X : hX) (ls : Array Slot), f_X10_value_7 L n v0 v1 v2 X = some r → lv_has ls 3 [(0, .ref (ad v0)), (1, .int v1), (2, .int v2)] → hG p l e (headSpec wsX10_value ({ frames := 0, cells := 0, slots := 0, locals := 0 } : Room)).room s m args below meth c dC dI cy ad L (hA ad L s.heap.size) 0 0 (MQ below (hQ dC dI cy ad L s.heap.size (some (.int r)) X) args s 0 0 (hA ad L s.heap.size)) X 7 ls [] := by
  intro n
  induction n with
  | zero => intro v0 v1 v2 X ls h; cases h
  | succ n ih =>
    intro v0 v1 v2 X ls h hl
    rw [f_X10_value_7] at h
    refine hx_iload_n C dX10_value_7 rfl (lv_at hl 2 rfl) ?_
    refine hx_aload_n C dX10_value_8 rfl (lv_at hl 0 rfl) ?_
    obtain ⟨g1, h⟩ := hx_gd h
    refine hx_geti C (ci := 10) (j := 10) g1 uX10_value_10 (by decide) rfl (by decide) rfl (by decide +kernel) rfl dX10_value_9 ?_
    refine hx_icmp_ge (tgt := 36) C dX10_value_12 (by decide) (fun c2 => ?_) (fun c2 => ?_)
    · have h := hx_pos c2 h
      refine hx_iload_n C dX10_value_36 rfl (lv_at hl 1 rfl) ?_
      obtain rfl := hx_some1 h
      exact hx_iret C hr dX10_value_37
    · have h := hx_neg c2 h
      refine hx_bipush (v := 10) C dX10_value_15 (by decide) ?_
      refine hx_iload_n C dX10_value_17 rfl (lv_at hl 1 rfl) ?_
      refine hx_imul C dX10_value_18 ?_
      refine hx_aload_n C dX10_value_19 rfl (lv_at hl 0 rfl) ?_
      obtain ⟨q3, e4, h⟩ := hx_bind h
      refine hx_getr C (ci := 10) (j := 5) g1 uX10_value_10 (by decide) rfl (by decide) rfl (by decide +kernel) rfl dX10_value_20 e4 ?_
      refine hx_iload_n C dX10_value_23 rfl (lv_at hl 2 rfl) ?_
      obtain ⟨g5, h⟩ := hx_gd h
      obtain ⟨g6, h⟩ := hx_gd h
      refine hx_cald (n := (Int32.toNatClampNeg v2)) C g5 g6 rfl dX10_value_24 ?_
      refine hx_iadd C dX10_value_25 ?_
      refine hx_bipush (v := 48) C dX10_value_26 (by decide) ?_
      refine hx_isub C dX10_value_28 ?_
      refine hx_istore_n (lv' := [(1, .int (((10 * v1) + (X.1 q3 (Int32.toNatClampNeg v2))) - 48)), (0, .ref (ad v0)), (2, .int v2)]) C dX10_value_29 rfl hl (by decide) rfl (fun ls hl => ?_)
      refine hx_iinc (v := v2 + 1) (lv' := [(2, .int (v2 + 1)), (1, .int (((10 * v1) + (X.1 q3 (Int32.toNatClampNeg v2))) - 48)), (0, .ref (ad v0))]) C dX10_value_30 hl (k := 2) rfl rfl (by decide) rfl (fun ls hl => ?_)
      refine hx_goto (tgt := 7) C dX10_value_33 (by decide) ?_
      exact ih v0 (((10 * v1) + (X.1 q3 (Int32.toNatClampNeg v2))) - 48) (v2 + 1) X ls h (lv_sub hl [2, 1, 0] rfl)
def f_X10_value (L : hL) (X : hX) (this : Nat) : Option (Int32) :=
  if tk L this 10 then
  f_X10_value_7 L u_fuel this 0 (X.1 this 9) X
  else none
set_option maxRecDepth 100000 in
set_option maxHeartbeats 4000000 in
theorem c_X10_value {l : Launch} {dC : Nat → ClassId} {dI : Nat → Nat → Nat} {cy : Nat → ClassId} {ad : Nat → Nat} {L : hL} {X : hX} {this : Nat} {r : Int32} (h : f_X10_value L X this = some r) : hMet l dC dI cy ad L yX10_value wsX10_value ({ frames := 0, cells := 0, slots := 0, locals := 0 } : Room) [.ref (ad this)] X (some (.int r)) X := by
  unfold f_X10_value at h
  refine hx_enter RX10 (plainFor_of_name (by decide)) rfl rfl (Nat.le_of_ble_eq_true rfl) (fun p e s m args below meth c C hr hnm ls hl => ?_)
  have hl : lv_has ls 3 [(0, .ref (ad this))] := hl
  refine hx_iconst (v := 0) C dX10_value_0 (by decide) ?_
  refine hx_istore_n (lv' := [(1, .int 0), (0, .ref (ad this))]) C dX10_value_1 rfl hl (by decide) rfl (fun ls hl => ?_)
  refine hx_aload_n C dX10_value_2 rfl (lv_at hl 1 rfl) ?_
  obtain ⟨g7, h⟩ := hx_gd h
  refine hx_geti C (ci := 10) (j := 9) g7 uX10_value_10 (by decide) rfl (by decide) rfl (by decide +kernel) rfl dX10_value_3 ?_
  refine hx_istore_n (lv' := [(2, .int (X.1 this 9)), (1, .int 0), (0, .ref (ad this))]) C dX10_value_6 rfl hl (by decide) rfl (fun ls hl => ?_)
  exact w_X10_value_7 C hr u_fuel this 0 (X.1 this 9) X ls h (lv_sub hl [2, 1, 0] rfl)
theorem uX10_does_10 : ∀ w ∈ u_ws RX10 TX10 15, w ∈ wsX10_does := by decide +kernel
def f_X10_does (L : hL) (X : hX) (this : Nat) (a1 : Int32) : Option (Int32 × hX) :=
  if a1 = 114085 then
    if tk L this 10 then
    (X.2 this 12).bind fun q3 =>
    if tk L q3 12 then
    if 0 < L.2.2 q3 then
    (f_X10_comes L X this (X.1 q3 0)).bind fun r7 =>
    some (r7.1, r7.2)
    else none
    else none
    else none
  else
  if a1 = 370116 then
    if tk L this 10 then
    (X.2 this 12).bind fun q11 =>
    if tk L q11 12 then
    if 0 < L.2.2 q11 then
    if 1 < L.2.2 q11 then
    if 2 < L.2.2 q11 then
    (f_X10_kinds L X this (X.1 q11 0) (X.1 q11 1) (X.1 q11 2)).bind fun r17 =>
    some (r17.1, r17.2)
    else none
    else none
    else none
    else none
    else none
  else
  if a1 = 611717 then
    if tk L this 10 then
    (X.2 this 12).bind fun q21 =>
    if tk L q21 12 then
    if 0 < L.2.2 q21 then
    (f_X10_sets L X this 11 (X.1 q21 0) 0 3).bind fun r25 =>
    some (r25.1, r25.2)
    else none
    else none
    else none
  else
  if a1 = 3540269 then
    if tk L this 10 then
    (X.2 this 12).bind fun q29 =>
    if tk L q29 12 then
    if 0 < L.2.2 q29 then
    if 1 < L.2.2 q29 then
    (f_X10_claims L X this (X.1 q29 0) (X.1 q29 1)).bind fun r34 =>
    some (r34.1, r34.2)
    else none
    else none
    else none
    else none
  else
  if a1 = 17377093 then
    if tk L this 10 then
    (X.2 this 12).bind fun q38 =>
    if tk L q38 12 then
    if 0 < L.2.2 q38 then
    if 1 < L.2.2 q38 then
    if 2 < L.2.2 q38 then
    if 3 < L.2.2 q38 then
    if 4 < L.2.2 q38 then
    (f_X10_adds L X this (X.1 q38 0) (X.1 q38 1) (X.1 q38 2) (X.1 q38 3) (X.1 q38 4)).bind fun r46 =>
    some (r46.1, r46.2)
    else none
    else none
    else none
    else none
    else none
    else none
    else none
  else
  if a1 = 20022661 then
    if tk L this 10 then
    (X.2 this 12).bind fun q50 =>
    if tk L q50 12 then
    if 0 < L.2.2 q50 then
    if 1 < L.2.2 q50 then
    (f_X10_scales L X this (X.1 q50 0) (X.1 q50 1)).bind fun r55 =>
    some (r55.1, r55.2)
    else none
    else none
    else none
    else none
  else
  if a1 = 24290536 then
    if tk L this 10 then
    (X.2 this 12).bind fun q59 =>
    if tk L q59 12 then
    if 0 < L.2.2 q59 then
    if 1 < L.2.2 q59 then
    if 2 < L.2.2 q59 then
    (f_X10_weighs L X this (X.1 q59 0) (X.1 q59 1) (X.1 q59 2) 0).bind fun r65 =>
    some (r65.1, r65.2)
    else none
    else none
    else none
    else none
    else none
  else
  if tk L this 10 then
  (X.2 this 12).bind fun q68 =>
  if tk L q68 12 then
  if 0 < L.2.2 q68 then
  if 1 < L.2.2 q68 then
  if 2 < L.2.2 q68 then
  (f_X10_buys L X this (X.1 q68 0) (X.1 q68 1) (X.1 q68 2)).bind fun r74 =>
  some (r74.1, r74.2)
  else none
  else none
  else none
  else none
  else none
set_option maxRecDepth 100000 in
set_option maxHeartbeats 4000000 in
theorem c_X10_does {l : Launch} {dC : Nat → ClassId} {dI : Nat → Nat → Nat} {cy : Nat → ClassId} {ad : Nat → Nat} {L : hL} {X : hX} {this : Nat} {a1 : Int32} {r : Int32} {X' : hX} (h : f_X10_does L X this a1 = some (r, X')) : hMet l dC dI cy ad L yX10_does wsX10_does ({ frames := 5, cells := 0, slots := 0, locals := 120 } : Room) [.ref (ad this), .int a1] X (some (.int r)) X' := by
  unfold f_X10_does at h
  refine hx_enter RX10 (plainFor_of_name (by decide)) rfl rfl (Nat.le_of_ble_eq_true rfl) (fun p e s m args below meth c C hr hnm ls hl => ?_)
  have hl : lv_has ls 2 [(0, .ref (ad this)), (1, .int a1)] := hl
  refine hx_iload_n C dX10_does_0 rfl (lv_at hl 1 rfl) ?_
  by_cases c1 : a1 = 114085
  · have h := hx_pos c1 h
    have hz : Int32.toInt a1 = 114085 := by rw [c1]; rfl
    refine hx_look (tgt := 123) (off := 122) C [(114085, 122), (370116, 67), (611717, 107), (3540269, 192), (17377093, 133), (20022661, 90), (24290536, 168)] dX10_does_1 rfl (by decide) (by rw [hz] <;> decide) (by decide) ?_
    refine hx_aload_n C dX10_does_123 rfl (lv_at hl 0 rfl) ?_
    refine hx_aload_n C dX10_does_124 rfl (lv_at hl 0 rfl) ?_
    obtain ⟨g2, h⟩ := hx_gd h
    obtain ⟨q3, e4, h⟩ := hx_bind h
    refine hx_getr C (ci := 10) (j := 12) g2 uX10_does_10 (by decide) rfl (by decide) rfl (by decide +kernel) rfl dX10_does_125 e4 ?_
    refine hx_iconst (v := 0) C dX10_does_128 (by decide) ?_
    obtain ⟨g5, h⟩ := hx_gd h
    obtain ⟨g6, h⟩ := hx_gd h
    refine hx_iald (n := 0) C g5 (hin_lit (i := 0) (by decide) rfl g6) rfl dX10_does_129 ?_
    obtain ⟨r7, e8, h⟩ := hx_bind h
    refine hx_callV (As := [.int (X.1 q3 0)]) (rest := []) (n := 1) (Cn := RX10) C (c_X10_comes e8) gX10_does_X10_comes g2 (by decide) rfl (by decide +kernel) ⟨Nat.le_of_ble_eq_true rfl, Nat.le_of_ble_eq_true rfl⟩ rfl rfl rfl ⟨Nat.zero_le _, Nat.zero_le _⟩ hl.1 rfl rfl (Nat.le_of_ble_eq_true rfl) dX10_does_130 ?_
    obtain ⟨rfl, rfl⟩ := hx_some2 h
    exact hx_iret C hr dX10_does_133
  have h := hx_neg c1 h
  have zc1 : Int32.toInt a1 ≠ 114085 := fun z => c1 (Int32.toInt_inj.mp (z.trans rfl))
  by_cases c9 : a1 = 370116
  · have h := hx_pos c9 h
    have hz : Int32.toInt a1 = 370116 := by rw [c9]; rfl
    refine hx_look (tgt := 68) (off := 67) C [(114085, 122), (370116, 67), (611717, 107), (3540269, 192), (17377093, 133), (20022661, 90), (24290536, 168)] dX10_does_1 rfl (by decide) (by rw [hz] <;> decide) (by decide) ?_
    refine hx_aload_n C dX10_does_68 rfl (lv_at hl 0 rfl) ?_
    refine hx_aload_n C dX10_does_69 rfl (lv_at hl 0 rfl) ?_
    obtain ⟨g10, h⟩ := hx_gd h
    obtain ⟨q11, e12, h⟩ := hx_bind h
    refine hx_getr C (ci := 10) (j := 12) g10 uX10_does_10 (by decide) rfl (by decide) rfl (by decide +kernel) rfl dX10_does_70 e12 ?_
    refine hx_iconst (v := 0) C dX10_does_73 (by decide) ?_
    obtain ⟨g13, h⟩ := hx_gd h
    obtain ⟨g14, h⟩ := hx_gd h
    refine hx_iald (n := 0) C g13 (hin_lit (i := 0) (by decide) rfl g14) rfl dX10_does_74 ?_
    refine hx_aload_n C dX10_does_75 rfl (lv_at hl 0 rfl) ?_
    refine hx_getr C (ci := 10) (j := 12) g10 uX10_does_10 (by decide) rfl (by decide) rfl (by decide +kernel) rfl dX10_does_76 e12 ?_
    refine hx_iconst (v := 1) C dX10_does_79 (by decide) ?_
    obtain ⟨g15, h⟩ := hx_gd h
    refine hx_iald (n := 1) C g13 (hin_lit (i := 1) (by decide) rfl g15) rfl dX10_does_80 ?_
    refine hx_aload_n C dX10_does_81 rfl (lv_at hl 0 rfl) ?_
    refine hx_getr C (ci := 10) (j := 12) g10 uX10_does_10 (by decide) rfl (by decide) rfl (by decide +kernel) rfl dX10_does_82 e12 ?_
    refine hx_iconst (v := 2) C dX10_does_85 (by decide) ?_
    obtain ⟨g16, h⟩ := hx_gd h
    refine hx_iald (n := 2) C g13 (hin_lit (i := 2) (by decide) rfl g16) rfl dX10_does_86 ?_
    obtain ⟨r17, e18, h⟩ := hx_bind h
    refine hx_callV (As := [.int (X.1 q11 0), .int (X.1 q11 1), .int (X.1 q11 2)]) (rest := []) (n := 3) (Cn := RX10) C (c_X10_kinds e18) gX10_does_X10_kinds g10 (by decide) rfl (by decide +kernel) ⟨Nat.le_of_ble_eq_true rfl, Nat.le_of_ble_eq_true rfl⟩ rfl rfl rfl ⟨Nat.zero_le _, Nat.zero_le _⟩ hl.1 rfl rfl (Nat.le_of_ble_eq_true rfl) dX10_does_87 ?_
    obtain ⟨rfl, rfl⟩ := hx_some2 h
    exact hx_iret C hr dX10_does_90
  have h := hx_neg c9 h
  have zc9 : Int32.toInt a1 ≠ 370116 := fun z => c9 (Int32.toInt_inj.mp (z.trans rfl))
  by_cases c19 : a1 = 611717
  · have h := hx_pos c19 h
    have hz : Int32.toInt a1 = 611717 := by rw [c19]; rfl
    refine hx_look (tgt := 108) (off := 107) C [(114085, 122), (370116, 67), (611717, 107), (3540269, 192), (17377093, 133), (20022661, 90), (24290536, 168)] dX10_does_1 rfl (by decide) (by rw [hz] <;> decide) (by decide) ?_
    refine hx_aload_n C dX10_does_108 rfl (lv_at hl 0 rfl) ?_
    refine hx_bipush (v := 11) C dX10_does_109 (by decide) ?_
    refine hx_aload_n C dX10_does_111 rfl (lv_at hl 0 rfl) ?_
    obtain ⟨g20, h⟩ := hx_gd h
    obtain ⟨q21, e22, h⟩ := hx_bind h
    refine hx_getr C (ci := 10) (j := 12) g20 uX10_does_10 (by decide) rfl (by decide) rfl (by decide +kernel) rfl dX10_does_112 e22 ?_
    refine hx_iconst (v := 0) C dX10_does_115 (by decide) ?_
    obtain ⟨g23, h⟩ := hx_gd h
    obtain ⟨g24, h⟩ := hx_gd h
    refine hx_iald (n := 0) C g23 (hin_lit (i := 0) (by decide) rfl g24) rfl dX10_does_116 ?_
    refine hx_iconst (v := 0) C dX10_does_117 (by decide) ?_
    refine hx_iconst (v := 3) C dX10_does_118 (by decide) ?_
    obtain ⟨r25, e26, h⟩ := hx_bind h
    refine hx_callV (As := [.int 11, .int (X.1 q21 0), .int 0, .int 3]) (rest := []) (n := 4) (Cn := RX10) C (c_X10_sets e26) gX10_does_X10_sets g20 (by decide) rfl (by decide +kernel) ⟨Nat.le_of_ble_eq_true rfl, Nat.le_of_ble_eq_true rfl⟩ rfl rfl rfl ⟨Nat.zero_le _, Nat.zero_le _⟩ hl.1 rfl rfl (Nat.le_of_ble_eq_true rfl) dX10_does_119 ?_
    obtain ⟨rfl, rfl⟩ := hx_some2 h
    exact hx_iret C hr dX10_does_122
  have h := hx_neg c19 h
  have zc19 : Int32.toInt a1 ≠ 611717 := fun z => c19 (Int32.toInt_inj.mp (z.trans rfl))
  by_cases c27 : a1 = 3540269
  · have h := hx_pos c27 h
    have hz : Int32.toInt a1 = 3540269 := by rw [c27]; rfl
    refine hx_look (tgt := 193) (off := 192) C [(114085, 122), (370116, 67), (611717, 107), (3540269, 192), (17377093, 133), (20022661, 90), (24290536, 168)] dX10_does_1 rfl (by decide) (by rw [hz] <;> decide) (by decide) ?_
    refine hx_aload_n C dX10_does_193 rfl (lv_at hl 0 rfl) ?_
    refine hx_aload_n C dX10_does_194 rfl (lv_at hl 0 rfl) ?_
    obtain ⟨g28, h⟩ := hx_gd h
    obtain ⟨q29, e30, h⟩ := hx_bind h
    refine hx_getr C (ci := 10) (j := 12) g28 uX10_does_10 (by decide) rfl (by decide) rfl (by decide +kernel) rfl dX10_does_195 e30 ?_
    refine hx_iconst (v := 0) C dX10_does_198 (by decide) ?_
    obtain ⟨g31, h⟩ := hx_gd h
    obtain ⟨g32, h⟩ := hx_gd h
    refine hx_iald (n := 0) C g31 (hin_lit (i := 0) (by decide) rfl g32) rfl dX10_does_199 ?_
    refine hx_aload_n C dX10_does_200 rfl (lv_at hl 0 rfl) ?_
    refine hx_getr C (ci := 10) (j := 12) g28 uX10_does_10 (by decide) rfl (by decide) rfl (by decide +kernel) rfl dX10_does_201 e30 ?_
    refine hx_iconst (v := 1) C dX10_does_204 (by decide) ?_
    obtain ⟨g33, h⟩ := hx_gd h
    refine hx_iald (n := 1) C g31 (hin_lit (i := 1) (by decide) rfl g33) rfl dX10_does_205 ?_
    obtain ⟨r34, e35, h⟩ := hx_bind h
    refine hx_callV (As := [.int (X.1 q29 0), .int (X.1 q29 1)]) (rest := []) (n := 2) (Cn := RX10) C (c_X10_claims e35) gX10_does_X10_claims g28 (by decide) rfl (by decide +kernel) ⟨Nat.le_of_ble_eq_true rfl, Nat.le_of_ble_eq_true rfl⟩ rfl rfl rfl ⟨Nat.zero_le _, Nat.zero_le _⟩ hl.1 rfl rfl (Nat.le_of_ble_eq_true rfl) dX10_does_206 ?_
    obtain ⟨rfl, rfl⟩ := hx_some2 h
    exact hx_iret C hr dX10_does_209
  have h := hx_neg c27 h
  have zc27 : Int32.toInt a1 ≠ 3540269 := fun z => c27 (Int32.toInt_inj.mp (z.trans rfl))
  by_cases c36 : a1 = 17377093
  · have h := hx_pos c36 h
    have hz : Int32.toInt a1 = 17377093 := by rw [c36]; rfl
    refine hx_look (tgt := 134) (off := 133) C [(114085, 122), (370116, 67), (611717, 107), (3540269, 192), (17377093, 133), (20022661, 90), (24290536, 168)] dX10_does_1 rfl (by decide) (by rw [hz] <;> decide) (by decide) ?_
    refine hx_aload_n C dX10_does_134 rfl (lv_at hl 0 rfl) ?_
    refine hx_aload_n C dX10_does_135 rfl (lv_at hl 0 rfl) ?_
    obtain ⟨g37, h⟩ := hx_gd h
    obtain ⟨q38, e39, h⟩ := hx_bind h
    refine hx_getr C (ci := 10) (j := 12) g37 uX10_does_10 (by decide) rfl (by decide) rfl (by decide +kernel) rfl dX10_does_136 e39 ?_
    refine hx_iconst (v := 0) C dX10_does_139 (by decide) ?_
    obtain ⟨g40, h⟩ := hx_gd h
    obtain ⟨g41, h⟩ := hx_gd h
    refine hx_iald (n := 0) C g40 (hin_lit (i := 0) (by decide) rfl g41) rfl dX10_does_140 ?_
    refine hx_aload_n C dX10_does_141 rfl (lv_at hl 0 rfl) ?_
    refine hx_getr C (ci := 10) (j := 12) g37 uX10_does_10 (by decide) rfl (by decide) rfl (by decide +kernel) rfl dX10_does_142 e39 ?_
    refine hx_iconst (v := 1) C dX10_does_145 (by decide) ?_
    obtain ⟨g42, h⟩ := hx_gd h
    refine hx_iald (n := 1) C g40 (hin_lit (i := 1) (by decide) rfl g42) rfl dX10_does_146 ?_
    refine hx_aload_n C dX10_does_147 rfl (lv_at hl 0 rfl) ?_
    refine hx_getr C (ci := 10) (j := 12) g37 uX10_does_10 (by decide) rfl (by decide) rfl (by decide +kernel) rfl dX10_does_148 e39 ?_
    refine hx_iconst (v := 2) C dX10_does_151 (by decide) ?_
    obtain ⟨g43, h⟩ := hx_gd h
    refine hx_iald (n := 2) C g40 (hin_lit (i := 2) (by decide) rfl g43) rfl dX10_does_152 ?_
    refine hx_aload_n C dX10_does_153 rfl (lv_at hl 0 rfl) ?_
    refine hx_getr C (ci := 10) (j := 12) g37 uX10_does_10 (by decide) rfl (by decide) rfl (by decide +kernel) rfl dX10_does_154 e39 ?_
    refine hx_iconst (v := 3) C dX10_does_157 (by decide) ?_
    obtain ⟨g44, h⟩ := hx_gd h
    refine hx_iald (n := 3) C g40 (hin_lit (i := 3) (by decide) rfl g44) rfl dX10_does_158 ?_
    refine hx_aload_n C dX10_does_159 rfl (lv_at hl 0 rfl) ?_
    refine hx_getr C (ci := 10) (j := 12) g37 uX10_does_10 (by decide) rfl (by decide) rfl (by decide +kernel) rfl dX10_does_160 e39 ?_
    refine hx_iconst (v := 4) C dX10_does_163 (by decide) ?_
    obtain ⟨g45, h⟩ := hx_gd h
    refine hx_iald (n := 4) C g40 (hin_lit (i := 4) (by decide) rfl g45) rfl dX10_does_164 ?_
    obtain ⟨r46, e47, h⟩ := hx_bind h
    refine hx_callV (As := [.int (X.1 q38 0), .int (X.1 q38 1), .int (X.1 q38 2), .int (X.1 q38 3), .int (X.1 q38 4)]) (rest := []) (n := 5) (Cn := RX10) C (c_X10_adds e47) gX10_does_X10_adds g37 (by decide) rfl (by decide +kernel) ⟨Nat.le_of_ble_eq_true rfl, Nat.le_of_ble_eq_true rfl⟩ rfl rfl rfl ⟨Nat.zero_le _, Nat.zero_le _⟩ hl.1 rfl rfl (Nat.le_of_ble_eq_true rfl) dX10_does_165 ?_
    obtain ⟨rfl, rfl⟩ := hx_some2 h
    exact hx_iret C hr dX10_does_168
  have h := hx_neg c36 h
  have zc36 : Int32.toInt a1 ≠ 17377093 := fun z => c36 (Int32.toInt_inj.mp (z.trans rfl))
  by_cases c48 : a1 = 20022661
  · have h := hx_pos c48 h
    have hz : Int32.toInt a1 = 20022661 := by rw [c48]; rfl
    refine hx_look (tgt := 91) (off := 90) C [(114085, 122), (370116, 67), (611717, 107), (3540269, 192), (17377093, 133), (20022661, 90), (24290536, 168)] dX10_does_1 rfl (by decide) (by rw [hz] <;> decide) (by decide) ?_
    refine hx_aload_n C dX10_does_91 rfl (lv_at hl 0 rfl) ?_
    refine hx_aload_n C dX10_does_92 rfl (lv_at hl 0 rfl) ?_
    obtain ⟨g49, h⟩ := hx_gd h
    obtain ⟨q50, e51, h⟩ := hx_bind h
    refine hx_getr C (ci := 10) (j := 12) g49 uX10_does_10 (by decide) rfl (by decide) rfl (by decide +kernel) rfl dX10_does_93 e51 ?_
    refine hx_iconst (v := 0) C dX10_does_96 (by decide) ?_
    obtain ⟨g52, h⟩ := hx_gd h
    obtain ⟨g53, h⟩ := hx_gd h
    refine hx_iald (n := 0) C g52 (hin_lit (i := 0) (by decide) rfl g53) rfl dX10_does_97 ?_
    refine hx_aload_n C dX10_does_98 rfl (lv_at hl 0 rfl) ?_
    refine hx_getr C (ci := 10) (j := 12) g49 uX10_does_10 (by decide) rfl (by decide) rfl (by decide +kernel) rfl dX10_does_99 e51 ?_
    refine hx_iconst (v := 1) C dX10_does_102 (by decide) ?_
    obtain ⟨g54, h⟩ := hx_gd h
    refine hx_iald (n := 1) C g52 (hin_lit (i := 1) (by decide) rfl g54) rfl dX10_does_103 ?_
    obtain ⟨r55, e56, h⟩ := hx_bind h
    refine hx_callV (As := [.int (X.1 q50 0), .int (X.1 q50 1)]) (rest := []) (n := 2) (Cn := RX10) C (c_X10_scales e56) gX10_does_X10_scales g49 (by decide) rfl (by decide +kernel) ⟨Nat.le_of_ble_eq_true rfl, Nat.le_of_ble_eq_true rfl⟩ rfl rfl rfl ⟨Nat.zero_le _, Nat.zero_le _⟩ hl.1 rfl rfl (Nat.le_of_ble_eq_true rfl) dX10_does_104 ?_
    obtain ⟨rfl, rfl⟩ := hx_some2 h
    exact hx_iret C hr dX10_does_107
  have h := hx_neg c48 h
  have zc48 : Int32.toInt a1 ≠ 20022661 := fun z => c48 (Int32.toInt_inj.mp (z.trans rfl))
  by_cases c57 : a1 = 24290536
  · have h := hx_pos c57 h
    have hz : Int32.toInt a1 = 24290536 := by rw [c57]; rfl
    refine hx_look (tgt := 169) (off := 168) C [(114085, 122), (370116, 67), (611717, 107), (3540269, 192), (17377093, 133), (20022661, 90), (24290536, 168)] dX10_does_1 rfl (by decide) (by rw [hz] <;> decide) (by decide) ?_
    refine hx_aload_n C dX10_does_169 rfl (lv_at hl 0 rfl) ?_
    refine hx_aload_n C dX10_does_170 rfl (lv_at hl 0 rfl) ?_
    obtain ⟨g58, h⟩ := hx_gd h
    obtain ⟨q59, e60, h⟩ := hx_bind h
    refine hx_getr C (ci := 10) (j := 12) g58 uX10_does_10 (by decide) rfl (by decide) rfl (by decide +kernel) rfl dX10_does_171 e60 ?_
    refine hx_iconst (v := 0) C dX10_does_174 (by decide) ?_
    obtain ⟨g61, h⟩ := hx_gd h
    obtain ⟨g62, h⟩ := hx_gd h
    refine hx_iald (n := 0) C g61 (hin_lit (i := 0) (by decide) rfl g62) rfl dX10_does_175 ?_
    refine hx_aload_n C dX10_does_176 rfl (lv_at hl 0 rfl) ?_
    refine hx_getr C (ci := 10) (j := 12) g58 uX10_does_10 (by decide) rfl (by decide) rfl (by decide +kernel) rfl dX10_does_177 e60 ?_
    refine hx_iconst (v := 1) C dX10_does_180 (by decide) ?_
    obtain ⟨g63, h⟩ := hx_gd h
    refine hx_iald (n := 1) C g61 (hin_lit (i := 1) (by decide) rfl g63) rfl dX10_does_181 ?_
    refine hx_aload_n C dX10_does_182 rfl (lv_at hl 0 rfl) ?_
    refine hx_getr C (ci := 10) (j := 12) g58 uX10_does_10 (by decide) rfl (by decide) rfl (by decide +kernel) rfl dX10_does_183 e60 ?_
    refine hx_iconst (v := 2) C dX10_does_186 (by decide) ?_
    obtain ⟨g64, h⟩ := hx_gd h
    refine hx_iald (n := 2) C g61 (hin_lit (i := 2) (by decide) rfl g64) rfl dX10_does_187 ?_
    refine hx_iconst (v := 0) C dX10_does_188 (by decide) ?_
    obtain ⟨r65, e66, h⟩ := hx_bind h
    refine hx_callV (As := [.int (X.1 q59 0), .int (X.1 q59 1), .int (X.1 q59 2), .int 0]) (rest := []) (n := 4) (Cn := RX10) C (c_X10_weighs e66) gX10_does_X10_weighs g58 (by decide) rfl (by decide +kernel) ⟨Nat.le_of_ble_eq_true rfl, Nat.le_of_ble_eq_true rfl⟩ rfl rfl rfl ⟨Nat.zero_le _, Nat.zero_le _⟩ hl.1 rfl rfl (Nat.le_of_ble_eq_true rfl) dX10_does_189 ?_
    obtain ⟨rfl, rfl⟩ := hx_some2 h
    exact hx_iret C hr dX10_does_192
  have h := hx_neg c57 h
  have zc57 : Int32.toInt a1 ≠ 24290536 := fun z => c57 (Int32.toInt_inj.mp (z.trans rfl))
  refine hx_look (tgt := 210) (off := 209) C [(114085, 122), (370116, 67), (611717, 107), (3540269, 192), (17377093, 133), (20022661, 90), (24290536, 168)] dX10_does_1 rfl (by decide) (by simp only [Op.lookupswitch.offset, if_neg (Ne.symm zc1), if_neg (Ne.symm zc9), if_neg (Ne.symm zc19), if_neg (Ne.symm zc27), if_neg (Ne.symm zc36), if_neg (Ne.symm zc48), if_neg (Ne.symm zc57)]) (by decide) ?_
  refine hx_aload_n C dX10_does_210 rfl (lv_at hl 0 rfl) ?_
  refine hx_aload_n C dX10_does_211 rfl (lv_at hl 0 rfl) ?_
  obtain ⟨g67, h⟩ := hx_gd h
  obtain ⟨q68, e69, h⟩ := hx_bind h
  refine hx_getr C (ci := 10) (j := 12) g67 uX10_does_10 (by decide) rfl (by decide) rfl (by decide +kernel) rfl dX10_does_212 e69 ?_
  refine hx_iconst (v := 0) C dX10_does_215 (by decide) ?_
  obtain ⟨g70, h⟩ := hx_gd h
  obtain ⟨g71, h⟩ := hx_gd h
  refine hx_iald (n := 0) C g70 (hin_lit (i := 0) (by decide) rfl g71) rfl dX10_does_216 ?_
  refine hx_aload_n C dX10_does_217 rfl (lv_at hl 0 rfl) ?_
  refine hx_getr C (ci := 10) (j := 12) g67 uX10_does_10 (by decide) rfl (by decide) rfl (by decide +kernel) rfl dX10_does_218 e69 ?_
  refine hx_iconst (v := 1) C dX10_does_221 (by decide) ?_
  obtain ⟨g72, h⟩ := hx_gd h
  refine hx_iald (n := 1) C g70 (hin_lit (i := 1) (by decide) rfl g72) rfl dX10_does_222 ?_
  refine hx_aload_n C dX10_does_223 rfl (lv_at hl 0 rfl) ?_
  refine hx_getr C (ci := 10) (j := 12) g67 uX10_does_10 (by decide) rfl (by decide) rfl (by decide +kernel) rfl dX10_does_224 e69 ?_
  refine hx_iconst (v := 2) C dX10_does_227 (by decide) ?_
  obtain ⟨g73, h⟩ := hx_gd h
  refine hx_iald (n := 2) C g70 (hin_lit (i := 2) (by decide) rfl g73) rfl dX10_does_228 ?_
  obtain ⟨r74, e75, h⟩ := hx_bind h
  refine hx_callV (As := [.int (X.1 q68 0), .int (X.1 q68 1), .int (X.1 q68 2)]) (rest := []) (n := 3) (Cn := RX10) C (c_X10_buys e75) gX10_does_X10_buys g67 (by decide) rfl (by decide +kernel) ⟨Nat.le_of_ble_eq_true rfl, Nat.le_of_ble_eq_true rfl⟩ rfl rfl rfl ⟨Nat.zero_le _, Nat.zero_le _⟩ hl.1 rfl rfl (Nat.le_of_ble_eq_true rfl) dX10_does_229 ?_
  obtain ⟨rfl, rfl⟩ := hx_some2 h
  exact hx_iret C hr dX10_does_232
theorem uX10_fails_10 : ∀ w ∈ u_ws RX10 TX10 15, w ∈ wsX10_fails := by decide +kernel
def f_X10_fails_65 (L : hL) (v0 : Nat) (v2 : Int32) (v3 : Int32) (v4 : Int32) (s0 : Int32) (s1 : Int32) (s2 : Nat) (X : hX) : Option (Int32 × hX) :=
  if tk L s2 12 then
  if hin s1 (L.2.2 s2) then
  if tk L v0 10 then
  (X.2 v0 7).bind fun q4 =>
  if tk L q4 12 then
  if 3 < L.2.2 q4 then
  if 4 < L.2.2 q4 then
  some ((-1000) - v2, smi (smi (smi X s2 (Int32.toNatClampNeg s1) s0) q4 3 v3) q4 4 v4)
  else none
  else none
  else none
  else none
  else none
  else none
set_option maxRecDepth 100000 in
set_option maxHeartbeats 4000000 in
theorem w_X10_fails_65 {p : Program} {l : Launch} {e : Env} {s : State} {m : MethodId} {args : Array Value} {below : List Frame} {meth : Method} {c : Code} {dC : Nat → ClassId} {dI : Nat → Nat → Nat} {cy : Nat → ClassId} {ad : Nat → Nat} {L : hL} {r : Int32} {X' : hX} (C : hC p s m args meth c dC dI cy ad L (hA ad L s.heap.size) cX10_fails 6 wsX10_fails RX10) (hr : meth.sig.returnType = (some .int)) : ∀ (v0 : Nat) (v2 : Int32) (v3 : Int32) (v4 : Int32) (s0 : Int32) (s1 : Int32) (s2 : Nat) (X : hX) (ls : Array Slot), f_X10_fails_65 L v0 v2 v3 v4 s0 s1 s2 X = some (r, X') → lv_has ls 6 [(0, .ref (ad v0)), (2, .int v2), (3, .int v3), (4, .int v4)] → hG p l e (headSpec wsX10_fails ({ frames := 0, cells := 0, slots := 0, locals := 0 } : Room)).room s m args below meth c dC dI cy ad L (hA ad L s.heap.size) 0 0 (MQ below (hQ dC dI cy ad L s.heap.size (some (.int r)) X') args s 0 0 (hA ad L s.heap.size)) X 65 ls [.int s0, .int s1, .ref (ad s2)] := by
  intro v0 v2 v3 v4 s0 s1 s2 X ls h hl
  unfold f_X10_fails_65 at h
  obtain ⟨g1, h⟩ := hx_gd h
  obtain ⟨g2, h⟩ := hx_gd h
  refine hx_iast (n := (Int32.toNatClampNeg s1)) C g1 g2 rfl dX10_fails_65 ?_
  refine hx_aload_n C dX10_fails_66 rfl (lv_at hl 0 rfl) ?_
  obtain ⟨g3, h⟩ := hx_gd h
  obtain ⟨q4, e5, h⟩ := hx_bind h
  refine hx_getr C (ci := 10) (j := 7) g3 uX10_fails_10 (by decide) rfl (by decide) rfl (by decide +kernel) rfl dX10_fails_67 e5 ?_
  refine hx_iconst (v := 3) C dX10_fails_70 (by decide) ?_
  refine hx_iload_n C dX10_fails_71 rfl (lv_at hl 2 rfl) ?_
  obtain ⟨g6, h⟩ := hx_gd h
  obtain ⟨g7, h⟩ := hx_gd h
  refine hx_iast (n := 3) C g6 (hin_lit (i := 3) (by decide) rfl g7) rfl dX10_fails_72 ?_
  refine hx_aload_n C dX10_fails_73 rfl (lv_at hl 0 rfl) ?_
  refine hx_getr C (ci := 10) (j := 7) g3 uX10_fails_10 (by decide) rfl (by decide) rfl (by decide +kernel) rfl dX10_fails_74 e5 ?_
  refine hx_iconst (v := 4) C dX10_fails_77 (by decide) ?_
  refine hx_iload C dX10_fails_78 (lv_at hl 3 rfl) ?_
  obtain ⟨g8, h⟩ := hx_gd h
  refine hx_iast (n := 4) C g6 (hin_lit (i := 4) (by decide) rfl g8) rfl dX10_fails_80 ?_
  refine hx_sipush (v := (-1000)) C dX10_fails_81 (by decide) ?_
  refine hx_iload_n C dX10_fails_84 rfl (lv_at hl 1 rfl) ?_
  refine hx_isub C dX10_fails_85 ?_
  obtain ⟨rfl, rfl⟩ := hx_some2 h
  exact hx_iret C hr dX10_fails_86
def f_X10_fails_3 (L : hL) : Nat → Nat → Int32 → Int32 → Int32 → Int32 → Int32 → hX → Option (Int32 × hX)
  | 0, _, _, _, _, _, _, _ => none
  | n + 1, v0, v1, v2, v3, v4, v5, X =>
    if 284 ≤ v5 then
      if tk L v0 10 then
      (X.2 v0 7).bind fun q11 =>
      if tk L q11 12 then
      if 0 < L.2.2 q11 then
      if 1 < L.2.2 q11 then
      if v1 = 1 then
        f_X10_fails_65 L v0 v2 v3 v4 1 2 q11 (smi (smi (smi X v0 8 1) q11 0 v1) q11 1 v2)
      else
        f_X10_fails_65 L v0 v2 v3 v4 2 2 q11 (smi (smi (smi X v0 8 1) q11 0 v1) q11 1 v2)
      else none
      else none
      else none
      else none
    else
      if tk L v0 10 then
      (X.2 v0 0).bind fun q18 =>
      (X.2 v0 2).bind fun q20 =>
      if tk L q20 12 then
      if hin v5 (L.2.2 q20) then
      if tk L q18 12 then
      if hin v5 (L.2.2 q18) then
      f_X10_fails_3 L n v0 v1 v2 v3 v4 (v5 + 1) (smi X q18 (Int32.toNatClampNeg v5) (X.1 q20 (Int32.toNatClampNeg v5)))
      else none
      else none
      else none
      else none
      else none
set_option maxRecDepth 100000 in
set_option maxHeartbeats 4000000 in
theorem w_X10_fails_3 {p : Program} {l : Launch} {e : Env} {s : State} {m : MethodId} {args : Array Value} {below : List Frame} {meth : Method} {c : Code} {dC : Nat → ClassId} {dI : Nat → Nat → Nat} {cy : Nat → ClassId} {ad : Nat → Nat} {L : hL} {r : Int32} {X' : hX} (C : hC p s m args meth c dC dI cy ad L (hA ad L s.heap.size) cX10_fails 6 wsX10_fails RX10) (hr : meth.sig.returnType = (some .int)) : ∀ (n : Nat) (v0 : Nat) (v1 : Int32) (v2 : Int32) (v3 : Int32) (v4 : Int32) (v5 : Int32) (X : hX) (ls : Array Slot), f_X10_fails_3 L n v0 v1 v2 v3 v4 v5 X = some (r, X') → lv_has ls 6 [(0, .ref (ad v0)), (1, .int v1), (2, .int v2), (3, .int v3), (4, .int v4), (5, .int v5)] → hG p l e (headSpec wsX10_fails ({ frames := 0, cells := 0, slots := 0, locals := 0 } : Room)).room s m args below meth c dC dI cy ad L (hA ad L s.heap.size) 0 0 (MQ below (hQ dC dI cy ad L s.heap.size (some (.int r)) X') args s 0 0 (hA ad L s.heap.size)) X 3 ls [] := by
  intro n
  induction n with
  | zero => intro v0 v1 v2 v3 v4 v5 X ls h; cases h
  | succ n ih =>
    intro v0 v1 v2 v3 v4 v5 X ls h hl
    rw [f_X10_fails_3] at h
    refine hx_iload C dX10_fails_3 (lv_at hl 5 rfl) ?_
    refine hx_sipush (v := 284) C dX10_fails_5 (by decide) ?_
    refine hx_icmp_ge (tgt := 31) C dX10_fails_8 (by decide) (fun c9 => ?_) (fun c9 => ?_)
    · have h := hx_pos c9 h
      refine hx_aload_n C dX10_fails_31 rfl (lv_at hl 0 rfl) ?_
      refine hx_iconst (v := 1) C dX10_fails_32 (by decide) ?_
      obtain ⟨g10, h⟩ := hx_gd h
      refine hx_puti C (ci := 10) (j := 8) tyX10 tyX10_ok nmX10 g10 uX10_fails_10 (by decide) rfl (by decide) rfl (by decide +kernel) rfl rfl (tyX10_ok 8 (by decide)) dX10_fails_33 rfl rfl ?_
      refine hx_aload_n C dX10_fails_36 rfl (lv_at hl 0 rfl) ?_
      obtain ⟨q11, e12, h⟩ := hx_bind h
      refine hx_getr C (ci := 10) (j := 7) g10 uX10_fails_10 (by decide) rfl (by decide) rfl (by decide +kernel) rfl dX10_fails_37 e12 ?_
      refine hx_iconst (v := 0) C dX10_fails_40 (by decide) ?_
      refine hx_iload_n C dX10_fails_41 rfl (lv_at hl 1 rfl) ?_
      obtain ⟨g13, h⟩ := hx_gd h
      obtain ⟨g14, h⟩ := hx_gd h
      refine hx_iast (n := 0) C g13 (hin_lit (i := 0) (by decide) rfl g14) rfl dX10_fails_42 ?_
      refine hx_aload_n C dX10_fails_43 rfl (lv_at hl 0 rfl) ?_
      refine hx_getr C (ci := 10) (j := 7) g10 uX10_fails_10 (by decide) rfl (by decide) rfl (by decide +kernel) rfl dX10_fails_44 e12 ?_
      refine hx_iconst (v := 1) C dX10_fails_47 (by decide) ?_
      refine hx_iload_n C dX10_fails_48 rfl (lv_at hl 2 rfl) ?_
      obtain ⟨g15, h⟩ := hx_gd h
      refine hx_iast (n := 1) C g13 (hin_lit (i := 1) (by decide) rfl g15) rfl dX10_fails_49 ?_
      refine hx_aload_n C dX10_fails_50 rfl (lv_at hl 0 rfl) ?_
      refine hx_getr C (ci := 10) (j := 7) g10 uX10_fails_10 (by decide) rfl (by decide) rfl (by decide +kernel) rfl dX10_fails_51 e12 ?_
      refine hx_iconst (v := 2) C dX10_fails_54 (by decide) ?_
      refine hx_iload_n C dX10_fails_55 rfl (lv_at hl 1 rfl) ?_
      refine hx_iconst (v := 1) C dX10_fails_56 (by decide) ?_
      refine hx_icmp_ne (tgt := 64) C dX10_fails_57 (by decide) (fun c16 => ?_) (fun c16 => ?_)
      · have h := hx_neg c16 h
        refine hx_iconst (v := 2) C dX10_fails_64 (by decide) ?_
        exact w_X10_fails_65 C hr v0 v2 v3 v4 2 2 q11 (smi (smi (smi X v0 8 1) q11 0 v1) q11 1 v2) ls h (lv_sub hl [0, 2, 3, 4] rfl)
      · have h := hx_pos c16 h
        refine hx_iconst (v := 1) C dX10_fails_60 (by decide) ?_
        refine hx_goto (tgt := 65) C dX10_fails_61 (by decide) ?_
        exact w_X10_fails_65 C hr v0 v2 v3 v4 1 2 q11 (smi (smi (smi X v0 8 1) q11 0 v1) q11 1 v2) ls h (lv_sub hl [0, 2, 3, 4] rfl)
    · have h := hx_neg c9 h
      refine hx_aload_n C dX10_fails_11 rfl (lv_at hl 0 rfl) ?_
      obtain ⟨g17, h⟩ := hx_gd h
      obtain ⟨q18, e19, h⟩ := hx_bind h
      refine hx_getr C (ci := 10) (j := 0) g17 uX10_fails_10 (by decide) rfl (by decide) rfl (by decide +kernel) rfl dX10_fails_12 e19 ?_
      refine hx_iload C dX10_fails_15 (lv_at hl 5 rfl) ?_
      refine hx_aload_n C dX10_fails_17 rfl (lv_at hl 0 rfl) ?_
      obtain ⟨q20, e21, h⟩ := hx_bind h
      refine hx_getr C (ci := 10) (j := 2) g17 uX10_fails_10 (by decide) rfl (by decide) rfl (by decide +kernel) rfl dX10_fails_18 e21 ?_
      refine hx_iload C dX10_fails_21 (lv_at hl 5 rfl) ?_
      obtain ⟨g22, h⟩ := hx_gd h
      obtain ⟨g23, h⟩ := hx_gd h
      refine hx_iald (n := (Int32.toNatClampNeg v5)) C g22 g23 rfl dX10_fails_23 ?_
      obtain ⟨g24, h⟩ := hx_gd h
      obtain ⟨g25, h⟩ := hx_gd h
      refine hx_iast (n := (Int32.toNatClampNeg v5)) C g24 g25 rfl dX10_fails_24 ?_
      refine hx_iinc (v := v5 + 1) (lv' := [(5, .int (v5 + 1)), (0, .ref (ad v0)), (1, .int v1), (2, .int v2), (3, .int v3), (4, .int v4)]) C dX10_fails_25 hl (k := 5) rfl rfl (by decide) rfl (fun ls hl => ?_)
      refine hx_goto (tgt := 3) C dX10_fails_28 (by decide) ?_
      exact ih v0 v1 v2 v3 v4 (v5 + 1) (smi X q18 (Int32.toNatClampNeg v5) (X.1 q20 (Int32.toNatClampNeg v5))) ls h (lv_sub hl [1, 2, 3, 4, 5, 0] rfl)
def f_X10_fails (L : hL) (X : hX) (this : Nat) (a1 : Int32) (a2 : Int32) (a3 : Int32) (a4 : Int32) : Option (Int32 × hX) :=
  f_X10_fails_3 L u_fuel this a1 a2 a3 a4 0 X
set_option maxRecDepth 100000 in
set_option maxHeartbeats 4000000 in
theorem c_X10_fails {l : Launch} {dC : Nat → ClassId} {dI : Nat → Nat → Nat} {cy : Nat → ClassId} {ad : Nat → Nat} {L : hL} {X : hX} {this : Nat} {a1 : Int32} {a2 : Int32} {a3 : Int32} {a4 : Int32} {r : Int32} {X' : hX} (h : f_X10_fails L X this a1 a2 a3 a4 = some (r, X')) : hMet l dC dI cy ad L yX10_fails wsX10_fails ({ frames := 0, cells := 0, slots := 0, locals := 0 } : Room) [.ref (ad this), .int a1, .int a2, .int a3, .int a4] X (some (.int r)) X' := by
  unfold f_X10_fails at h
  refine hx_enter RX10 (plainFor_of_name (by decide)) rfl rfl (Nat.le_of_ble_eq_true rfl) (fun p e s m args below meth c C hr hnm ls hl => ?_)
  have hl : lv_has ls 6 [(0, .ref (ad this)), (1, .int a1), (2, .int a2), (3, .int a3), (4, .int a4)] := hl
  refine hx_iconst (v := 0) C dX10_fails_0 (by decide) ?_
  refine hx_istore (lv' := [(5, .int 0), (0, .ref (ad this)), (1, .int a1), (2, .int a2), (3, .int a3), (4, .int a4)]) C dX10_fails_1 hl (by decide) rfl (fun ls hl => ?_)
  exact w_X10_fails_3 C hr u_fuel this a1 a2 a3 a4 0 X ls h (lv_sub hl [1, 2, 3, 4, 5, 0] rfl)
theorem uX10_readsNumbers_10 : ∀ w ∈ u_ws RX10 TX10 15, w ∈ wsX10_readsNumbers := by decide +kernel
def f_X10_readsNumbers_2 (L : hL) : Nat → Nat → Int32 → Int32 → hX → Option (Int32 × hX)
  | 0, _, _, _, _ => none
  | n + 1, v0, v1, v2, X =>
    if v1 ≤ v2 then
      (f_X10_reads L X v0).bind fun r2 =>
      if tk L v0 10 then
      if (r2.1 v0 11) = 3 then
        (r2.2 v0 5).bind fun q6 =>
        if tk L q6 11 then
        if hin (r2.1 v0 9) (L.2.2 q6) then
        if (r2.1 q6 (Int32.toNatClampNeg (r2.1 v0 9))) = 59 then
          some (1, r2)
        else
          some (0, r2)
        else none
        else none
      else
        some (0, r2)
      else none
    else
      (f_X10_reads L X v0).bind fun r11 =>
      if tk L v0 10 then
      (f_X10_isNumber L r11 v0).bind fun r14 =>
      if r14 = 0 then
        some (0, r11)
      else
        (r11.2 v0 12).bind fun q17 =>
        (f_X10_value L r11 v0).bind fun r19 =>
        if tk L q17 12 then
        if hin v2 (L.2.2 q17) then
        f_X10_readsNumbers_2 L n v0 v1 (v2 + 1) (smi r11 q17 (Int32.toNatClampNeg v2) r19)
        else none
        else none
      else none
set_option maxRecDepth 100000 in
set_option maxHeartbeats 4000000 in
theorem w_X10_readsNumbers_2 {p : Program} {l : Launch} {e : Env} {s : State} {m : MethodId} {args : Array Value} {below : List Frame} {meth : Method} {c : Code} {dC : Nat → ClassId} {dI : Nat → Nat → Nat} {cy : Nat → ClassId} {ad : Nat → Nat} {L : hL} {r : Int32} {X' : hX} (C : hC p s m args meth c dC dI cy ad L (hA ad L s.heap.size) cX10_readsNumbers 3 wsX10_readsNumbers RX10) (hr : meth.sig.returnType = (some .boolean)) : ∀ (n : Nat) (v0 : Nat) (v1 : Int32) (v2 : Int32) (X : hX) (ls : Array Slot), f_X10_readsNumbers_2 L n v0 v1 v2 X = some (r, X') → lv_has ls 3 [(0, .ref (ad v0)), (1, .int v1), (2, .int v2)] → hG p l e (headSpec wsX10_readsNumbers ({ frames := 3, cells := 0, slots := 0, locals := 64 } : Room)).room s m args below meth c dC dI cy ad L (hA ad L s.heap.size) 0 0 (MQ below (hQ dC dI cy ad L s.heap.size (some (.int r)) X') args s 0 0 (hA ad L s.heap.size)) X 2 ls [] := by
  intro n
  induction n with
  | zero => intro v0 v1 v2 X ls h; cases h
  | succ n ih =>
    intro v0 v1 v2 X ls h hl
    rw [f_X10_readsNumbers_2] at h
    refine hx_iload_n C dX10_readsNumbers_2 rfl (lv_at hl 2 rfl) ?_
    refine hx_iload_n C dX10_readsNumbers_3 rfl (lv_at hl 1 rfl) ?_
    refine hx_icmp_ge (tgt := 36) C dX10_readsNumbers_4 (by decide) (fun c1 => ?_) (fun c1 => ?_)
    · have h := hx_pos c1 h
      refine hx_aload_n C dX10_readsNumbers_36 rfl (lv_at hl 0 rfl) ?_
      obtain ⟨r2, e3, h⟩ := hx_bind h
      obtain ⟨g4, h⟩ := hx_gd h
      refine hx_callV (As := []) (rest := []) (n := 0) (Cn := RX10) C (c_X10_reads e3) gX10_readsNumbers_X10_reads g4 (by decide) rfl (by decide +kernel) ⟨Nat.le_of_ble_eq_true rfl, Nat.le_of_ble_eq_true rfl⟩ rfl rfl rfl ⟨Nat.zero_le _, Nat.zero_le _⟩ hl.1 rfl rfl (Nat.le_of_ble_eq_true rfl) dX10_readsNumbers_37 ?_
      refine hx_aload_n C dX10_readsNumbers_40 rfl (lv_at hl 0 rfl) ?_
      refine hx_geti C (ci := 10) (j := 11) g4 uX10_readsNumbers_10 (by decide) rfl (by decide) rfl (by decide +kernel) rfl dX10_readsNumbers_41 ?_
      refine hx_iconst (v := 3) C dX10_readsNumbers_44 (by decide) ?_
      refine hx_icmp_ne (tgt := 66) C dX10_readsNumbers_45 (by decide) (fun c5 => ?_) (fun c5 => ?_)
      · have h := hx_neg c5 h
        refine hx_iconst (v := 0) C dX10_readsNumbers_66 (by decide) ?_
        obtain ⟨rfl, rfl⟩ := hx_some2 h
        exact hx_zret C hr rfl dX10_readsNumbers_67
      · have h := hx_pos c5 h
        refine hx_aload_n C dX10_readsNumbers_48 rfl (lv_at hl 0 rfl) ?_
        obtain ⟨q6, e7, h⟩ := hx_bind h
        refine hx_getr C (ci := 10) (j := 5) g4 uX10_readsNumbers_10 (by decide) rfl (by decide) rfl (by decide +kernel) rfl dX10_readsNumbers_49 e7 ?_
        refine hx_aload_n C dX10_readsNumbers_52 rfl (lv_at hl 0 rfl) ?_
        refine hx_geti C (ci := 10) (j := 9) g4 uX10_readsNumbers_10 (by decide) rfl (by decide) rfl (by decide +kernel) rfl dX10_readsNumbers_53 ?_
        obtain ⟨g8, h⟩ := hx_gd h
        obtain ⟨g9, h⟩ := hx_gd h
        refine hx_cald (n := (Int32.toNatClampNeg (r2.1 v0 9))) C g8 g9 rfl dX10_readsNumbers_56 ?_
        refine hx_bipush (v := 59) C dX10_readsNumbers_57 (by decide) ?_
        refine hx_icmp_ne (tgt := 66) C dX10_readsNumbers_59 (by decide) (fun c10 => ?_) (fun c10 => ?_)
        · have h := hx_neg c10 h
          refine hx_iconst (v := 0) C dX10_readsNumbers_66 (by decide) ?_
          obtain ⟨rfl, rfl⟩ := hx_some2 h
          exact hx_zret C hr rfl dX10_readsNumbers_67
        · have h := hx_pos c10 h
          refine hx_iconst (v := 1) C dX10_readsNumbers_62 (by decide) ?_
          refine hx_goto (tgt := 67) C dX10_readsNumbers_63 (by decide) ?_
          obtain ⟨rfl, rfl⟩ := hx_some2 h
          exact hx_zret C hr rfl dX10_readsNumbers_67
    · have h := hx_neg c1 h
      refine hx_aload_n C dX10_readsNumbers_7 rfl (lv_at hl 0 rfl) ?_
      obtain ⟨r11, e12, h⟩ := hx_bind h
      obtain ⟨g13, h⟩ := hx_gd h
      refine hx_callV (As := []) (rest := []) (n := 0) (Cn := RX10) C (c_X10_reads e12) gX10_readsNumbers_X10_reads g13 (by decide) rfl (by decide +kernel) ⟨Nat.le_of_ble_eq_true rfl, Nat.le_of_ble_eq_true rfl⟩ rfl rfl rfl ⟨Nat.zero_le _, Nat.zero_le _⟩ hl.1 rfl rfl (Nat.le_of_ble_eq_true rfl) dX10_readsNumbers_8 ?_
      refine hx_aload_n C dX10_readsNumbers_11 rfl (lv_at hl 0 rfl) ?_
      obtain ⟨r14, e15, h⟩ := hx_bind h
      refine hx_callV (As := []) (rest := []) (n := 0) (Cn := RX10) C (c_X10_isNumber e15) gX10_readsNumbers_X10_isNumber g13 (by decide) rfl (by decide +kernel) ⟨Nat.le_of_ble_eq_true rfl, Nat.le_of_ble_eq_true rfl⟩ rfl rfl rfl ⟨Nat.zero_le _, Nat.zero_le _⟩ hl.1 rfl rfl (Nat.le_of_ble_eq_true rfl) dX10_readsNumbers_12 ?_
      refine hx_if_ne (tgt := 20) C dX10_readsNumbers_15 (by decide) (fun c16 => ?_) (fun c16 => ?_)
      · have h := hx_neg c16 h
        refine hx_aload_n C dX10_readsNumbers_20 rfl (lv_at hl 0 rfl) ?_
        obtain ⟨q17, e18, h⟩ := hx_bind h
        refine hx_getr C (ci := 10) (j := 12) g13 uX10_readsNumbers_10 (by decide) rfl (by decide) rfl (by decide +kernel) rfl dX10_readsNumbers_21 e18 ?_
        refine hx_iload_n C dX10_readsNumbers_24 rfl (lv_at hl 2 rfl) ?_
        refine hx_aload_n C dX10_readsNumbers_25 rfl (lv_at hl 0 rfl) ?_
        obtain ⟨r19, e20, h⟩ := hx_bind h
        refine hx_callV (As := []) (rest := [.int v2, .ref (ad q17)]) (n := 0) (Cn := RX10) C (c_X10_value e20) gX10_readsNumbers_X10_value g13 (by decide) rfl (by decide +kernel) ⟨Nat.le_of_ble_eq_true rfl, Nat.le_of_ble_eq_true rfl⟩ rfl rfl rfl ⟨Nat.zero_le _, Nat.zero_le _⟩ hl.1 rfl rfl (Nat.le_of_ble_eq_true rfl) dX10_readsNumbers_26 ?_
        obtain ⟨g21, h⟩ := hx_gd h
        obtain ⟨g22, h⟩ := hx_gd h
        refine hx_iast (n := (Int32.toNatClampNeg v2)) C g21 g22 rfl dX10_readsNumbers_29 ?_
        refine hx_iinc (v := v2 + 1) (lv' := [(2, .int (v2 + 1)), (0, .ref (ad v0)), (1, .int v1)]) C dX10_readsNumbers_30 hl (k := 2) rfl rfl (by decide) rfl (fun ls hl => ?_)
        refine hx_goto (tgt := 2) C dX10_readsNumbers_33 (by decide) ?_
        exact ih v0 v1 (v2 + 1) (smi r11 q17 (Int32.toNatClampNeg v2) r19) ls h (lv_sub hl [1, 2, 0] rfl)
      · have h := hx_pos c16 h
        refine hx_iconst (v := 0) C dX10_readsNumbers_18 (by decide) ?_
        obtain ⟨rfl, rfl⟩ := hx_some2 h
        exact hx_zret C hr rfl dX10_readsNumbers_19
def f_X10_readsNumbers (L : hL) (X : hX) (this : Nat) (a1 : Int32) : Option (Int32 × hX) :=
  f_X10_readsNumbers_2 L u_fuel this a1 0 X
set_option maxRecDepth 100000 in
set_option maxHeartbeats 4000000 in
theorem c_X10_readsNumbers {l : Launch} {dC : Nat → ClassId} {dI : Nat → Nat → Nat} {cy : Nat → ClassId} {ad : Nat → Nat} {L : hL} {X : hX} {this : Nat} {a1 : Int32} {r : Int32} {X' : hX} (h : f_X10_readsNumbers L X this a1 = some (r, X')) : hMet l dC dI cy ad L yX10_readsNumbers wsX10_readsNumbers ({ frames := 3, cells := 0, slots := 0, locals := 64 } : Room) [.ref (ad this), .int a1] X (some (.int r)) X' := by
  unfold f_X10_readsNumbers at h
  refine hx_enter RX10 (plainFor_of_name (by decide)) rfl rfl (Nat.le_of_ble_eq_true rfl) (fun p e s m args below meth c C hr hnm ls hl => ?_)
  have hl : lv_has ls 3 [(0, .ref (ad this)), (1, .int a1)] := hl
  refine hx_iconst (v := 0) C dX10_readsNumbers_0 (by decide) ?_
  refine hx_istore_n (lv' := [(2, .int 0), (0, .ref (ad this)), (1, .int a1)]) C dX10_readsNumbers_1 rfl hl (by decide) rfl (fun ls hl => ?_)
  exact w_X10_readsNumbers_2 C hr u_fuel this a1 0 X ls h (lv_sub hl [1, 2, 0] rfl)
