def f_L_apart_158 (L : hL) (k66 : Nat → Int32 → Int32 → Int32 → Int32 → Int32 → Int32 → Int32 → hX → Option (Int32 × hX)) (v0 : Nat) (v1 : Int32) (v2 : Int32) (v3 : Int32) (v4 : Int32) (v5 : Int32) (v7 : Int32) (s0 : Int32) (X : hX) : Option (Int32 × hX) :=
  k66 v0 v1 v2 v3 v4 v5 s0 (v7 + 1) X
set_option maxRecDepth 100000 in
set_option maxHeartbeats 4000000 in
theorem w_L_apart_158 {p : Program} {l : Launch} {e : Env} {s : State} {m : MethodId} {args : Array Value} {below : List Frame} {meth : Method} {c : Code} {dC : Nat → ClassId} {dI : Nat → Nat → Nat} {cy : Nat → ClassId} {ad : Nat → Nat} {L : hL} {r : Int32} {X' : hX} (k66 : Nat → Int32 → Int32 → Int32 → Int32 → Int32 → Int32 → Int32 → hX → Option (Int32 × hX)) (C : hC p s m args meth c dC dI cy ad L (hA ad L s.heap.size) cL_apart 10 wsL_apart RL) (hr : meth.sig.returnType = (some .boolean)) (hk66 : ∀ (v0 : Nat) (v1 : Int32) (v2 : Int32) (v3 : Int32) (v4 : Int32) (v5 : Int32) (v6 : Int32) (v7 : Int32) (X : hX) (ls : Array Slot), k66 v0 v1 v2 v3 v4 v5 v6 v7 X = some (r, X') → lv_has ls 10 [(0, .ref (ad v0)), (1, .int v1), (2, .int v2), (3, .int v3), (4, .int v4), (5, .int v5), (6, .int v6), (7, .int v7)] → hG p l e (headSpec wsL_apart ({ frames := 7, cells := 0, slots := 0, locals := 159 } : Room)).room s m args below meth c dC dI cy ad L (hA ad L s.heap.size) 0 0 (MQ below (hQ dC dI cy ad L s.heap.size (some (.int r)) X') args s 0 0 (hA ad L s.heap.size)) X 66 ls []) : ∀ (v0 : Nat) (v1 : Int32) (v2 : Int32) (v3 : Int32) (v4 : Int32) (v5 : Int32) (v7 : Int32) (s0 : Int32) (X : hX) (ls : Array Slot), f_L_apart_158 L k66 v0 v1 v2 v3 v4 v5 v7 s0 X = some (r, X') → lv_has ls 10 [(0, .ref (ad v0)), (1, .int v1), (2, .int v2), (3, .int v3), (4, .int v4), (5, .int v5), (7, .int v7)] → hG p l e (headSpec wsL_apart ({ frames := 7, cells := 0, slots := 0, locals := 159 } : Room)).room s m args below meth c dC dI cy ad L (hA ad L s.heap.size) 0 0 (MQ below (hQ dC dI cy ad L s.heap.size (some (.int r)) X') args s 0 0 (hA ad L s.heap.size)) X 158 ls [.int s0] := by
  intro v0 v1 v2 v3 v4 v5 v7 s0 X ls h hl
  unfold f_L_apart_158 at h
  refine hx_istore (lv' := [(6, .int s0), (0, .ref (ad v0)), (1, .int v1), (2, .int v2), (3, .int v3), (4, .int v4), (5, .int v5), (7, .int v7)]) C dL_apart_158 hl (by decide) rfl (fun ls hl => ?_)
  refine hx_iinc (v := v7 + 1) (lv' := [(7, .int (v7 + 1)), (6, .int s0), (0, .ref (ad v0)), (1, .int v1), (2, .int v2), (3, .int v3), (4, .int v4), (5, .int v5)]) C dL_apart_160 hl (k := 7) rfl rfl (by decide) rfl (fun ls hl => ?_)
  refine hx_goto (tgt := 66) C dL_apart_163 (by decide) ?_
  exact hk66 v0 v1 v2 v3 v4 v5 s0 (v7 + 1) X ls h (lv_sub hl [2, 3, 4, 5, 6, 7, 1, 0] rfl)
def f_L_apart_153 (L : hL) (k66 : Nat → Int32 → Int32 → Int32 → Int32 → Int32 → Int32 → Int32 → hX → Option (Int32 × hX)) (v0 : Nat) (v1 : Int32) (v2 : Int32) (v3 : Int32) (v4 : Int32) (v5 : Int32) (v7 : Int32) (X : hX) : Option (Int32 × hX) :=
  f_L_apart_158 L k66 v0 v1 v2 v3 v4 v5 v7 1 X
set_option maxRecDepth 100000 in
set_option maxHeartbeats 4000000 in
theorem w_L_apart_153 {p : Program} {l : Launch} {e : Env} {s : State} {m : MethodId} {args : Array Value} {below : List Frame} {meth : Method} {c : Code} {dC : Nat → ClassId} {dI : Nat → Nat → Nat} {cy : Nat → ClassId} {ad : Nat → Nat} {L : hL} {r : Int32} {X' : hX} (k66 : Nat → Int32 → Int32 → Int32 → Int32 → Int32 → Int32 → Int32 → hX → Option (Int32 × hX)) (C : hC p s m args meth c dC dI cy ad L (hA ad L s.heap.size) cL_apart 10 wsL_apart RL) (hr : meth.sig.returnType = (some .boolean)) (hk66 : ∀ (v0 : Nat) (v1 : Int32) (v2 : Int32) (v3 : Int32) (v4 : Int32) (v5 : Int32) (v6 : Int32) (v7 : Int32) (X : hX) (ls : Array Slot), k66 v0 v1 v2 v3 v4 v5 v6 v7 X = some (r, X') → lv_has ls 10 [(0, .ref (ad v0)), (1, .int v1), (2, .int v2), (3, .int v3), (4, .int v4), (5, .int v5), (6, .int v6), (7, .int v7)] → hG p l e (headSpec wsL_apart ({ frames := 7, cells := 0, slots := 0, locals := 159 } : Room)).room s m args below meth c dC dI cy ad L (hA ad L s.heap.size) 0 0 (MQ below (hQ dC dI cy ad L s.heap.size (some (.int r)) X') args s 0 0 (hA ad L s.heap.size)) X 66 ls []) : ∀ (v0 : Nat) (v1 : Int32) (v2 : Int32) (v3 : Int32) (v4 : Int32) (v5 : Int32) (v7 : Int32) (X : hX) (ls : Array Slot), f_L_apart_153 L k66 v0 v1 v2 v3 v4 v5 v7 X = some (r, X') → lv_has ls 10 [(0, .ref (ad v0)), (1, .int v1), (2, .int v2), (3, .int v3), (4, .int v4), (5, .int v5), (7, .int v7)] → hG p l e (headSpec wsL_apart ({ frames := 7, cells := 0, slots := 0, locals := 159 } : Room)).room s m args below meth c dC dI cy ad L (hA ad L s.heap.size) 0 0 (MQ below (hQ dC dI cy ad L s.heap.size (some (.int r)) X') args s 0 0 (hA ad L s.heap.size)) X 153 ls [] := by
  intro v0 v1 v2 v3 v4 v5 v7 X ls h hl
  unfold f_L_apart_153 at h
  refine hx_iconst (v := 1) C dL_apart_153 (by decide) ?_
  refine hx_goto (tgt := 158) C dL_apart_154 (by decide) ?_
  exact w_L_apart_158 k66 C hr hk66 v0 v1 v2 v3 v4 v5 v7 1 X ls h (lv_sub hl [0, 1, 2, 3, 4, 5, 6] rfl)
def f_L_apart_141 (L : hL) (k66 : Nat → Int32 → Int32 → Int32 → Int32 → Int32 → Int32 → Int32 → hX → Option (Int32 × hX)) (v0 : Nat) (v1 : Int32) (v2 : Int32) (v3 : Int32) (v4 : Int32) (v5 : Int32) (v7 : Int32) (v9 : Int32) (X : hX) : Option (Int32 × hX) :=
  (f_X9_allowed L X v0 v9 v1 2).bind fun r1 =>
  if tk L v0 9 then
  if r1 = 1 then
    f_L_apart_153 L k66 v0 v1 v2 v3 v4 v5 v7 X
  else
    f_L_apart_158 L k66 v0 v1 v2 v3 v4 v5 v7 0 X
  else none
set_option maxRecDepth 100000 in
set_option maxHeartbeats 4000000 in
theorem w_L_apart_141 {p : Program} {l : Launch} {e : Env} {s : State} {m : MethodId} {args : Array Value} {below : List Frame} {meth : Method} {c : Code} {dC : Nat → ClassId} {dI : Nat → Nat → Nat} {cy : Nat → ClassId} {ad : Nat → Nat} {L : hL} {r : Int32} {X' : hX} (k66 : Nat → Int32 → Int32 → Int32 → Int32 → Int32 → Int32 → Int32 → hX → Option (Int32 × hX)) (C : hC p s m args meth c dC dI cy ad L (hA ad L s.heap.size) cL_apart 10 wsL_apart RL) (hr : meth.sig.returnType = (some .boolean)) (hk66 : ∀ (v0 : Nat) (v1 : Int32) (v2 : Int32) (v3 : Int32) (v4 : Int32) (v5 : Int32) (v6 : Int32) (v7 : Int32) (X : hX) (ls : Array Slot), k66 v0 v1 v2 v3 v4 v5 v6 v7 X = some (r, X') → lv_has ls 10 [(0, .ref (ad v0)), (1, .int v1), (2, .int v2), (3, .int v3), (4, .int v4), (5, .int v5), (6, .int v6), (7, .int v7)] → hG p l e (headSpec wsL_apart ({ frames := 7, cells := 0, slots := 0, locals := 159 } : Room)).room s m args below meth c dC dI cy ad L (hA ad L s.heap.size) 0 0 (MQ below (hQ dC dI cy ad L s.heap.size (some (.int r)) X') args s 0 0 (hA ad L s.heap.size)) X 66 ls []) : ∀ (v0 : Nat) (v1 : Int32) (v2 : Int32) (v3 : Int32) (v4 : Int32) (v5 : Int32) (v7 : Int32) (v9 : Int32) (X : hX) (ls : Array Slot), f_L_apart_141 L k66 v0 v1 v2 v3 v4 v5 v7 v9 X = some (r, X') → lv_has ls 10 [(0, .ref (ad v0)), (1, .int v1), (2, .int v2), (3, .int v3), (4, .int v4), (5, .int v5), (7, .int v7), (9, .int v9)] → hG p l e (headSpec wsL_apart ({ frames := 7, cells := 0, slots := 0, locals := 159 } : Room)).room s m args below meth c dC dI cy ad L (hA ad L s.heap.size) 0 0 (MQ below (hQ dC dI cy ad L s.heap.size (some (.int r)) X') args s 0 0 (hA ad L s.heap.size)) X 141 ls [] := by
  intro v0 v1 v2 v3 v4 v5 v7 v9 X ls h hl
  unfold f_L_apart_141 at h
  refine hx_aload_n C dL_apart_141 rfl (lv_at hl 0 rfl) ?_
  refine hx_iload C dL_apart_142 (lv_at hl 7 rfl) ?_
  refine hx_iload_n C dL_apart_144 rfl (lv_at hl 1 rfl) ?_
  refine hx_iconst (v := 2) C dL_apart_145 (by decide) ?_
  obtain ⟨r1, e2, h⟩ := hx_bind h
  obtain ⟨g3, h⟩ := hx_gd h
  refine hx_callV (As := [.int v9, .int v1, .int 2]) (rest := []) (n := 3) (Cn := RX9) C (c_X9_allowed e2) gL_apart_X9_allowed g3 (by decide) rfl (by decide +kernel) ⟨Nat.le_of_ble_eq_true rfl, Nat.le_of_ble_eq_true rfl⟩ rfl rfl rfl ⟨Nat.zero_le _, Nat.zero_le _⟩ hl.1 rfl rfl (Nat.le_of_ble_eq_true rfl) dL_apart_146 ?_
  refine hx_iconst (v := 1) C dL_apart_149 (by decide) ?_
  refine hx_icmp_ne (tgt := 157) C dL_apart_150 (by decide) (fun c4 => ?_) (fun c4 => ?_)
  · have h := hx_neg c4 h
    refine hx_iconst (v := 0) C dL_apart_157 (by decide) ?_
    exact w_L_apart_158 k66 C hr hk66 v0 v1 v2 v3 v4 v5 v7 0 X ls h (lv_sub hl [0, 1, 2, 3, 4, 5, 6] rfl)
  · have h := hx_pos c4 h
    exact w_L_apart_153 k66 C hr hk66 v0 v1 v2 v3 v4 v5 v7 X ls h (lv_sub hl [0, 1, 2, 3, 4, 5, 6] rfl)
def f_L_apart_95 (L : hL) (k66 : Nat → Int32 → Int32 → Int32 → Int32 → Int32 → Int32 → Int32 → hX → Option (Int32 × hX)) (v0 : Nat) (v1 : Int32) (v2 : Int32) (v3 : Int32) (v4 : Int32) (v5 : Int32) (v7 : Int32) (s0 : Int32) (X : hX) : Option (Int32 × hX) :=
  (f_X9_kind L X v0 v1 0).bind fun r5 =>
  if tk L v0 9 then
  (f_X9_read L X v0 (s0 * r5)).bind fun r8 =>
  if v3 = 0 then
    f_L_apart_153 L k66 v0 v1 v2 v3 v4 v5 v7 X
  else
    (f_X9_allowed L X v0 r8 v1 0).bind fun r11 =>
    if r11 < s0 then
      f_L_apart_141 L k66 v0 v1 v2 v3 v4 v5 v7 r8 X
    else
      (f_X9_allowed L X v0 r8 v1 0).bind fun r14 =>
      if r14 ≤ v3 then
        f_L_apart_153 L k66 v0 v1 v2 v3 v4 v5 v7 X
      else
        f_L_apart_141 L k66 v0 v1 v2 v3 v4 v5 v7 r8 X
  else none
set_option maxRecDepth 100000 in
set_option maxHeartbeats 4000000 in
theorem w_L_apart_95 {p : Program} {l : Launch} {e : Env} {s : State} {m : MethodId} {args : Array Value} {below : List Frame} {meth : Method} {c : Code} {dC : Nat → ClassId} {dI : Nat → Nat → Nat} {cy : Nat → ClassId} {ad : Nat → Nat} {L : hL} {r : Int32} {X' : hX} (k66 : Nat → Int32 → Int32 → Int32 → Int32 → Int32 → Int32 → Int32 → hX → Option (Int32 × hX)) (C : hC p s m args meth c dC dI cy ad L (hA ad L s.heap.size) cL_apart 10 wsL_apart RL) (hr : meth.sig.returnType = (some .boolean)) (hk66 : ∀ (v0 : Nat) (v1 : Int32) (v2 : Int32) (v3 : Int32) (v4 : Int32) (v5 : Int32) (v6 : Int32) (v7 : Int32) (X : hX) (ls : Array Slot), k66 v0 v1 v2 v3 v4 v5 v6 v7 X = some (r, X') → lv_has ls 10 [(0, .ref (ad v0)), (1, .int v1), (2, .int v2), (3, .int v3), (4, .int v4), (5, .int v5), (6, .int v6), (7, .int v7)] → hG p l e (headSpec wsL_apart ({ frames := 7, cells := 0, slots := 0, locals := 159 } : Room)).room s m args below meth c dC dI cy ad L (hA ad L s.heap.size) 0 0 (MQ below (hQ dC dI cy ad L s.heap.size (some (.int r)) X') args s 0 0 (hA ad L s.heap.size)) X 66 ls []) : ∀ (v0 : Nat) (v1 : Int32) (v2 : Int32) (v3 : Int32) (v4 : Int32) (v5 : Int32) (v7 : Int32) (s0 : Int32) (X : hX) (ls : Array Slot), f_L_apart_95 L k66 v0 v1 v2 v3 v4 v5 v7 s0 X = some (r, X') → lv_has ls 10 [(0, .ref (ad v0)), (1, .int v1), (2, .int v2), (3, .int v3), (4, .int v4), (5, .int v5), (7, .int v7)] → hG p l e (headSpec wsL_apart ({ frames := 7, cells := 0, slots := 0, locals := 159 } : Room)).room s m args below meth c dC dI cy ad L (hA ad L s.heap.size) 0 0 (MQ below (hQ dC dI cy ad L s.heap.size (some (.int r)) X') args s 0 0 (hA ad L s.heap.size)) X 95 ls [.int s0] := by
  intro v0 v1 v2 v3 v4 v5 v7 s0 X ls h hl
  unfold f_L_apart_95 at h
  refine hx_istore (lv' := [(8, .int s0), (0, .ref (ad v0)), (1, .int v1), (2, .int v2), (3, .int v3), (4, .int v4), (5, .int v5), (7, .int v7)]) C dL_apart_95 hl (by decide) rfl (fun ls hl => ?_)
  refine hx_aload_n C dL_apart_97 rfl (lv_at hl 1 rfl) ?_
  refine hx_iload C dL_apart_98 (lv_at hl 0 rfl) ?_
  refine hx_aload_n C dL_apart_100 rfl (lv_at hl 1 rfl) ?_
  refine hx_iload_n C dL_apart_101 rfl (lv_at hl 2 rfl) ?_
  refine hx_iconst (v := 0) C dL_apart_102 (by decide) ?_
  obtain ⟨r5, e6, h⟩ := hx_bind h
  obtain ⟨g7, h⟩ := hx_gd h
  refine hx_callV (As := [.int v1, .int 0]) (rest := [.int s0, .ref (ad v0)]) (n := 2) (Cn := RX9) C (c_X9_kind e6) gL_apart_X9_kind g7 (by decide) rfl (by decide +kernel) ⟨Nat.le_of_ble_eq_true rfl, Nat.le_of_ble_eq_true rfl⟩ rfl rfl rfl ⟨Nat.zero_le _, Nat.zero_le _⟩ hl.1 rfl rfl (Nat.le_of_ble_eq_true rfl) dL_apart_103 ?_
  refine hx_imul C dL_apart_106 ?_
  obtain ⟨r8, e9, h⟩ := hx_bind h
  refine hx_callV (As := [.int (s0 * r5)]) (rest := []) (n := 1) (Cn := RX9) C (c_X9_read e9) gL_apart_X9_read g7 (by decide) rfl (by decide +kernel) ⟨Nat.le_of_ble_eq_true rfl, Nat.le_of_ble_eq_true rfl⟩ rfl rfl rfl ⟨Nat.zero_le _, Nat.zero_le _⟩ hl.1 rfl rfl (Nat.le_of_ble_eq_true rfl) dL_apart_107 ?_
  refine hx_istore (lv' := [(9, .int r8), (8, .int s0), (0, .ref (ad v0)), (1, .int v1), (2, .int v2), (3, .int v3), (4, .int v4), (5, .int v5), (7, .int v7)]) C dL_apart_110 hl (by decide) rfl (fun ls hl => ?_)
  refine hx_iload_n C dL_apart_112 rfl (lv_at hl 5 rfl) ?_
  refine hx_if_eq (tgt := 153) C dL_apart_113 (by decide) (fun c10 => ?_) (fun c10 => ?_)
  · have h := hx_pos c10 h
    exact w_L_apart_153 k66 C hr hk66 v0 v1 v2 v3 v4 v5 v7 X ls h (lv_sub hl [2, 3, 4, 5, 6, 7, 8] rfl)
  · have h := hx_neg c10 h
    refine hx_aload_n C dL_apart_116 rfl (lv_at hl 2 rfl) ?_
    refine hx_iload C dL_apart_117 (lv_at hl 0 rfl) ?_
    refine hx_iload_n C dL_apart_119 rfl (lv_at hl 3 rfl) ?_
    refine hx_iconst (v := 0) C dL_apart_120 (by decide) ?_
    obtain ⟨r11, e12, h⟩ := hx_bind h
    refine hx_callV (As := [.int r8, .int v1, .int 0]) (rest := []) (n := 3) (Cn := RX9) C (c_X9_allowed e12) gL_apart_X9_allowed g7 (by decide) rfl (by decide +kernel) ⟨Nat.le_of_ble_eq_true rfl, Nat.le_of_ble_eq_true rfl⟩ rfl rfl rfl ⟨Nat.zero_le _, Nat.zero_le _⟩ hl.1 rfl rfl (Nat.le_of_ble_eq_true rfl) dL_apart_121 ?_
    refine hx_iload C dL_apart_124 (lv_at hl 1 rfl) ?_
    refine hx_icmp_lt (tgt := 141) C dL_apart_126 (by decide) (fun c13 => ?_) (fun c13 => ?_)
    · have h := hx_pos c13 h
      exact w_L_apart_141 k66 C hr hk66 v0 v1 v2 v3 v4 v5 v7 r8 X ls h (lv_sub hl [2, 3, 4, 5, 6, 7, 8, 0] rfl)
    · have h := hx_neg c13 h
      refine hx_aload_n C dL_apart_129 rfl (lv_at hl 2 rfl) ?_
      refine hx_iload C dL_apart_130 (lv_at hl 0 rfl) ?_
      refine hx_iload_n C dL_apart_132 rfl (lv_at hl 3 rfl) ?_
      refine hx_iconst (v := 0) C dL_apart_133 (by decide) ?_
      obtain ⟨r14, e15, h⟩ := hx_bind h
      refine hx_callV (As := [.int r8, .int v1, .int 0]) (rest := []) (n := 3) (Cn := RX9) C (c_X9_allowed e15) gL_apart_X9_allowed g7 (by decide) rfl (by decide +kernel) ⟨Nat.le_of_ble_eq_true rfl, Nat.le_of_ble_eq_true rfl⟩ rfl rfl rfl ⟨Nat.zero_le _, Nat.zero_le _⟩ hl.1 rfl rfl (Nat.le_of_ble_eq_true rfl) dL_apart_134 ?_
      refine hx_iload_n C dL_apart_137 rfl (lv_at hl 5 rfl) ?_
      refine hx_icmp_le (tgt := 153) C dL_apart_138 (by decide) (fun c16 => ?_) (fun c16 => ?_)
      · have h := hx_pos c16 h
        exact w_L_apart_153 k66 C hr hk66 v0 v1 v2 v3 v4 v5 v7 X ls h (lv_sub hl [2, 3, 4, 5, 6, 7, 8] rfl)
      · have h := hx_neg c16 h
        exact w_L_apart_141 k66 C hr hk66 v0 v1 v2 v3 v4 v5 v7 r8 X ls h (lv_sub hl [2, 3, 4, 5, 6, 7, 8, 0] rfl)
def f_L_apart_166 (L : hL) (v0 : Nat) (v1 : Int32) (v3 : Int32) (v4 : Int32) (v5 : Int32) (v6 : Int32) (X : hX) : Option (Int32 × hX) :=
  (f_X9_count L X v0 1).bind fun r17 =>
  if tk L v0 9 then
  if v5 ≤ 0 then
    if v6 = 0 ∨ v6 = 1 then
    some (v6, X)
    else none
  else
    if v6 = 0 then
      some (0, X)
    else
      (f_X9_setScale L X v0 v5 r17).bind fun r23 =>
      (f_X9_count L r23.2 v0 2).bind fun r25 =>
      if r23.1 = r25 then
        (f_X9_apartUpTo L r23.2 v0 v1).bind fun r28 =>
        if r28 < v4 then
          some (0, r23.2)
        else
          (f_X9_undo L r23.2 v0).bind fun r31 =>
          if r31.1 < 0 then
            some (0, r31.2)
          else
            (f_X9_apartUpTo L r31.2 v0 v1).bind fun r34 =>
            if r34 = v3 then
              some (1, r31.2)
            else
              some (0, r31.2)
      else
        some (0, r23.2)
  else none
set_option maxRecDepth 100000 in
set_option maxHeartbeats 4000000 in
theorem w_L_apart_166 {p : Program} {l : Launch} {e : Env} {s : State} {m : MethodId} {args : Array Value} {below : List Frame} {meth : Method} {c : Code} {dC : Nat → ClassId} {dI : Nat → Nat → Nat} {cy : Nat → ClassId} {ad : Nat → Nat} {L : hL} {r : Int32} {X' : hX} (C : hC p s m args meth c dC dI cy ad L (hA ad L s.heap.size) cL_apart 10 wsL_apart RL) (hr : meth.sig.returnType = (some .boolean)) : ∀ (v0 : Nat) (v1 : Int32) (v3 : Int32) (v4 : Int32) (v5 : Int32) (v6 : Int32) (X : hX) (ls : Array Slot), f_L_apart_166 L v0 v1 v3 v4 v5 v6 X = some (r, X') → lv_has ls 10 [(0, .ref (ad v0)), (1, .int v1), (3, .int v3), (4, .int v4), (5, .int v5), (6, .int v6)] → hG p l e (headSpec wsL_apart ({ frames := 7, cells := 0, slots := 0, locals := 159 } : Room)).room s m args below meth c dC dI cy ad L (hA ad L s.heap.size) 0 0 (MQ below (hQ dC dI cy ad L s.heap.size (some (.int r)) X') args s 0 0 (hA ad L s.heap.size)) X 166 ls [] := by
  intro v0 v1 v3 v4 v5 v6 X ls h hl
  unfold f_L_apart_166 at h
  refine hx_aload_n C dL_apart_166 rfl (lv_at hl 0 rfl) ?_
  refine hx_iconst (v := 1) C dL_apart_167 (by decide) ?_
  obtain ⟨r17, e18, h⟩ := hx_bind h
  obtain ⟨g19, h⟩ := hx_gd h
  refine hx_callV (As := [.int 1]) (rest := []) (n := 1) (Cn := RX9) C (c_X9_count e18) gL_apart_X9_count g19 (by decide) rfl (by decide +kernel) ⟨Nat.le_of_ble_eq_true rfl, Nat.le_of_ble_eq_true rfl⟩ rfl rfl rfl ⟨Nat.zero_le _, Nat.zero_le _⟩ hl.1 rfl rfl (Nat.le_of_ble_eq_true rfl) dL_apart_168 ?_
  refine hx_istore (lv' := [(7, .int r17), (0, .ref (ad v0)), (1, .int v1), (3, .int v3), (4, .int v4), (5, .int v5), (6, .int v6)]) C dL_apart_171 hl (by decide) rfl (fun ls hl => ?_)
  refine hx_iload C dL_apart_173 (lv_at hl 5 rfl) ?_
  refine hx_if_le (tgt := 232) C dL_apart_175 (by decide) (fun c20 => ?_) (fun c20 => ?_)
  · have h := hx_pos c20 h
    refine hx_iload C dL_apart_232 (lv_at hl 6 rfl) ?_
    obtain ⟨g21, h⟩ := hx_gd h
    obtain ⟨rfl, rfl⟩ := hx_some2 h
    exact hx_zret C hr (hx_nb g21).1 dL_apart_234
  · have h := hx_neg c20 h
    refine hx_iload C dL_apart_178 (lv_at hl 6 rfl) ?_
    refine hx_if_eq (tgt := 229) C dL_apart_180 (by decide) (fun c22 => ?_) (fun c22 => ?_)
    · have h := hx_pos c22 h
      refine hx_iconst (v := 0) C dL_apart_229 (by decide) ?_
      refine hx_istore (lv' := [(6, .int 0), (7, .int r17), (0, .ref (ad v0)), (1, .int v1), (3, .int v3), (4, .int v4), (5, .int v5)]) C dL_apart_230 hl (by decide) rfl (fun ls hl => ?_)
      refine hx_iload C dL_apart_232 (lv_at hl 0 rfl) ?_
      obtain ⟨rfl, rfl⟩ := hx_some2 h
      exact hx_zret C hr rfl dL_apart_234
    · have h := hx_neg c22 h
      refine hx_aload_n C dL_apart_183 rfl (lv_at hl 1 rfl) ?_
      refine hx_iload C dL_apart_184 (lv_at hl 5 rfl) ?_
      refine hx_iload C dL_apart_186 (lv_at hl 0 rfl) ?_
      obtain ⟨r23, e24, h⟩ := hx_bind h
      refine hx_callV (As := [.int v5, .int r17]) (rest := []) (n := 2) (Cn := RX9) C (c_X9_setScale e24) gL_apart_X9_setScale g19 (by decide) rfl (by decide +kernel) ⟨Nat.le_of_ble_eq_true rfl, Nat.le_of_ble_eq_true rfl⟩ rfl rfl rfl ⟨Nat.zero_le _, Nat.zero_le _⟩ hl.1 rfl rfl (Nat.le_of_ble_eq_true rfl) dL_apart_188 ?_
      refine hx_aload_n C dL_apart_191 rfl (lv_at hl 1 rfl) ?_
      refine hx_iconst (v := 2) C dL_apart_192 (by decide) ?_
      obtain ⟨r25, e26, h⟩ := hx_bind h
      refine hx_callV (As := [.int 2]) (rest := [.int r23.1]) (n := 1) (Cn := RX9) C (c_X9_count e26) gL_apart_X9_count g19 (by decide) rfl (by decide +kernel) ⟨Nat.le_of_ble_eq_true rfl, Nat.le_of_ble_eq_true rfl⟩ rfl rfl rfl ⟨Nat.zero_le _, Nat.zero_le _⟩ hl.1 rfl rfl (Nat.le_of_ble_eq_true rfl) dL_apart_193 ?_
      refine hx_icmp_ne (tgt := 229) C dL_apart_196 (by decide) (fun c27 => ?_) (fun c27 => ?_)
      · have h := hx_neg c27 h
        refine hx_iconst (v := 0) C dL_apart_229 (by decide) ?_
        refine hx_istore (lv' := [(6, .int 0), (7, .int r17), (0, .ref (ad v0)), (1, .int v1), (3, .int v3), (4, .int v4), (5, .int v5)]) C dL_apart_230 hl (by decide) rfl (fun ls hl => ?_)
        refine hx_iload C dL_apart_232 (lv_at hl 0 rfl) ?_
        obtain ⟨rfl, rfl⟩ := hx_some2 h
        exact hx_zret C hr rfl dL_apart_234
      · have h := hx_pos c27 h
        refine hx_aload_n C dL_apart_199 rfl (lv_at hl 1 rfl) ?_
        refine hx_iload_n C dL_apart_200 rfl (lv_at hl 2 rfl) ?_
        obtain ⟨r28, e29, h⟩ := hx_bind h
        refine hx_callV (As := [.int v1]) (rest := []) (n := 1) (Cn := RX9) C (c_X9_apartUpTo e29) gL_apart_X9_apartUpTo g19 (by decide) rfl (by decide +kernel) ⟨Nat.le_of_ble_eq_true rfl, Nat.le_of_ble_eq_true rfl⟩ rfl rfl rfl ⟨Nat.zero_le _, Nat.zero_le _⟩ hl.1 rfl rfl (Nat.le_of_ble_eq_true rfl) dL_apart_201 ?_
        refine hx_iload C dL_apart_204 (lv_at hl 4 rfl) ?_
        refine hx_icmp_lt (tgt := 229) C dL_apart_206 (by decide) (fun c30 => ?_) (fun c30 => ?_)
        · have h := hx_pos c30 h
          refine hx_iconst (v := 0) C dL_apart_229 (by decide) ?_
          refine hx_istore (lv' := [(6, .int 0), (7, .int r17), (0, .ref (ad v0)), (1, .int v1), (3, .int v3), (4, .int v4), (5, .int v5)]) C dL_apart_230 hl (by decide) rfl (fun ls hl => ?_)
          refine hx_iload C dL_apart_232 (lv_at hl 0 rfl) ?_
          obtain ⟨rfl, rfl⟩ := hx_some2 h
          exact hx_zret C hr rfl dL_apart_234
        · have h := hx_neg c30 h
          refine hx_aload_n C dL_apart_209 rfl (lv_at hl 1 rfl) ?_
          obtain ⟨r31, e32, h⟩ := hx_bind h
          refine hx_callV (As := []) (rest := []) (n := 0) (Cn := RX9) C (c_X9_undo e32) gL_apart_X9_undo g19 (by decide) rfl (by decide +kernel) ⟨Nat.le_of_ble_eq_true rfl, Nat.le_of_ble_eq_true rfl⟩ rfl rfl rfl ⟨Nat.zero_le _, Nat.zero_le _⟩ hl.1 rfl rfl (Nat.le_of_ble_eq_true rfl) dL_apart_210 ?_
          refine hx_if_lt (tgt := 229) C dL_apart_213 (by decide) (fun c33 => ?_) (fun c33 => ?_)
          · have h := hx_pos c33 h
            refine hx_iconst (v := 0) C dL_apart_229 (by decide) ?_
            refine hx_istore (lv' := [(6, .int 0), (7, .int r17), (0, .ref (ad v0)), (1, .int v1), (3, .int v3), (4, .int v4), (5, .int v5)]) C dL_apart_230 hl (by decide) rfl (fun ls hl => ?_)
            refine hx_iload C dL_apart_232 (lv_at hl 0 rfl) ?_
            obtain ⟨rfl, rfl⟩ := hx_some2 h
            exact hx_zret C hr rfl dL_apart_234
          · have h := hx_neg c33 h
            refine hx_aload_n C dL_apart_216 rfl (lv_at hl 1 rfl) ?_
            refine hx_iload_n C dL_apart_217 rfl (lv_at hl 2 rfl) ?_
            obtain ⟨r34, e35, h⟩ := hx_bind h
            refine hx_callV (As := [.int v1]) (rest := []) (n := 1) (Cn := RX9) C (c_X9_apartUpTo e35) gL_apart_X9_apartUpTo g19 (by decide) rfl (by decide +kernel) ⟨Nat.le_of_ble_eq_true rfl, Nat.le_of_ble_eq_true rfl⟩ rfl rfl rfl ⟨Nat.zero_le _, Nat.zero_le _⟩ hl.1 rfl rfl (Nat.le_of_ble_eq_true rfl) dL_apart_218 ?_
            refine hx_iload_n C dL_apart_221 rfl (lv_at hl 3 rfl) ?_
            refine hx_icmp_ne (tgt := 229) C dL_apart_222 (by decide) (fun c36 => ?_) (fun c36 => ?_)
            · have h := hx_neg c36 h
              refine hx_iconst (v := 0) C dL_apart_229 (by decide) ?_
              refine hx_istore (lv' := [(6, .int 0), (7, .int r17), (0, .ref (ad v0)), (1, .int v1), (3, .int v3), (4, .int v4), (5, .int v5)]) C dL_apart_230 hl (by decide) rfl (fun ls hl => ?_)
              refine hx_iload C dL_apart_232 (lv_at hl 0 rfl) ?_
              obtain ⟨rfl, rfl⟩ := hx_some2 h
              exact hx_zret C hr rfl dL_apart_234
            · have h := hx_pos c36 h
              refine hx_iconst (v := 1) C dL_apart_225 (by decide) ?_
              refine hx_goto (tgt := 230) C dL_apart_226 (by decide) ?_
              refine hx_istore (lv' := [(6, .int 1), (7, .int r17), (0, .ref (ad v0)), (1, .int v1), (3, .int v3), (4, .int v4), (5, .int v5)]) C dL_apart_230 hl (by decide) rfl (fun ls hl => ?_)
              refine hx_iload C dL_apart_232 (lv_at hl 0 rfl) ?_
              obtain ⟨rfl, rfl⟩ := hx_some2 h
              exact hx_zret C hr rfl dL_apart_234
def f_L_apart_66 (L : hL) : Nat → Nat → Int32 → Int32 → Int32 → Int32 → Int32 → Int32 → Int32 → hX → Option (Int32 × hX)
  | 0, _, _, _, _, _, _, _, _, _ => none
  | n + 1, v0, v1, v2, v3, v4, v5, v6, v7, X =>
    if 6 ≤ v7 then
      f_L_apart_166 L v0 v1 v3 v4 v5 v6 X
    else
      if v6 = 0 then
        f_L_apart_166 L v0 v1 v3 v4 v5 v6 X
      else
        if v3 = 0 then
          f_L_apart_95 L (f_L_apart_66 L n) v0 v1 v2 v3 v4 v5 v7 0 X
        else
          if ¬ v3 = 0 then
          f_L_apart_95 L (f_L_apart_66 L n) v0 v1 v2 v3 v4 v5 v7 (((v2 / 64) + v7) - ((v2 / 64) + v7) / v3 * v3) X
          else none
set_option maxRecDepth 100000 in
set_option maxHeartbeats 4000000 in
theorem w_L_apart_66 {p : Program} {l : Launch} {e : Env} {s : State} {m : MethodId} {args : Array Value} {below : List Frame} {meth : Method} {c : Code} {dC : Nat → ClassId} {dI : Nat → Nat → Nat} {cy : Nat → ClassId} {ad : Nat → Nat} {L : hL} {r : Int32} {X' : hX} (C : hC p s m args meth c dC dI cy ad L (hA ad L s.heap.size) cL_apart 10 wsL_apart RL) (hr : meth.sig.returnType = (some .boolean)) : ∀ (n : Nat) (v0 : Nat) (v1 : Int32) (v2 : Int32) (v3 : Int32) (v4 : Int32) (v5 : Int32) (v6 : Int32) (v7 : Int32) (X : hX) (ls : Array Slot), f_L_apart_66 L n v0 v1 v2 v3 v4 v5 v6 v7 X = some (r, X') → lv_has ls 10 [(0, .ref (ad v0)), (1, .int v1), (2, .int v2), (3, .int v3), (4, .int v4), (5, .int v5), (6, .int v6), (7, .int v7)] → hG p l e (headSpec wsL_apart ({ frames := 7, cells := 0, slots := 0, locals := 159 } : Room)).room s m args below meth c dC dI cy ad L (hA ad L s.heap.size) 0 0 (MQ below (hQ dC dI cy ad L s.heap.size (some (.int r)) X') args s 0 0 (hA ad L s.heap.size)) X 66 ls [] := by
  intro n
  induction n with
  | zero => intro v0 v1 v2 v3 v4 v5 v6 v7 X ls h; cases h
  | succ n ih =>
    intro v0 v1 v2 v3 v4 v5 v6 v7 X ls h hl
    rw [f_L_apart_66] at h
    refine hx_iload C dL_apart_66 (lv_at hl 7 rfl) ?_
    refine hx_bipush (v := 6) C dL_apart_68 (by decide) ?_
    refine hx_icmp_ge (tgt := 166) C dL_apart_70 (by decide) (fun c37 => ?_) (fun c37 => ?_)
    · have h := hx_pos c37 h
      exact w_L_apart_166 C hr v0 v1 v3 v4 v5 v6 X ls h (lv_sub hl [0, 1, 3, 4, 5, 6] rfl)
    · have h := hx_neg c37 h
      refine hx_iload C dL_apart_73 (lv_at hl 6 rfl) ?_
      refine hx_if_eq (tgt := 166) C dL_apart_75 (by decide) (fun c38 => ?_) (fun c38 => ?_)
      · have h := hx_pos c38 h
        exact w_L_apart_166 C hr v0 v1 v3 v4 v5 v6 X ls h (lv_sub hl [0, 1, 3, 4, 5, 6] rfl)
      · have h := hx_neg c38 h
        refine hx_iload_n C dL_apart_78 rfl (lv_at hl 3 rfl) ?_
        refine hx_if_ne (tgt := 86) C dL_apart_79 (by decide) (fun c39 => ?_) (fun c39 => ?_)
        · have h := hx_neg c39 h
          refine hx_iload_n C dL_apart_86 rfl (lv_at hl 2 rfl) ?_
          refine hx_bipush (v := 64) C dL_apart_87 (by decide) ?_
          refine hx_idiv C dL_apart_89 (by decide) ?_
          refine hx_iload C dL_apart_90 (lv_at hl 7 rfl) ?_
          refine hx_iadd C dL_apart_92 ?_
          refine hx_iload_n C dL_apart_93 rfl (lv_at hl 3 rfl) ?_
          obtain ⟨g40, h⟩ := hx_gd h
          refine hx_irem C dL_apart_94 g40 ?_
          exact w_L_apart_95 (f_L_apart_66 L n) C hr ih v0 v1 v2 v3 v4 v5 v7 (((v2 / 64) + v7) - ((v2 / 64) + v7) / v3 * v3) X ls h (lv_sub hl [0, 1, 2, 3, 4, 5, 7] rfl)
        · have h := hx_pos c39 h
          refine hx_iconst (v := 0) C dL_apart_82 (by decide) ?_
          refine hx_goto (tgt := 95) C dL_apart_83 (by decide) ?_
          exact w_L_apart_95 (f_L_apart_66 L n) C hr ih v0 v1 v2 v3 v4 v5 v7 0 X ls h (lv_sub hl [0, 1, 2, 3, 4, 5, 7] rfl)
def f_L_apart_61 (L : hL) (v0 : Nat) (v1 : Int32) (v2 : Int32) (v3 : Int32) (v4 : Int32) (v5 : Int32) (s0 : Int32) (X : hX) : Option (Int32 × hX) :=
  f_L_apart_66 L u_fuel v0 v1 v2 v3 v4 v5 s0 0 X
set_option maxRecDepth 100000 in
set_option maxHeartbeats 4000000 in
theorem w_L_apart_61 {p : Program} {l : Launch} {e : Env} {s : State} {m : MethodId} {args : Array Value} {below : List Frame} {meth : Method} {c : Code} {dC : Nat → ClassId} {dI : Nat → Nat → Nat} {cy : Nat → ClassId} {ad : Nat → Nat} {L : hL} {r : Int32} {X' : hX} (C : hC p s m args meth c dC dI cy ad L (hA ad L s.heap.size) cL_apart 10 wsL_apart RL) (hr : meth.sig.returnType = (some .boolean)) : ∀ (v0 : Nat) (v1 : Int32) (v2 : Int32) (v3 : Int32) (v4 : Int32) (v5 : Int32) (s0 : Int32) (X : hX) (ls : Array Slot), f_L_apart_61 L v0 v1 v2 v3 v4 v5 s0 X = some (r, X') → lv_has ls 10 [(0, .ref (ad v0)), (1, .int v1), (2, .int v2), (3, .int v3), (4, .int v4), (5, .int v5)] → hG p l e (headSpec wsL_apart ({ frames := 7, cells := 0, slots := 0, locals := 159 } : Room)).room s m args below meth c dC dI cy ad L (hA ad L s.heap.size) 0 0 (MQ below (hQ dC dI cy ad L s.heap.size (some (.int r)) X') args s 0 0 (hA ad L s.heap.size)) X 61 ls [.int s0] := by
  intro v0 v1 v2 v3 v4 v5 s0 X ls h hl
  unfold f_L_apart_61 at h
  refine hx_istore (lv' := [(6, .int s0), (0, .ref (ad v0)), (1, .int v1), (2, .int v2), (3, .int v3), (4, .int v4), (5, .int v5)]) C dL_apart_61 hl (by decide) rfl (fun ls hl => ?_)
  refine hx_iconst (v := 0) C dL_apart_63 (by decide) ?_
  refine hx_istore (lv' := [(7, .int 0), (6, .int s0), (0, .ref (ad v0)), (1, .int v1), (2, .int v2), (3, .int v3), (4, .int v4), (5, .int v5)]) C dL_apart_64 hl (by decide) rfl (fun ls hl => ?_)
  exact w_L_apart_66 C hr u_fuel v0 v1 v2 v3 v4 v5 s0 0 X ls h (lv_sub hl [2, 3, 4, 5, 6, 7, 1, 0] rfl)
def f_L_apart_56 (L : hL) (v0 : Nat) (v1 : Int32) (v2 : Int32) (v3 : Int32) (v4 : Int32) (v5 : Int32) (X : hX) : Option (Int32 × hX) :=
  f_L_apart_61 L v0 v1 v2 v3 v4 v5 1 X
set_option maxRecDepth 100000 in
set_option maxHeartbeats 4000000 in
theorem w_L_apart_56 {p : Program} {l : Launch} {e : Env} {s : State} {m : MethodId} {args : Array Value} {below : List Frame} {meth : Method} {c : Code} {dC : Nat → ClassId} {dI : Nat → Nat → Nat} {cy : Nat → ClassId} {ad : Nat → Nat} {L : hL} {r : Int32} {X' : hX} (C : hC p s m args meth c dC dI cy ad L (hA ad L s.heap.size) cL_apart 10 wsL_apart RL) (hr : meth.sig.returnType = (some .boolean)) : ∀ (v0 : Nat) (v1 : Int32) (v2 : Int32) (v3 : Int32) (v4 : Int32) (v5 : Int32) (X : hX) (ls : Array Slot), f_L_apart_56 L v0 v1 v2 v3 v4 v5 X = some (r, X') → lv_has ls 10 [(0, .ref (ad v0)), (1, .int v1), (2, .int v2), (3, .int v3), (4, .int v4), (5, .int v5)] → hG p l e (headSpec wsL_apart ({ frames := 7, cells := 0, slots := 0, locals := 159 } : Room)).room s m args below meth c dC dI cy ad L (hA ad L s.heap.size) 0 0 (MQ below (hQ dC dI cy ad L s.heap.size (some (.int r)) X') args s 0 0 (hA ad L s.heap.size)) X 56 ls [] := by
  intro v0 v1 v2 v3 v4 v5 X ls h hl
  unfold f_L_apart_56 at h
  refine hx_iconst (v := 1) C dL_apart_56 (by decide) ?_
  refine hx_goto (tgt := 61) C dL_apart_57 (by decide) ?_
  exact w_L_apart_61 C hr v0 v1 v2 v3 v4 v5 1 X ls h (lv_sub hl [0, 1, 2, 3, 4, 5] rfl)
def f_L_apart_60 (L : hL) (v0 : Nat) (v1 : Int32) (v2 : Int32) (v3 : Int32) (v4 : Int32) (v5 : Int32) (X : hX) : Option (Int32 × hX) :=
  f_L_apart_61 L v0 v1 v2 v3 v4 v5 0 X
set_option maxRecDepth 100000 in
set_option maxHeartbeats 4000000 in
theorem w_L_apart_60 {p : Program} {l : Launch} {e : Env} {s : State} {m : MethodId} {args : Array Value} {below : List Frame} {meth : Method} {c : Code} {dC : Nat → ClassId} {dI : Nat → Nat → Nat} {cy : Nat → ClassId} {ad : Nat → Nat} {L : hL} {r : Int32} {X' : hX} (C : hC p s m args meth c dC dI cy ad L (hA ad L s.heap.size) cL_apart 10 wsL_apart RL) (hr : meth.sig.returnType = (some .boolean)) : ∀ (v0 : Nat) (v1 : Int32) (v2 : Int32) (v3 : Int32) (v4 : Int32) (v5 : Int32) (X : hX) (ls : Array Slot), f_L_apart_60 L v0 v1 v2 v3 v4 v5 X = some (r, X') → lv_has ls 10 [(0, .ref (ad v0)), (1, .int v1), (2, .int v2), (3, .int v3), (4, .int v4), (5, .int v5)] → hG p l e (headSpec wsL_apart ({ frames := 7, cells := 0, slots := 0, locals := 159 } : Room)).room s m args below meth c dC dI cy ad L (hA ad L s.heap.size) 0 0 (MQ below (hQ dC dI cy ad L s.heap.size (some (.int r)) X') args s 0 0 (hA ad L s.heap.size)) X 60 ls [] := by
  intro v0 v1 v2 v3 v4 v5 X ls h hl
  unfold f_L_apart_60 at h
  refine hx_iconst (v := 0) C dL_apart_60 (by decide) ?_
  exact w_L_apart_61 C hr v0 v1 v2 v3 v4 v5 0 X ls h (lv_sub hl [0, 1, 2, 3, 4, 5] rfl)
def f_L_apart (L : hL) (X : hX) (a1 : Nat) (a2 : Int32) (a3 : Int32) : Option (Int32 × hX) :=
  (f_X9_apartUpTo L X a1 a2).bind fun r41 =>
  if tk L a1 9 then
  (f_X9_bestStep L X a1 a2 (a3 - a3 / 40 * 40)).bind fun r44 =>
  if r41 < 0 then
    f_L_apart_60 L a1 a2 a3 r41 (a3 - a3 / 40 * 40) r44 X
  else
    if r44 < 0 then
      f_L_apart_56 L a1 a2 a3 r41 (a3 - a3 / 40 * 40) r44 X
    else
      (f_X9_count L X a1 0).bind fun r48 =>
      if r44 < r48 then
        f_L_apart_56 L a1 a2 a3 r41 (a3 - a3 / 40 * 40) r44 X
      else
        if (a3 - a3 / 40 * 40) ≤ r41 then
          f_L_apart_56 L a1 a2 a3 r41 (a3 - a3 / 40 * 40) r44 X
        else
          (f_X9_count L X a1 0).bind fun r52 =>
          if r44 ≤ r52 then
            f_L_apart_60 L a1 a2 a3 r41 (a3 - a3 / 40 * 40) r44 X
          else
            f_L_apart_56 L a1 a2 a3 r41 (a3 - a3 / 40 * 40) r44 X
  else none
set_option maxRecDepth 100000 in
set_option maxHeartbeats 4000000 in
theorem c_L_apart {l : Launch} {dC : Nat → ClassId} {dI : Nat → Nat → Nat} {cy : Nat → ClassId} {ad : Nat → Nat} {L : hL} {X : hX} {a1 : Nat} {a2 : Int32} {a3 : Int32} {r : Int32} {X' : hX} (h : f_L_apart L X a1 a2 a3 = some (r, X')) : hMet l dC dI cy ad L yL_apart wsL_apart ({ frames := 7, cells := 0, slots := 0, locals := 159 } : Room) [.ref (ad a1), .int a2, .int a3] X (some (.int r)) X' := by
  unfold f_L_apart at h
  refine hx_enter RL (plainFor_of_name (by decide)) rfl rfl (Nat.le_of_ble_eq_true rfl) (fun p e s m args below meth c C hr hnm ls hl => ?_)
  have hl : lv_has ls 10 [(0, .ref (ad a1)), (1, .int a2), (2, .int a3)] := hl
  refine hx_aload_n C dL_apart_0 rfl (lv_at hl 0 rfl) ?_
  refine hx_iload_n C dL_apart_1 rfl (lv_at hl 1 rfl) ?_
  obtain ⟨r41, e42, h⟩ := hx_bind h
  obtain ⟨g43, h⟩ := hx_gd h
  refine hx_callV (As := [.int a2]) (rest := []) (n := 1) (Cn := RX9) C (c_X9_apartUpTo e42) gL_apart_X9_apartUpTo g43 (by decide) rfl (by decide +kernel) ⟨Nat.le_of_ble_eq_true rfl, Nat.le_of_ble_eq_true rfl⟩ rfl rfl rfl ⟨Nat.zero_le _, Nat.zero_le _⟩ hl.1 rfl rfl (Nat.le_of_ble_eq_true rfl) dL_apart_2 ?_
  refine hx_istore_n (lv' := [(3, .int r41), (0, .ref (ad a1)), (1, .int a2), (2, .int a3)]) C dL_apart_5 rfl hl (by decide) rfl (fun ls hl => ?_)
  refine hx_iload_n C dL_apart_6 rfl (lv_at hl 3 rfl) ?_
  refine hx_bipush (v := 40) C dL_apart_7 (by decide) ?_
  refine hx_irem C dL_apart_9 (by decide) ?_
  refine hx_istore (lv' := [(4, .int (a3 - a3 / 40 * 40)), (3, .int r41), (0, .ref (ad a1)), (1, .int a2), (2, .int a3)]) C dL_apart_10 hl (by decide) rfl (fun ls hl => ?_)
  refine hx_aload_n C dL_apart_12 rfl (lv_at hl 2 rfl) ?_
  refine hx_iload_n C dL_apart_13 rfl (lv_at hl 3 rfl) ?_
  refine hx_iload C dL_apart_14 (lv_at hl 0 rfl) ?_
  obtain ⟨r44, e45, h⟩ := hx_bind h
  refine hx_callV (As := [.int a2, .int (a3 - a3 / 40 * 40)]) (rest := []) (n := 2) (Cn := RX9) C (c_X9_bestStep e45) gL_apart_X9_bestStep g43 (by decide) rfl (by decide +kernel) ⟨Nat.le_of_ble_eq_true rfl, Nat.le_of_ble_eq_true rfl⟩ rfl rfl rfl ⟨Nat.zero_le _, Nat.zero_le _⟩ hl.1 rfl rfl (Nat.le_of_ble_eq_true rfl) dL_apart_16 ?_
  refine hx_istore (lv' := [(5, .int r44), (4, .int (a3 - a3 / 40 * 40)), (3, .int r41), (0, .ref (ad a1)), (1, .int a2), (2, .int a3)]) C dL_apart_19 hl (by decide) rfl (fun ls hl => ?_)
  refine hx_iload_n C dL_apart_21 rfl (lv_at hl 2 rfl) ?_
  refine hx_if_lt (tgt := 60) C dL_apart_22 (by decide) (fun c46 => ?_) (fun c46 => ?_)
  · have h := hx_pos c46 h
    exact w_L_apart_60 C hr a1 a2 a3 r41 (a3 - a3 / 40 * 40) r44 X ls h (lv_sub hl [3, 4, 5, 2, 1, 0] rfl)
  · have h := hx_neg c46 h
    refine hx_iload C dL_apart_25 (lv_at hl 0 rfl) ?_
    refine hx_if_lt (tgt := 56) C dL_apart_27 (by decide) (fun c47 => ?_) (fun c47 => ?_)
    · have h := hx_pos c47 h
      exact w_L_apart_56 C hr a1 a2 a3 r41 (a3 - a3 / 40 * 40) r44 X ls h (lv_sub hl [3, 4, 5, 2, 1, 0] rfl)
    · have h := hx_neg c47 h
      refine hx_aload_n C dL_apart_30 rfl (lv_at hl 3 rfl) ?_
      refine hx_iconst (v := 0) C dL_apart_31 (by decide) ?_
      obtain ⟨r48, e49, h⟩ := hx_bind h
      refine hx_callV (As := [.int 0]) (rest := []) (n := 1) (Cn := RX9) C (c_X9_count e49) gL_apart_X9_count g43 (by decide) rfl (by decide +kernel) ⟨Nat.le_of_ble_eq_true rfl, Nat.le_of_ble_eq_true rfl⟩ rfl rfl rfl ⟨Nat.zero_le _, Nat.zero_le _⟩ hl.1 rfl rfl (Nat.le_of_ble_eq_true rfl) dL_apart_32 ?_
      refine hx_iload C dL_apart_35 (lv_at hl 0 rfl) ?_
      refine hx_icmp_gt (tgt := 56) C dL_apart_37 (by decide) (fun c50 => ?_) (fun c50 => ?_)
      · have h := hx_pos c50 h
        exact w_L_apart_56 C hr a1 a2 a3 r41 (a3 - a3 / 40 * 40) r44 X ls h (lv_sub hl [3, 4, 5, 2, 1, 0] rfl)
      · have h := hx_neg c50 h
        refine hx_iload_n C dL_apart_40 rfl (lv_at hl 2 rfl) ?_
        refine hx_iload C dL_apart_41 (lv_at hl 1 rfl) ?_
        refine hx_icmp_ge (tgt := 56) C dL_apart_43 (by decide) (fun c51 => ?_) (fun c51 => ?_)
        · have h := hx_pos c51 h
          exact w_L_apart_56 C hr a1 a2 a3 r41 (a3 - a3 / 40 * 40) r44 X ls h (lv_sub hl [3, 4, 5, 2, 1, 0] rfl)
        · have h := hx_neg c51 h
          refine hx_aload_n C dL_apart_46 rfl (lv_at hl 3 rfl) ?_
          refine hx_iconst (v := 0) C dL_apart_47 (by decide) ?_
          obtain ⟨r52, e53, h⟩ := hx_bind h
          refine hx_callV (As := [.int 0]) (rest := []) (n := 1) (Cn := RX9) C (c_X9_count e53) gL_apart_X9_count g43 (by decide) rfl (by decide +kernel) ⟨Nat.le_of_ble_eq_true rfl, Nat.le_of_ble_eq_true rfl⟩ rfl rfl rfl ⟨Nat.zero_le _, Nat.zero_le _⟩ hl.1 rfl rfl (Nat.le_of_ble_eq_true rfl) dL_apart_48 ?_
          refine hx_iload C dL_apart_51 (lv_at hl 0 rfl) ?_
          refine hx_icmp_ge (tgt := 60) C dL_apart_53 (by decide) (fun c54 => ?_) (fun c54 => ?_)
          · have h := hx_pos c54 h
            exact w_L_apart_60 C hr a1 a2 a3 r41 (a3 - a3 / 40 * 40) r44 X ls h (lv_sub hl [3, 4, 5, 2, 1, 0] rfl)
          · have h := hx_neg c54 h
            exact w_L_apart_56 C hr a1 a2 a3 r41 (a3 - a3 / 40 * 40) r44 X ls h (lv_sub hl [3, 4, 5, 2, 1, 0] rfl)
