def f_L_holds_130 (L : hL) (k12 : Nat → Int32 → Int32 → Int32 → Int32 → Int32 → hX → Option (Int32 × hX)) (v0 : Nat) (v1 : Int32) (v2 : Int32) (v3 : Int32) (v5 : Int32) (s0 : Int32) (X : hX) : Option (Int32 × hX) :=
  k12 v0 v1 v2 v3 s0 (v5 + 1) X
set_option maxRecDepth 100000 in
set_option maxHeartbeats 4000000 in
theorem w_L_holds_130 {p : Program} {l : Launch} {e : Env} {s : State} {m : MethodId} {args : Array Value} {below : List Frame} {meth : Method} {c : Code} {dC : Nat → ClassId} {dI : Nat → Nat → Nat} {cy : Nat → ClassId} {ad : Nat → Nat} {L : hL} {r : Int32} {X' : hX} (k12 : Nat → Int32 → Int32 → Int32 → Int32 → Int32 → hX → Option (Int32 × hX)) (C : hC p s m args meth c dC dI cy ad L (hA ad L s.heap.size) cL_holds 9 wsL_holds RL) (hr : meth.sig.returnType = (some .boolean)) (hk12 : ∀ (v0 : Nat) (v1 : Int32) (v2 : Int32) (v3 : Int32) (v4 : Int32) (v5 : Int32) (X : hX) (ls : Array Slot), k12 v0 v1 v2 v3 v4 v5 X = some (r, X') → lv_has ls 9 [(0, .ref (ad v0)), (1, .int v1), (2, .int v2), (3, .int v3), (4, .int v4), (5, .int v5)] → hG p l e (headSpec wsL_holds ({ frames := 7, cells := 0, slots := 0, locals := 165 } : Room)).room s m args below meth c dC dI cy ad L (hA ad L s.heap.size) 0 0 (MQ below (hQ dC dI cy ad L s.heap.size (some (.int r)) X') args s 0 0 (hA ad L s.heap.size)) X 12 ls []) : ∀ (v0 : Nat) (v1 : Int32) (v2 : Int32) (v3 : Int32) (v5 : Int32) (s0 : Int32) (X : hX) (ls : Array Slot), f_L_holds_130 L k12 v0 v1 v2 v3 v5 s0 X = some (r, X') → lv_has ls 9 [(0, .ref (ad v0)), (1, .int v1), (2, .int v2), (3, .int v3), (5, .int v5)] → hG p l e (headSpec wsL_holds ({ frames := 7, cells := 0, slots := 0, locals := 165 } : Room)).room s m args below meth c dC dI cy ad L (hA ad L s.heap.size) 0 0 (MQ below (hQ dC dI cy ad L s.heap.size (some (.int r)) X') args s 0 0 (hA ad L s.heap.size)) X 130 ls [.int s0] := by
  intro v0 v1 v2 v3 v5 s0 X ls h hl
  unfold f_L_holds_130 at h
  refine hx_istore (lv' := [(4, .int s0), (0, .ref (ad v0)), (1, .int v1), (2, .int v2), (3, .int v3), (5, .int v5)]) C dL_holds_130 hl (by decide) rfl (fun ls hl => ?_)
  refine hx_iinc (v := v5 + 1) (lv' := [(5, .int (v5 + 1)), (4, .int s0), (0, .ref (ad v0)), (1, .int v1), (2, .int v2), (3, .int v3)]) C dL_holds_132 hl (k := 5) rfl rfl (by decide) rfl (fun ls hl => ?_)
  refine hx_goto (tgt := 12) C dL_holds_135 (by decide) ?_
  exact hk12 v0 v1 v2 v3 s0 (v5 + 1) X ls h (lv_sub hl [2, 3, 4, 5, 1, 0] rfl)
def f_L_holds_129 (L : hL) (k12 : Nat → Int32 → Int32 → Int32 → Int32 → Int32 → hX → Option (Int32 × hX)) (v0 : Nat) (v1 : Int32) (v2 : Int32) (v3 : Int32) (v5 : Int32) (X : hX) : Option (Int32 × hX) :=
  f_L_holds_130 L k12 v0 v1 v2 v3 v5 0 X
set_option maxRecDepth 100000 in
set_option maxHeartbeats 4000000 in
theorem w_L_holds_129 {p : Program} {l : Launch} {e : Env} {s : State} {m : MethodId} {args : Array Value} {below : List Frame} {meth : Method} {c : Code} {dC : Nat → ClassId} {dI : Nat → Nat → Nat} {cy : Nat → ClassId} {ad : Nat → Nat} {L : hL} {r : Int32} {X' : hX} (k12 : Nat → Int32 → Int32 → Int32 → Int32 → Int32 → hX → Option (Int32 × hX)) (C : hC p s m args meth c dC dI cy ad L (hA ad L s.heap.size) cL_holds 9 wsL_holds RL) (hr : meth.sig.returnType = (some .boolean)) (hk12 : ∀ (v0 : Nat) (v1 : Int32) (v2 : Int32) (v3 : Int32) (v4 : Int32) (v5 : Int32) (X : hX) (ls : Array Slot), k12 v0 v1 v2 v3 v4 v5 X = some (r, X') → lv_has ls 9 [(0, .ref (ad v0)), (1, .int v1), (2, .int v2), (3, .int v3), (4, .int v4), (5, .int v5)] → hG p l e (headSpec wsL_holds ({ frames := 7, cells := 0, slots := 0, locals := 165 } : Room)).room s m args below meth c dC dI cy ad L (hA ad L s.heap.size) 0 0 (MQ below (hQ dC dI cy ad L s.heap.size (some (.int r)) X') args s 0 0 (hA ad L s.heap.size)) X 12 ls []) : ∀ (v0 : Nat) (v1 : Int32) (v2 : Int32) (v3 : Int32) (v5 : Int32) (X : hX) (ls : Array Slot), f_L_holds_129 L k12 v0 v1 v2 v3 v5 X = some (r, X') → lv_has ls 9 [(0, .ref (ad v0)), (1, .int v1), (2, .int v2), (3, .int v3), (5, .int v5)] → hG p l e (headSpec wsL_holds ({ frames := 7, cells := 0, slots := 0, locals := 165 } : Room)).room s m args below meth c dC dI cy ad L (hA ad L s.heap.size) 0 0 (MQ below (hQ dC dI cy ad L s.heap.size (some (.int r)) X') args s 0 0 (hA ad L s.heap.size)) X 129 ls [] := by
  intro v0 v1 v2 v3 v5 X ls h hl
  unfold f_L_holds_129 at h
  refine hx_iconst (v := 0) C dL_holds_129 (by decide) ?_
  exact w_L_holds_130 k12 C hr hk12 v0 v1 v2 v3 v5 0 X ls h (lv_sub hl [0, 1, 2, 3, 4] rfl)
def f_L_holds_122 (L : hL) (k12 : Nat → Int32 → Int32 → Int32 → Int32 → Int32 → hX → Option (Int32 × hX)) (v0 : Nat) (v1 : Int32) (v2 : Int32) (v3 : Int32) (v5 : Int32) (s0 : Int32) (s1 : Int32) (X : hX) : Option (Int32 × hX) :=
  if s1 = s0 then
    f_L_holds_130 L k12 v0 v1 v2 v3 v5 1 X
  else
    f_L_holds_129 L k12 v0 v1 v2 v3 v5 X
set_option maxRecDepth 100000 in
set_option maxHeartbeats 4000000 in
theorem w_L_holds_122 {p : Program} {l : Launch} {e : Env} {s : State} {m : MethodId} {args : Array Value} {below : List Frame} {meth : Method} {c : Code} {dC : Nat → ClassId} {dI : Nat → Nat → Nat} {cy : Nat → ClassId} {ad : Nat → Nat} {L : hL} {r : Int32} {X' : hX} (k12 : Nat → Int32 → Int32 → Int32 → Int32 → Int32 → hX → Option (Int32 × hX)) (C : hC p s m args meth c dC dI cy ad L (hA ad L s.heap.size) cL_holds 9 wsL_holds RL) (hr : meth.sig.returnType = (some .boolean)) (hk12 : ∀ (v0 : Nat) (v1 : Int32) (v2 : Int32) (v3 : Int32) (v4 : Int32) (v5 : Int32) (X : hX) (ls : Array Slot), k12 v0 v1 v2 v3 v4 v5 X = some (r, X') → lv_has ls 9 [(0, .ref (ad v0)), (1, .int v1), (2, .int v2), (3, .int v3), (4, .int v4), (5, .int v5)] → hG p l e (headSpec wsL_holds ({ frames := 7, cells := 0, slots := 0, locals := 165 } : Room)).room s m args below meth c dC dI cy ad L (hA ad L s.heap.size) 0 0 (MQ below (hQ dC dI cy ad L s.heap.size (some (.int r)) X') args s 0 0 (hA ad L s.heap.size)) X 12 ls []) : ∀ (v0 : Nat) (v1 : Int32) (v2 : Int32) (v3 : Int32) (v5 : Int32) (s0 : Int32) (s1 : Int32) (X : hX) (ls : Array Slot), f_L_holds_122 L k12 v0 v1 v2 v3 v5 s0 s1 X = some (r, X') → lv_has ls 9 [(0, .ref (ad v0)), (1, .int v1), (2, .int v2), (3, .int v3), (5, .int v5)] → hG p l e (headSpec wsL_holds ({ frames := 7, cells := 0, slots := 0, locals := 165 } : Room)).room s m args below meth c dC dI cy ad L (hA ad L s.heap.size) 0 0 (MQ below (hQ dC dI cy ad L s.heap.size (some (.int r)) X') args s 0 0 (hA ad L s.heap.size)) X 122 ls [.int s0, .int s1] := by
  intro v0 v1 v2 v3 v5 s0 s1 X ls h hl
  unfold f_L_holds_122 at h
  refine hx_icmp_ne (tgt := 129) C dL_holds_122 (by decide) (fun c1 => ?_) (fun c1 => ?_)
  · have h := hx_neg c1 h
    exact w_L_holds_129 k12 C hr hk12 v0 v1 v2 v3 v5 X ls h (lv_sub hl [0, 1, 2, 3, 4] rfl)
  · have h := hx_pos c1 h
    refine hx_iconst (v := 1) C dL_holds_125 (by decide) ?_
    refine hx_goto (tgt := 130) C dL_holds_126 (by decide) ?_
    exact w_L_holds_130 k12 C hr hk12 v0 v1 v2 v3 v5 1 X ls h (lv_sub hl [0, 1, 2, 3, 4] rfl)
def f_L_holds_107 (L : hL) (k12 : Nat → Int32 → Int32 → Int32 → Int32 → Int32 → hX → Option (Int32 × hX)) (v0 : Nat) (v1 : Int32) (v2 : Int32) (v3 : Int32) (v5 : Int32) (s0 : Int32) (X : hX) : Option (Int32 × hX) :=
  (f_X9_shop L X v0 v5 2).bind fun r2 =>
  if tk L v0 9 then
  if r2 = 0 then
    f_L_holds_122 L k12 v0 v1 v2 v3 v5 1 s0 X
  else
    f_L_holds_122 L k12 v0 v1 v2 v3 v5 0 s0 X
  else none
set_option maxRecDepth 100000 in
set_option maxHeartbeats 4000000 in
theorem w_L_holds_107 {p : Program} {l : Launch} {e : Env} {s : State} {m : MethodId} {args : Array Value} {below : List Frame} {meth : Method} {c : Code} {dC : Nat → ClassId} {dI : Nat → Nat → Nat} {cy : Nat → ClassId} {ad : Nat → Nat} {L : hL} {r : Int32} {X' : hX} (k12 : Nat → Int32 → Int32 → Int32 → Int32 → Int32 → hX → Option (Int32 × hX)) (C : hC p s m args meth c dC dI cy ad L (hA ad L s.heap.size) cL_holds 9 wsL_holds RL) (hr : meth.sig.returnType = (some .boolean)) (hk12 : ∀ (v0 : Nat) (v1 : Int32) (v2 : Int32) (v3 : Int32) (v4 : Int32) (v5 : Int32) (X : hX) (ls : Array Slot), k12 v0 v1 v2 v3 v4 v5 X = some (r, X') → lv_has ls 9 [(0, .ref (ad v0)), (1, .int v1), (2, .int v2), (3, .int v3), (4, .int v4), (5, .int v5)] → hG p l e (headSpec wsL_holds ({ frames := 7, cells := 0, slots := 0, locals := 165 } : Room)).room s m args below meth c dC dI cy ad L (hA ad L s.heap.size) 0 0 (MQ below (hQ dC dI cy ad L s.heap.size (some (.int r)) X') args s 0 0 (hA ad L s.heap.size)) X 12 ls []) : ∀ (v0 : Nat) (v1 : Int32) (v2 : Int32) (v3 : Int32) (v5 : Int32) (s0 : Int32) (X : hX) (ls : Array Slot), f_L_holds_107 L k12 v0 v1 v2 v3 v5 s0 X = some (r, X') → lv_has ls 9 [(0, .ref (ad v0)), (1, .int v1), (2, .int v2), (3, .int v3), (5, .int v5)] → hG p l e (headSpec wsL_holds ({ frames := 7, cells := 0, slots := 0, locals := 165 } : Room)).room s m args below meth c dC dI cy ad L (hA ad L s.heap.size) 0 0 (MQ below (hQ dC dI cy ad L s.heap.size (some (.int r)) X') args s 0 0 (hA ad L s.heap.size)) X 107 ls [.int s0] := by
  intro v0 v1 v2 v3 v5 s0 X ls h hl
  unfold f_L_holds_107 at h
  refine hx_aload_n C dL_holds_107 rfl (lv_at hl 0 rfl) ?_
  refine hx_iload C dL_holds_108 (lv_at hl 4 rfl) ?_
  refine hx_iconst (v := 2) C dL_holds_110 (by decide) ?_
  obtain ⟨r2, e3, h⟩ := hx_bind h
  obtain ⟨g4, h⟩ := hx_gd h
  refine hx_callV (As := [.int v5, .int 2]) (rest := [.int s0]) (n := 2) (Cn := RX9) C (c_X9_shop e3) gL_holds_X9_shop g4 (by decide) rfl (by decide +kernel) ⟨Nat.le_of_ble_eq_true rfl, Nat.le_of_ble_eq_true rfl⟩ rfl rfl rfl ⟨Nat.zero_le _, Nat.zero_le _⟩ hl.1 rfl rfl (Nat.le_of_ble_eq_true rfl) dL_holds_111 ?_
  refine hx_if_ne (tgt := 121) C dL_holds_114 (by decide) (fun c5 => ?_) (fun c5 => ?_)
  · have h := hx_neg c5 h
    refine hx_iconst (v := 0) C dL_holds_121 (by decide) ?_
    exact w_L_holds_122 k12 C hr hk12 v0 v1 v2 v3 v5 0 s0 X ls h (lv_sub hl [0, 1, 2, 3, 4] rfl)
  · have h := hx_pos c5 h
    refine hx_iconst (v := 1) C dL_holds_117 (by decide) ?_
    refine hx_goto (tgt := 122) C dL_holds_118 (by decide) ?_
    exact w_L_holds_122 k12 C hr hk12 v0 v1 v2 v3 v5 1 s0 X ls h (lv_sub hl [0, 1, 2, 3, 4] rfl)
def f_L_holds_53 (L : hL) (k12 : Nat → Int32 → Int32 → Int32 → Int32 → Int32 → hX → Option (Int32 × hX)) (v0 : Nat) (v1 : Int32) (v2 : Int32) (v5 : Int32) (s0 : Int32) (s1 : Int32) (X : hX) : Option (Int32 × hX) :=
  (f_X9_customer L X v0 v5 0).bind fun r6 =>
  if tk L v0 9 then
  if r6 < 0 then
    f_L_holds_129 L k12 v0 v1 v2 (s1 + s0) v5 X
  else
    (f_X9_shop L X v0 v5 1).bind fun r10 =>
    if r10 < 0 then
      f_L_holds_129 L k12 v0 v1 v2 (s1 + s0) v5 X
    else
      (f_X9_shop L X v0 v5 1).bind fun r13 =>
      (f_X9_customer L X v0 v5 0).bind fun r15 =>
      if r15 < r13 then
        f_L_holds_129 L k12 v0 v1 v2 (s1 + s0) v5 X
      else
        (f_X9_shop L X v0 v5 0).bind fun r18 =>
        if r18 = 0 then
          f_L_holds_107 L k12 v0 v1 v2 (s1 + s0) v5 1 X
        else
          f_L_holds_107 L k12 v0 v1 v2 (s1 + s0) v5 0 X
  else none
set_option maxRecDepth 100000 in
set_option maxHeartbeats 4000000 in
theorem w_L_holds_53 {p : Program} {l : Launch} {e : Env} {s : State} {m : MethodId} {args : Array Value} {below : List Frame} {meth : Method} {c : Code} {dC : Nat → ClassId} {dI : Nat → Nat → Nat} {cy : Nat → ClassId} {ad : Nat → Nat} {L : hL} {r : Int32} {X' : hX} (k12 : Nat → Int32 → Int32 → Int32 → Int32 → Int32 → hX → Option (Int32 × hX)) (C : hC p s m args meth c dC dI cy ad L (hA ad L s.heap.size) cL_holds 9 wsL_holds RL) (hr : meth.sig.returnType = (some .boolean)) (hk12 : ∀ (v0 : Nat) (v1 : Int32) (v2 : Int32) (v3 : Int32) (v4 : Int32) (v5 : Int32) (X : hX) (ls : Array Slot), k12 v0 v1 v2 v3 v4 v5 X = some (r, X') → lv_has ls 9 [(0, .ref (ad v0)), (1, .int v1), (2, .int v2), (3, .int v3), (4, .int v4), (5, .int v5)] → hG p l e (headSpec wsL_holds ({ frames := 7, cells := 0, slots := 0, locals := 165 } : Room)).room s m args below meth c dC dI cy ad L (hA ad L s.heap.size) 0 0 (MQ below (hQ dC dI cy ad L s.heap.size (some (.int r)) X') args s 0 0 (hA ad L s.heap.size)) X 12 ls []) : ∀ (v0 : Nat) (v1 : Int32) (v2 : Int32) (v5 : Int32) (s0 : Int32) (s1 : Int32) (X : hX) (ls : Array Slot), f_L_holds_53 L k12 v0 v1 v2 v5 s0 s1 X = some (r, X') → lv_has ls 9 [(0, .ref (ad v0)), (1, .int v1), (2, .int v2), (5, .int v5)] → hG p l e (headSpec wsL_holds ({ frames := 7, cells := 0, slots := 0, locals := 165 } : Room)).room s m args below meth c dC dI cy ad L (hA ad L s.heap.size) 0 0 (MQ below (hQ dC dI cy ad L s.heap.size (some (.int r)) X') args s 0 0 (hA ad L s.heap.size)) X 53 ls [.int s0, .int s1] := by
  intro v0 v1 v2 v5 s0 s1 X ls h hl
  unfold f_L_holds_53 at h
  refine hx_iadd C dL_holds_53 ?_
  refine hx_istore_n (lv' := [(3, .int (s1 + s0)), (0, .ref (ad v0)), (1, .int v1), (2, .int v2), (5, .int v5)]) C dL_holds_54 rfl hl (by decide) rfl (fun ls hl => ?_)
  refine hx_aload_n C dL_holds_55 rfl (lv_at hl 1 rfl) ?_
  refine hx_iload C dL_holds_56 (lv_at hl 4 rfl) ?_
  refine hx_iconst (v := 0) C dL_holds_58 (by decide) ?_
  obtain ⟨r6, e7, h⟩ := hx_bind h
  obtain ⟨g8, h⟩ := hx_gd h
  refine hx_callV (As := [.int v5, .int 0]) (rest := []) (n := 2) (Cn := RX9) C (c_X9_customer e7) gL_holds_X9_customer g8 (by decide) rfl (by decide +kernel) ⟨Nat.le_of_ble_eq_true rfl, Nat.le_of_ble_eq_true rfl⟩ rfl rfl rfl ⟨Nat.zero_le _, Nat.zero_le _⟩ hl.1 rfl rfl (Nat.le_of_ble_eq_true rfl) dL_holds_59 ?_
  refine hx_if_lt (tgt := 129) C dL_holds_62 (by decide) (fun c9 => ?_) (fun c9 => ?_)
  · have h := hx_pos c9 h
    exact w_L_holds_129 k12 C hr hk12 v0 v1 v2 (s1 + s0) v5 X ls h (lv_sub hl [1, 2, 3, 0, 4] rfl)
  · have h := hx_neg c9 h
    refine hx_aload_n C dL_holds_65 rfl (lv_at hl 1 rfl) ?_
    refine hx_iload C dL_holds_66 (lv_at hl 4 rfl) ?_
    refine hx_iconst (v := 1) C dL_holds_68 (by decide) ?_
    obtain ⟨r10, e11, h⟩ := hx_bind h
    refine hx_callV (As := [.int v5, .int 1]) (rest := []) (n := 2) (Cn := RX9) C (c_X9_shop e11) gL_holds_X9_shop g8 (by decide) rfl (by decide +kernel) ⟨Nat.le_of_ble_eq_true rfl, Nat.le_of_ble_eq_true rfl⟩ rfl rfl rfl ⟨Nat.zero_le _, Nat.zero_le _⟩ hl.1 rfl rfl (Nat.le_of_ble_eq_true rfl) dL_holds_69 ?_
    refine hx_if_lt (tgt := 129) C dL_holds_72 (by decide) (fun c12 => ?_) (fun c12 => ?_)
    · have h := hx_pos c12 h
      exact w_L_holds_129 k12 C hr hk12 v0 v1 v2 (s1 + s0) v5 X ls h (lv_sub hl [1, 2, 3, 0, 4] rfl)
    · have h := hx_neg c12 h
      refine hx_aload_n C dL_holds_75 rfl (lv_at hl 1 rfl) ?_
      refine hx_iload C dL_holds_76 (lv_at hl 4 rfl) ?_
      refine hx_iconst (v := 1) C dL_holds_78 (by decide) ?_
      obtain ⟨r13, e14, h⟩ := hx_bind h
      refine hx_callV (As := [.int v5, .int 1]) (rest := []) (n := 2) (Cn := RX9) C (c_X9_shop e14) gL_holds_X9_shop g8 (by decide) rfl (by decide +kernel) ⟨Nat.le_of_ble_eq_true rfl, Nat.le_of_ble_eq_true rfl⟩ rfl rfl rfl ⟨Nat.zero_le _, Nat.zero_le _⟩ hl.1 rfl rfl (Nat.le_of_ble_eq_true rfl) dL_holds_79 ?_
      refine hx_aload_n C dL_holds_82 rfl (lv_at hl 1 rfl) ?_
      refine hx_iload C dL_holds_83 (lv_at hl 4 rfl) ?_
      refine hx_iconst (v := 0) C dL_holds_85 (by decide) ?_
      obtain ⟨r15, e16, h⟩ := hx_bind h
      refine hx_callV (As := [.int v5, .int 0]) (rest := [.int r13]) (n := 2) (Cn := RX9) C (c_X9_customer e16) gL_holds_X9_customer g8 (by decide) rfl (by decide +kernel) ⟨Nat.le_of_ble_eq_true rfl, Nat.le_of_ble_eq_true rfl⟩ rfl rfl rfl ⟨Nat.zero_le _, Nat.zero_le _⟩ hl.1 rfl rfl (Nat.le_of_ble_eq_true rfl) dL_holds_86 ?_
      refine hx_icmp_gt (tgt := 129) C dL_holds_89 (by decide) (fun c17 => ?_) (fun c17 => ?_)
      · have h := hx_pos c17 h
        exact w_L_holds_129 k12 C hr hk12 v0 v1 v2 (s1 + s0) v5 X ls h (lv_sub hl [1, 2, 3, 0, 4] rfl)
      · have h := hx_neg c17 h
        refine hx_aload_n C dL_holds_92 rfl (lv_at hl 1 rfl) ?_
        refine hx_iload C dL_holds_93 (lv_at hl 4 rfl) ?_
        refine hx_iconst (v := 0) C dL_holds_95 (by decide) ?_
        obtain ⟨r18, e19, h⟩ := hx_bind h
        refine hx_callV (As := [.int v5, .int 0]) (rest := []) (n := 2) (Cn := RX9) C (c_X9_shop e19) gL_holds_X9_shop g8 (by decide) rfl (by decide +kernel) ⟨Nat.le_of_ble_eq_true rfl, Nat.le_of_ble_eq_true rfl⟩ rfl rfl rfl ⟨Nat.zero_le _, Nat.zero_le _⟩ hl.1 rfl rfl (Nat.le_of_ble_eq_true rfl) dL_holds_96 ?_
        refine hx_if_ne (tgt := 106) C dL_holds_99 (by decide) (fun c20 => ?_) (fun c20 => ?_)
        · have h := hx_neg c20 h
          refine hx_iconst (v := 0) C dL_holds_106 (by decide) ?_
          exact w_L_holds_107 k12 C hr hk12 v0 v1 v2 (s1 + s0) v5 0 X ls h (lv_sub hl [1, 2, 3, 0, 4] rfl)
        · have h := hx_pos c20 h
          refine hx_iconst (v := 1) C dL_holds_102 (by decide) ?_
          refine hx_goto (tgt := 107) C dL_holds_103 (by decide) ?_
          exact w_L_holds_107 k12 C hr hk12 v0 v1 v2 (s1 + s0) v5 1 X ls h (lv_sub hl [1, 2, 3, 0, 4] rfl)
def f_L_holds_232 (L : hL) (k141 : Nat → Int32 → Int32 → Int32 → Int32 → Int32 → hX → Option (Int32 × hX)) (v0 : Nat) (v1 : Int32) (v2 : Int32) (v3 : Int32) (v5 : Int32) (s0 : Int32) (X : hX) : Option (Int32 × hX) :=
  k141 v0 v1 v2 v3 s0 (v5 + 1) X
set_option maxRecDepth 100000 in
set_option maxHeartbeats 4000000 in
theorem w_L_holds_232 {p : Program} {l : Launch} {e : Env} {s : State} {m : MethodId} {args : Array Value} {below : List Frame} {meth : Method} {c : Code} {dC : Nat → ClassId} {dI : Nat → Nat → Nat} {cy : Nat → ClassId} {ad : Nat → Nat} {L : hL} {r : Int32} {X' : hX} (k141 : Nat → Int32 → Int32 → Int32 → Int32 → Int32 → hX → Option (Int32 × hX)) (C : hC p s m args meth c dC dI cy ad L (hA ad L s.heap.size) cL_holds 9 wsL_holds RL) (hr : meth.sig.returnType = (some .boolean)) (hk141 : ∀ (v0 : Nat) (v1 : Int32) (v2 : Int32) (v3 : Int32) (v4 : Int32) (v5 : Int32) (X : hX) (ls : Array Slot), k141 v0 v1 v2 v3 v4 v5 X = some (r, X') → lv_has ls 9 [(0, .ref (ad v0)), (1, .int v1), (2, .int v2), (3, .int v3), (4, .int v4), (5, .int v5)] → hG p l e (headSpec wsL_holds ({ frames := 7, cells := 0, slots := 0, locals := 165 } : Room)).room s m args below meth c dC dI cy ad L (hA ad L s.heap.size) 0 0 (MQ below (hQ dC dI cy ad L s.heap.size (some (.int r)) X') args s 0 0 (hA ad L s.heap.size)) X 141 ls []) : ∀ (v0 : Nat) (v1 : Int32) (v2 : Int32) (v3 : Int32) (v5 : Int32) (s0 : Int32) (X : hX) (ls : Array Slot), f_L_holds_232 L k141 v0 v1 v2 v3 v5 s0 X = some (r, X') → lv_has ls 9 [(0, .ref (ad v0)), (1, .int v1), (2, .int v2), (3, .int v3), (5, .int v5)] → hG p l e (headSpec wsL_holds ({ frames := 7, cells := 0, slots := 0, locals := 165 } : Room)).room s m args below meth c dC dI cy ad L (hA ad L s.heap.size) 0 0 (MQ below (hQ dC dI cy ad L s.heap.size (some (.int r)) X') args s 0 0 (hA ad L s.heap.size)) X 232 ls [.int s0] := by
  intro v0 v1 v2 v3 v5 s0 X ls h hl
  unfold f_L_holds_232 at h
  refine hx_istore (lv' := [(4, .int s0), (0, .ref (ad v0)), (1, .int v1), (2, .int v2), (3, .int v3), (5, .int v5)]) C dL_holds_232 hl (by decide) rfl (fun ls hl => ?_)
  refine hx_iinc (v := v5 + 1) (lv' := [(5, .int (v5 + 1)), (4, .int s0), (0, .ref (ad v0)), (1, .int v1), (2, .int v2), (3, .int v3)]) C dL_holds_234 hl (k := 5) rfl rfl (by decide) rfl (fun ls hl => ?_)
  refine hx_goto (tgt := 141) C dL_holds_237 (by decide) ?_
  exact hk141 v0 v1 v2 v3 s0 (v5 + 1) X ls h (lv_sub hl [2, 3, 4, 5, 1, 0] rfl)
def f_L_holds_231 (L : hL) (k141 : Nat → Int32 → Int32 → Int32 → Int32 → Int32 → hX → Option (Int32 × hX)) (v0 : Nat) (v1 : Int32) (v2 : Int32) (v3 : Int32) (v5 : Int32) (X : hX) : Option (Int32 × hX) :=
  f_L_holds_232 L k141 v0 v1 v2 v3 v5 0 X
set_option maxRecDepth 100000 in
set_option maxHeartbeats 4000000 in
theorem w_L_holds_231 {p : Program} {l : Launch} {e : Env} {s : State} {m : MethodId} {args : Array Value} {below : List Frame} {meth : Method} {c : Code} {dC : Nat → ClassId} {dI : Nat → Nat → Nat} {cy : Nat → ClassId} {ad : Nat → Nat} {L : hL} {r : Int32} {X' : hX} (k141 : Nat → Int32 → Int32 → Int32 → Int32 → Int32 → hX → Option (Int32 × hX)) (C : hC p s m args meth c dC dI cy ad L (hA ad L s.heap.size) cL_holds 9 wsL_holds RL) (hr : meth.sig.returnType = (some .boolean)) (hk141 : ∀ (v0 : Nat) (v1 : Int32) (v2 : Int32) (v3 : Int32) (v4 : Int32) (v5 : Int32) (X : hX) (ls : Array Slot), k141 v0 v1 v2 v3 v4 v5 X = some (r, X') → lv_has ls 9 [(0, .ref (ad v0)), (1, .int v1), (2, .int v2), (3, .int v3), (4, .int v4), (5, .int v5)] → hG p l e (headSpec wsL_holds ({ frames := 7, cells := 0, slots := 0, locals := 165 } : Room)).room s m args below meth c dC dI cy ad L (hA ad L s.heap.size) 0 0 (MQ below (hQ dC dI cy ad L s.heap.size (some (.int r)) X') args s 0 0 (hA ad L s.heap.size)) X 141 ls []) : ∀ (v0 : Nat) (v1 : Int32) (v2 : Int32) (v3 : Int32) (v5 : Int32) (X : hX) (ls : Array Slot), f_L_holds_231 L k141 v0 v1 v2 v3 v5 X = some (r, X') → lv_has ls 9 [(0, .ref (ad v0)), (1, .int v1), (2, .int v2), (3, .int v3), (5, .int v5)] → hG p l e (headSpec wsL_holds ({ frames := 7, cells := 0, slots := 0, locals := 165 } : Room)).room s m args below meth c dC dI cy ad L (hA ad L s.heap.size) 0 0 (MQ below (hQ dC dI cy ad L s.heap.size (some (.int r)) X') args s 0 0 (hA ad L s.heap.size)) X 231 ls [] := by
  intro v0 v1 v2 v3 v5 X ls h hl
  unfold f_L_holds_231 at h
  refine hx_iconst (v := 0) C dL_holds_231 (by decide) ?_
  exact w_L_holds_232 k141 C hr hk141 v0 v1 v2 v3 v5 0 X ls h (lv_sub hl [0, 1, 2, 3, 4] rfl)
def f_L_holds_224 (L : hL) (k141 : Nat → Int32 → Int32 → Int32 → Int32 → Int32 → hX → Option (Int32 × hX)) (v0 : Nat) (v1 : Int32) (v2 : Int32) (v3 : Int32) (v5 : Int32) (s0 : Int32) (s1 : Int32) (X : hX) : Option (Int32 × hX) :=
  if s1 = s0 then
    f_L_holds_232 L k141 v0 v1 v2 v3 v5 1 X
  else
    f_L_holds_231 L k141 v0 v1 v2 v3 v5 X
set_option maxRecDepth 100000 in
set_option maxHeartbeats 4000000 in
theorem w_L_holds_224 {p : Program} {l : Launch} {e : Env} {s : State} {m : MethodId} {args : Array Value} {below : List Frame} {meth : Method} {c : Code} {dC : Nat → ClassId} {dI : Nat → Nat → Nat} {cy : Nat → ClassId} {ad : Nat → Nat} {L : hL} {r : Int32} {X' : hX} (k141 : Nat → Int32 → Int32 → Int32 → Int32 → Int32 → hX → Option (Int32 × hX)) (C : hC p s m args meth c dC dI cy ad L (hA ad L s.heap.size) cL_holds 9 wsL_holds RL) (hr : meth.sig.returnType = (some .boolean)) (hk141 : ∀ (v0 : Nat) (v1 : Int32) (v2 : Int32) (v3 : Int32) (v4 : Int32) (v5 : Int32) (X : hX) (ls : Array Slot), k141 v0 v1 v2 v3 v4 v5 X = some (r, X') → lv_has ls 9 [(0, .ref (ad v0)), (1, .int v1), (2, .int v2), (3, .int v3), (4, .int v4), (5, .int v5)] → hG p l e (headSpec wsL_holds ({ frames := 7, cells := 0, slots := 0, locals := 165 } : Room)).room s m args below meth c dC dI cy ad L (hA ad L s.heap.size) 0 0 (MQ below (hQ dC dI cy ad L s.heap.size (some (.int r)) X') args s 0 0 (hA ad L s.heap.size)) X 141 ls []) : ∀ (v0 : Nat) (v1 : Int32) (v2 : Int32) (v3 : Int32) (v5 : Int32) (s0 : Int32) (s1 : Int32) (X : hX) (ls : Array Slot), f_L_holds_224 L k141 v0 v1 v2 v3 v5 s0 s1 X = some (r, X') → lv_has ls 9 [(0, .ref (ad v0)), (1, .int v1), (2, .int v2), (3, .int v3), (5, .int v5)] → hG p l e (headSpec wsL_holds ({ frames := 7, cells := 0, slots := 0, locals := 165 } : Room)).room s m args below meth c dC dI cy ad L (hA ad L s.heap.size) 0 0 (MQ below (hQ dC dI cy ad L s.heap.size (some (.int r)) X') args s 0 0 (hA ad L s.heap.size)) X 224 ls [.int s0, .int s1] := by
  intro v0 v1 v2 v3 v5 s0 s1 X ls h hl
  unfold f_L_holds_224 at h
  refine hx_icmp_ne (tgt := 231) C dL_holds_224 (by decide) (fun c21 => ?_) (fun c21 => ?_)
  · have h := hx_neg c21 h
    exact w_L_holds_231 k141 C hr hk141 v0 v1 v2 v3 v5 X ls h (lv_sub hl [0, 1, 2, 3, 4] rfl)
  · have h := hx_pos c21 h
    refine hx_iconst (v := 1) C dL_holds_227 (by decide) ?_
    refine hx_goto (tgt := 232) C dL_holds_228 (by decide) ?_
    exact w_L_holds_232 k141 C hr hk141 v0 v1 v2 v3 v5 1 X ls h (lv_sub hl [0, 1, 2, 3, 4] rfl)
def f_L_holds_214 (L : hL) (k141 : Nat → Int32 → Int32 → Int32 → Int32 → Int32 → hX → Option (Int32 × hX)) (v0 : Nat) (v1 : Int32) (v2 : Int32) (v3 : Int32) (v5 : Int32) (v6 : Int32) (s0 : Int32) (X : hX) : Option (Int32 × hX) :=
  if v6 = 0 then
    f_L_holds_224 L k141 v0 v1 v2 v3 v5 1 s0 X
  else
    f_L_holds_224 L k141 v0 v1 v2 v3 v5 0 s0 X
set_option maxRecDepth 100000 in
set_option maxHeartbeats 4000000 in
theorem w_L_holds_214 {p : Program} {l : Launch} {e : Env} {s : State} {m : MethodId} {args : Array Value} {below : List Frame} {meth : Method} {c : Code} {dC : Nat → ClassId} {dI : Nat → Nat → Nat} {cy : Nat → ClassId} {ad : Nat → Nat} {L : hL} {r : Int32} {X' : hX} (k141 : Nat → Int32 → Int32 → Int32 → Int32 → Int32 → hX → Option (Int32 × hX)) (C : hC p s m args meth c dC dI cy ad L (hA ad L s.heap.size) cL_holds 9 wsL_holds RL) (hr : meth.sig.returnType = (some .boolean)) (hk141 : ∀ (v0 : Nat) (v1 : Int32) (v2 : Int32) (v3 : Int32) (v4 : Int32) (v5 : Int32) (X : hX) (ls : Array Slot), k141 v0 v1 v2 v3 v4 v5 X = some (r, X') → lv_has ls 9 [(0, .ref (ad v0)), (1, .int v1), (2, .int v2), (3, .int v3), (4, .int v4), (5, .int v5)] → hG p l e (headSpec wsL_holds ({ frames := 7, cells := 0, slots := 0, locals := 165 } : Room)).room s m args below meth c dC dI cy ad L (hA ad L s.heap.size) 0 0 (MQ below (hQ dC dI cy ad L s.heap.size (some (.int r)) X') args s 0 0 (hA ad L s.heap.size)) X 141 ls []) : ∀ (v0 : Nat) (v1 : Int32) (v2 : Int32) (v3 : Int32) (v5 : Int32) (v6 : Int32) (s0 : Int32) (X : hX) (ls : Array Slot), f_L_holds_214 L k141 v0 v1 v2 v3 v5 v6 s0 X = some (r, X') → lv_has ls 9 [(0, .ref (ad v0)), (1, .int v1), (2, .int v2), (3, .int v3), (5, .int v5), (6, .int v6)] → hG p l e (headSpec wsL_holds ({ frames := 7, cells := 0, slots := 0, locals := 165 } : Room)).room s m args below meth c dC dI cy ad L (hA ad L s.heap.size) 0 0 (MQ below (hQ dC dI cy ad L s.heap.size (some (.int r)) X') args s 0 0 (hA ad L s.heap.size)) X 214 ls [.int s0] := by
  intro v0 v1 v2 v3 v5 v6 s0 X ls h hl
  unfold f_L_holds_214 at h
  refine hx_iload C dL_holds_214 (lv_at hl 5 rfl) ?_
  refine hx_if_ne (tgt := 223) C dL_holds_216 (by decide) (fun c22 => ?_) (fun c22 => ?_)
  · have h := hx_neg c22 h
    refine hx_iconst (v := 0) C dL_holds_223 (by decide) ?_
    exact w_L_holds_224 k141 C hr hk141 v0 v1 v2 v3 v5 0 s0 X ls h (lv_sub hl [0, 1, 2, 3, 4] rfl)
  · have h := hx_pos c22 h
    refine hx_iconst (v := 1) C dL_holds_219 (by decide) ?_
    refine hx_goto (tgt := 224) C dL_holds_220 (by decide) ?_
    exact w_L_holds_224 k141 C hr hk141 v0 v1 v2 v3 v5 1 s0 X ls h (lv_sub hl [0, 1, 2, 3, 4] rfl)
def f_L_holds_305 (L : hL) (k249 : Nat → Int32 → Int32 → Int32 → Int32 → Int32 → Int32 → hX → Option (Int32 × hX)) (v0 : Nat) (v1 : Int32) (v2 : Int32) (v3 : Int32) (v5 : Int32) (v6 : Int32) (s0 : Int32) (X : hX) : Option (Int32 × hX) :=
  k249 v0 v1 v2 v3 s0 v5 (v6 + 1) X
set_option maxRecDepth 100000 in
set_option maxHeartbeats 4000000 in
theorem w_L_holds_305 {p : Program} {l : Launch} {e : Env} {s : State} {m : MethodId} {args : Array Value} {below : List Frame} {meth : Method} {c : Code} {dC : Nat → ClassId} {dI : Nat → Nat → Nat} {cy : Nat → ClassId} {ad : Nat → Nat} {L : hL} {r : Int32} {X' : hX} (k249 : Nat → Int32 → Int32 → Int32 → Int32 → Int32 → Int32 → hX → Option (Int32 × hX)) (C : hC p s m args meth c dC dI cy ad L (hA ad L s.heap.size) cL_holds 9 wsL_holds RL) (hr : meth.sig.returnType = (some .boolean)) (hk249 : ∀ (v0 : Nat) (v1 : Int32) (v2 : Int32) (v3 : Int32) (v4 : Int32) (v5 : Int32) (v6 : Int32) (X : hX) (ls : Array Slot), k249 v0 v1 v2 v3 v4 v5 v6 X = some (r, X') → lv_has ls 9 [(0, .ref (ad v0)), (1, .int v1), (2, .int v2), (3, .int v3), (4, .int v4), (5, .int v5), (6, .int v6)] → hG p l e (headSpec wsL_holds ({ frames := 7, cells := 0, slots := 0, locals := 165 } : Room)).room s m args below meth c dC dI cy ad L (hA ad L s.heap.size) 0 0 (MQ below (hQ dC dI cy ad L s.heap.size (some (.int r)) X') args s 0 0 (hA ad L s.heap.size)) X 249 ls []) : ∀ (v0 : Nat) (v1 : Int32) (v2 : Int32) (v3 : Int32) (v5 : Int32) (v6 : Int32) (s0 : Int32) (X : hX) (ls : Array Slot), f_L_holds_305 L k249 v0 v1 v2 v3 v5 v6 s0 X = some (r, X') → lv_has ls 9 [(0, .ref (ad v0)), (1, .int v1), (2, .int v2), (3, .int v3), (5, .int v5), (6, .int v6)] → hG p l e (headSpec wsL_holds ({ frames := 7, cells := 0, slots := 0, locals := 165 } : Room)).room s m args below meth c dC dI cy ad L (hA ad L s.heap.size) 0 0 (MQ below (hQ dC dI cy ad L s.heap.size (some (.int r)) X') args s 0 0 (hA ad L s.heap.size)) X 305 ls [.int s0] := by
  intro v0 v1 v2 v3 v5 v6 s0 X ls h hl
  unfold f_L_holds_305 at h
  refine hx_istore (lv' := [(4, .int s0), (0, .ref (ad v0)), (1, .int v1), (2, .int v2), (3, .int v3), (5, .int v5), (6, .int v6)]) C dL_holds_305 hl (by decide) rfl (fun ls hl => ?_)
  refine hx_iinc (v := v6 + 1) (lv' := [(6, .int (v6 + 1)), (4, .int s0), (0, .ref (ad v0)), (1, .int v1), (2, .int v2), (3, .int v3), (5, .int v5)]) C dL_holds_307 hl (k := 6) rfl rfl (by decide) rfl (fun ls hl => ?_)
  refine hx_goto (tgt := 249) C dL_holds_310 (by decide) ?_
  exact hk249 v0 v1 v2 v3 s0 v5 (v6 + 1) X ls h (lv_sub hl [2, 3, 4, 5, 1, 6, 0] rfl)
def f_L_holds_358 (L : hL) (v0 : Nat) (s0 : Int32) (X : hX) : Option (Int32 × hX) :=
  (f_X9_would L X v0 1).bind fun r23 =>
  if tk L v0 9 then
  if r23 = (-100009) then
    if s0 = 0 then
      some (1, X)
    else
      some (0, X)
  else
    if s0 = 1 then
      some (1, X)
    else
      some (0, X)
  else none
set_option maxRecDepth 100000 in
set_option maxHeartbeats 4000000 in
theorem w_L_holds_358 {p : Program} {l : Launch} {e : Env} {s : State} {m : MethodId} {args : Array Value} {below : List Frame} {meth : Method} {c : Code} {dC : Nat → ClassId} {dI : Nat → Nat → Nat} {cy : Nat → ClassId} {ad : Nat → Nat} {L : hL} {r : Int32} {X' : hX} (C : hC p s m args meth c dC dI cy ad L (hA ad L s.heap.size) cL_holds 9 wsL_holds RL) (hr : meth.sig.returnType = (some .boolean)) : ∀ (v0 : Nat) (s0 : Int32) (X : hX) (ls : Array Slot), f_L_holds_358 L v0 s0 X = some (r, X') → lv_has ls 9 [(0, .ref (ad v0))] → hG p l e (headSpec wsL_holds ({ frames := 7, cells := 0, slots := 0, locals := 165 } : Room)).room s m args below meth c dC dI cy ad L (hA ad L s.heap.size) 0 0 (MQ below (hQ dC dI cy ad L s.heap.size (some (.int r)) X') args s 0 0 (hA ad L s.heap.size)) X 358 ls [.int s0] := by
  intro v0 s0 X ls h hl
  unfold f_L_holds_358 at h
  refine hx_aload_n C dL_holds_358 rfl (lv_at hl 0 rfl) ?_
  refine hx_iconst (v := 1) C dL_holds_359 (by decide) ?_
  obtain ⟨r23, e24, h⟩ := hx_bind h
  obtain ⟨g25, h⟩ := hx_gd h
  refine hx_callV (As := [.int 1]) (rest := [.int s0]) (n := 1) (Cn := RX9) C (c_X9_would e24) gL_holds_X9_would g25 (by decide) rfl (by decide +kernel) ⟨Nat.le_of_ble_eq_true rfl, Nat.le_of_ble_eq_true rfl⟩ rfl rfl rfl ⟨Nat.zero_le _, Nat.zero_le _⟩ hl.1 rfl rfl (Nat.le_of_ble_eq_true rfl) dL_holds_360 ?_
  refine hx_ldc (v := (-100009)) C (by decide +kernel) dL_holds_363 ?_
  refine hx_icmp_eq (tgt := 372) C dL_holds_365 (by decide) (fun c26 => ?_) (fun c26 => ?_)
  · have h := hx_pos c26 h
    refine hx_iconst (v := 0) C dL_holds_372 (by decide) ?_
    refine hx_icmp_ne (tgt := 380) C dL_holds_373 (by decide) (fun c27 => ?_) (fun c27 => ?_)
    · have h := hx_neg c27 h
      refine hx_iconst (v := 0) C dL_holds_380 (by decide) ?_
      obtain ⟨rfl, rfl⟩ := hx_some2 h
      exact hx_zret C hr rfl dL_holds_381
    · have h := hx_pos c27 h
      refine hx_iconst (v := 1) C dL_holds_376 (by decide) ?_
      refine hx_goto (tgt := 381) C dL_holds_377 (by decide) ?_
      obtain ⟨rfl, rfl⟩ := hx_some2 h
      exact hx_zret C hr rfl dL_holds_381
  · have h := hx_neg c26 h
    refine hx_iconst (v := 1) C dL_holds_368 (by decide) ?_
    refine hx_goto (tgt := 373) C dL_holds_369 (by decide) ?_
    refine hx_icmp_ne (tgt := 380) C dL_holds_373 (by decide) (fun c28 => ?_) (fun c28 => ?_)
    · have h := hx_neg c28 h
      refine hx_iconst (v := 0) C dL_holds_380 (by decide) ?_
      obtain ⟨rfl, rfl⟩ := hx_some2 h
      exact hx_zret C hr rfl dL_holds_381
    · have h := hx_pos c28 h
      refine hx_iconst (v := 1) C dL_holds_376 (by decide) ?_
      refine hx_goto (tgt := 381) C dL_holds_377 (by decide) ?_
      obtain ⟨rfl, rfl⟩ := hx_some2 h
      exact hx_zret C hr rfl dL_holds_381
def f_L_holds_313 (L : hL) (v0 : Nat) (v1 : Int32) (v2 : Int32) (v3 : Int32) (v4 : Int32) (v5 : Int32) (X : hX) : Option (Int32 × hX) :=
  if v4 = 0 then
    some (0, X)
  else
    (f_X9_count L X v0 9).bind fun r30 =>
    if tk L v0 9 then
    if v1 = r30 then
      (f_X9_count L X v0 10).bind fun r34 =>
      if v2 = r34 then
        (f_X9_count L X v0 7).bind fun r37 =>
        if v3 = r37 then
          if v5 < 0 then
            f_L_holds_358 L v0 0 X
          else
            f_L_holds_358 L v0 1 X
        else
          some (0, X)
      else
        some (0, X)
    else
      some (0, X)
    else none
set_option maxRecDepth 100000 in
set_option maxHeartbeats 4000000 in
theorem w_L_holds_313 {p : Program} {l : Launch} {e : Env} {s : State} {m : MethodId} {args : Array Value} {below : List Frame} {meth : Method} {c : Code} {dC : Nat → ClassId} {dI : Nat → Nat → Nat} {cy : Nat → ClassId} {ad : Nat → Nat} {L : hL} {r : Int32} {X' : hX} (C : hC p s m args meth c dC dI cy ad L (hA ad L s.heap.size) cL_holds 9 wsL_holds RL) (hr : meth.sig.returnType = (some .boolean)) : ∀ (v0 : Nat) (v1 : Int32) (v2 : Int32) (v3 : Int32) (v4 : Int32) (v5 : Int32) (X : hX) (ls : Array Slot), f_L_holds_313 L v0 v1 v2 v3 v4 v5 X = some (r, X') → lv_has ls 9 [(0, .ref (ad v0)), (1, .int v1), (2, .int v2), (3, .int v3), (4, .int v4), (5, .int v5)] → hG p l e (headSpec wsL_holds ({ frames := 7, cells := 0, slots := 0, locals := 165 } : Room)).room s m args below meth c dC dI cy ad L (hA ad L s.heap.size) 0 0 (MQ below (hQ dC dI cy ad L s.heap.size (some (.int r)) X') args s 0 0 (hA ad L s.heap.size)) X 313 ls [] := by
  intro v0 v1 v2 v3 v4 v5 X ls h hl
  unfold f_L_holds_313 at h
  refine hx_iload C dL_holds_313 (lv_at hl 4 rfl) ?_
  refine hx_if_eq (tgt := 380) C dL_holds_315 (by decide) (fun c29 => ?_) (fun c29 => ?_)
  · have h := hx_pos c29 h
    refine hx_iconst (v := 0) C dL_holds_380 (by decide) ?_
    obtain ⟨rfl, rfl⟩ := hx_some2 h
    exact hx_zret C hr rfl dL_holds_381
  · have h := hx_neg c29 h
    refine hx_iload_n C dL_holds_318 rfl (lv_at hl 1 rfl) ?_
    refine hx_aload_n C dL_holds_319 rfl (lv_at hl 0 rfl) ?_
    refine hx_bipush (v := 9) C dL_holds_320 (by decide) ?_
    obtain ⟨r30, e31, h⟩ := hx_bind h
    obtain ⟨g32, h⟩ := hx_gd h
    refine hx_callV (As := [.int 9]) (rest := [.int v1]) (n := 1) (Cn := RX9) C (c_X9_count e31) gL_holds_X9_count g32 (by decide) rfl (by decide +kernel) ⟨Nat.le_of_ble_eq_true rfl, Nat.le_of_ble_eq_true rfl⟩ rfl rfl rfl ⟨Nat.zero_le _, Nat.zero_le _⟩ hl.1 rfl rfl (Nat.le_of_ble_eq_true rfl) dL_holds_322 ?_
    refine hx_icmp_ne (tgt := 380) C dL_holds_325 (by decide) (fun c33 => ?_) (fun c33 => ?_)
    · have h := hx_neg c33 h
      refine hx_iconst (v := 0) C dL_holds_380 (by decide) ?_
      obtain ⟨rfl, rfl⟩ := hx_some2 h
      exact hx_zret C hr rfl dL_holds_381
    · have h := hx_pos c33 h
      refine hx_iload_n C dL_holds_328 rfl (lv_at hl 2 rfl) ?_
      refine hx_aload_n C dL_holds_329 rfl (lv_at hl 0 rfl) ?_
      refine hx_bipush (v := 10) C dL_holds_330 (by decide) ?_
      obtain ⟨r34, e35, h⟩ := hx_bind h
      refine hx_callV (As := [.int 10]) (rest := [.int v2]) (n := 1) (Cn := RX9) C (c_X9_count e35) gL_holds_X9_count g32 (by decide) rfl (by decide +kernel) ⟨Nat.le_of_ble_eq_true rfl, Nat.le_of_ble_eq_true rfl⟩ rfl rfl rfl ⟨Nat.zero_le _, Nat.zero_le _⟩ hl.1 rfl rfl (Nat.le_of_ble_eq_true rfl) dL_holds_332 ?_
      refine hx_icmp_ne (tgt := 380) C dL_holds_335 (by decide) (fun c36 => ?_) (fun c36 => ?_)
      · have h := hx_neg c36 h
        refine hx_iconst (v := 0) C dL_holds_380 (by decide) ?_
        obtain ⟨rfl, rfl⟩ := hx_some2 h
        exact hx_zret C hr rfl dL_holds_381
      · have h := hx_pos c36 h
        refine hx_iload_n C dL_holds_338 rfl (lv_at hl 3 rfl) ?_
        refine hx_aload_n C dL_holds_339 rfl (lv_at hl 0 rfl) ?_
        refine hx_bipush (v := 7) C dL_holds_340 (by decide) ?_
        obtain ⟨r37, e38, h⟩ := hx_bind h
        refine hx_callV (As := [.int 7]) (rest := [.int v3]) (n := 1) (Cn := RX9) C (c_X9_count e38) gL_holds_X9_count g32 (by decide) rfl (by decide +kernel) ⟨Nat.le_of_ble_eq_true rfl, Nat.le_of_ble_eq_true rfl⟩ rfl rfl rfl ⟨Nat.zero_le _, Nat.zero_le _⟩ hl.1 rfl rfl (Nat.le_of_ble_eq_true rfl) dL_holds_342 ?_
        refine hx_icmp_ne (tgt := 380) C dL_holds_345 (by decide) (fun c39 => ?_) (fun c39 => ?_)
        · have h := hx_neg c39 h
          refine hx_iconst (v := 0) C dL_holds_380 (by decide) ?_
          obtain ⟨rfl, rfl⟩ := hx_some2 h
          exact hx_zret C hr rfl dL_holds_381
        · have h := hx_pos c39 h
          refine hx_iload C dL_holds_348 (lv_at hl 5 rfl) ?_
          refine hx_if_lt (tgt := 357) C dL_holds_350 (by decide) (fun c40 => ?_) (fun c40 => ?_)
          · have h := hx_pos c40 h
            refine hx_iconst (v := 0) C dL_holds_357 (by decide) ?_
            exact w_L_holds_358 C hr v0 0 X ls h (lv_sub hl [0] rfl)
          · have h := hx_neg c40 h
            refine hx_iconst (v := 1) C dL_holds_353 (by decide) ?_
            refine hx_goto (tgt := 358) C dL_holds_354 (by decide) ?_
            exact w_L_holds_358 C hr v0 1 X ls h (lv_sub hl [0] rfl)
def f_L_holds_249 (L : hL) : Nat → Nat → Int32 → Int32 → Int32 → Int32 → Int32 → Int32 → hX → Option (Int32 × hX)
  | 0, _, _, _, _, _, _, _, _ => none
  | n + 1, v0, v1, v2, v3, v4, v5, v6, X =>
    if 4 ≤ v6 then
      f_L_holds_313 L v0 v1 v2 v3 v4 v5 X
    else
      if v4 = 0 then
        f_L_holds_313 L v0 v1 v2 v3 v4 v5 X
      else
        if v5 < 0 then
          f_L_holds_313 L v0 v1 v2 v3 v4 v5 X
        else
          (f_X9_would L X v0 v5).bind fun r44 =>
          if tk L v0 9 then
          (f_X9_would L X v0 v6).bind fun r47 =>
          if ((r47 - 100000) * (r47 - 100000)) < ((r44 - 100000) * (r44 - 100000)) then
            f_L_holds_305 L (f_L_holds_249 L n) v0 v1 v2 v3 v5 v6 0 X
          else
            f_L_holds_305 L (f_L_holds_249 L n) v0 v1 v2 v3 v5 v6 1 X
          else none
set_option maxRecDepth 100000 in
set_option maxHeartbeats 4000000 in
theorem w_L_holds_249 {p : Program} {l : Launch} {e : Env} {s : State} {m : MethodId} {args : Array Value} {below : List Frame} {meth : Method} {c : Code} {dC : Nat → ClassId} {dI : Nat → Nat → Nat} {cy : Nat → ClassId} {ad : Nat → Nat} {L : hL} {r : Int32} {X' : hX} (C : hC p s m args meth c dC dI cy ad L (hA ad L s.heap.size) cL_holds 9 wsL_holds RL) (hr : meth.sig.returnType = (some .boolean)) : ∀ (n : Nat) (v0 : Nat) (v1 : Int32) (v2 : Int32) (v3 : Int32) (v4 : Int32) (v5 : Int32) (v6 : Int32) (X : hX) (ls : Array Slot), f_L_holds_249 L n v0 v1 v2 v3 v4 v5 v6 X = some (r, X') → lv_has ls 9 [(0, .ref (ad v0)), (1, .int v1), (2, .int v2), (3, .int v3), (4, .int v4), (5, .int v5), (6, .int v6)] → hG p l e (headSpec wsL_holds ({ frames := 7, cells := 0, slots := 0, locals := 165 } : Room)).room s m args below meth c dC dI cy ad L (hA ad L s.heap.size) 0 0 (MQ below (hQ dC dI cy ad L s.heap.size (some (.int r)) X') args s 0 0 (hA ad L s.heap.size)) X 249 ls [] := by
  intro n
  induction n with
  | zero => intro v0 v1 v2 v3 v4 v5 v6 X ls h; cases h
  | succ n ih =>
    intro v0 v1 v2 v3 v4 v5 v6 X ls h hl
    rw [f_L_holds_249] at h
    refine hx_iload C dL_holds_249 (lv_at hl 6 rfl) ?_
    refine hx_iconst (v := 4) C dL_holds_251 (by decide) ?_
    refine hx_icmp_ge (tgt := 313) C dL_holds_252 (by decide) (fun c41 => ?_) (fun c41 => ?_)
    · have h := hx_pos c41 h
      exact w_L_holds_313 C hr v0 v1 v2 v3 v4 v5 X ls h (lv_sub hl [0, 1, 2, 3, 4, 5] rfl)
    · have h := hx_neg c41 h
      refine hx_iload C dL_holds_255 (lv_at hl 4 rfl) ?_
      refine hx_if_eq (tgt := 313) C dL_holds_257 (by decide) (fun c42 => ?_) (fun c42 => ?_)
      · have h := hx_pos c42 h
        exact w_L_holds_313 C hr v0 v1 v2 v3 v4 v5 X ls h (lv_sub hl [0, 1, 2, 3, 4, 5] rfl)
      · have h := hx_neg c42 h
        refine hx_iload C dL_holds_260 (lv_at hl 5 rfl) ?_
        refine hx_if_lt (tgt := 313) C dL_holds_262 (by decide) (fun c43 => ?_) (fun c43 => ?_)
        · have h := hx_pos c43 h
          exact w_L_holds_313 C hr v0 v1 v2 v3 v4 v5 X ls h (lv_sub hl [0, 1, 2, 3, 4, 5] rfl)
        · have h := hx_neg c43 h
          refine hx_aload_n C dL_holds_265 rfl (lv_at hl 0 rfl) ?_
          refine hx_iload C dL_holds_266 (lv_at hl 5 rfl) ?_
          obtain ⟨r44, e45, h⟩ := hx_bind h
          obtain ⟨g46, h⟩ := hx_gd h
          refine hx_callV (As := [.int v5]) (rest := []) (n := 1) (Cn := RX9) C (c_X9_would e45) gL_holds_X9_would g46 (by decide) rfl (by decide +kernel) ⟨Nat.le_of_ble_eq_true rfl, Nat.le_of_ble_eq_true rfl⟩ rfl rfl rfl ⟨Nat.zero_le _, Nat.zero_le _⟩ hl.1 rfl rfl (Nat.le_of_ble_eq_true rfl) dL_holds_268 ?_
          refine hx_ldc (v := 100000) C (by decide +kernel) dL_holds_271 ?_
          refine hx_isub C dL_holds_273 ?_
          refine hx_istore (lv' := [(7, .int (r44 - 100000)), (0, .ref (ad v0)), (1, .int v1), (2, .int v2), (3, .int v3), (4, .int v4), (5, .int v5), (6, .int v6)]) C dL_holds_274 hl (by decide) rfl (fun ls hl => ?_)
          refine hx_aload_n C dL_holds_276 rfl (lv_at hl 1 rfl) ?_
          refine hx_iload C dL_holds_277 (lv_at hl 7 rfl) ?_
          obtain ⟨r47, e48, h⟩ := hx_bind h
          refine hx_callV (As := [.int v6]) (rest := []) (n := 1) (Cn := RX9) C (c_X9_would e48) gL_holds_X9_would g46 (by decide) rfl (by decide +kernel) ⟨Nat.le_of_ble_eq_true rfl, Nat.le_of_ble_eq_true rfl⟩ rfl rfl rfl ⟨Nat.zero_le _, Nat.zero_le _⟩ hl.1 rfl rfl (Nat.le_of_ble_eq_true rfl) dL_holds_279 ?_
          refine hx_ldc (v := 100000) C (by decide +kernel) dL_holds_282 ?_
          refine hx_isub C dL_holds_284 ?_
          refine hx_istore (lv' := [(8, .int (r47 - 100000)), (7, .int (r44 - 100000)), (0, .ref (ad v0)), (1, .int v1), (2, .int v2), (3, .int v3), (4, .int v4), (5, .int v5), (6, .int v6)]) C dL_holds_285 hl (by decide) rfl (fun ls hl => ?_)
          refine hx_iload C dL_holds_287 (lv_at hl 1 rfl) ?_
          refine hx_iload C dL_holds_289 (lv_at hl 1 rfl) ?_
          refine hx_imul C dL_holds_291 ?_
          refine hx_iload C dL_holds_292 (lv_at hl 0 rfl) ?_
          refine hx_iload C dL_holds_294 (lv_at hl 0 rfl) ?_
          refine hx_imul C dL_holds_296 ?_
          refine hx_icmp_gt (tgt := 304) C dL_holds_297 (by decide) (fun c49 => ?_) (fun c49 => ?_)
          · have h := hx_pos c49 h
            refine hx_iconst (v := 0) C dL_holds_304 (by decide) ?_
            exact w_L_holds_305 (f_L_holds_249 L n) C hr ih v0 v1 v2 v3 v5 v6 0 X ls h (lv_sub hl [2, 3, 4, 5, 7, 8] rfl)
          · have h := hx_neg c49 h
            refine hx_iconst (v := 1) C dL_holds_300 (by decide) ?_
            refine hx_goto (tgt := 305) C dL_holds_301 (by decide) ?_
            exact w_L_holds_305 (f_L_holds_249 L n) C hr ih v0 v1 v2 v3 v5 v6 1 X ls h (lv_sub hl [2, 3, 4, 5, 7, 8] rfl)
def f_L_holds_240 (L : hL) (v0 : Nat) (v1 : Int32) (v2 : Int32) (v3 : Int32) (v4 : Int32) (X : hX) : Option (Int32 × hX) :=
  (f_X9_fairest L X v0).bind fun r50 =>
  if tk L v0 9 then
  f_L_holds_249 L u_fuel v0 v1 v2 v3 v4 r50 0 X
  else none
set_option maxRecDepth 100000 in
set_option maxHeartbeats 4000000 in
theorem w_L_holds_240 {p : Program} {l : Launch} {e : Env} {s : State} {m : MethodId} {args : Array Value} {below : List Frame} {meth : Method} {c : Code} {dC : Nat → ClassId} {dI : Nat → Nat → Nat} {cy : Nat → ClassId} {ad : Nat → Nat} {L : hL} {r : Int32} {X' : hX} (C : hC p s m args meth c dC dI cy ad L (hA ad L s.heap.size) cL_holds 9 wsL_holds RL) (hr : meth.sig.returnType = (some .boolean)) : ∀ (v0 : Nat) (v1 : Int32) (v2 : Int32) (v3 : Int32) (v4 : Int32) (X : hX) (ls : Array Slot), f_L_holds_240 L v0 v1 v2 v3 v4 X = some (r, X') → lv_has ls 9 [(0, .ref (ad v0)), (1, .int v1), (2, .int v2), (3, .int v3), (4, .int v4)] → hG p l e (headSpec wsL_holds ({ frames := 7, cells := 0, slots := 0, locals := 165 } : Room)).room s m args below meth c dC dI cy ad L (hA ad L s.heap.size) 0 0 (MQ below (hQ dC dI cy ad L s.heap.size (some (.int r)) X') args s 0 0 (hA ad L s.heap.size)) X 240 ls [] := by
  intro v0 v1 v2 v3 v4 X ls h hl
  unfold f_L_holds_240 at h
  refine hx_aload_n C dL_holds_240 rfl (lv_at hl 0 rfl) ?_
  obtain ⟨r50, e51, h⟩ := hx_bind h
  obtain ⟨g52, h⟩ := hx_gd h
  refine hx_callV (As := []) (rest := []) (n := 0) (Cn := RX9) C (c_X9_fairest e51) gL_holds_X9_fairest g52 (by decide) rfl (by decide +kernel) ⟨Nat.le_of_ble_eq_true rfl, Nat.le_of_ble_eq_true rfl⟩ rfl rfl rfl ⟨Nat.zero_le _, Nat.zero_le _⟩ hl.1 rfl rfl (Nat.le_of_ble_eq_true rfl) dL_holds_241 ?_
  refine hx_istore (lv' := [(5, .int r50), (0, .ref (ad v0)), (1, .int v1), (2, .int v2), (3, .int v3), (4, .int v4)]) C dL_holds_244 hl (by decide) rfl (fun ls hl => ?_)
  refine hx_iconst (v := 0) C dL_holds_246 (by decide) ?_
  refine hx_istore (lv' := [(6, .int 0), (5, .int r50), (0, .ref (ad v0)), (1, .int v1), (2, .int v2), (3, .int v3), (4, .int v4)]) C dL_holds_247 hl (by decide) rfl (fun ls hl => ?_)
  exact w_L_holds_249 C hr u_fuel v0 v1 v2 v3 v4 r50 0 X ls h (lv_sub hl [2, 3, 4, 5, 6, 1, 0] rfl)
def f_L_holds_141 (L : hL) : Nat → Nat → Int32 → Int32 → Int32 → Int32 → Int32 → hX → Option (Int32 × hX)
  | 0, _, _, _, _, _, _, _ => none
  | n + 1, v0, v1, v2, v3, v4, v5, X =>
    (f_X9_count L X v0 6).bind fun r53 =>
    if tk L v0 9 then
    if r53 ≤ v5 then
      f_L_holds_240 L v0 v1 v2 v3 v4 X
    else
      if v4 = 0 then
        f_L_holds_240 L v0 v1 v2 v3 v4 X
      else
        (f_X9_prize L X v0 v5 2).bind fun r58 =>
        if r58 < 0 then
          f_L_holds_231 L (f_L_holds_141 L n) v0 v1 (v2 + r58) v3 v5 X
        else
          if 99 < r58 then
            f_L_holds_231 L (f_L_holds_141 L n) v0 v1 (v2 + r58) v3 v5 X
          else
            (f_X9_prize L X v0 v5 5).bind fun r62 =>
            (f_X9_prize L X v0 v5 3).bind fun r64 =>
            if r64 ≤ r62 then
              f_L_holds_231 L (f_L_holds_141 L n) v0 v1 (v2 + r58) v3 v5 X
            else
              (f_X9_soldOut L X v0 v5).bind fun r67 =>
              if r67.1 = 0 then
                f_L_holds_214 L (f_L_holds_141 L n) v0 v1 (v2 + r58) v3 v5 r58 1 r67.2
              else
                f_L_holds_214 L (f_L_holds_141 L n) v0 v1 (v2 + r58) v3 v5 r58 0 r67.2
    else none
set_option maxRecDepth 100000 in
set_option maxHeartbeats 4000000 in
theorem w_L_holds_141 {p : Program} {l : Launch} {e : Env} {s : State} {m : MethodId} {args : Array Value} {below : List Frame} {meth : Method} {c : Code} {dC : Nat → ClassId} {dI : Nat → Nat → Nat} {cy : Nat → ClassId} {ad : Nat → Nat} {L : hL} {r : Int32} {X' : hX} (C : hC p s m args meth c dC dI cy ad L (hA ad L s.heap.size) cL_holds 9 wsL_holds RL) (hr : meth.sig.returnType = (some .boolean)) : ∀ (n : Nat) (v0 : Nat) (v1 : Int32) (v2 : Int32) (v3 : Int32) (v4 : Int32) (v5 : Int32) (X : hX) (ls : Array Slot), f_L_holds_141 L n v0 v1 v2 v3 v4 v5 X = some (r, X') → lv_has ls 9 [(0, .ref (ad v0)), (1, .int v1), (2, .int v2), (3, .int v3), (4, .int v4), (5, .int v5)] → hG p l e (headSpec wsL_holds ({ frames := 7, cells := 0, slots := 0, locals := 165 } : Room)).room s m args below meth c dC dI cy ad L (hA ad L s.heap.size) 0 0 (MQ below (hQ dC dI cy ad L s.heap.size (some (.int r)) X') args s 0 0 (hA ad L s.heap.size)) X 141 ls [] := by
  intro n
  induction n with
  | zero => intro v0 v1 v2 v3 v4 v5 X ls h; cases h
  | succ n ih =>
    intro v0 v1 v2 v3 v4 v5 X ls h hl
    rw [f_L_holds_141] at h
    refine hx_iload C dL_holds_141 (lv_at hl 5 rfl) ?_
    refine hx_aload_n C dL_holds_143 rfl (lv_at hl 0 rfl) ?_
    refine hx_bipush (v := 6) C dL_holds_144 (by decide) ?_
    obtain ⟨r53, e54, h⟩ := hx_bind h
    obtain ⟨g55, h⟩ := hx_gd h
    refine hx_callV (As := [.int 6]) (rest := [.int v5]) (n := 1) (Cn := RX9) C (c_X9_count e54) gL_holds_X9_count g55 (by decide) rfl (by decide +kernel) ⟨Nat.le_of_ble_eq_true rfl, Nat.le_of_ble_eq_true rfl⟩ rfl rfl rfl ⟨Nat.zero_le _, Nat.zero_le _⟩ hl.1 rfl rfl (Nat.le_of_ble_eq_true rfl) dL_holds_146 ?_
    refine hx_icmp_ge (tgt := 240) C dL_holds_149 (by decide) (fun c56 => ?_) (fun c56 => ?_)
    · have h := hx_pos c56 h
      exact w_L_holds_240 C hr v0 v1 v2 v3 v4 X ls h (lv_sub hl [0, 1, 2, 3, 4] rfl)
    · have h := hx_neg c56 h
      refine hx_iload C dL_holds_152 (lv_at hl 4 rfl) ?_
      refine hx_if_eq (tgt := 240) C dL_holds_154 (by decide) (fun c57 => ?_) (fun c57 => ?_)
      · have h := hx_pos c57 h
        exact w_L_holds_240 C hr v0 v1 v2 v3 v4 X ls h (lv_sub hl [0, 1, 2, 3, 4] rfl)
      · have h := hx_neg c57 h
        refine hx_aload_n C dL_holds_157 rfl (lv_at hl 0 rfl) ?_
        refine hx_iload C dL_holds_158 (lv_at hl 5 rfl) ?_
        refine hx_iconst (v := 2) C dL_holds_160 (by decide) ?_
        obtain ⟨r58, e59, h⟩ := hx_bind h
        refine hx_callV (As := [.int v5, .int 2]) (rest := []) (n := 2) (Cn := RX9) C (c_X9_prize e59) gL_holds_X9_prize g55 (by decide) rfl (by decide +kernel) ⟨Nat.le_of_ble_eq_true rfl, Nat.le_of_ble_eq_true rfl⟩ rfl rfl rfl ⟨Nat.zero_le _, Nat.zero_le _⟩ hl.1 rfl rfl (Nat.le_of_ble_eq_true rfl) dL_holds_161 ?_
        refine hx_istore (lv' := [(6, .int r58), (0, .ref (ad v0)), (1, .int v1), (2, .int v2), (3, .int v3), (4, .int v4), (5, .int v5)]) C dL_holds_164 hl (by decide) rfl (fun ls hl => ?_)
        refine hx_iload_n C dL_holds_166 rfl (lv_at hl 3 rfl) ?_
        refine hx_iload C dL_holds_167 (lv_at hl 0 rfl) ?_
        refine hx_iadd C dL_holds_169 ?_
        refine hx_istore_n (lv' := [(2, .int (v2 + r58)), (6, .int r58), (0, .ref (ad v0)), (1, .int v1), (3, .int v3), (4, .int v4), (5, .int v5)]) C dL_holds_170 rfl hl (by decide) rfl (fun ls hl => ?_)
        refine hx_iload C dL_holds_171 (lv_at hl 1 rfl) ?_
        refine hx_if_lt (tgt := 231) C dL_holds_173 (by decide) (fun c60 => ?_) (fun c60 => ?_)
        · have h := hx_pos c60 h
          exact w_L_holds_231 (f_L_holds_141 L n) C hr ih v0 v1 (v2 + r58) v3 v5 X ls h (lv_sub hl [2, 3, 0, 4, 6] rfl)
        · have h := hx_neg c60 h
          refine hx_iload C dL_holds_176 (lv_at hl 1 rfl) ?_
          refine hx_bipush (v := 99) C dL_holds_178 (by decide) ?_
          refine hx_icmp_gt (tgt := 231) C dL_holds_180 (by decide) (fun c61 => ?_) (fun c61 => ?_)
          · have h := hx_pos c61 h
            exact w_L_holds_231 (f_L_holds_141 L n) C hr ih v0 v1 (v2 + r58) v3 v5 X ls h (lv_sub hl [2, 3, 0, 4, 6] rfl)
          · have h := hx_neg c61 h
            refine hx_aload_n C dL_holds_183 rfl (lv_at hl 2 rfl) ?_
            refine hx_iload C dL_holds_184 (lv_at hl 6 rfl) ?_
            refine hx_iconst (v := 5) C dL_holds_186 (by decide) ?_
            obtain ⟨r62, e63, h⟩ := hx_bind h
            refine hx_callV (As := [.int v5, .int 5]) (rest := []) (n := 2) (Cn := RX9) C (c_X9_prize e63) gL_holds_X9_prize g55 (by decide) rfl (by decide +kernel) ⟨Nat.le_of_ble_eq_true rfl, Nat.le_of_ble_eq_true rfl⟩ rfl rfl rfl ⟨Nat.zero_le _, Nat.zero_le _⟩ hl.1 rfl rfl (Nat.le_of_ble_eq_true rfl) dL_holds_187 ?_
            refine hx_aload_n C dL_holds_190 rfl (lv_at hl 2 rfl) ?_
            refine hx_iload C dL_holds_191 (lv_at hl 6 rfl) ?_
            refine hx_iconst (v := 3) C dL_holds_193 (by decide) ?_
            obtain ⟨r64, e65, h⟩ := hx_bind h
            refine hx_callV (As := [.int v5, .int 3]) (rest := [.int r62]) (n := 2) (Cn := RX9) C (c_X9_prize e65) gL_holds_X9_prize g55 (by decide) rfl (by decide +kernel) ⟨Nat.le_of_ble_eq_true rfl, Nat.le_of_ble_eq_true rfl⟩ rfl rfl rfl ⟨Nat.zero_le _, Nat.zero_le _⟩ hl.1 rfl rfl (Nat.le_of_ble_eq_true rfl) dL_holds_194 ?_
            refine hx_icmp_ge (tgt := 231) C dL_holds_197 (by decide) (fun c66 => ?_) (fun c66 => ?_)
            · have h := hx_pos c66 h
              exact w_L_holds_231 (f_L_holds_141 L n) C hr ih v0 v1 (v2 + r58) v3 v5 X ls h (lv_sub hl [2, 3, 0, 4, 6] rfl)
            · have h := hx_neg c66 h
              refine hx_aload_n C dL_holds_200 rfl (lv_at hl 2 rfl) ?_
              refine hx_iload C dL_holds_201 (lv_at hl 6 rfl) ?_
              obtain ⟨r67, e68, h⟩ := hx_bind h
              refine hx_callV (As := [.int v5]) (rest := []) (n := 1) (Cn := RX9) C (c_X9_soldOut e68) gL_holds_X9_soldOut g55 (by decide) rfl (by decide +kernel) ⟨Nat.le_of_ble_eq_true rfl, Nat.le_of_ble_eq_true rfl⟩ rfl rfl rfl ⟨Nat.zero_le _, Nat.zero_le _⟩ hl.1 rfl rfl (Nat.le_of_ble_eq_true rfl) dL_holds_203 ?_
              refine hx_if_ne (tgt := 213) C dL_holds_206 (by decide) (fun c69 => ?_) (fun c69 => ?_)
              · have h := hx_neg c69 h
                refine hx_iconst (v := 0) C dL_holds_213 (by decide) ?_
                exact w_L_holds_214 (f_L_holds_141 L n) C hr ih v0 v1 (v2 + r58) v3 v5 r58 0 r67.2 ls h (lv_sub hl [2, 3, 0, 4, 6, 1] rfl)
              · have h := hx_pos c69 h
                refine hx_iconst (v := 1) C dL_holds_209 (by decide) ?_
                refine hx_goto (tgt := 214) C dL_holds_210 (by decide) ?_
                exact w_L_holds_214 (f_L_holds_141 L n) C hr ih v0 v1 (v2 + r58) v3 v5 r58 1 r67.2 ls h (lv_sub hl [2, 3, 0, 4, 6, 1] rfl)
def f_L_holds_138 (L : hL) (v0 : Nat) (v1 : Int32) (v2 : Int32) (v3 : Int32) (v4 : Int32) (X : hX) : Option (Int32 × hX) :=
  f_L_holds_141 L u_fuel v0 v1 v2 v3 v4 0 X
set_option maxRecDepth 100000 in
set_option maxHeartbeats 4000000 in
theorem w_L_holds_138 {p : Program} {l : Launch} {e : Env} {s : State} {m : MethodId} {args : Array Value} {below : List Frame} {meth : Method} {c : Code} {dC : Nat → ClassId} {dI : Nat → Nat → Nat} {cy : Nat → ClassId} {ad : Nat → Nat} {L : hL} {r : Int32} {X' : hX} (C : hC p s m args meth c dC dI cy ad L (hA ad L s.heap.size) cL_holds 9 wsL_holds RL) (hr : meth.sig.returnType = (some .boolean)) : ∀ (v0 : Nat) (v1 : Int32) (v2 : Int32) (v3 : Int32) (v4 : Int32) (X : hX) (ls : Array Slot), f_L_holds_138 L v0 v1 v2 v3 v4 X = some (r, X') → lv_has ls 9 [(0, .ref (ad v0)), (1, .int v1), (2, .int v2), (3, .int v3), (4, .int v4)] → hG p l e (headSpec wsL_holds ({ frames := 7, cells := 0, slots := 0, locals := 165 } : Room)).room s m args below meth c dC dI cy ad L (hA ad L s.heap.size) 0 0 (MQ below (hQ dC dI cy ad L s.heap.size (some (.int r)) X') args s 0 0 (hA ad L s.heap.size)) X 138 ls [] := by
  intro v0 v1 v2 v3 v4 X ls h hl
  unfold f_L_holds_138 at h
  refine hx_iconst (v := 0) C dL_holds_138 (by decide) ?_
  refine hx_istore (lv' := [(5, .int 0), (0, .ref (ad v0)), (1, .int v1), (2, .int v2), (3, .int v3), (4, .int v4)]) C dL_holds_139 hl (by decide) rfl (fun ls hl => ?_)
  exact w_L_holds_141 C hr u_fuel v0 v1 v2 v3 v4 0 X ls h (lv_sub hl [1, 2, 3, 4, 5, 0] rfl)
def f_L_holds_12 (L : hL) : Nat → Nat → Int32 → Int32 → Int32 → Int32 → Int32 → hX → Option (Int32 × hX)
  | 0, _, _, _, _, _, _, _ => none
  | n + 1, v0, v1, v2, v3, v4, v5, X =>
    (f_X9_count L X v0 5).bind fun r70 =>
    if tk L v0 9 then
    if r70 ≤ v5 then
      f_L_holds_138 L v0 v1 v2 v3 v4 X
    else
      if v4 = 0 then
        f_L_holds_138 L v0 v1 v2 v3 v4 X
      else
        (f_X9_customer L X v0 v5 0).bind fun r75 =>
        (f_X9_customer L X v0 v5 1).bind fun r77 =>
        if 0 ≤ r77 then
          f_L_holds_53 L (f_L_holds_12 L n) v0 (v1 + r75) v2 v5 1 v3 X
        else
          f_L_holds_53 L (f_L_holds_12 L n) v0 (v1 + r75) v2 v5 0 v3 X
    else none
set_option maxRecDepth 100000 in
set_option maxHeartbeats 4000000 in
theorem w_L_holds_12 {p : Program} {l : Launch} {e : Env} {s : State} {m : MethodId} {args : Array Value} {below : List Frame} {meth : Method} {c : Code} {dC : Nat → ClassId} {dI : Nat → Nat → Nat} {cy : Nat → ClassId} {ad : Nat → Nat} {L : hL} {r : Int32} {X' : hX} (C : hC p s m args meth c dC dI cy ad L (hA ad L s.heap.size) cL_holds 9 wsL_holds RL) (hr : meth.sig.returnType = (some .boolean)) : ∀ (n : Nat) (v0 : Nat) (v1 : Int32) (v2 : Int32) (v3 : Int32) (v4 : Int32) (v5 : Int32) (X : hX) (ls : Array Slot), f_L_holds_12 L n v0 v1 v2 v3 v4 v5 X = some (r, X') → lv_has ls 9 [(0, .ref (ad v0)), (1, .int v1), (2, .int v2), (3, .int v3), (4, .int v4), (5, .int v5)] → hG p l e (headSpec wsL_holds ({ frames := 7, cells := 0, slots := 0, locals := 165 } : Room)).room s m args below meth c dC dI cy ad L (hA ad L s.heap.size) 0 0 (MQ below (hQ dC dI cy ad L s.heap.size (some (.int r)) X') args s 0 0 (hA ad L s.heap.size)) X 12 ls [] := by
  intro n
  induction n with
  | zero => intro v0 v1 v2 v3 v4 v5 X ls h; cases h
  | succ n ih =>
    intro v0 v1 v2 v3 v4 v5 X ls h hl
    rw [f_L_holds_12] at h
    refine hx_iload C dL_holds_12 (lv_at hl 5 rfl) ?_
    refine hx_aload_n C dL_holds_14 rfl (lv_at hl 0 rfl) ?_
    refine hx_iconst (v := 5) C dL_holds_15 (by decide) ?_
    obtain ⟨r70, e71, h⟩ := hx_bind h
    obtain ⟨g72, h⟩ := hx_gd h
    refine hx_callV (As := [.int 5]) (rest := [.int v5]) (n := 1) (Cn := RX9) C (c_X9_count e71) gL_holds_X9_count g72 (by decide) rfl (by decide +kernel) ⟨Nat.le_of_ble_eq_true rfl, Nat.le_of_ble_eq_true rfl⟩ rfl rfl rfl ⟨Nat.zero_le _, Nat.zero_le _⟩ hl.1 rfl rfl (Nat.le_of_ble_eq_true rfl) dL_holds_16 ?_
    refine hx_icmp_ge (tgt := 138) C dL_holds_19 (by decide) (fun c73 => ?_) (fun c73 => ?_)
    · have h := hx_pos c73 h
      exact w_L_holds_138 C hr v0 v1 v2 v3 v4 X ls h (lv_sub hl [0, 1, 2, 3, 4] rfl)
    · have h := hx_neg c73 h
      refine hx_iload C dL_holds_22 (lv_at hl 4 rfl) ?_
      refine hx_if_eq (tgt := 138) C dL_holds_24 (by decide) (fun c74 => ?_) (fun c74 => ?_)
      · have h := hx_pos c74 h
        exact w_L_holds_138 C hr v0 v1 v2 v3 v4 X ls h (lv_sub hl [0, 1, 2, 3, 4] rfl)
      · have h := hx_neg c74 h
        refine hx_iload_n C dL_holds_27 rfl (lv_at hl 1 rfl) ?_
        refine hx_aload_n C dL_holds_28 rfl (lv_at hl 0 rfl) ?_
        refine hx_iload C dL_holds_29 (lv_at hl 5 rfl) ?_
        refine hx_iconst (v := 0) C dL_holds_31 (by decide) ?_
        obtain ⟨r75, e76, h⟩ := hx_bind h
        refine hx_callV (As := [.int v5, .int 0]) (rest := [.int v1]) (n := 2) (Cn := RX9) C (c_X9_customer e76) gL_holds_X9_customer g72 (by decide) rfl (by decide +kernel) ⟨Nat.le_of_ble_eq_true rfl, Nat.le_of_ble_eq_true rfl⟩ rfl rfl rfl ⟨Nat.zero_le _, Nat.zero_le _⟩ hl.1 rfl rfl (Nat.le_of_ble_eq_true rfl) dL_holds_32 ?_
        refine hx_iadd C dL_holds_35 ?_
        refine hx_istore_n (lv' := [(1, .int (v1 + r75)), (0, .ref (ad v0)), (2, .int v2), (3, .int v3), (4, .int v4), (5, .int v5)]) C dL_holds_36 rfl hl (by decide) rfl (fun ls hl => ?_)
        refine hx_iload_n C dL_holds_37 rfl (lv_at hl 3 rfl) ?_
        refine hx_aload_n C dL_holds_38 rfl (lv_at hl 1 rfl) ?_
        refine hx_iload C dL_holds_39 (lv_at hl 5 rfl) ?_
        refine hx_iconst (v := 1) C dL_holds_41 (by decide) ?_
        obtain ⟨r77, e78, h⟩ := hx_bind h
        refine hx_callV (As := [.int v5, .int 1]) (rest := [.int v3]) (n := 2) (Cn := RX9) C (c_X9_customer e78) gL_holds_X9_customer g72 (by decide) rfl (by decide +kernel) ⟨Nat.le_of_ble_eq_true rfl, Nat.le_of_ble_eq_true rfl⟩ rfl rfl rfl ⟨Nat.zero_le _, Nat.zero_le _⟩ hl.1 rfl rfl (Nat.le_of_ble_eq_true rfl) dL_holds_42 ?_
        refine hx_if_ge (tgt := 52) C dL_holds_45 (by decide) (fun c79 => ?_) (fun c79 => ?_)
        · have h := hx_pos c79 h
          refine hx_iconst (v := 1) C dL_holds_52 (by decide) ?_
          exact w_L_holds_53 (f_L_holds_12 L n) C hr ih v0 (v1 + r75) v2 v5 1 v3 X ls h (lv_sub hl [1, 0, 2, 5] rfl)
        · have h := hx_neg c79 h
          refine hx_iconst (v := 0) C dL_holds_48 (by decide) ?_
          refine hx_goto (tgt := 53) C dL_holds_49 (by decide) ?_
          exact w_L_holds_53 (f_L_holds_12 L n) C hr ih v0 (v1 + r75) v2 v5 0 v3 X ls h (lv_sub hl [1, 0, 2, 5] rfl)
def f_L_holds (L : hL) (X : hX) (a1 : Nat) : Option (Int32 × hX) :=
  f_L_holds_12 L u_fuel a1 0 0 0 1 0 X
set_option maxRecDepth 100000 in
set_option maxHeartbeats 4000000 in
theorem c_L_holds {l : Launch} {dC : Nat → ClassId} {dI : Nat → Nat → Nat} {cy : Nat → ClassId} {ad : Nat → Nat} {L : hL} {X : hX} {a1 : Nat} {r : Int32} {X' : hX} (h : f_L_holds L X a1 = some (r, X')) : hMet l dC dI cy ad L yL_holds wsL_holds ({ frames := 7, cells := 0, slots := 0, locals := 165 } : Room) [.ref (ad a1)] X (some (.int r)) X' := by
  unfold f_L_holds at h
  refine hx_enter RL (plainFor_of_name (by decide)) rfl rfl (Nat.le_of_ble_eq_true rfl) (fun p e s m args below meth c C hr hnm ls hl => ?_)
  have hl : lv_has ls 9 [(0, .ref (ad a1))] := hl
  refine hx_iconst (v := 0) C dL_holds_0 (by decide) ?_
  refine hx_istore_n (lv' := [(1, .int 0), (0, .ref (ad a1))]) C dL_holds_1 rfl hl (by decide) rfl (fun ls hl => ?_)
  refine hx_iconst (v := 0) C dL_holds_2 (by decide) ?_
  refine hx_istore_n (lv' := [(2, .int 0), (1, .int 0), (0, .ref (ad a1))]) C dL_holds_3 rfl hl (by decide) rfl (fun ls hl => ?_)
  refine hx_iconst (v := 0) C dL_holds_4 (by decide) ?_
  refine hx_istore_n (lv' := [(3, .int 0), (2, .int 0), (1, .int 0), (0, .ref (ad a1))]) C dL_holds_5 rfl hl (by decide) rfl (fun ls hl => ?_)
  refine hx_iconst (v := 1) C dL_holds_6 (by decide) ?_
  refine hx_istore (lv' := [(4, .int 1), (3, .int 0), (2, .int 0), (1, .int 0), (0, .ref (ad a1))]) C dL_holds_7 hl (by decide) rfl (fun ls hl => ?_)
  refine hx_iconst (v := 0) C dL_holds_9 (by decide) ?_
  refine hx_istore (lv' := [(5, .int 0), (4, .int 1), (3, .int 0), (2, .int 0), (1, .int 0), (0, .ref (ad a1))]) C dL_holds_10 hl (by decide) rfl (fun ls hl => ?_)
  exact w_L_holds_12 C hr u_fuel a1 0 0 0 1 0 X ls h (lv_sub hl [5, 4, 3, 2, 1, 0] rfl)
