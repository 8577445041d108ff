theorem uX10_shop_10 : ∀ w ∈ u_ws RX10 TX10 15, w ∈ wsX10_shop := by decide +kernel
def f_X10_shop_103 (L : hL) (k36 : Nat → Int32 → Int32 → Int32 → Int32 → Int32 → hX → Option (Int32)) (v0 : Nat) (v2 : Int32) (v3 : Int32) (v4 : Int32) (v5 : Int32) (v6 : Int32) (v7 : Int32) (s0 : Int32) (X : hX) : Option (Int32) :=
  (f_X10_priced L X v0 v7 0).bind fun r1 =>
  if tk L v0 10 then
  (f_X10_priced L X v0 v7 1).bind fun r4 =>
  k36 v0 v2 (v3 - (s0 * r1)) (v4 + s0) (v5 + (s0 * r4)) (v6 + 1) X
  else none
set_option maxRecDepth 100000 in
set_option maxHeartbeats 4000000 in
theorem w_X10_shop_103 {p : Program} {l : Launch} {e : Env} {s : State} {m : MethodId} {args : Array Value} {below : List Frame} {meth : Method} {c : Code} {dC : Nat → ClassId} {dI : Nat → Nat → Nat} {cy : Nat → ClassId} {ad : Nat → Nat} {L : hL} {r : Int32} (k36 : Nat → Int32 → Int32 → Int32 → Int32 → Int32 → hX → Option (Int32)) (C : hC p s m args meth c dC dI cy ad L (hA ad L s.heap.size) cX10_shop 9 wsX10_shop RX10) (hr : meth.sig.returnType = (some .int)) (hk36 : ∀ (v0 : Nat) (v2 : Int32) (v3 : Int32) (v4 : Int32) (v5 : Int32) (v6 : Int32) (X : hX) (ls : Array Slot), k36 v0 v2 v3 v4 v5 v6 X = some r → lv_has ls 9 [(0, .ref (ad v0)), (2, .int v2), (3, .int v3), (4, .int v4), (5, .int v5), (6, .int v6)] → hG p l e (headSpec wsX10_shop ({ frames := 2, cells := 0, slots := 0, locals := 45 } : Room)).room s m args below meth c dC dI cy ad L (hA ad L s.heap.size) 0 0 (MQ below (hQ dC dI cy ad L s.heap.size (some (.int r)) X) args s 0 0 (hA ad L s.heap.size)) X 36 ls []) : ∀ (v0 : Nat) (v2 : Int32) (v3 : Int32) (v4 : Int32) (v5 : Int32) (v6 : Int32) (v7 : Int32) (s0 : Int32) (X : hX) (ls : Array Slot), f_X10_shop_103 L k36 v0 v2 v3 v4 v5 v6 v7 s0 X = some r → lv_has ls 9 [(0, .ref (ad v0)), (2, .int v2), (3, .int v3), (4, .int v4), (5, .int v5), (6, .int v6), (7, .int v7)] → hG p l e (headSpec wsX10_shop ({ frames := 2, cells := 0, slots := 0, locals := 45 } : Room)).room s m args below meth c dC dI cy ad L (hA ad L s.heap.size) 0 0 (MQ below (hQ dC dI cy ad L s.heap.size (some (.int r)) X) args s 0 0 (hA ad L s.heap.size)) X 103 ls [.int s0] := by
  intro v0 v2 v3 v4 v5 v6 v7 s0 X ls h hl
  unfold f_X10_shop_103 at h
  refine hx_istore (lv' := [(8, .int s0), (0, .ref (ad v0)), (2, .int v2), (3, .int v3), (4, .int v4), (5, .int v5), (6, .int v6), (7, .int v7)]) C dX10_shop_103 hl (by decide) rfl (fun ls hl => ?_)
  refine hx_iload_n C dX10_shop_105 rfl (lv_at hl 3 rfl) ?_
  refine hx_iload C dX10_shop_106 (lv_at hl 0 rfl) ?_
  refine hx_aload_n C dX10_shop_108 rfl (lv_at hl 1 rfl) ?_
  refine hx_iload C dX10_shop_109 (lv_at hl 7 rfl) ?_
  refine hx_iconst (v := 0) C dX10_shop_111 (by decide) ?_
  obtain ⟨r1, e2, h⟩ := hx_bind h
  obtain ⟨g3, h⟩ := hx_gd h
  refine hx_callV (As := [.int v7, .int 0]) (rest := [.int s0, .int v3]) (n := 2) (Cn := RX10) C (c_X10_priced e2) gX10_shop_X10_priced g3 (by decide) rfl (by decide +kernel) ⟨Nat.le_of_ble_eq_true rfl, Nat.le_of_ble_eq_true rfl⟩ rfl rfl rfl ⟨Nat.zero_le _, Nat.zero_le _⟩ hl.1 rfl rfl (Nat.le_of_ble_eq_true rfl) dX10_shop_112 ?_
  refine hx_imul C dX10_shop_115 ?_
  refine hx_isub C dX10_shop_116 ?_
  refine hx_istore_n (lv' := [(3, .int (v3 - (s0 * r1))), (8, .int s0), (0, .ref (ad v0)), (2, .int v2), (4, .int v4), (5, .int v5), (6, .int v6), (7, .int v7)]) C dX10_shop_117 rfl hl (by decide) rfl (fun ls hl => ?_)
  refine hx_iload C dX10_shop_118 (lv_at hl 4 rfl) ?_
  refine hx_iload C dX10_shop_120 (lv_at hl 1 rfl) ?_
  refine hx_iadd C dX10_shop_122 ?_
  refine hx_istore (lv' := [(4, .int (v4 + s0)), (3, .int (v3 - (s0 * r1))), (8, .int s0), (0, .ref (ad v0)), (2, .int v2), (5, .int v5), (6, .int v6), (7, .int v7)]) C dX10_shop_123 hl (by decide) rfl (fun ls hl => ?_)
  refine hx_iload C dX10_shop_125 (lv_at hl 5 rfl) ?_
  refine hx_iload C dX10_shop_127 (lv_at hl 2 rfl) ?_
  refine hx_aload_n C dX10_shop_129 rfl (lv_at hl 3 rfl) ?_
  refine hx_iload C dX10_shop_130 (lv_at hl 7 rfl) ?_
  refine hx_iconst (v := 1) C dX10_shop_132 (by decide) ?_
  obtain ⟨r4, e5, h⟩ := hx_bind h
  refine hx_callV (As := [.int v7, .int 1]) (rest := [.int s0, .int v5]) (n := 2) (Cn := RX10) C (c_X10_priced e5) gX10_shop_X10_priced g3 (by decide) rfl (by decide +kernel) ⟨Nat.le_of_ble_eq_true rfl, Nat.le_of_ble_eq_true rfl⟩ rfl rfl rfl ⟨Nat.zero_le _, Nat.zero_le _⟩ hl.1 rfl rfl (Nat.le_of_ble_eq_true rfl) dX10_shop_133 ?_
  refine hx_imul C dX10_shop_136 ?_
  refine hx_iadd C dX10_shop_137 ?_
  refine hx_istore (lv' := [(5, .int (v5 + (s0 * r4))), (4, .int (v4 + s0)), (3, .int (v3 - (s0 * r1))), (8, .int s0), (0, .ref (ad v0)), (2, .int v2), (6, .int v6), (7, .int v7)]) C dX10_shop_138 hl (by decide) rfl (fun ls hl => ?_)
  refine hx_iinc (v := v6 + 1) (lv' := [(6, .int (v6 + 1)), (5, .int (v5 + (s0 * r4))), (4, .int (v4 + s0)), (3, .int (v3 - (s0 * r1))), (8, .int s0), (0, .ref (ad v0)), (2, .int v2), (7, .int v7)]) C dX10_shop_140 hl (k := 6) rfl rfl (by decide) rfl (fun ls hl => ?_)
  refine hx_goto (tgt := 36) C dX10_shop_143 (by decide) ?_
  exact hk36 v0 v2 (v3 - (s0 * r1)) (v4 + s0) (v5 + (s0 * r4)) (v6 + 1) X ls h (lv_sub hl [5, 6, 3, 2, 1, 0] rfl)
def f_X10_shop_51 (L : hL) (k36 : Nat → Int32 → Int32 → Int32 → Int32 → Int32 → hX → Option (Int32)) : Nat → Nat → Int32 → Int32 → Int32 → Int32 → Int32 → Int32 → hX → Option (Int32)
  | 0, _, _, _, _, _, _, _, _ => none
  | n + 1, v0, v2, v3, v4, v5, v6, v7, X =>
    (f_X10_ahead L X v0 v7).bind fun r6 =>
    if tk L v0 10 then
    if r6 = v6 then
      (f_X10_priced L X v0 v7 0).bind fun r10 =>
      if ¬ r10 = 0 then
      (f_X10_priced L X v0 v7 2).bind fun r13 =>
      if (v3 / r10) ≤ r13 then
        f_X10_shop_103 L k36 v0 v2 v3 v4 v5 v6 v7 (v3 / r10) X
      else
        (f_X10_priced L X v0 v7 2).bind fun r16 =>
        f_X10_shop_103 L k36 v0 v2 v3 v4 v5 v6 v7 r16 X
      else none
    else
      f_X10_shop_51 L k36 n v0 v2 v3 v4 v5 v6 (v7 + 1) X
    else none
set_option maxRecDepth 100000 in
set_option maxHeartbeats 4000000 in
theorem w_X10_shop_51 {p : Program} {l : Launch} {e : Env} {s : State} {m : MethodId} {args : Array Value} {below : List Frame} {meth : Method} {c : Code} {dC : Nat → ClassId} {dI : Nat → Nat → Nat} {cy : Nat → ClassId} {ad : Nat → Nat} {L : hL} {r : Int32} (k36 : Nat → Int32 → Int32 → Int32 → Int32 → Int32 → hX → Option (Int32)) (C : hC p s m args meth c dC dI cy ad L (hA ad L s.heap.size) cX10_shop 9 wsX10_shop RX10) (hr : meth.sig.returnType = (some .int)) (hk36 : ∀ (v0 : Nat) (v2 : Int32) (v3 : Int32) (v4 : Int32) (v5 : Int32) (v6 : Int32) (X : hX) (ls : Array Slot), k36 v0 v2 v3 v4 v5 v6 X = some r → lv_has ls 9 [(0, .ref (ad v0)), (2, .int v2), (3, .int v3), (4, .int v4), (5, .int v5), (6, .int v6)] → hG p l e (headSpec wsX10_shop ({ frames := 2, cells := 0, slots := 0, locals := 45 } : Room)).room s m args below meth c dC dI cy ad L (hA ad L s.heap.size) 0 0 (MQ below (hQ dC dI cy ad L s.heap.size (some (.int r)) X) args s 0 0 (hA ad L s.heap.size)) X 36 ls []) : ∀ (n : Nat) (v0 : Nat) (v2 : Int32) (v3 : Int32) (v4 : Int32) (v5 : Int32) (v6 : Int32) (v7 : Int32) (X : hX) (ls : Array Slot), f_X10_shop_51 L k36 n v0 v2 v3 v4 v5 v6 v7 X = some r → lv_has ls 9 [(0, .ref (ad v0)), (2, .int v2), (3, .int v3), (4, .int v4), (5, .int v5), (6, .int v6), (7, .int v7)] → hG p l e (headSpec wsX10_shop ({ frames := 2, cells := 0, slots := 0, locals := 45 } : Room)).room s m args below meth c dC dI cy ad L (hA ad L s.heap.size) 0 0 (MQ below (hQ dC dI cy ad L s.heap.size (some (.int r)) X) args s 0 0 (hA ad L s.heap.size)) X 51 ls [] := by
  intro n
  induction n with
  | zero => intro v0 v2 v3 v4 v5 v6 v7 X ls h; cases h
  | succ n ih =>
    intro v0 v2 v3 v4 v5 v6 v7 X ls h hl
    rw [f_X10_shop_51] at h
    refine hx_aload_n C dX10_shop_51 rfl (lv_at hl 0 rfl) ?_
    refine hx_iload C dX10_shop_52 (lv_at hl 6 rfl) ?_
    obtain ⟨r6, e7, h⟩ := hx_bind h
    obtain ⟨g8, h⟩ := hx_gd h
    refine hx_callV (As := [.int v7]) (rest := []) (n := 1) (Cn := RX10) C (c_X10_ahead e7) gX10_shop_X10_ahead g8 (by decide) rfl (by decide +kernel) ⟨Nat.le_of_ble_eq_true rfl, Nat.le_of_ble_eq_true rfl⟩ rfl rfl rfl ⟨Nat.zero_le _, Nat.zero_le _⟩ hl.1 rfl rfl (Nat.le_of_ble_eq_true rfl) dX10_shop_54 ?_
    refine hx_iload C dX10_shop_57 (lv_at hl 5 rfl) ?_
    refine hx_icmp_eq (tgt := 68) C dX10_shop_59 (by decide) (fun c9 => ?_) (fun c9 => ?_)
    · have h := hx_pos c9 h
      refine hx_iload_n C dX10_shop_68 rfl (lv_at hl 2 rfl) ?_
      refine hx_aload_n C dX10_shop_69 rfl (lv_at hl 0 rfl) ?_
      refine hx_iload C dX10_shop_70 (lv_at hl 6 rfl) ?_
      refine hx_iconst (v := 0) C dX10_shop_72 (by decide) ?_
      obtain ⟨r10, e11, h⟩ := hx_bind h
      refine hx_callV (As := [.int v7, .int 0]) (rest := [.int v3]) (n := 2) (Cn := RX10) C (c_X10_priced e11) gX10_shop_X10_priced g8 (by decide) rfl (by decide +kernel) ⟨Nat.le_of_ble_eq_true rfl, Nat.le_of_ble_eq_true rfl⟩ rfl rfl rfl ⟨Nat.zero_le _, Nat.zero_le _⟩ hl.1 rfl rfl (Nat.le_of_ble_eq_true rfl) dX10_shop_73 ?_
      obtain ⟨g12, h⟩ := hx_gd h
      refine hx_idiv C dX10_shop_76 g12 ?_
      refine hx_istore (lv' := [(8, .int (v3 / r10)), (0, .ref (ad v0)), (2, .int v2), (3, .int v3), (4, .int v4), (5, .int v5), (6, .int v6), (7, .int v7)]) C dX10_shop_77 hl (by decide) rfl (fun ls hl => ?_)
      refine hx_iload C dX10_shop_79 (lv_at hl 0 rfl) ?_
      refine hx_aload_n C dX10_shop_81 rfl (lv_at hl 1 rfl) ?_
      refine hx_iload C dX10_shop_82 (lv_at hl 7 rfl) ?_
      refine hx_iconst (v := 2) C dX10_shop_84 (by decide) ?_
      obtain ⟨r13, e14, h⟩ := hx_bind h
      refine hx_callV (As := [.int v7, .int 2]) (rest := [.int (v3 / r10)]) (n := 2) (Cn := RX10) C (c_X10_priced e14) gX10_shop_X10_priced g8 (by decide) rfl (by decide +kernel) ⟨Nat.le_of_ble_eq_true rfl, Nat.le_of_ble_eq_true rfl⟩ rfl rfl rfl ⟨Nat.zero_le _, Nat.zero_le _⟩ hl.1 rfl rfl (Nat.le_of_ble_eq_true rfl) dX10_shop_85 ?_
      refine hx_icmp_le (tgt := 101) C dX10_shop_88 (by decide) (fun c15 => ?_) (fun c15 => ?_)
      · have h := hx_pos c15 h
        refine hx_iload C dX10_shop_101 (lv_at hl 0 rfl) ?_
        exact w_X10_shop_103 k36 C hr hk36 v0 v2 v3 v4 v5 v6 v7 (v3 / r10) X ls h (lv_sub hl [1, 2, 3, 4, 5, 6, 7] rfl)
      · have h := hx_neg c15 h
        refine hx_aload_n C dX10_shop_91 rfl (lv_at hl 1 rfl) ?_
        refine hx_iload C dX10_shop_92 (lv_at hl 7 rfl) ?_
        refine hx_iconst (v := 2) C dX10_shop_94 (by decide) ?_
        obtain ⟨r16, e17, h⟩ := hx_bind h
        refine hx_callV (As := [.int v7, .int 2]) (rest := []) (n := 2) (Cn := RX10) C (c_X10_priced e17) gX10_shop_X10_priced g8 (by decide) rfl (by decide +kernel) ⟨Nat.le_of_ble_eq_true rfl, Nat.le_of_ble_eq_true rfl⟩ rfl rfl rfl ⟨Nat.zero_le _, Nat.zero_le _⟩ hl.1 rfl rfl (Nat.le_of_ble_eq_true rfl) dX10_shop_95 ?_
        refine hx_goto (tgt := 103) C dX10_shop_98 (by decide) ?_
        exact w_X10_shop_103 k36 C hr hk36 v0 v2 v3 v4 v5 v6 v7 r16 X ls h (lv_sub hl [1, 2, 3, 4, 5, 6, 7] rfl)
    · have h := hx_neg c9 h
      refine hx_iinc (v := v7 + 1) (lv' := [(7, .int (v7 + 1)), (0, .ref (ad v0)), (2, .int v2), (3, .int v3), (4, .int v4), (5, .int v5), (6, .int v6)]) C dX10_shop_62 hl (k := 6) rfl rfl (by decide) rfl (fun ls hl => ?_)
      refine hx_goto (tgt := 51) C dX10_shop_65 (by decide) ?_
      exact ih v0 v2 v3 v4 v5 v6 (v7 + 1) X ls h (lv_sub hl [1, 2, 3, 4, 5, 6, 0] rfl)
def f_X10_shop_36 (L : hL) : Nat → Nat → Int32 → Int32 → Int32 → Int32 → Int32 → hX → Option (Int32)
  | 0, _, _, _, _, _, _, _ => none
  | n + 1, v0, v2, v3, v4, v5, v6, X =>
    if tk L v0 10 then
    (X.2 v0 0).bind fun q19 =>
    if tk L q19 12 then
    if 15 < L.2.2 q19 then
    if (X.1 q19 15) ≤ v6 then
      if v2 = 0 then
        some v4
      else
        if v2 = 1 then
          some v3
        else
          some v5
    else
      f_X10_shop_51 L (f_X10_shop_36 L n) u_fuel v0 v2 v3 v4 v5 v6 0 X
    else none
    else none
    else none
set_option maxRecDepth 100000 in
set_option maxHeartbeats 4000000 in
theorem w_X10_shop_36 {p : Program} {l : Launch} {e : Env} {s : State} {m : MethodId} {args : Array Value} {below : List Frame} {meth : Method} {c : Code} {dC : Nat → ClassId} {dI : Nat → Nat → Nat} {cy : Nat → ClassId} {ad : Nat → Nat} {L : hL} {r : Int32} (C : hC p s m args meth c dC dI cy ad L (hA ad L s.heap.size) cX10_shop 9 wsX10_shop RX10) (hr : meth.sig.returnType = (some .int)) : ∀ (n : Nat) (v0 : Nat) (v2 : Int32) (v3 : Int32) (v4 : Int32) (v5 : Int32) (v6 : Int32) (X : hX) (ls : Array Slot), f_X10_shop_36 L n v0 v2 v3 v4 v5 v6 X = some r → lv_has ls 9 [(0, .ref (ad v0)), (2, .int v2), (3, .int v3), (4, .int v4), (5, .int v5), (6, .int v6)] → hG p l e (headSpec wsX10_shop ({ frames := 2, cells := 0, slots := 0, locals := 45 } : Room)).room s m args below meth c dC dI cy ad L (hA ad L s.heap.size) 0 0 (MQ below (hQ dC dI cy ad L s.heap.size (some (.int r)) X) args s 0 0 (hA ad L s.heap.size)) X 36 ls [] := by
  intro n
  induction n with
  | zero => intro v0 v2 v3 v4 v5 v6 X ls h; cases h
  | succ n ih =>
    intro v0 v2 v3 v4 v5 v6 X ls h hl
    rw [f_X10_shop_36] at h
    refine hx_iload C dX10_shop_36 (lv_at hl 5 rfl) ?_
    refine hx_aload_n C dX10_shop_38 rfl (lv_at hl 0 rfl) ?_
    obtain ⟨g18, h⟩ := hx_gd h
    obtain ⟨q19, e20, h⟩ := hx_bind h
    refine hx_getr C (ci := 10) (j := 0) g18 uX10_shop_10 (by decide) rfl (by decide) rfl (by decide +kernel) rfl dX10_shop_39 e20 ?_
    refine hx_bipush (v := 15) C dX10_shop_42 (by decide) ?_
    obtain ⟨g21, h⟩ := hx_gd h
    obtain ⟨g22, h⟩ := hx_gd h
    refine hx_iald (n := 15) C g21 (hin_lit (i := 15) (by decide) rfl g22) rfl dX10_shop_44 ?_
    refine hx_icmp_ge (tgt := 146) C dX10_shop_45 (by decide) (fun c23 => ?_) (fun c23 => ?_)
    · have h := hx_pos c23 h
      refine hx_iload_n C dX10_shop_146 rfl (lv_at hl 1 rfl) ?_
      refine hx_if_ne (tgt := 155) C dX10_shop_147 (by decide) (fun c24 => ?_) (fun c24 => ?_)
      · have h := hx_neg c24 h
        refine hx_iload_n C dX10_shop_155 rfl (lv_at hl 1 rfl) ?_
        refine hx_iconst (v := 1) C dX10_shop_156 (by decide) ?_
        refine hx_icmp_ne (tgt := 164) C dX10_shop_157 (by decide) (fun c25 => ?_) (fun c25 => ?_)
        · have h := hx_neg c25 h
          refine hx_iload C dX10_shop_164 (lv_at hl 4 rfl) ?_
          obtain rfl := hx_some1 h
          exact hx_iret C hr dX10_shop_166
        · have h := hx_pos c25 h
          refine hx_iload_n C dX10_shop_160 rfl (lv_at hl 2 rfl) ?_
          refine hx_goto (tgt := 166) C dX10_shop_161 (by decide) ?_
          obtain rfl := hx_some1 h
          exact hx_iret C hr dX10_shop_166
      · have h := hx_pos c24 h
        refine hx_iload C dX10_shop_150 (lv_at hl 3 rfl) ?_
        refine hx_goto (tgt := 166) C dX10_shop_152 (by decide) ?_
        obtain rfl := hx_some1 h
        exact hx_iret C hr dX10_shop_166
    · have h := hx_neg c23 h
      refine hx_iconst (v := 0) C dX10_shop_48 (by decide) ?_
      refine hx_istore (lv' := [(7, .int 0), (0, .ref (ad v0)), (2, .int v2), (3, .int v3), (4, .int v4), (5, .int v5), (6, .int v6)]) C dX10_shop_49 hl (by decide) rfl (fun ls hl => ?_)
      exact w_X10_shop_51 (f_X10_shop_36 L n) C hr ih u_fuel v0 v2 v3 v4 v5 v6 0 X ls h (lv_sub hl [1, 2, 3, 4, 5, 6, 0] rfl)
def f_X10_shop (L : hL) (X : hX) (this : Nat) (a1 : Int32) (a2 : Int32) : Option (Int32) :=
  (f_X10_isCustomer L X this a1).bind fun r26 =>
  if tk L this 10 then
  if r26 = 0 then
    some (-100001)
  else
    (f_X10_in L X a2 0 2).bind fun r30 =>
    if r30 = 0 then
      some (-100001)
    else
      (f_X10_of L X this a1 0).bind fun r33 =>
      f_X10_shop_36 L u_fuel this a2 r33 0 0 0 X
  else none
set_option maxRecDepth 100000 in
set_option maxHeartbeats 4000000 in
theorem c_X10_shop {l : Launch} {dC : Nat → ClassId} {dI : Nat → Nat → Nat} {cy : Nat → ClassId} {ad : Nat → Nat} {L : hL} {X : hX} {this : Nat} {a1 : Int32} {a2 : Int32} {r : Int32} (h : f_X10_shop L X this a1 a2 = some r) : hMet l dC dI cy ad L yX10_shop wsX10_shop ({ frames := 2, cells := 0, slots := 0, locals := 45 } : Room) [.ref (ad this), .int a1, .int a2] X (some (.int r)) X := by
  unfold f_X10_shop at h
  refine hx_enter RX10 (plainFor_of_name (by decide)) rfl rfl (Nat.le_of_ble_eq_true rfl) (fun p e s m args below meth c C hr hnm ls hl => ?_)
  have hl : lv_has ls 9 [(0, .ref (ad this)), (1, .int a1), (2, .int a2)] := hl
  refine hx_aload_n C dX10_shop_0 rfl (lv_at hl 0 rfl) ?_
  refine hx_iload_n C dX10_shop_1 rfl (lv_at hl 1 rfl) ?_
  obtain ⟨r26, e27, h⟩ := hx_bind h
  obtain ⟨g28, h⟩ := hx_gd h
  refine hx_callV (As := [.int a1]) (rest := []) (n := 1) (Cn := RX10) C (c_X10_isCustomer e27) gX10_shop_X10_isCustomer g28 (by decide) rfl (by decide +kernel) ⟨Nat.le_of_ble_eq_true rfl, Nat.le_of_ble_eq_true rfl⟩ rfl rfl rfl ⟨Nat.zero_le _, Nat.zero_le _⟩ hl.1 rfl rfl (Nat.le_of_ble_eq_true rfl) dX10_shop_2 ?_
  refine hx_if_eq (tgt := 17) C dX10_shop_5 (by decide) (fun c29 => ?_) (fun c29 => ?_)
  · have h := hx_pos c29 h
    refine hx_ldc (v := (-100001)) C (by decide +kernel) dX10_shop_17 ?_
    obtain rfl := hx_some1 h
    exact hx_iret C hr dX10_shop_19
  · have h := hx_neg c29 h
    refine hx_iload_n C dX10_shop_8 rfl (lv_at hl 2 rfl) ?_
    refine hx_iconst (v := 0) C dX10_shop_9 (by decide) ?_
    refine hx_iconst (v := 2) C dX10_shop_10 (by decide) ?_
    obtain ⟨r30, e31, h⟩ := hx_bind h
    refine hx_callS (As := [.int a2, .int 0, .int 2]) (rest := []) (n := 3) C (c_X10_in e31) gX10_shop_X10_in (by decide +kernel) ⟨Nat.le_of_ble_eq_true rfl, Nat.le_of_ble_eq_true rfl⟩ rfl rfl rfl ⟨Nat.zero_le _, Nat.zero_le _⟩ hl.1 rfl rfl (Nat.le_of_ble_eq_true rfl) dX10_shop_11 ?_
    refine hx_if_ne (tgt := 20) C dX10_shop_14 (by decide) (fun c32 => ?_) (fun c32 => ?_)
    · have h := hx_neg c32 h
      refine hx_aload_n C dX10_shop_20 rfl (lv_at hl 0 rfl) ?_
      refine hx_iload_n C dX10_shop_21 rfl (lv_at hl 1 rfl) ?_
      refine hx_iconst (v := 0) C dX10_shop_22 (by decide) ?_
      obtain ⟨r33, e34, h⟩ := hx_bind h
      refine hx_callV (As := [.int a1, .int 0]) (rest := []) (n := 2) (Cn := RX10) C (c_X10_of e34) gX10_shop_X10_of g28 (by decide) rfl (by decide +kernel) ⟨Nat.le_of_ble_eq_true rfl, Nat.le_of_ble_eq_true rfl⟩ rfl rfl rfl ⟨Nat.zero_le _, Nat.zero_le _⟩ hl.1 rfl rfl (Nat.le_of_ble_eq_true rfl) dX10_shop_23 ?_
      refine hx_istore_n (lv' := [(3, .int r33), (0, .ref (ad this)), (1, .int a1), (2, .int a2)]) C dX10_shop_26 rfl hl (by decide) rfl (fun ls hl => ?_)
      refine hx_iconst (v := 0) C dX10_shop_27 (by decide) ?_
      refine hx_istore (lv' := [(4, .int 0), (3, .int r33), (0, .ref (ad this)), (1, .int a1), (2, .int a2)]) C dX10_shop_28 hl (by decide) rfl (fun ls hl => ?_)
      refine hx_iconst (v := 0) C dX10_shop_30 (by decide) ?_
      refine hx_istore (lv' := [(5, .int 0), (4, .int 0), (3, .int r33), (0, .ref (ad this)), (1, .int a1), (2, .int a2)]) C dX10_shop_31 hl (by decide) rfl (fun ls hl => ?_)
      refine hx_iconst (v := 0) C dX10_shop_33 (by decide) ?_
      refine hx_istore (lv' := [(6, .int 0), (5, .int 0), (4, .int 0), (3, .int r33), (0, .ref (ad this)), (1, .int a1), (2, .int a2)]) C dX10_shop_34 hl (by decide) rfl (fun ls hl => ?_)
      exact w_X10_shop_36 C hr u_fuel this a2 r33 0 0 0 X ls h (lv_sub hl [4, 6, 3, 2, 1, 0] rfl)
    · have h := hx_pos c32 h
      refine hx_ldc (v := (-100001)) C (by decide +kernel) dX10_shop_17 ?_
      obtain rfl := hx_some1 h
      exact hx_iret C hr dX10_shop_19
