def f_L_claims_78 (L : hL) (v0 : Nat) (v3 : Int32) (v7 : Int32) (X : hX) : Option (Int32 × hX) :=
  if v7 = (-100002) then
    (f_X9_count L X v0 8).bind fun r2 =>
    if tk L v0 9 then
    if r2 = v3 then
      some (1, X)
    else
      some (0, X)
    else none
  else
    some (0, X)
set_option maxRecDepth 100000 in
set_option maxHeartbeats 4000000 in
theorem w_L_claims_78 {p : Program} {l : Launch} {e : Env} {s : State} {m : MethodId} {args : Array Value} {below : List Frame} {meth : Method} {c : Code} {dC : Nat → ClassId} {dI : Nat → Nat → Nat} {cy : Nat → ClassId} {ad : Nat → Nat} {L : hL} {r : Int32} {X' : hX} (C : hC p s m args meth c dC dI cy ad L (hA ad L s.heap.size) cL_claims 8 wsL_claims RL) (hr : meth.sig.returnType = (some .boolean)) : ∀ (v0 : Nat) (v3 : Int32) (v7 : Int32) (X : hX) (ls : Array Slot), f_L_claims_78 L v0 v3 v7 X = some (r, X') → lv_has ls 8 [(0, .ref (ad v0)), (3, .int v3), (7, .int v7)] → hG p l e (headSpec wsL_claims ({ frames := 6, cells := 0, slots := 0, locals := 136 } : Room)).room s m args below meth c dC dI cy ad L (hA ad L s.heap.size) 0 0 (MQ below (hQ dC dI cy ad L s.heap.size (some (.int r)) X') args s 0 0 (hA ad L s.heap.size)) X 78 ls [] := by
  intro v0 v3 v7 X ls h hl
  unfold f_L_claims_78 at h
  refine hx_iload C dL_claims_78 (lv_at hl 2 rfl) ?_
  refine hx_ldc (v := (-100002)) C (by decide +kernel) dL_claims_80 ?_
  refine hx_icmp_ne (tgt := 99) C dL_claims_82 (by decide) (fun c1 => ?_) (fun c1 => ?_)
  · have h := hx_neg c1 h
    refine hx_iconst (v := 0) C dL_claims_99 (by decide) ?_
    obtain ⟨rfl, rfl⟩ := hx_some2 h
    exact hx_zret C hr rfl dL_claims_100
  · have h := hx_pos c1 h
    refine hx_aload_n C dL_claims_85 rfl (lv_at hl 0 rfl) ?_
    refine hx_bipush (v := 8) C dL_claims_86 (by decide) ?_
    obtain ⟨r2, e3, h⟩ := hx_bind h
    obtain ⟨g4, h⟩ := hx_gd h
    refine hx_callV (As := [.int 8]) (rest := []) (n := 1) (Cn := RX9) C (c_X9_count e3) gL_claims_X9_count g4 (by decide) rfl (by decide +kernel) ⟨Nat.le_of_ble_eq_true rfl, Nat.le_of_ble_eq_true rfl⟩ rfl rfl rfl ⟨Nat.zero_le _, Nat.zero_le _⟩ hl.1 rfl rfl (Nat.le_of_ble_eq_true rfl) dL_claims_88 ?_
    refine hx_iload_n C dL_claims_91 rfl (lv_at hl 1 rfl) ?_
    refine hx_icmp_ne (tgt := 99) C dL_claims_92 (by decide) (fun c5 => ?_) (fun c5 => ?_)
    · have h := hx_neg c5 h
      refine hx_iconst (v := 0) C dL_claims_99 (by decide) ?_
      obtain ⟨rfl, rfl⟩ := hx_some2 h
      exact hx_zret C hr rfl dL_claims_100
    · have h := hx_pos c5 h
      refine hx_iconst (v := 1) C dL_claims_95 (by decide) ?_
      refine hx_goto (tgt := 100) C dL_claims_96 (by decide) ?_
      obtain ⟨rfl, rfl⟩ := hx_some2 h
      exact hx_zret C hr rfl dL_claims_100
def f_L_claims_145 (L : hL) (v5 : Int32) (v6 : Int32) (v7 : Int32) (s0 : Int32) (s1 : Int32) (X : hX) : Option (Int32 × hX) :=
  if s1 = s0 then
    if v7 = 1 then
      if v6 = v5 then
        some (0, X)
      else
        some (1, X)
    else
      some (1, X)
  else
    some (0, X)
set_option maxRecDepth 100000 in
set_option maxHeartbeats 4000000 in
theorem w_L_claims_145 {p : Program} {l : Launch} {e : Env} {s : State} {m : MethodId} {args : Array Value} {below : List Frame} {meth : Method} {c : Code} {dC : Nat → ClassId} {dI : Nat → Nat → Nat} {cy : Nat → ClassId} {ad : Nat → Nat} {L : hL} {r : Int32} {X' : hX} (C : hC p s m args meth c dC dI cy ad L (hA ad L s.heap.size) cL_claims 8 wsL_claims RL) (hr : meth.sig.returnType = (some .boolean)) : ∀ (v5 : Int32) (v6 : Int32) (v7 : Int32) (s0 : Int32) (s1 : Int32) (X : hX) (ls : Array Slot), f_L_claims_145 L v5 v6 v7 s0 s1 X = some (r, X') → lv_has ls 8 [(5, .int v5), (6, .int v6), (7, .int v7)] → hG p l e (headSpec wsL_claims ({ frames := 6, cells := 0, slots := 0, locals := 136 } : Room)).room s m args below meth c dC dI cy ad L (hA ad L s.heap.size) 0 0 (MQ below (hQ dC dI cy ad L s.heap.size (some (.int r)) X') args s 0 0 (hA ad L s.heap.size)) X 145 ls [.int s0, .int s1] := by
  intro v5 v6 v7 s0 s1 X ls h hl
  unfold f_L_claims_145 at h
  refine hx_icmp_ne (tgt := 165) C dL_claims_145 (by decide) (fun c6 => ?_) (fun c6 => ?_)
  · have h := hx_neg c6 h
    refine hx_iconst (v := 0) C dL_claims_165 (by decide) ?_
    obtain ⟨rfl, rfl⟩ := hx_some2 h
    exact hx_zret C hr rfl dL_claims_166
  · have h := hx_pos c6 h
    refine hx_iload C dL_claims_148 (lv_at hl 2 rfl) ?_
    refine hx_iconst (v := 1) C dL_claims_150 (by decide) ?_
    refine hx_icmp_ne (tgt := 161) C dL_claims_151 (by decide) (fun c7 => ?_) (fun c7 => ?_)
    · have h := hx_neg c7 h
      refine hx_iconst (v := 1) C dL_claims_161 (by decide) ?_
      refine hx_goto (tgt := 166) C dL_claims_162 (by decide) ?_
      obtain ⟨rfl, rfl⟩ := hx_some2 h
      exact hx_zret C hr rfl dL_claims_166
    · have h := hx_pos c7 h
      refine hx_iload C dL_claims_154 (lv_at hl 1 rfl) ?_
      refine hx_iload C dL_claims_156 (lv_at hl 0 rfl) ?_
      refine hx_icmp_eq (tgt := 165) C dL_claims_158 (by decide) (fun c8 => ?_) (fun c8 => ?_)
      · have h := hx_pos c8 h
        refine hx_iconst (v := 0) C dL_claims_165 (by decide) ?_
        obtain ⟨rfl, rfl⟩ := hx_some2 h
        exact hx_zret C hr rfl dL_claims_166
      · have h := hx_neg c8 h
        refine hx_iconst (v := 1) C dL_claims_161 (by decide) ?_
        refine hx_goto (tgt := 166) C dL_claims_162 (by decide) ?_
        obtain ⟨rfl, rfl⟩ := hx_some2 h
        exact hx_zret C hr rfl dL_claims_166
def f_L_claims_55 (L : hL) (v0 : Nat) (v1 : Int32) (v3 : Int32) (v4 : Int32) (v5 : Int32) (s0 : Int32) (X : hX) : Option (Int32 × hX) :=
  (f_X9_claim L X v0 v1 s0).bind fun r9 =>
  if tk L v0 9 then
  if v4 < 0 then
    f_L_claims_78 L v0 v3 r9.1 r9.2
  else
    if s0 = v5 then
      f_L_claims_78 L v0 v3 r9.1 r9.2
    else
      if r9.1 < 0 then
        some (0, r9.2)
      else
        if 2 < r9.1 then
          some (0, r9.2)
        else
          (f_X9_customer L r9.2 v0 v1 1).bind fun r16 =>
          if r16 = (-100009) then
            (f_X9_count L r9.2 v0 8).bind fun r19 =>
            if r9.1 = 0 then
              f_L_claims_145 L v5 s0 r9.1 v3 r19 r9.2
            else
              f_L_claims_145 L v5 s0 r9.1 ((v3 + v4) - v5) r19 r9.2
          else
            some (0, r9.2)
  else none
set_option maxRecDepth 100000 in
set_option maxHeartbeats 4000000 in
theorem w_L_claims_55 {p : Program} {l : Launch} {e : Env} {s : State} {m : MethodId} {args : Array Value} {below : List Frame} {meth : Method} {c : Code} {dC : Nat → ClassId} {dI : Nat → Nat → Nat} {cy : Nat → ClassId} {ad : Nat → Nat} {L : hL} {r : Int32} {X' : hX} (C : hC p s m args meth c dC dI cy ad L (hA ad L s.heap.size) cL_claims 8 wsL_claims RL) (hr : meth.sig.returnType = (some .boolean)) : ∀ (v0 : Nat) (v1 : Int32) (v3 : Int32) (v4 : Int32) (v5 : Int32) (s0 : Int32) (X : hX) (ls : Array Slot), f_L_claims_55 L v0 v1 v3 v4 v5 s0 X = some (r, X') → lv_has ls 8 [(0, .ref (ad v0)), (1, .int v1), (3, .int v3), (4, .int v4), (5, .int v5)] → hG p l e (headSpec wsL_claims ({ frames := 6, cells := 0, slots := 0, locals := 136 } : Room)).room s m args below meth c dC dI cy ad L (hA ad L s.heap.size) 0 0 (MQ below (hQ dC dI cy ad L s.heap.size (some (.int r)) X') args s 0 0 (hA ad L s.heap.size)) X 55 ls [.int s0] := by
  intro v0 v1 v3 v4 v5 s0 X ls h hl
  unfold f_L_claims_55 at h
  refine hx_istore (lv' := [(6, .int s0), (0, .ref (ad v0)), (1, .int v1), (3, .int v3), (4, .int v4), (5, .int v5)]) C dL_claims_55 hl (by decide) rfl (fun ls hl => ?_)
  refine hx_aload_n C dL_claims_57 rfl (lv_at hl 1 rfl) ?_
  refine hx_iload_n C dL_claims_58 rfl (lv_at hl 2 rfl) ?_
  refine hx_iload C dL_claims_59 (lv_at hl 0 rfl) ?_
  obtain ⟨r9, e10, h⟩ := hx_bind h
  obtain ⟨g11, h⟩ := hx_gd h
  refine hx_callV (As := [.int v1, .int s0]) (rest := []) (n := 2) (Cn := RX9) C (c_X9_claim e10) gL_claims_X9_claim g11 (by decide) rfl (by decide +kernel) ⟨Nat.le_of_ble_eq_true rfl, Nat.le_of_ble_eq_true rfl⟩ rfl rfl rfl ⟨Nat.zero_le _, Nat.zero_le _⟩ hl.1 rfl rfl (Nat.le_of_ble_eq_true rfl) dL_claims_61 ?_
  refine hx_istore (lv' := [(7, .int r9.1), (6, .int s0), (0, .ref (ad v0)), (1, .int v1), (3, .int v3), (4, .int v4), (5, .int v5)]) C dL_claims_64 hl (by decide) rfl (fun ls hl => ?_)
  refine hx_iload C dL_claims_66 (lv_at hl 5 rfl) ?_
  refine hx_if_lt (tgt := 78) C dL_claims_68 (by decide) (fun c12 => ?_) (fun c12 => ?_)
  · have h := hx_pos c12 h
    exact w_L_claims_78 C hr v0 v3 r9.1 r9.2 ls h (lv_sub hl [2, 4, 0] rfl)
  · have h := hx_neg c12 h
    refine hx_iload C dL_claims_71 (lv_at hl 1 rfl) ?_
    refine hx_iload C dL_claims_73 (lv_at hl 6 rfl) ?_
    refine hx_icmp_ne (tgt := 101) C dL_claims_75 (by decide) (fun c13 => ?_) (fun c13 => ?_)
    · have h := hx_neg c13 h
      refine hx_iload C dL_claims_101 (lv_at hl 0 rfl) ?_
      refine hx_if_lt (tgt := 165) C dL_claims_103 (by decide) (fun c14 => ?_) (fun c14 => ?_)
      · have h := hx_pos c14 h
        refine hx_iconst (v := 0) C dL_claims_165 (by decide) ?_
        obtain ⟨rfl, rfl⟩ := hx_some2 h
        exact hx_zret C hr rfl dL_claims_166
      · have h := hx_neg c14 h
        refine hx_iload C dL_claims_106 (lv_at hl 0 rfl) ?_
        refine hx_iconst (v := 2) C dL_claims_108 (by decide) ?_
        refine hx_icmp_gt (tgt := 165) C dL_claims_109 (by decide) (fun c15 => ?_) (fun c15 => ?_)
        · have h := hx_pos c15 h
          refine hx_iconst (v := 0) C dL_claims_165 (by decide) ?_
          obtain ⟨rfl, rfl⟩ := hx_some2 h
          exact hx_zret C hr rfl dL_claims_166
        · have h := hx_neg c15 h
          refine hx_aload_n C dL_claims_112 rfl (lv_at hl 2 rfl) ?_
          refine hx_iload_n C dL_claims_113 rfl (lv_at hl 3 rfl) ?_
          refine hx_iconst (v := 1) C dL_claims_114 (by decide) ?_
          obtain ⟨r16, e17, h⟩ := hx_bind h
          refine hx_callV (As := [.int v1, .int 1]) (rest := []) (n := 2) (Cn := RX9) C (c_X9_customer e17) gL_claims_X9_customer g11 (by decide) rfl (by decide +kernel) ⟨Nat.le_of_ble_eq_true rfl, Nat.le_of_ble_eq_true rfl⟩ rfl rfl rfl ⟨Nat.zero_le _, Nat.zero_le _⟩ hl.1 rfl rfl (Nat.le_of_ble_eq_true rfl) dL_claims_115 ?_
          refine hx_ldc (v := (-100009)) C (by decide +kernel) dL_claims_118 ?_
          refine hx_icmp_ne (tgt := 165) C dL_claims_120 (by decide) (fun c18 => ?_) (fun c18 => ?_)
          · have h := hx_neg c18 h
            refine hx_iconst (v := 0) C dL_claims_165 (by decide) ?_
            obtain ⟨rfl, rfl⟩ := hx_some2 h
            exact hx_zret C hr rfl dL_claims_166
          · have h := hx_pos c18 h
            refine hx_aload_n C dL_claims_123 rfl (lv_at hl 2 rfl) ?_
            refine hx_bipush (v := 8) C dL_claims_124 (by decide) ?_
            obtain ⟨r19, e20, h⟩ := hx_bind h
            refine hx_callV (As := [.int 8]) (rest := []) (n := 1) (Cn := RX9) C (c_X9_count e20) gL_claims_X9_count g11 (by decide) rfl (by decide +kernel) ⟨Nat.le_of_ble_eq_true rfl, Nat.le_of_ble_eq_true rfl⟩ rfl rfl rfl ⟨Nat.zero_le _, Nat.zero_le _⟩ hl.1 rfl rfl (Nat.le_of_ble_eq_true rfl) dL_claims_126 ?_
            refine hx_iload C dL_claims_129 (lv_at hl 0 rfl) ?_
            refine hx_if_ne (tgt := 138) C dL_claims_131 (by decide) (fun c21 => ?_) (fun c21 => ?_)
            · have h := hx_neg c21 h
              refine hx_iload_n C dL_claims_138 rfl (lv_at hl 4 rfl) ?_
              refine hx_iload C dL_claims_139 (lv_at hl 5 rfl) ?_
              refine hx_iadd C dL_claims_141 ?_
              refine hx_iload C dL_claims_142 (lv_at hl 6 rfl) ?_
              refine hx_isub C dL_claims_144 ?_
              exact w_L_claims_145 C hr v5 s0 r9.1 ((v3 + v4) - v5) r19 r9.2 ls h (lv_sub hl [6, 1, 0] rfl)
            · have h := hx_pos c21 h
              refine hx_iload_n C dL_claims_134 rfl (lv_at hl 4 rfl) ?_
              refine hx_goto (tgt := 145) C dL_claims_135 (by decide) ?_
              exact w_L_claims_145 C hr v5 s0 r9.1 v3 r19 r9.2 ls h (lv_sub hl [6, 1, 0] rfl)
    · have h := hx_pos c13 h
      exact w_L_claims_78 C hr v0 v3 r9.1 r9.2 ls h (lv_sub hl [2, 4, 0] rfl)
def f_L_claims (L : hL) (X : hX) (a1 : Nat) (a2 : Int32) (a3 : Int32) : Option (Int32 × hX) :=
  (f_X9_count L X a1 8).bind fun r22 =>
  if tk L a1 9 then
  (f_X9_customer L X a1 a2 2).bind fun r25 =>
  (f_X9_customer L X a1 a2 4).bind fun r27 =>
  if 0 ≤ r25 then
    if (a3 - a3 / 2 * 2) = 0 then
      f_L_claims_55 L a1 a2 r22 r25 r27 r25 X
    else
      f_L_claims_55 L a1 a2 r22 r25 r27 (r27 + ((a3 / 2) - (a3 / 2) / 7 * 7)) X
  else
    f_L_claims_55 L a1 a2 r22 r25 r27 (a3 - a3 / 9 * 9) X
  else none
set_option maxRecDepth 100000 in
set_option maxHeartbeats 4000000 in
theorem c_L_claims {l : Launch} {dC : Nat → ClassId} {dI : Nat → Nat → Nat} {cy : Nat → ClassId} {ad : Nat → Nat} {L : hL} {X : hX} {a1 : Nat} {a2 : Int32} {a3 : Int32} {r : Int32} {X' : hX} (h : f_L_claims L X a1 a2 a3 = some (r, X')) : hMet l dC dI cy ad L yL_claims wsL_claims ({ frames := 6, cells := 0, slots := 0, locals := 136 } : Room) [.ref (ad a1), .int a2, .int a3] X (some (.int r)) X' := by
  unfold f_L_claims at h
  refine hx_enter RL (plainFor_of_name (by decide)) rfl rfl (Nat.le_of_ble_eq_true rfl) (fun p e s m args below meth c C hr hnm ls hl => ?_)
  have hl : lv_has ls 8 [(0, .ref (ad a1)), (1, .int a2), (2, .int a3)] := hl
  refine hx_aload_n C dL_claims_0 rfl (lv_at hl 0 rfl) ?_
  refine hx_bipush (v := 8) C dL_claims_1 (by decide) ?_
  obtain ⟨r22, e23, h⟩ := hx_bind h
  obtain ⟨g24, h⟩ := hx_gd h
  refine hx_callV (As := [.int 8]) (rest := []) (n := 1) (Cn := RX9) C (c_X9_count e23) gL_claims_X9_count g24 (by decide) rfl (by decide +kernel) ⟨Nat.le_of_ble_eq_true rfl, Nat.le_of_ble_eq_true rfl⟩ rfl rfl rfl ⟨Nat.zero_le _, Nat.zero_le _⟩ hl.1 rfl rfl (Nat.le_of_ble_eq_true rfl) dL_claims_3 ?_
  refine hx_istore_n (lv' := [(3, .int r22), (0, .ref (ad a1)), (1, .int a2), (2, .int a3)]) C dL_claims_6 rfl hl (by decide) rfl (fun ls hl => ?_)
  refine hx_aload_n C dL_claims_7 rfl (lv_at hl 1 rfl) ?_
  refine hx_iload_n C dL_claims_8 rfl (lv_at hl 2 rfl) ?_
  refine hx_iconst (v := 2) C dL_claims_9 (by decide) ?_
  obtain ⟨r25, e26, h⟩ := hx_bind h
  refine hx_callV (As := [.int a2, .int 2]) (rest := []) (n := 2) (Cn := RX9) C (c_X9_customer e26) gL_claims_X9_customer g24 (by decide) rfl (by decide +kernel) ⟨Nat.le_of_ble_eq_true rfl, Nat.le_of_ble_eq_true rfl⟩ rfl rfl rfl ⟨Nat.zero_le _, Nat.zero_le _⟩ hl.1 rfl rfl (Nat.le_of_ble_eq_true rfl) dL_claims_10 ?_
  refine hx_istore (lv' := [(4, .int r25), (3, .int r22), (0, .ref (ad a1)), (1, .int a2), (2, .int a3)]) C dL_claims_13 hl (by decide) rfl (fun ls hl => ?_)
  refine hx_aload_n C dL_claims_15 rfl (lv_at hl 2 rfl) ?_
  refine hx_iload_n C dL_claims_16 rfl (lv_at hl 3 rfl) ?_
  refine hx_iconst (v := 4) C dL_claims_17 (by decide) ?_
  obtain ⟨r27, e28, h⟩ := hx_bind h
  refine hx_callV (As := [.int a2, .int 4]) (rest := []) (n := 2) (Cn := RX9) C (c_X9_customer e28) gL_claims_X9_customer g24 (by decide) rfl (by decide +kernel) ⟨Nat.le_of_ble_eq_true rfl, Nat.le_of_ble_eq_true rfl⟩ rfl rfl rfl ⟨Nat.zero_le _, Nat.zero_le _⟩ hl.1 rfl rfl (Nat.le_of_ble_eq_true rfl) dL_claims_18 ?_
  refine hx_istore (lv' := [(5, .int r27), (4, .int r25), (3, .int r22), (0, .ref (ad a1)), (1, .int a2), (2, .int a3)]) C dL_claims_21 hl (by decide) rfl (fun ls hl => ?_)
  refine hx_iload C dL_claims_23 (lv_at hl 1 rfl) ?_
  refine hx_if_ge (tgt := 35) C dL_claims_25 (by decide) (fun c29 => ?_) (fun c29 => ?_)
  · have h := hx_pos c29 h
    refine hx_iload_n C dL_claims_35 rfl (lv_at hl 5 rfl) ?_
    refine hx_iconst (v := 2) C dL_claims_36 (by decide) ?_
    refine hx_irem C dL_claims_37 (by decide) ?_
    refine hx_if_ne (tgt := 46) C dL_claims_38 (by decide) (fun c30 => ?_) (fun c30 => ?_)
    · have h := hx_neg c30 h
      refine hx_iload C dL_claims_46 (lv_at hl 0 rfl) ?_
      refine hx_iload_n C dL_claims_48 rfl (lv_at hl 5 rfl) ?_
      refine hx_iconst (v := 2) C dL_claims_49 (by decide) ?_
      refine hx_idiv C dL_claims_50 (by decide) ?_
      refine hx_bipush (v := 7) C dL_claims_51 (by decide) ?_
      refine hx_irem C dL_claims_53 (by decide) ?_
      refine hx_iadd C dL_claims_54 ?_
      exact w_L_claims_55 C hr a1 a2 r22 r25 r27 (r27 + ((a3 / 2) - (a3 / 2) / 7 * 7)) X ls h (lv_sub hl [3, 4, 2, 1, 0] rfl)
    · have h := hx_pos c30 h
      refine hx_iload C dL_claims_41 (lv_at hl 1 rfl) ?_
      refine hx_goto (tgt := 55) C dL_claims_43 (by decide) ?_
      exact w_L_claims_55 C hr a1 a2 r22 r25 r27 r25 X ls h (lv_sub hl [3, 4, 2, 1, 0] rfl)
  · have h := hx_neg c29 h
    refine hx_iload_n C dL_claims_28 rfl (lv_at hl 5 rfl) ?_
    refine hx_bipush (v := 9) C dL_claims_29 (by decide) ?_
    refine hx_irem C dL_claims_31 (by decide) ?_
    refine hx_goto (tgt := 55) C dL_claims_32 (by decide) ?_
    exact w_L_claims_55 C hr a1 a2 r22 r25 r27 (a3 - a3 / 9 * 9) X ls h (lv_sub hl [3, 4, 2, 1, 0] rfl)
