def f_L_reading_96 (L : hL) (v0 : Nat) (v2 : Int32) (v4 : Int32) (v5 : Int32) (v6 : Int32) (v7 : Int32) (s0 : Int32) (X : hX) : Option (Int32) :=
  if v7 = 0 then
    if s0 = 0 then
      some 0
    else
      if v5 = (-100009) then
        if v6 = (-100009) then
          (f_X9_guess L X v0 v4 v2 0).bind fun r23 =>
          if tk L v0 9 then
          if r23 = (-100009) then
            some 1
          else
            some 0
          else none
        else
          some 0
      else
        some 0
  else
    (f_X9_guess L X v0 v4 v2 0).bind fun r2 =>
    if tk L v0 9 then
    (f_X9_guess L X v0 v4 v2 3).bind fun r5 =>
    if s0 = 0 then
      some 0
    else
      if v7 = ((v6 - v5) + 1) then
        if v5 < 0 then
          some 0
        else
          (f_X9_guess L X v0 v4 v2 1).bind fun r10 =>
          if r10 = v5 then
            (f_X9_guess L X v0 v4 v2 2).bind fun r13 =>
            if r13 = v6 then
              if r2 < v5 then
                some 0
              else
                if v6 < r2 then
                  some 0
                else
                  if r5 < v5 then
                    some 0
                  else
                    if v6 < r5 then
                      some 0
                    else
                      some 1
            else
              some 0
          else
            some 0
      else
        some 0
    else none
set_option maxRecDepth 100000 in
set_option maxHeartbeats 4000000 in
theorem w_L_reading_96 {p : Program} {l : Launch} {e : Env} {s : State} {m : MethodId} {args : Array Value} {below : List Frame} {meth : Method} {c : Code} {dC : Nat → ClassId} {dI : Nat → Nat → Nat} {cy : Nat → ClassId} {ad : Nat → Nat} {L : hL} {r : Int32} (C : hC p s m args meth c dC dI cy ad L (hA ad L s.heap.size) cL_reading 11 wsL_reading RL) (hr : meth.sig.returnType = (some .boolean)) : ∀ (v0 : Nat) (v2 : Int32) (v4 : Int32) (v5 : Int32) (v6 : Int32) (v7 : Int32) (s0 : Int32) (X : hX) (ls : Array Slot), f_L_reading_96 L v0 v2 v4 v5 v6 v7 s0 X = some r → lv_has ls 11 [(0, .ref (ad v0)), (2, .int v2), (4, .int v4), (5, .int v5), (6, .int v6), (7, .int v7)] → hG p l e (headSpec wsL_reading ({ frames := 5, cells := 0, slots := 0, locals := 116 } : Room)).room s m args below meth c dC dI cy ad L (hA ad L s.heap.size) 0 0 (MQ below (hQ dC dI cy ad L s.heap.size (some (.int r)) X) args s 0 0 (hA ad L s.heap.size)) X 96 ls [.int s0] := by
  intro v0 v2 v4 v5 v6 v7 s0 X ls h hl
  unfold f_L_reading_96 at h
  refine hx_istore (lv' := [(8, .int s0), (0, .ref (ad v0)), (2, .int v2), (4, .int v4), (5, .int v5), (6, .int v6), (7, .int v7)]) C dL_reading_96 hl (by decide) rfl (fun ls hl => ?_)
  refine hx_iload C dL_reading_98 (lv_at hl 6 rfl) ?_
  refine hx_if_ne (tgt := 141) C dL_reading_100 (by decide) (fun c1 => ?_) (fun c1 => ?_)
  · have h := hx_neg c1 h
    refine hx_aload_n C dL_reading_141 rfl (lv_at hl 1 rfl) ?_
    refine hx_iload C dL_reading_142 (lv_at hl 3 rfl) ?_
    refine hx_iload_n C dL_reading_144 rfl (lv_at hl 2 rfl) ?_
    refine hx_iconst (v := 0) C dL_reading_145 (by decide) ?_
    obtain ⟨r2, e3, h⟩ := hx_bind h
    obtain ⟨g4, h⟩ := hx_gd h
    refine hx_callV (As := [.int v4, .int v2, .int 0]) (rest := []) (n := 3) (Cn := RX9) C (c_X9_guess e3) gL_reading_X9_guess g4 (by decide) rfl (by decide +kernel) ⟨Nat.le_of_ble_eq_true rfl, Nat.le_of_ble_eq_true rfl⟩ rfl rfl rfl ⟨Nat.zero_le _, Nat.zero_le _⟩ hl.1 rfl rfl (Nat.le_of_ble_eq_true rfl) dL_reading_146 ?_
    refine hx_istore (lv' := [(9, .int r2), (8, .int s0), (0, .ref (ad v0)), (2, .int v2), (4, .int v4), (5, .int v5), (6, .int v6), (7, .int v7)]) C dL_reading_149 hl (by decide) rfl (fun ls hl => ?_)
    refine hx_aload_n C dL_reading_151 rfl (lv_at hl 2 rfl) ?_
    refine hx_iload C dL_reading_152 (lv_at hl 4 rfl) ?_
    refine hx_iload_n C dL_reading_154 rfl (lv_at hl 3 rfl) ?_
    refine hx_iconst (v := 3) C dL_reading_155 (by decide) ?_
    obtain ⟨r5, e6, h⟩ := hx_bind h
    refine hx_callV (As := [.int v4, .int v2, .int 3]) (rest := []) (n := 3) (Cn := RX9) C (c_X9_guess e6) gL_reading_X9_guess g4 (by decide) rfl (by decide +kernel) ⟨Nat.le_of_ble_eq_true rfl, Nat.le_of_ble_eq_true rfl⟩ rfl rfl rfl ⟨Nat.zero_le _, Nat.zero_le _⟩ hl.1 rfl rfl (Nat.le_of_ble_eq_true rfl) dL_reading_156 ?_
    refine hx_istore (lv' := [(10, .int r5), (9, .int r2), (8, .int s0), (0, .ref (ad v0)), (2, .int v2), (4, .int v4), (5, .int v5), (6, .int v6), (7, .int v7)]) C dL_reading_159 hl (by decide) rfl (fun ls hl => ?_)
    refine hx_iload C dL_reading_161 (lv_at hl 2 rfl) ?_
    refine hx_if_eq (tgt := 241) C dL_reading_163 (by decide) (fun c7 => ?_) (fun c7 => ?_)
    · have h := hx_pos c7 h
      refine hx_iconst (v := 0) C dL_reading_241 (by decide) ?_
      obtain rfl := hx_some1 h
      exact hx_zret C hr rfl dL_reading_242
    · have h := hx_neg c7 h
      refine hx_iload C dL_reading_166 (lv_at hl 8 rfl) ?_
      refine hx_iload C dL_reading_168 (lv_at hl 7 rfl) ?_
      refine hx_iload C dL_reading_170 (lv_at hl 6 rfl) ?_
      refine hx_isub C dL_reading_172 ?_
      refine hx_iconst (v := 1) C dL_reading_173 (by decide) ?_
      refine hx_iadd C dL_reading_174 ?_
      refine hx_icmp_ne (tgt := 241) C dL_reading_175 (by decide) (fun c8 => ?_) (fun c8 => ?_)
      · have h := hx_neg c8 h
        refine hx_iconst (v := 0) C dL_reading_241 (by decide) ?_
        obtain rfl := hx_some1 h
        exact hx_zret C hr rfl dL_reading_242
      · have h := hx_pos c8 h
        refine hx_iload C dL_reading_178 (lv_at hl 6 rfl) ?_
        refine hx_if_lt (tgt := 241) C dL_reading_180 (by decide) (fun c9 => ?_) (fun c9 => ?_)
        · have h := hx_pos c9 h
          refine hx_iconst (v := 0) C dL_reading_241 (by decide) ?_
          obtain rfl := hx_some1 h
          exact hx_zret C hr rfl dL_reading_242
        · have h := hx_neg c9 h
          refine hx_aload_n C dL_reading_183 rfl (lv_at hl 3 rfl) ?_
          refine hx_iload C dL_reading_184 (lv_at hl 5 rfl) ?_
          refine hx_iload_n C dL_reading_186 rfl (lv_at hl 4 rfl) ?_
          refine hx_iconst (v := 1) C dL_reading_187 (by decide) ?_
          obtain ⟨r10, e11, h⟩ := hx_bind h
          refine hx_callV (As := [.int v4, .int v2, .int 1]) (rest := []) (n := 3) (Cn := RX9) C (c_X9_guess e11) gL_reading_X9_guess g4 (by decide) rfl (by decide +kernel) ⟨Nat.le_of_ble_eq_true rfl, Nat.le_of_ble_eq_true rfl⟩ rfl rfl rfl ⟨Nat.zero_le _, Nat.zero_le _⟩ hl.1 rfl rfl (Nat.le_of_ble_eq_true rfl) dL_reading_188 ?_
          refine hx_iload C dL_reading_191 (lv_at hl 6 rfl) ?_
          refine hx_icmp_ne (tgt := 241) C dL_reading_193 (by decide) (fun c12 => ?_) (fun c12 => ?_)
          · have h := hx_neg c12 h
            refine hx_iconst (v := 0) C dL_reading_241 (by decide) ?_
            obtain rfl := hx_some1 h
            exact hx_zret C hr rfl dL_reading_242
          · have h := hx_pos c12 h
            refine hx_aload_n C dL_reading_196 rfl (lv_at hl 3 rfl) ?_
            refine hx_iload C dL_reading_197 (lv_at hl 5 rfl) ?_
            refine hx_iload_n C dL_reading_199 rfl (lv_at hl 4 rfl) ?_
            refine hx_iconst (v := 2) C dL_reading_200 (by decide) ?_
            obtain ⟨r13, e14, h⟩ := hx_bind h
            refine hx_callV (As := [.int v4, .int v2, .int 2]) (rest := []) (n := 3) (Cn := RX9) C (c_X9_guess e14) gL_reading_X9_guess g4 (by decide) rfl (by decide +kernel) ⟨Nat.le_of_ble_eq_true rfl, Nat.le_of_ble_eq_true rfl⟩ rfl rfl rfl ⟨Nat.zero_le _, Nat.zero_le _⟩ hl.1 rfl rfl (Nat.le_of_ble_eq_true rfl) dL_reading_201 ?_
            refine hx_iload C dL_reading_204 (lv_at hl 7 rfl) ?_
            refine hx_icmp_ne (tgt := 241) C dL_reading_206 (by decide) (fun c15 => ?_) (fun c15 => ?_)
            · have h := hx_neg c15 h
              refine hx_iconst (v := 0) C dL_reading_241 (by decide) ?_
              obtain rfl := hx_some1 h
              exact hx_zret C hr rfl dL_reading_242
            · have h := hx_pos c15 h
              refine hx_iload C dL_reading_209 (lv_at hl 1 rfl) ?_
              refine hx_iload C dL_reading_211 (lv_at hl 6 rfl) ?_
              refine hx_icmp_lt (tgt := 241) C dL_reading_213 (by decide) (fun c16 => ?_) (fun c16 => ?_)
              · have h := hx_pos c16 h
                refine hx_iconst (v := 0) C dL_reading_241 (by decide) ?_
                obtain rfl := hx_some1 h
                exact hx_zret C hr rfl dL_reading_242
              · have h := hx_neg c16 h
                refine hx_iload C dL_reading_216 (lv_at hl 1 rfl) ?_
                refine hx_iload C dL_reading_218 (lv_at hl 7 rfl) ?_
                refine hx_icmp_gt (tgt := 241) C dL_reading_220 (by decide) (fun c17 => ?_) (fun c17 => ?_)
                · have h := hx_pos c17 h
                  refine hx_iconst (v := 0) C dL_reading_241 (by decide) ?_
                  obtain rfl := hx_some1 h
                  exact hx_zret C hr rfl dL_reading_242
                · have h := hx_neg c17 h
                  refine hx_iload C dL_reading_223 (lv_at hl 0 rfl) ?_
                  refine hx_iload C dL_reading_225 (lv_at hl 6 rfl) ?_
                  refine hx_icmp_lt (tgt := 241) C dL_reading_227 (by decide) (fun c18 => ?_) (fun c18 => ?_)
                  · have h := hx_pos c18 h
                    refine hx_iconst (v := 0) C dL_reading_241 (by decide) ?_
                    obtain rfl := hx_some1 h
                    exact hx_zret C hr rfl dL_reading_242
                  · have h := hx_neg c18 h
                    refine hx_iload C dL_reading_230 (lv_at hl 0 rfl) ?_
                    refine hx_iload C dL_reading_232 (lv_at hl 7 rfl) ?_
                    refine hx_icmp_gt (tgt := 241) C dL_reading_234 (by decide) (fun c19 => ?_) (fun c19 => ?_)
                    · have h := hx_pos c19 h
                      refine hx_iconst (v := 0) C dL_reading_241 (by decide) ?_
                      obtain rfl := hx_some1 h
                      exact hx_zret C hr rfl dL_reading_242
                    · have h := hx_neg c19 h
                      refine hx_iconst (v := 1) C dL_reading_237 (by decide) ?_
                      refine hx_goto (tgt := 242) C dL_reading_238 (by decide) ?_
                      obtain rfl := hx_some1 h
                      exact hx_zret C hr rfl dL_reading_242
  · have h := hx_pos c1 h
    refine hx_iload C dL_reading_103 (lv_at hl 0 rfl) ?_
    refine hx_if_eq (tgt := 139) C dL_reading_105 (by decide) (fun c20 => ?_) (fun c20 => ?_)
    · have h := hx_pos c20 h
      refine hx_iconst (v := 0) C dL_reading_139 (by decide) ?_
      obtain rfl := hx_some1 h
      exact hx_zret C hr rfl dL_reading_140
    · have h := hx_neg c20 h
      refine hx_iload C dL_reading_108 (lv_at hl 4 rfl) ?_
      refine hx_ldc (v := (-100009)) C (by decide +kernel) dL_reading_110 ?_
      refine hx_icmp_ne (tgt := 139) C dL_reading_112 (by decide) (fun c21 => ?_) (fun c21 => ?_)
      · have h := hx_neg c21 h
        refine hx_iconst (v := 0) C dL_reading_139 (by decide) ?_
        obtain rfl := hx_some1 h
        exact hx_zret C hr rfl dL_reading_140
      · have h := hx_pos c21 h
        refine hx_iload C dL_reading_115 (lv_at hl 5 rfl) ?_
        refine hx_ldc (v := (-100009)) C (by decide +kernel) dL_reading_117 ?_
        refine hx_icmp_ne (tgt := 139) C dL_reading_119 (by decide) (fun c22 => ?_) (fun c22 => ?_)
        · have h := hx_neg c22 h
          refine hx_iconst (v := 0) C dL_reading_139 (by decide) ?_
          obtain rfl := hx_some1 h
          exact hx_zret C hr rfl dL_reading_140
        · have h := hx_pos c22 h
          refine hx_aload_n C dL_reading_122 rfl (lv_at hl 1 rfl) ?_
          refine hx_iload C dL_reading_123 (lv_at hl 3 rfl) ?_
          refine hx_iload_n C dL_reading_125 rfl (lv_at hl 2 rfl) ?_
          refine hx_iconst (v := 0) C dL_reading_126 (by decide) ?_
          obtain ⟨r23, e24, h⟩ := hx_bind h
          obtain ⟨g25, h⟩ := hx_gd h
          refine hx_callV (As := [.int v4, .int v2, .int 0]) (rest := []) (n := 3) (Cn := RX9) C (c_X9_guess e24) gL_reading_X9_guess g25 (by decide) rfl (by decide +kernel) ⟨Nat.le_of_ble_eq_true rfl, Nat.le_of_ble_eq_true rfl⟩ rfl rfl rfl ⟨Nat.zero_le _, Nat.zero_le _⟩ hl.1 rfl rfl (Nat.le_of_ble_eq_true rfl) dL_reading_127 ?_
          refine hx_ldc (v := (-100009)) C (by decide +kernel) dL_reading_130 ?_
          refine hx_icmp_ne (tgt := 139) C dL_reading_132 (by decide) (fun c26 => ?_) (fun c26 => ?_)
          · have h := hx_neg c26 h
            refine hx_iconst (v := 0) C dL_reading_139 (by decide) ?_
            obtain rfl := hx_some1 h
            exact hx_zret C hr rfl dL_reading_140
          · have h := hx_pos c26 h
            refine hx_iconst (v := 1) C dL_reading_135 (by decide) ?_
            refine hx_goto (tgt := 140) C dL_reading_136 (by decide) ?_
            obtain rfl := hx_some1 h
            exact hx_zret C hr rfl dL_reading_140
def f_L_reading_95 (L : hL) (v0 : Nat) (v2 : Int32) (v4 : Int32) (v5 : Int32) (v6 : Int32) (v7 : Int32) (X : hX) : Option (Int32) :=
  f_L_reading_96 L v0 v2 v4 v5 v6 v7 0 X
set_option maxRecDepth 100000 in
set_option maxHeartbeats 4000000 in
theorem w_L_reading_95 {p : Program} {l : Launch} {e : Env} {s : State} {m : MethodId} {args : Array Value} {below : List Frame} {meth : Method} {c : Code} {dC : Nat → ClassId} {dI : Nat → Nat → Nat} {cy : Nat → ClassId} {ad : Nat → Nat} {L : hL} {r : Int32} (C : hC p s m args meth c dC dI cy ad L (hA ad L s.heap.size) cL_reading 11 wsL_reading RL) (hr : meth.sig.returnType = (some .boolean)) : ∀ (v0 : Nat) (v2 : Int32) (v4 : Int32) (v5 : Int32) (v6 : Int32) (v7 : Int32) (X : hX) (ls : Array Slot), f_L_reading_95 L v0 v2 v4 v5 v6 v7 X = some r → lv_has ls 11 [(0, .ref (ad v0)), (2, .int v2), (4, .int v4), (5, .int v5), (6, .int v6), (7, .int v7)] → hG p l e (headSpec wsL_reading ({ frames := 5, cells := 0, slots := 0, locals := 116 } : Room)).room s m args below meth c dC dI cy ad L (hA ad L s.heap.size) 0 0 (MQ below (hQ dC dI cy ad L s.heap.size (some (.int r)) X) args s 0 0 (hA ad L s.heap.size)) X 95 ls [] := by
  intro v0 v2 v4 v5 v6 v7 X ls h hl
  unfold f_L_reading_95 at h
  refine hx_iconst (v := 0) C dL_reading_95 (by decide) ?_
  exact w_L_reading_96 C hr v0 v2 v4 v5 v6 v7 0 X ls h (lv_sub hl [0, 1, 2, 3, 4, 5] rfl)
def f_L_reading_79 (L : hL) (v0 : Nat) (v1 : Int32) (v2 : Int32) (v4 : Int32) (v5 : Int32) (v6 : Int32) (v7 : Int32) (X : hX) : Option (Int32) :=
  (f_X9_read L X v0 (v1 + 1)).bind fun r27 =>
  if tk L v0 9 then
  if r27 < v4 then
    f_L_reading_95 L v0 v2 v4 v5 v6 v7 X
  else
    f_L_reading_96 L v0 v2 v4 v5 v6 v7 1 X
  else none
set_option maxRecDepth 100000 in
set_option maxHeartbeats 4000000 in
theorem w_L_reading_79 {p : Program} {l : Launch} {e : Env} {s : State} {m : MethodId} {args : Array Value} {below : List Frame} {meth : Method} {c : Code} {dC : Nat → ClassId} {dI : Nat → Nat → Nat} {cy : Nat → ClassId} {ad : Nat → Nat} {L : hL} {r : Int32} (C : hC p s m args meth c dC dI cy ad L (hA ad L s.heap.size) cL_reading 11 wsL_reading RL) (hr : meth.sig.returnType = (some .boolean)) : ∀ (v0 : Nat) (v1 : Int32) (v2 : Int32) (v4 : Int32) (v5 : Int32) (v6 : Int32) (v7 : Int32) (X : hX) (ls : Array Slot), f_L_reading_79 L v0 v1 v2 v4 v5 v6 v7 X = some r → lv_has ls 11 [(0, .ref (ad v0)), (1, .int v1), (2, .int v2), (4, .int v4), (5, .int v5), (6, .int v6), (7, .int v7)] → hG p l e (headSpec wsL_reading ({ frames := 5, cells := 0, slots := 0, locals := 116 } : Room)).room s m args below meth c dC dI cy ad L (hA ad L s.heap.size) 0 0 (MQ below (hQ dC dI cy ad L s.heap.size (some (.int r)) X) args s 0 0 (hA ad L s.heap.size)) X 79 ls [] := by
  intro v0 v1 v2 v4 v5 v6 v7 X ls h hl
  unfold f_L_reading_79 at h
  refine hx_aload_n C dL_reading_79 rfl (lv_at hl 0 rfl) ?_
  refine hx_iload_n C dL_reading_80 rfl (lv_at hl 1 rfl) ?_
  refine hx_iconst (v := 1) C dL_reading_81 (by decide) ?_
  refine hx_iadd C dL_reading_82 ?_
  obtain ⟨r27, e28, h⟩ := hx_bind h
  obtain ⟨g29, h⟩ := hx_gd h
  refine hx_callV (As := [.int (v1 + 1)]) (rest := []) (n := 1) (Cn := RX9) C (c_X9_read e28) gL_reading_X9_read g29 (by decide) rfl (by decide +kernel) ⟨Nat.le_of_ble_eq_true rfl, Nat.le_of_ble_eq_true rfl⟩ rfl rfl rfl ⟨Nat.zero_le _, Nat.zero_le _⟩ hl.1 rfl rfl (Nat.le_of_ble_eq_true rfl) dL_reading_83 ?_
  refine hx_iload C dL_reading_86 (lv_at hl 3 rfl) ?_
  refine hx_icmp_lt (tgt := 95) C dL_reading_88 (by decide) (fun c30 => ?_) (fun c30 => ?_)
  · have h := hx_pos c30 h
    exact w_L_reading_95 C hr v0 v2 v4 v5 v6 v7 X ls h (lv_sub hl [0, 2, 3, 4, 5, 6] rfl)
  · have h := hx_neg c30 h
    refine hx_iconst (v := 1) C dL_reading_91 (by decide) ?_
    refine hx_goto (tgt := 96) C dL_reading_92 (by decide) ?_
    exact w_L_reading_96 C hr v0 v2 v4 v5 v6 v7 1 X ls h (lv_sub hl [0, 2, 3, 4, 5, 6] rfl)
def f_L_reading (L : hL) (X : hX) (a1 : Nat) (a2 : Int32) (a3 : Int32) : Option (Int32) :=
  (f_X9_count L X a1 0).bind fun r31 =>
  if tk L a1 9 then
  (f_X9_read L X a1 a2).bind fun r34 =>
  (f_X9_allowed L X a1 r34 a3 0).bind fun r36 =>
  (f_X9_allowed L X a1 r34 a3 1).bind fun r38 =>
  (f_X9_allowed L X a1 r34 a3 2).bind fun r40 =>
  if r34 < 0 then
    f_L_reading_95 L a1 a3 r34 r36 r38 r40 X
  else
    if ¬ r31 = 0 then
    if (r34 - r34 / r31 * r31) = 0 then
      if a2 < 0 then
        f_L_reading_79 L a1 a2 a3 r34 r36 r38 r40 X
      else
        if r31 < (2 * (r34 - a2)) then
          f_L_reading_95 L a1 a3 r34 r36 r38 r40 X
        else
          if r31 < (2 * (a2 - r34)) then
            f_L_reading_95 L a1 a3 r34 r36 r38 r40 X
          else
            f_L_reading_79 L a1 a2 a3 r34 r36 r38 r40 X
    else
      f_L_reading_95 L a1 a3 r34 r36 r38 r40 X
    else none
  else none
set_option maxRecDepth 100000 in
set_option maxHeartbeats 4000000 in
theorem c_L_reading {l : Launch} {dC : Nat → ClassId} {dI : Nat → Nat → Nat} {cy : Nat → ClassId} {ad : Nat → Nat} {L : hL} {X : hX} {a1 : Nat} {a2 : Int32} {a3 : Int32} {r : Int32} (h : f_L_reading L X a1 a2 a3 = some r) : hMet l dC dI cy ad L yL_reading wsL_reading ({ frames := 5, cells := 0, slots := 0, locals := 116 } : Room) [.ref (ad a1), .int a2, .int a3] X (some (.int r)) X := by
  unfold f_L_reading at h
  refine hx_enter RL (plainFor_of_name (by decide)) rfl rfl (Nat.le_of_ble_eq_true rfl) (fun p e s m args below meth c C hr hnm ls hl => ?_)
  have hl : lv_has ls 11 [(0, .ref (ad a1)), (1, .int a2), (2, .int a3)] := hl
  refine hx_aload_n C dL_reading_0 rfl (lv_at hl 0 rfl) ?_
  refine hx_iconst (v := 0) C dL_reading_1 (by decide) ?_
  obtain ⟨r31, e32, h⟩ := hx_bind h
  obtain ⟨g33, h⟩ := hx_gd h
  refine hx_callV (As := [.int 0]) (rest := []) (n := 1) (Cn := RX9) C (c_X9_count e32) gL_reading_X9_count g33 (by decide) rfl (by decide +kernel) ⟨Nat.le_of_ble_eq_true rfl, Nat.le_of_ble_eq_true rfl⟩ rfl rfl rfl ⟨Nat.zero_le _, Nat.zero_le _⟩ hl.1 rfl rfl (Nat.le_of_ble_eq_true rfl) dL_reading_2 ?_
  refine hx_istore_n (lv' := [(3, .int r31), (0, .ref (ad a1)), (1, .int a2), (2, .int a3)]) C dL_reading_5 rfl hl (by decide) rfl (fun ls hl => ?_)
  refine hx_aload_n C dL_reading_6 rfl (lv_at hl 1 rfl) ?_
  refine hx_iload_n C dL_reading_7 rfl (lv_at hl 2 rfl) ?_
  obtain ⟨r34, e35, h⟩ := hx_bind h
  refine hx_callV (As := [.int a2]) (rest := []) (n := 1) (Cn := RX9) C (c_X9_read e35) gL_reading_X9_read g33 (by decide) rfl (by decide +kernel) ⟨Nat.le_of_ble_eq_true rfl, Nat.le_of_ble_eq_true rfl⟩ rfl rfl rfl ⟨Nat.zero_le _, Nat.zero_le _⟩ hl.1 rfl rfl (Nat.le_of_ble_eq_true rfl) dL_reading_8 ?_
  refine hx_istore (lv' := [(4, .int r34), (3, .int r31), (0, .ref (ad a1)), (1, .int a2), (2, .int a3)]) C dL_reading_11 hl (by decide) rfl (fun ls hl => ?_)
  refine hx_aload_n C dL_reading_13 rfl (lv_at hl 2 rfl) ?_
  refine hx_iload C dL_reading_14 (lv_at hl 0 rfl) ?_
  refine hx_iload_n C dL_reading_16 rfl (lv_at hl 4 rfl) ?_
  refine hx_iconst (v := 0) C dL_reading_17 (by decide) ?_
  obtain ⟨r36, e37, h⟩ := hx_bind h
  refine hx_callV (As := [.int r34, .int a3, .int 0]) (rest := []) (n := 3) (Cn := RX9) C (c_X9_allowed e37) gL_reading_X9_allowed g33 (by decide) rfl (by decide +kernel) ⟨Nat.le_of_ble_eq_true rfl, Nat.le_of_ble_eq_true rfl⟩ rfl rfl rfl ⟨Nat.zero_le _, Nat.zero_le _⟩ hl.1 rfl rfl (Nat.le_of_ble_eq_true rfl) dL_reading_18 ?_
  refine hx_istore (lv' := [(5, .int r36), (4, .int r34), (3, .int r31), (0, .ref (ad a1)), (1, .int a2), (2, .int a3)]) C dL_reading_21 hl (by decide) rfl (fun ls hl => ?_)
  refine hx_aload_n C dL_reading_23 rfl (lv_at hl 3 rfl) ?_
  refine hx_iload C dL_reading_24 (lv_at hl 1 rfl) ?_
  refine hx_iload_n C dL_reading_26 rfl (lv_at hl 5 rfl) ?_
  refine hx_iconst (v := 1) C dL_reading_27 (by decide) ?_
  obtain ⟨r38, e39, h⟩ := hx_bind h
  refine hx_callV (As := [.int r34, .int a3, .int 1]) (rest := []) (n := 3) (Cn := RX9) C (c_X9_allowed e39) gL_reading_X9_allowed g33 (by decide) rfl (by decide +kernel) ⟨Nat.le_of_ble_eq_true rfl, Nat.le_of_ble_eq_true rfl⟩ rfl rfl rfl ⟨Nat.zero_le _, Nat.zero_le _⟩ hl.1 rfl rfl (Nat.le_of_ble_eq_true rfl) dL_reading_28 ?_
  refine hx_istore (lv' := [(6, .int r38), (5, .int r36), (4, .int r34), (3, .int r31), (0, .ref (ad a1)), (1, .int a2), (2, .int a3)]) C dL_reading_31 hl (by decide) rfl (fun ls hl => ?_)
  refine hx_aload_n C dL_reading_33 rfl (lv_at hl 4 rfl) ?_
  refine hx_iload C dL_reading_34 (lv_at hl 2 rfl) ?_
  refine hx_iload_n C dL_reading_36 rfl (lv_at hl 6 rfl) ?_
  refine hx_iconst (v := 2) C dL_reading_37 (by decide) ?_
  obtain ⟨r40, e41, h⟩ := hx_bind h
  refine hx_callV (As := [.int r34, .int a3, .int 2]) (rest := []) (n := 3) (Cn := RX9) C (c_X9_allowed e41) gL_reading_X9_allowed g33 (by decide) rfl (by decide +kernel) ⟨Nat.le_of_ble_eq_true rfl, Nat.le_of_ble_eq_true rfl⟩ rfl rfl rfl ⟨Nat.zero_le _, Nat.zero_le _⟩ hl.1 rfl rfl (Nat.le_of_ble_eq_true rfl) dL_reading_38 ?_
  refine hx_istore (lv' := [(7, .int r40), (6, .int r38), (5, .int r36), (4, .int r34), (3, .int r31), (0, .ref (ad a1)), (1, .int a2), (2, .int a3)]) C dL_reading_41 hl (by decide) rfl (fun ls hl => ?_)
  refine hx_iload C dL_reading_43 (lv_at hl 3 rfl) ?_
  refine hx_if_lt (tgt := 95) C dL_reading_45 (by decide) (fun c42 => ?_) (fun c42 => ?_)
  · have h := hx_pos c42 h
    exact w_L_reading_95 C hr a1 a3 r34 r36 r38 r40 X ls h (lv_sub hl [5, 7, 3, 2, 1, 0] rfl)
  · have h := hx_neg c42 h
    refine hx_iload C dL_reading_48 (lv_at hl 3 rfl) ?_
    refine hx_iload_n C dL_reading_50 rfl (lv_at hl 4 rfl) ?_
    obtain ⟨g43, h⟩ := hx_gd h
    refine hx_irem C dL_reading_51 g43 ?_
    refine hx_if_ne (tgt := 95) C dL_reading_52 (by decide) (fun c44 => ?_) (fun c44 => ?_)
    · have h := hx_neg c44 h
      exact w_L_reading_95 C hr a1 a3 r34 r36 r38 r40 X ls h (lv_sub hl [5, 7, 3, 2, 1, 0] rfl)
    · have h := hx_pos c44 h
      refine hx_iload_n C dL_reading_55 rfl (lv_at hl 6 rfl) ?_
      refine hx_if_lt (tgt := 79) C dL_reading_56 (by decide) (fun c45 => ?_) (fun c45 => ?_)
      · have h := hx_pos c45 h
        exact w_L_reading_79 C hr a1 a2 a3 r34 r36 r38 r40 X ls h (lv_sub hl [5, 6, 7, 3, 2, 1, 0] rfl)
      · have h := hx_neg c45 h
        refine hx_iconst (v := 2) C dL_reading_59 (by decide) ?_
        refine hx_iload C dL_reading_60 (lv_at hl 3 rfl) ?_
        refine hx_iload_n C dL_reading_62 rfl (lv_at hl 6 rfl) ?_
        refine hx_isub C dL_reading_63 ?_
        refine hx_imul C dL_reading_64 ?_
        refine hx_iload_n C dL_reading_65 rfl (lv_at hl 4 rfl) ?_
        refine hx_icmp_gt (tgt := 95) C dL_reading_66 (by decide) (fun c46 => ?_) (fun c46 => ?_)
        · have h := hx_pos c46 h
          exact w_L_reading_95 C hr a1 a3 r34 r36 r38 r40 X ls h (lv_sub hl [5, 7, 3, 2, 1, 0] rfl)
        · have h := hx_neg c46 h
          refine hx_iconst (v := 2) C dL_reading_69 (by decide) ?_
          refine hx_iload_n C dL_reading_70 rfl (lv_at hl 6 rfl) ?_
          refine hx_iload C dL_reading_71 (lv_at hl 3 rfl) ?_
          refine hx_isub C dL_reading_73 ?_
          refine hx_imul C dL_reading_74 ?_
          refine hx_iload_n C dL_reading_75 rfl (lv_at hl 4 rfl) ?_
          refine hx_icmp_gt (tgt := 95) C dL_reading_76 (by decide) (fun c47 => ?_) (fun c47 => ?_)
          · have h := hx_pos c47 h
            exact w_L_reading_95 C hr a1 a3 r34 r36 r38 r40 X ls h (lv_sub hl [5, 7, 3, 2, 1, 0] rfl)
          · have h := hx_neg c47 h
            exact w_L_reading_79 C hr a1 a2 a3 r34 r36 r38 r40 X ls h (lv_sub hl [5, 6, 7, 3, 2, 1, 0] rfl)
