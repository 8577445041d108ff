theorem uX10_claims_10 : ∀ w ∈ u_ws RX10 TX10 15, w ∈ wsX10_claims := by decide +kernel
def f_X10_claims_161 (L : hL) (v0 : Nat) (v2 : Int32) (v3 : Int32) (v4 : Int32) (v5 : Int32) (s0 : Int32) (s1 : Int32) (s2 : Nat) (X : hX) : Option (Int32 × hX) :=
  if tk L s2 12 then
  if hin s1 (L.2.2 s2) then
  (f_X10_far L (smi X s2 (Int32.toNatClampNeg s1) s0) v2 v3).bind fun r3 =>
  (f_X10_far L (smi X s2 (Int32.toNatClampNeg s1) s0) v4 v3).bind fun r5 =>
  if r5 ≤ r3 then
    if tk L v0 10 then
    (X.2 v0 0).bind fun q9 =>
    if tk L q9 12 then
    if hin v5 (L.2.2 q9) then
    if 12 < L.2.2 q9 then
    if ((smi X s2 (Int32.toNatClampNeg s1) s0).1 q9 12) ≤ ((smi X s2 (Int32.toNatClampNeg s1) s0).1 q9 (Int32.toNatClampNeg v5)) then
      some (2, smi (smi X s2 (Int32.toNatClampNeg s1) s0) q9 (Int32.toNatClampNeg v5) (((smi X s2 (Int32.toNatClampNeg s1) s0).1 q9 (Int32.toNatClampNeg v5)) - ((smi X s2 (Int32.toNatClampNeg s1) s0).1 q9 12)))
    else
      some (2, smi (smi X s2 (Int32.toNatClampNeg s1) s0) q9 (Int32.toNatClampNeg v5) 0)
    else none
    else none
    else none
    else none
  else
    some (1, smi X s2 (Int32.toNatClampNeg s1) s0)
  else none
  else none
set_option maxRecDepth 100000 in
set_option maxHeartbeats 4000000 in
theorem w_X10_claims_161 {p : Program} {l : Launch} {e : Env} {s : State} {m : MethodId} {args : Array Value} {below : List Frame} {meth : Method} {c : Code} {dC : Nat → ClassId} {dI : Nat → Nat → Nat} {cy : Nat → ClassId} {ad : Nat → Nat} {L : hL} {r : Int32} {X' : hX} (C : hC p s m args meth c dC dI cy ad L (hA ad L s.heap.size) cX10_claims 6 wsX10_claims RX10) (hr : meth.sig.returnType = (some .int)) : ∀ (v0 : Nat) (v2 : Int32) (v3 : Int32) (v4 : Int32) (v5 : Int32) (s0 : Int32) (s1 : Int32) (s2 : Nat) (X : hX) (ls : Array Slot), f_X10_claims_161 L v0 v2 v3 v4 v5 s0 s1 s2 X = some (r, X') → lv_has ls 6 [(0, .ref (ad v0)), (2, .int v2), (3, .int v3), (4, .int v4), (5, .int v5)] → hG p l e (headSpec wsX10_claims ({ frames := 3, cells := 0, slots := 0, locals := 68 } : Room)).room s m args below meth c dC dI cy ad L (hA ad L s.heap.size) 0 0 (MQ below (hQ dC dI cy ad L s.heap.size (some (.int r)) X') args s 0 0 (hA ad L s.heap.size)) X 161 ls [.int s0, .int s1, .ref (ad s2)] := by
  intro v0 v2 v3 v4 v5 s0 s1 s2 X ls h hl
  unfold f_X10_claims_161 at h
  obtain ⟨g1, h⟩ := hx_gd h
  obtain ⟨g2, h⟩ := hx_gd h
  refine hx_iast (n := (Int32.toNatClampNeg s1)) C g1 g2 rfl dX10_claims_161 ?_
  refine hx_iload_n C dX10_claims_162 rfl (lv_at hl 1 rfl) ?_
  refine hx_iload_n C dX10_claims_163 rfl (lv_at hl 2 rfl) ?_
  obtain ⟨r3, e4, h⟩ := hx_bind h
  refine hx_callS (As := [.int v2, .int v3]) (rest := []) (n := 2) C (c_X10_far e4) gX10_claims_X10_far (by decide +kernel) ⟨Nat.le_of_ble_eq_true rfl, Nat.le_of_ble_eq_true rfl⟩ rfl rfl rfl ⟨Nat.zero_le _, Nat.zero_le _⟩ hl.1 rfl rfl (Nat.le_of_ble_eq_true rfl) dX10_claims_164 ?_
  refine hx_iload C dX10_claims_167 (lv_at hl 3 rfl) ?_
  refine hx_iload_n C dX10_claims_169 rfl (lv_at hl 2 rfl) ?_
  obtain ⟨r5, e6, h⟩ := hx_bind h
  refine hx_callS (As := [.int v4, .int v3]) (rest := [.int r3]) (n := 2) C (c_X10_far e6) gX10_claims_X10_far (by decide +kernel) ⟨Nat.le_of_ble_eq_true rfl, Nat.le_of_ble_eq_true rfl⟩ rfl rfl rfl ⟨Nat.zero_le _, Nat.zero_le _⟩ hl.1 rfl rfl (Nat.le_of_ble_eq_true rfl) dX10_claims_170 ?_
  refine hx_icmp_ge (tgt := 178) C dX10_claims_173 (by decide) (fun c7 => ?_) (fun c7 => ?_)
  · have h := hx_pos c7 h
    refine hx_aload_n C dX10_claims_178 rfl (lv_at hl 0 rfl) ?_
    obtain ⟨g8, h⟩ := hx_gd h
    obtain ⟨q9, e10, h⟩ := hx_bind h
    refine hx_getr C (ci := 10) (j := 0) g8 uX10_claims_10 (by decide) rfl (by decide) rfl (by decide +kernel) rfl dX10_claims_179 e10 ?_
    refine hx_iload C dX10_claims_182 (lv_at hl 4 rfl) ?_
    refine hx_aload_n C dX10_claims_184 rfl (lv_at hl 0 rfl) ?_
    refine hx_getr C (ci := 10) (j := 0) g8 uX10_claims_10 (by decide) rfl (by decide) rfl (by decide +kernel) rfl dX10_claims_185 e10 ?_
    refine hx_iload C dX10_claims_188 (lv_at hl 4 rfl) ?_
    obtain ⟨g11, h⟩ := hx_gd h
    obtain ⟨g12, h⟩ := hx_gd h
    refine hx_iald (n := (Int32.toNatClampNeg v5)) C g11 g12 rfl dX10_claims_190 ?_
    refine hx_aload_n C dX10_claims_191 rfl (lv_at hl 0 rfl) ?_
    refine hx_getr C (ci := 10) (j := 0) g8 uX10_claims_10 (by decide) rfl (by decide) rfl (by decide +kernel) rfl dX10_claims_192 e10 ?_
    refine hx_bipush (v := 12) C dX10_claims_195 (by decide) ?_
    obtain ⟨g13, h⟩ := hx_gd h
    refine hx_iald (n := 12) C g11 (hin_lit (i := 12) (by decide) rfl g13) rfl dX10_claims_197 ?_
    refine hx_icmp_ge (tgt := 205) C dX10_claims_198 (by decide) (fun c14 => ?_) (fun c14 => ?_)
    · have h := hx_pos c14 h
      refine hx_aload_n C dX10_claims_205 rfl (lv_at hl 0 rfl) ?_
      refine hx_getr C (ci := 10) (j := 0) g8 uX10_claims_10 (by decide) rfl (by decide) rfl (by decide +kernel) rfl dX10_claims_206 e10 ?_
      refine hx_iload C dX10_claims_209 (lv_at hl 4 rfl) ?_
      refine hx_iald (n := (Int32.toNatClampNeg v5)) C g11 g12 rfl dX10_claims_211 ?_
      refine hx_aload_n C dX10_claims_212 rfl (lv_at hl 0 rfl) ?_
      refine hx_getr C (ci := 10) (j := 0) g8 uX10_claims_10 (by decide) rfl (by decide) rfl (by decide +kernel) rfl dX10_claims_213 e10 ?_
      refine hx_bipush (v := 12) C dX10_claims_216 (by decide) ?_
      refine hx_iald (n := 12) C g11 (hin_lit (i := 12) (by decide) rfl g13) rfl dX10_claims_218 ?_
      refine hx_isub C dX10_claims_219 ?_
      refine hx_iast (n := (Int32.toNatClampNeg v5)) C g11 g12 rfl dX10_claims_220 ?_
      refine hx_iconst (v := 2) C dX10_claims_221 (by decide) ?_
      obtain ⟨rfl, rfl⟩ := hx_some2 h
      exact hx_iret C hr dX10_claims_222
    · have h := hx_neg c14 h
      refine hx_iconst (v := 0) C dX10_claims_201 (by decide) ?_
      refine hx_goto (tgt := 220) C dX10_claims_202 (by decide) ?_
      refine hx_iast (n := (Int32.toNatClampNeg v5)) C g11 g12 rfl dX10_claims_220 ?_
      refine hx_iconst (v := 2) C dX10_claims_221 (by decide) ?_
      obtain ⟨rfl, rfl⟩ := hx_some2 h
      exact hx_iret C hr dX10_claims_222
  · have h := hx_neg c7 h
    refine hx_iconst (v := 1) C dX10_claims_176 (by decide) ?_
    obtain ⟨rfl, rfl⟩ := hx_some2 h
    exact hx_iret C hr dX10_claims_177
def f_X10_claims (L : hL) (X : hX) (this : Nat) (a1 : Int32) (a2 : Int32) : Option (Int32 × hX) :=
  (f_X10_isCustomer L X this a1).bind fun r15 =>
  if tk L this 10 then
  if r15 = 0 then
    some ((-100001), X)
  else
    (f_X10_in L X a2 0 9999).bind fun r19 =>
    if r19 = 0 then
      some ((-100001), X)
    else
      (f_X10_of L X this a1 3).bind fun r22 =>
      (f_X10_of L X this a1 5).bind fun r24 =>
      (f_X10_of L X this a1 1).bind fun r26 =>
      if r26 = 0 then
        some ((-100002), X)
      else
        if a2 = r24 then
          some ((-100002), X)
        else
          (X.2 this 0).bind fun q30 =>
          if tk L q30 12 then
          if hin ((16 + (6 * a1)) + 1) (L.2.2 q30) then
          (f_X10_of L (smi X q30 (Int32.toNatClampNeg ((16 + (6 * a1)) + 1)) 0) this a1 4).bind fun r34 =>
          (f_X10_of L (smi X q30 (Int32.toNatClampNeg ((16 + (6 * a1)) + 1)) 0) this a1 2).bind fun r36 =>
          (f_X10_allows L (smi X q30 (Int32.toNatClampNeg ((16 + (6 * a1)) + 1)) 0) this r34 r36).bind fun r38 =>
          if r38.1 = 0 then
            some (0, r38.2)
          else
            (f_X10_in L r38.2 a2 (r38.2.1 this 13) (r38.2.1 this 14)).bind fun r41 =>
            if r41 = 0 then
              some (0, r38.2)
            else
              (r38.2.2 this 0).bind fun q44 =>
              if tk L q44 12 then
              if 13 < L.2.2 q44 then
              if hin (16 + (6 * a1)) (L.2.2 q44) then
              if 0 ≤ ((((smi r38.2 q44 13 ((r38.2.1 q44 13) + (r22 - r24))).1 q44 (Int32.toNatClampNeg (16 + (6 * a1)))) + r22) - r24) then
                f_X10_claims_161 L this a2 r22 r24 (16 + (6 * a1)) ((((smi r38.2 q44 13 ((r38.2.1 q44 13) + (r22 - r24))).1 q44 (Int32.toNatClampNeg (16 + (6 * a1)))) + r22) - r24) (16 + (6 * a1)) q44 (smi r38.2 q44 13 ((r38.2.1 q44 13) + (r22 - r24)))
              else
                f_X10_claims_161 L this a2 r22 r24 (16 + (6 * a1)) 0 (16 + (6 * a1)) q44 (smi r38.2 q44 13 ((r38.2.1 q44 13) + (r22 - r24)))
              else none
              else none
              else none
          else none
          else none
  else none
set_option maxRecDepth 100000 in
set_option maxHeartbeats 4000000 in
theorem c_X10_claims {l : Launch} {dC : Nat → ClassId} {dI : Nat → Nat → Nat} {cy : Nat → ClassId} {ad : Nat → Nat} {L : hL} {X : hX} {this : Nat} {a1 : Int32} {a2 : Int32} {r : Int32} {X' : hX} (h : f_X10_claims L X this a1 a2 = some (r, X')) : hMet l dC dI cy ad L yX10_claims wsX10_claims ({ frames := 3, cells := 0, slots := 0, locals := 68 } : Room) [.ref (ad this), .int a1, .int a2] X (some (.int r)) X' := by
  unfold f_X10_claims at h
  refine hx_enter RX10 (plainFor_of_name (by decide)) rfl rfl (Nat.le_of_ble_eq_true rfl) (fun p e s m args below meth c C hr hnm ls hl => ?_)
  have hl : lv_has ls 6 [(0, .ref (ad this)), (1, .int a1), (2, .int a2)] := hl
  refine hx_aload_n C dX10_claims_0 rfl (lv_at hl 0 rfl) ?_
  refine hx_iload_n C dX10_claims_1 rfl (lv_at hl 1 rfl) ?_
  obtain ⟨r15, e16, h⟩ := hx_bind h
  obtain ⟨g17, h⟩ := hx_gd h
  refine hx_callV (As := [.int a1]) (rest := []) (n := 1) (Cn := RX10) C (c_X10_isCustomer e16) gX10_claims_X10_isCustomer g17 (by decide) rfl (by decide +kernel) ⟨Nat.le_of_ble_eq_true rfl, Nat.le_of_ble_eq_true rfl⟩ rfl rfl rfl ⟨Nat.zero_le _, Nat.zero_le _⟩ hl.1 rfl rfl (Nat.le_of_ble_eq_true rfl) dX10_claims_2 ?_
  refine hx_if_eq (tgt := 19) C dX10_claims_5 (by decide) (fun c18 => ?_) (fun c18 => ?_)
  · have h := hx_pos c18 h
    refine hx_ldc (v := (-100001)) C (by decide +kernel) dX10_claims_19 ?_
    obtain ⟨rfl, rfl⟩ := hx_some2 h
    exact hx_iret C hr dX10_claims_21
  · have h := hx_neg c18 h
    refine hx_iload_n C dX10_claims_8 rfl (lv_at hl 2 rfl) ?_
    refine hx_iconst (v := 0) C dX10_claims_9 (by decide) ?_
    refine hx_sipush (v := 9999) C dX10_claims_10 (by decide) ?_
    obtain ⟨r19, e20, h⟩ := hx_bind h
    refine hx_callS (As := [.int a2, .int 0, .int 9999]) (rest := []) (n := 3) C (c_X10_in e20) gX10_claims_X10_in (by decide +kernel) ⟨Nat.le_of_ble_eq_true rfl, Nat.le_of_ble_eq_true rfl⟩ rfl rfl rfl ⟨Nat.zero_le _, Nat.zero_le _⟩ hl.1 rfl rfl (Nat.le_of_ble_eq_true rfl) dX10_claims_13 ?_
    refine hx_if_ne (tgt := 22) C dX10_claims_16 (by decide) (fun c21 => ?_) (fun c21 => ?_)
    · have h := hx_neg c21 h
      refine hx_aload_n C dX10_claims_22 rfl (lv_at hl 0 rfl) ?_
      refine hx_iload_n C dX10_claims_23 rfl (lv_at hl 1 rfl) ?_
      refine hx_iconst (v := 3) C dX10_claims_24 (by decide) ?_
      obtain ⟨r22, e23, h⟩ := hx_bind h
      refine hx_callV (As := [.int a1, .int 3]) (rest := []) (n := 2) (Cn := RX10) C (c_X10_of e23) gX10_claims_X10_of g17 (by decide) rfl (by decide +kernel) ⟨Nat.le_of_ble_eq_true rfl, Nat.le_of_ble_eq_true rfl⟩ rfl rfl rfl ⟨Nat.zero_le _, Nat.zero_le _⟩ hl.1 rfl rfl (Nat.le_of_ble_eq_true rfl) dX10_claims_25 ?_
      refine hx_istore_n (lv' := [(3, .int r22), (0, .ref (ad this)), (1, .int a1), (2, .int a2)]) C dX10_claims_28 rfl hl (by decide) rfl (fun ls hl => ?_)
      refine hx_aload_n C dX10_claims_29 rfl (lv_at hl 1 rfl) ?_
      refine hx_iload_n C dX10_claims_30 rfl (lv_at hl 2 rfl) ?_
      refine hx_iconst (v := 5) C dX10_claims_31 (by decide) ?_
      obtain ⟨r24, e25, h⟩ := hx_bind h
      refine hx_callV (As := [.int a1, .int 5]) (rest := []) (n := 2) (Cn := RX10) C (c_X10_of e25) gX10_claims_X10_of g17 (by decide) rfl (by decide +kernel) ⟨Nat.le_of_ble_eq_true rfl, Nat.le_of_ble_eq_true rfl⟩ rfl rfl rfl ⟨Nat.zero_le _, Nat.zero_le _⟩ hl.1 rfl rfl (Nat.le_of_ble_eq_true rfl) dX10_claims_32 ?_
      refine hx_istore (lv' := [(4, .int r24), (3, .int r22), (0, .ref (ad this)), (1, .int a1), (2, .int a2)]) C dX10_claims_35 hl (by decide) rfl (fun ls hl => ?_)
      refine hx_aload_n C dX10_claims_37 rfl (lv_at hl 2 rfl) ?_
      refine hx_iload_n C dX10_claims_38 rfl (lv_at hl 3 rfl) ?_
      refine hx_iconst (v := 1) C dX10_claims_39 (by decide) ?_
      obtain ⟨r26, e27, h⟩ := hx_bind h
      refine hx_callV (As := [.int a1, .int 1]) (rest := []) (n := 2) (Cn := RX10) C (c_X10_of e27) gX10_claims_X10_of g17 (by decide) rfl (by decide +kernel) ⟨Nat.le_of_ble_eq_true rfl, Nat.le_of_ble_eq_true rfl⟩ rfl rfl rfl ⟨Nat.zero_le _, Nat.zero_le _⟩ hl.1 rfl rfl (Nat.le_of_ble_eq_true rfl) dX10_claims_40 ?_
      refine hx_if_eq (tgt := 52) C dX10_claims_43 (by decide) (fun c28 => ?_) (fun c28 => ?_)
      · have h := hx_pos c28 h
        refine hx_ldc (v := (-100002)) C (by decide +kernel) dX10_claims_52 ?_
        obtain ⟨rfl, rfl⟩ := hx_some2 h
        exact hx_iret C hr dX10_claims_54
      · have h := hx_neg c28 h
        refine hx_iload_n C dX10_claims_46 rfl (lv_at hl 4 rfl) ?_
        refine hx_iload C dX10_claims_47 (lv_at hl 0 rfl) ?_
        refine hx_icmp_ne (tgt := 55) C dX10_claims_49 (by decide) (fun c29 => ?_) (fun c29 => ?_)
        · have h := hx_neg c29 h
          refine hx_bipush (v := 16) C dX10_claims_55 (by decide) ?_
          refine hx_bipush (v := 6) C dX10_claims_57 (by decide) ?_
          refine hx_iload_n C dX10_claims_59 rfl (lv_at hl 3 rfl) ?_
          refine hx_imul C dX10_claims_60 ?_
          refine hx_iadd C dX10_claims_61 ?_
          refine hx_istore (lv' := [(5, .int (16 + (6 * a1))), (4, .int r24), (3, .int r22), (0, .ref (ad this)), (1, .int a1), (2, .int a2)]) C dX10_claims_62 hl (by decide) rfl (fun ls hl => ?_)
          refine hx_aload_n C dX10_claims_64 rfl (lv_at hl 3 rfl) ?_
          obtain ⟨q30, e31, h⟩ := hx_bind h
          refine hx_getr C (ci := 10) (j := 0) g17 uX10_claims_10 (by decide) rfl (by decide) rfl (by decide +kernel) rfl dX10_claims_65 e31 ?_
          refine hx_iload C dX10_claims_68 (lv_at hl 0 rfl) ?_
          refine hx_iconst (v := 1) C dX10_claims_70 (by decide) ?_
          refine hx_iadd C dX10_claims_71 ?_
          refine hx_iconst (v := 0) C dX10_claims_72 (by decide) ?_
          obtain ⟨g32, h⟩ := hx_gd h
          obtain ⟨g33, h⟩ := hx_gd h
          refine hx_iast (n := (Int32.toNatClampNeg ((16 + (6 * a1)) + 1))) C g32 g33 rfl dX10_claims_73 ?_
          refine hx_aload_n C dX10_claims_74 rfl (lv_at hl 3 rfl) ?_
          refine hx_aload_n C dX10_claims_75 rfl (lv_at hl 3 rfl) ?_
          refine hx_iload_n C dX10_claims_76 rfl (lv_at hl 4 rfl) ?_
          refine hx_iconst (v := 4) C dX10_claims_77 (by decide) ?_
          obtain ⟨r34, e35, h⟩ := hx_bind h
          refine hx_callV (As := [.int a1, .int 4]) (rest := [.ref (ad this)]) (n := 2) (Cn := RX10) C (c_X10_of e35) gX10_claims_X10_of g17 (by decide) rfl (by decide +kernel) ⟨Nat.le_of_ble_eq_true rfl, Nat.le_of_ble_eq_true rfl⟩ rfl rfl rfl ⟨Nat.zero_le _, Nat.zero_le _⟩ hl.1 rfl rfl (Nat.le_of_ble_eq_true rfl) dX10_claims_78 ?_
          refine hx_aload_n C dX10_claims_81 rfl (lv_at hl 3 rfl) ?_
          refine hx_iload_n C dX10_claims_82 rfl (lv_at hl 4 rfl) ?_
          refine hx_iconst (v := 2) C dX10_claims_83 (by decide) ?_
          obtain ⟨r36, e37, h⟩ := hx_bind h
          refine hx_callV (As := [.int a1, .int 2]) (rest := [.int r34, .ref (ad this)]) (n := 2) (Cn := RX10) C (c_X10_of e37) gX10_claims_X10_of g17 (by decide) rfl (by decide +kernel) ⟨Nat.le_of_ble_eq_true rfl, Nat.le_of_ble_eq_true rfl⟩ rfl rfl rfl ⟨Nat.zero_le _, Nat.zero_le _⟩ hl.1 rfl rfl (Nat.le_of_ble_eq_true rfl) dX10_claims_84 ?_
          obtain ⟨r38, e39, h⟩ := hx_bind h
          refine hx_callV (As := [.int r34, .int r36]) (rest := []) (n := 2) (Cn := RX10) C (c_X10_allows e39) gX10_claims_X10_allows g17 (by decide) rfl (by decide +kernel) ⟨Nat.le_of_ble_eq_true rfl, Nat.le_of_ble_eq_true rfl⟩ rfl rfl rfl ⟨Nat.zero_le _, Nat.zero_le _⟩ hl.1 rfl rfl (Nat.le_of_ble_eq_true rfl) dX10_claims_87 ?_
          refine hx_if_eq (tgt := 108) C dX10_claims_90 (by decide) (fun c40 => ?_) (fun c40 => ?_)
          · have h := hx_pos c40 h
            refine hx_iconst (v := 0) C dX10_claims_108 (by decide) ?_
            obtain ⟨rfl, rfl⟩ := hx_some2 h
            exact hx_iret C hr dX10_claims_109
          · have h := hx_neg c40 h
            refine hx_iload_n C dX10_claims_93 rfl (lv_at hl 5 rfl) ?_
            refine hx_aload_n C dX10_claims_94 rfl (lv_at hl 3 rfl) ?_
            refine hx_geti C (ci := 10) (j := 13) g17 uX10_claims_10 (by decide) rfl (by decide) rfl (by decide +kernel) rfl dX10_claims_95 ?_
            refine hx_aload_n C dX10_claims_98 rfl (lv_at hl 3 rfl) ?_
            refine hx_geti C (ci := 10) (j := 14) g17 uX10_claims_10 (by decide) rfl (by decide) rfl (by decide +kernel) rfl dX10_claims_99 ?_
            obtain ⟨r41, e42, h⟩ := hx_bind h
            refine hx_callS (As := [.int a2, .int (r38.2.1 this 13), .int (r38.2.1 this 14)]) (rest := []) (n := 3) C (c_X10_in e42) gX10_claims_X10_in (by decide +kernel) ⟨Nat.le_of_ble_eq_true rfl, Nat.le_of_ble_eq_true rfl⟩ rfl rfl rfl ⟨Nat.zero_le _, Nat.zero_le _⟩ hl.1 rfl rfl (Nat.le_of_ble_eq_true rfl) dX10_claims_102 ?_
            refine hx_if_ne (tgt := 110) C dX10_claims_105 (by decide) (fun c43 => ?_) (fun c43 => ?_)
            · have h := hx_neg c43 h
              refine hx_aload_n C dX10_claims_110 rfl (lv_at hl 3 rfl) ?_
              obtain ⟨q44, e45, h⟩ := hx_bind h
              refine hx_getr C (ci := 10) (j := 0) g17 uX10_claims_10 (by decide) rfl (by decide) rfl (by decide +kernel) rfl dX10_claims_111 e45 ?_
              refine hx_bipush (v := 13) C dX10_claims_114 (by decide) ?_
              refine hx_dup2 C dX10_claims_116 rfl rfl ?_
              obtain ⟨g46, h⟩ := hx_gd h
              obtain ⟨g47, h⟩ := hx_gd h
              refine hx_iald (n := 13) C g46 (hin_lit (i := 13) (by decide) rfl g47) rfl dX10_claims_117 ?_
              refine hx_iload_n C dX10_claims_118 rfl (lv_at hl 2 rfl) ?_
              refine hx_iload C dX10_claims_119 (lv_at hl 1 rfl) ?_
              refine hx_isub C dX10_claims_121 ?_
              refine hx_iadd C dX10_claims_122 ?_
              refine hx_iast (n := 13) C g46 (hin_lit (i := 13) (by decide) rfl g47) rfl dX10_claims_123 ?_
              refine hx_aload_n C dX10_claims_124 rfl (lv_at hl 3 rfl) ?_
              refine hx_getr C (ci := 10) (j := 0) g17 uX10_claims_10 (by decide) rfl (by decide) rfl (by decide +kernel) rfl dX10_claims_125 e45 ?_
              refine hx_iload C dX10_claims_128 (lv_at hl 0 rfl) ?_
              refine hx_aload_n C dX10_claims_130 rfl (lv_at hl 3 rfl) ?_
              refine hx_getr C (ci := 10) (j := 0) g17 uX10_claims_10 (by decide) rfl (by decide) rfl (by decide +kernel) rfl dX10_claims_131 e45 ?_
              refine hx_iload C dX10_claims_134 (lv_at hl 0 rfl) ?_
              obtain ⟨g48, h⟩ := hx_gd h
              refine hx_iald (n := (Int32.toNatClampNeg (16 + (6 * a1)))) C g46 g48 rfl dX10_claims_136 ?_
              refine hx_iload_n C dX10_claims_137 rfl (lv_at hl 2 rfl) ?_
              refine hx_iadd C dX10_claims_138 ?_
              refine hx_iload C dX10_claims_139 (lv_at hl 1 rfl) ?_
              refine hx_isub C dX10_claims_141 ?_
              refine hx_if_ge (tgt := 149) C dX10_claims_142 (by decide) (fun c49 => ?_) (fun c49 => ?_)
              · have h := hx_pos c49 h
                refine hx_aload_n C dX10_claims_149 rfl (lv_at hl 3 rfl) ?_
                refine hx_getr C (ci := 10) (j := 0) g17 uX10_claims_10 (by decide) rfl (by decide) rfl (by decide +kernel) rfl dX10_claims_150 e45 ?_
                refine hx_iload C dX10_claims_153 (lv_at hl 0 rfl) ?_
                refine hx_iald (n := (Int32.toNatClampNeg (16 + (6 * a1)))) C g46 g48 rfl dX10_claims_155 ?_
                refine hx_iload_n C dX10_claims_156 rfl (lv_at hl 2 rfl) ?_
                refine hx_iadd C dX10_claims_157 ?_
                refine hx_iload C dX10_claims_158 (lv_at hl 1 rfl) ?_
                refine hx_isub C dX10_claims_160 ?_
                exact w_X10_claims_161 C hr this a2 r22 r24 (16 + (6 * a1)) ((((smi r38.2 q44 13 ((r38.2.1 q44 13) + (r22 - r24))).1 q44 (Int32.toNatClampNeg (16 + (6 * a1)))) + r22) - r24) (16 + (6 * a1)) q44 (smi r38.2 q44 13 ((r38.2.1 q44 13) + (r22 - r24))) ls h (lv_sub hl [3, 5, 2, 1, 0] rfl)
              · have h := hx_neg c49 h
                refine hx_iconst (v := 0) C dX10_claims_145 (by decide) ?_
                refine hx_goto (tgt := 161) C dX10_claims_146 (by decide) ?_
                exact w_X10_claims_161 C hr this a2 r22 r24 (16 + (6 * a1)) 0 (16 + (6 * a1)) q44 (smi r38.2 q44 13 ((r38.2.1 q44 13) + (r22 - r24))) ls h (lv_sub hl [3, 5, 2, 1, 0] rfl)
            · have h := hx_pos c43 h
              refine hx_iconst (v := 0) C dX10_claims_108 (by decide) ?_
              obtain ⟨rfl, rfl⟩ := hx_some2 h
              exact hx_iret C hr dX10_claims_109
        · have h := hx_pos c29 h
          refine hx_ldc (v := (-100002)) C (by decide +kernel) dX10_claims_52 ?_
          obtain ⟨rfl, rfl⟩ := hx_some2 h
          exact hx_iret C hr dX10_claims_54
    · have h := hx_pos c21 h
      refine hx_ldc (v := (-100001)) C (by decide +kernel) dX10_claims_19 ?_
      obtain ⟨rfl, rfl⟩ := hx_some2 h
      exact hx_iret C hr dX10_claims_21
def f_X10_claim (L : hL) (X : hX) (this : Nat) (a1 : Int32) (a2 : Int32) : Option (Int32 × hX) :=
  (f_X10_keeps L X this).bind fun r1 =>
  if tk L this 10 then
  (f_X10_claims L r1 this a1 a2).bind fun r4 =>
  (f_X10_acted L r4.2 this r4.1).bind fun r6 =>
  some (r6.1, r6.2)
  else none
set_option maxRecDepth 100000 in
set_option maxHeartbeats 4000000 in
theorem c_X10_claim {l : Launch} {dC : Nat → ClassId} {dI : Nat → Nat → Nat} {cy : Nat → ClassId} {ad : Nat → Nat} {L : hL} {X : hX} {this : Nat} {a1 : Int32} {a2 : Int32} {r : Int32} {X' : hX} (h : f_X10_claim L X this a1 a2 = some (r, X')) : hMet l dC dI cy ad L yX10_claim wsX10_claim ({ frames := 4, cells := 0, slots := 0, locals := 93 } : Room) [.ref (ad this), .int a1, .int a2] X (some (.int r)) X' := by
  unfold f_X10_claim at h
  refine hx_enter RX10 (plainFor_of_name (by decide)) rfl rfl (Nat.le_of_ble_eq_true rfl) (fun p e s m args below meth c C hr hnm ls hl => ?_)
  have hl : lv_has ls 3 [(0, .ref (ad this)), (1, .int a1), (2, .int a2)] := hl
  refine hx_aload_n C dX10_claim_0 rfl (lv_at hl 0 rfl) ?_
  obtain ⟨r1, e2, h⟩ := hx_bind h
  obtain ⟨g3, h⟩ := hx_gd h
  refine hx_callV (As := []) (rest := []) (n := 0) (Cn := RX10) C (c_X10_keeps e2) gX10_claim_X10_keeps g3 (by decide) rfl (by decide +kernel) ⟨Nat.le_of_ble_eq_true rfl, Nat.le_of_ble_eq_true rfl⟩ rfl rfl rfl ⟨Nat.zero_le _, Nat.zero_le _⟩ hl.1 rfl rfl (Nat.le_of_ble_eq_true rfl) dX10_claim_1 ?_
  refine hx_aload_n C dX10_claim_4 rfl (lv_at hl 0 rfl) ?_
  refine hx_aload_n C dX10_claim_5 rfl (lv_at hl 0 rfl) ?_
  refine hx_iload_n C dX10_claim_6 rfl (lv_at hl 1 rfl) ?_
  refine hx_iload_n C dX10_claim_7 rfl (lv_at hl 2 rfl) ?_
  obtain ⟨r4, e5, h⟩ := hx_bind h
  refine hx_callV (As := [.int a1, .int a2]) (rest := [.ref (ad this)]) (n := 2) (Cn := RX10) C (c_X10_claims e5) gX10_claim_X10_claims g3 (by decide) rfl (by decide +kernel) ⟨Nat.le_of_ble_eq_true rfl, Nat.le_of_ble_eq_true rfl⟩ rfl rfl rfl ⟨Nat.zero_le _, Nat.zero_le _⟩ hl.1 rfl rfl (Nat.le_of_ble_eq_true rfl) dX10_claim_8 ?_
  obtain ⟨r6, e7, h⟩ := hx_bind h
  refine hx_callV (As := [.int r4.1]) (rest := []) (n := 1) (Cn := RX10) C (c_X10_acted e7) gX10_claim_X10_acted g3 (by decide) rfl (by decide +kernel) ⟨Nat.le_of_ble_eq_true rfl, Nat.le_of_ble_eq_true rfl⟩ rfl rfl rfl ⟨Nat.zero_le _, Nat.zero_le _⟩ hl.1 rfl rfl (Nat.le_of_ble_eq_true rfl) dX10_claim_11 ?_
  obtain ⟨rfl, rfl⟩ := hx_some2 h
  exact hx_iret C hr dX10_claim_14
theorem uX10_adds_10 : ∀ w ∈ u_ws RX10 TX10 15, w ∈ wsX10_adds := by decide +kernel
def f_X10_adds (L : hL) (X : hX) (this : Nat) (a1 : Int32) (a2 : Int32) (a3 : Int32) (a4 : Int32) (a5 : Int32) : Option (Int32 × hX) :=
  (f_X10_in L X a1 1 5000).bind fun r1 =>
  if r1 = 0 then
    some ((-100001), X)
  else
    (f_X10_in L X a2 1 20000).bind fun r4 =>
    if r4 = 0 then
      some ((-100001), X)
    else
      (f_X10_in L X a3 0 99).bind fun r7 =>
      if r7 = 0 then
        some ((-100001), X)
      else
        (f_X10_in L X a4 1 100000).bind fun r10 =>
        if r10 = 0 then
          some ((-100001), X)
        else
          (f_X10_in L X a5 1 100000).bind fun r13 =>
          if r13 = 0 then
            some ((-100001), X)
          else
            if tk L this 10 then
            (X.2 this 0).bind fun q17 =>
            if tk L q17 12 then
            if 15 < L.2.2 q17 then
            if (X.1 q17 15) = 6 then
              some ((-100003), X)
            else
              if hin (52 + (7 * (X.1 q17 15))) (L.2.2 q17) then
              if hin ((52 + (7 * (X.1 q17 15))) + 1) (L.2.2 q17) then
              if hin ((52 + (7 * (X.1 q17 15))) + 2) (L.2.2 q17) then
              if hin ((52 + (7 * (X.1 q17 15))) + 3) (L.2.2 q17) then
              if hin ((52 + (7 * (X.1 q17 15))) + 4) (L.2.2 q17) then
              if hin ((52 + (7 * (X.1 q17 15))) + 5) (L.2.2 q17) then
              if hin ((52 + (7 * (X.1 q17 15))) + 6) (L.2.2 q17) then
              some (((smi (smi (smi (smi (smi (smi (smi (smi X q17 (Int32.toNatClampNeg (52 + (7 * (X.1 q17 15)))) a1) q17 (Int32.toNatClampNeg ((52 + (7 * (X.1 q17 15))) + 1)) a2) q17 (Int32.toNatClampNeg ((52 + (7 * (X.1 q17 15))) + 2)) a3) q17 (Int32.toNatClampNeg ((52 + (7 * (X.1 q17 15))) + 3)) a4) q17 (Int32.toNatClampNeg ((52 + (7 * (X.1 q17 15))) + 4)) a5) q17 (Int32.toNatClampNeg ((52 + (7 * (X.1 q17 15))) + 5)) 0) q17 (Int32.toNatClampNeg ((52 + (7 * (X.1 q17 15))) + 6)) 0) q17 15 (((smi (smi (smi (smi (smi (smi (smi X q17 (Int32.toNatClampNeg (52 + (7 * (X.1 q17 15)))) a1) q17 (Int32.toNatClampNeg ((52 + (7 * (X.1 q17 15))) + 1)) a2) q17 (Int32.toNatClampNeg ((52 + (7 * (X.1 q17 15))) + 2)) a3) q17 (Int32.toNatClampNeg ((52 + (7 * (X.1 q17 15))) + 3)) a4) q17 (Int32.toNatClampNeg ((52 + (7 * (X.1 q17 15))) + 4)) a5) q17 (Int32.toNatClampNeg ((52 + (7 * (X.1 q17 15))) + 5)) 0) q17 (Int32.toNatClampNeg ((52 + (7 * (X.1 q17 15))) + 6)) 0).1 q17 15) + 1)).1 q17 15) - 1, smi (smi (smi (smi (smi (smi (smi (smi X q17 (Int32.toNatClampNeg (52 + (7 * (X.1 q17 15)))) a1) q17 (Int32.toNatClampNeg ((52 + (7 * (X.1 q17 15))) + 1)) a2) q17 (Int32.toNatClampNeg ((52 + (7 * (X.1 q17 15))) + 2)) a3) q17 (Int32.toNatClampNeg ((52 + (7 * (X.1 q17 15))) + 3)) a4) q17 (Int32.toNatClampNeg ((52 + (7 * (X.1 q17 15))) + 4)) a5) q17 (Int32.toNatClampNeg ((52 + (7 * (X.1 q17 15))) + 5)) 0) q17 (Int32.toNatClampNeg ((52 + (7 * (X.1 q17 15))) + 6)) 0) q17 15 (((smi (smi (smi (smi (smi (smi (smi X q17 (Int32.toNatClampNeg (52 + (7 * (X.1 q17 15)))) a1) q17 (Int32.toNatClampNeg ((52 + (7 * (X.1 q17 15))) + 1)) a2) q17 (Int32.toNatClampNeg ((52 + (7 * (X.1 q17 15))) + 2)) a3) q17 (Int32.toNatClampNeg ((52 + (7 * (X.1 q17 15))) + 3)) a4) q17 (Int32.toNatClampNeg ((52 + (7 * (X.1 q17 15))) + 4)) a5) q17 (Int32.toNatClampNeg ((52 + (7 * (X.1 q17 15))) + 5)) 0) q17 (Int32.toNatClampNeg ((52 + (7 * (X.1 q17 15))) + 6)) 0).1 q17 15) + 1))
              else none
              else none
              else none
              else none
              else none
              else none
              else none
            else none
            else none
            else none
set_option maxRecDepth 100000 in
set_option maxHeartbeats 4000000 in
theorem c_X10_adds {l : Launch} {dC : Nat → ClassId} {dI : Nat → Nat → Nat} {cy : Nat → ClassId} {ad : Nat → Nat} {L : hL} {X : hX} {this : Nat} {a1 : Int32} {a2 : Int32} {a3 : Int32} {a4 : Int32} {a5 : Int32} {r : Int32} {X' : hX} (h : f_X10_adds L X this a1 a2 a3 a4 a5 = some (r, X')) : hMet l dC dI cy ad L yX10_adds wsX10_adds ({ frames := 1, cells := 0, slots := 0, locals := 22 } : Room) [.ref (ad this), .int a1, .int a2, .int a3, .int a4, .int a5] X (some (.int r)) X' := by
  unfold f_X10_adds at h
  refine hx_enter RX10 (plainFor_of_name (by decide)) rfl rfl (Nat.le_of_ble_eq_true rfl) (fun p e s m args below meth c C hr hnm ls hl => ?_)
  have hl : lv_has ls 7 [(0, .ref (ad this)), (1, .int a1), (2, .int a2), (3, .int a3), (4, .int a4), (5, .int a5)] := hl
  refine hx_iload_n C dX10_adds_0 rfl (lv_at hl 1 rfl) ?_
  refine hx_iconst (v := 1) C dX10_adds_1 (by decide) ?_
  refine hx_sipush (v := 5000) C dX10_adds_2 (by decide) ?_
  obtain ⟨r1, e2, h⟩ := hx_bind h
  refine hx_callS (As := [.int a1, .int 1, .int 5000]) (rest := []) (n := 3) C (c_X10_in e2) gX10_adds_X10_in (by decide +kernel) ⟨Nat.le_of_ble_eq_true rfl, Nat.le_of_ble_eq_true rfl⟩ rfl rfl rfl ⟨Nat.zero_le _, Nat.zero_le _⟩ hl.1 rfl rfl (Nat.le_of_ble_eq_true rfl) dX10_adds_5 ?_
  refine hx_if_eq (tgt := 54) C dX10_adds_8 (by decide) (fun c3 => ?_) (fun c3 => ?_)
  · have h := hx_pos c3 h
    refine hx_ldc (v := (-100001)) C (by decide +kernel) dX10_adds_54 ?_
    obtain ⟨rfl, rfl⟩ := hx_some2 h
    exact hx_iret C hr dX10_adds_56
  · have h := hx_neg c3 h
    refine hx_iload_n C dX10_adds_11 rfl (lv_at hl 2 rfl) ?_
    refine hx_iconst (v := 1) C dX10_adds_12 (by decide) ?_
    refine hx_sipush (v := 20000) C dX10_adds_13 (by decide) ?_
    obtain ⟨r4, e5, h⟩ := hx_bind h
    refine hx_callS (As := [.int a2, .int 1, .int 20000]) (rest := []) (n := 3) C (c_X10_in e5) gX10_adds_X10_in (by decide +kernel) ⟨Nat.le_of_ble_eq_true rfl, Nat.le_of_ble_eq_true rfl⟩ rfl rfl rfl ⟨Nat.zero_le _, Nat.zero_le _⟩ hl.1 rfl rfl (Nat.le_of_ble_eq_true rfl) dX10_adds_16 ?_
    refine hx_if_eq (tgt := 54) C dX10_adds_19 (by decide) (fun c6 => ?_) (fun c6 => ?_)
    · have h := hx_pos c6 h
      refine hx_ldc (v := (-100001)) C (by decide +kernel) dX10_adds_54 ?_
      obtain ⟨rfl, rfl⟩ := hx_some2 h
      exact hx_iret C hr dX10_adds_56
    · have h := hx_neg c6 h
      refine hx_iload_n C dX10_adds_22 rfl (lv_at hl 3 rfl) ?_
      refine hx_iconst (v := 0) C dX10_adds_23 (by decide) ?_
      refine hx_bipush (v := 99) C dX10_adds_24 (by decide) ?_
      obtain ⟨r7, e8, h⟩ := hx_bind h
      refine hx_callS (As := [.int a3, .int 0, .int 99]) (rest := []) (n := 3) C (c_X10_in e8) gX10_adds_X10_in (by decide +kernel) ⟨Nat.le_of_ble_eq_true rfl, Nat.le_of_ble_eq_true rfl⟩ rfl rfl rfl ⟨Nat.zero_le _, Nat.zero_le _⟩ hl.1 rfl rfl (Nat.le_of_ble_eq_true rfl) dX10_adds_26 ?_
      refine hx_if_eq (tgt := 54) C dX10_adds_29 (by decide) (fun c9 => ?_) (fun c9 => ?_)
      · have h := hx_pos c9 h
        refine hx_ldc (v := (-100001)) C (by decide +kernel) dX10_adds_54 ?_
        obtain ⟨rfl, rfl⟩ := hx_some2 h
        exact hx_iret C hr dX10_adds_56
      · have h := hx_neg c9 h
        refine hx_iload C dX10_adds_32 (lv_at hl 4 rfl) ?_
        refine hx_iconst (v := 1) C dX10_adds_34 (by decide) ?_
        refine hx_ldc (v := 100000) C (by decide +kernel) dX10_adds_35 ?_
        obtain ⟨r10, e11, h⟩ := hx_bind h
        refine hx_callS (As := [.int a4, .int 1, .int 100000]) (rest := []) (n := 3) C (c_X10_in e11) gX10_adds_X10_in (by decide +kernel) ⟨Nat.le_of_ble_eq_true rfl, Nat.le_of_ble_eq_true rfl⟩ rfl rfl rfl ⟨Nat.zero_le _, Nat.zero_le _⟩ hl.1 rfl rfl (Nat.le_of_ble_eq_true rfl) dX10_adds_37 ?_
        refine hx_if_eq (tgt := 54) C dX10_adds_40 (by decide) (fun c12 => ?_) (fun c12 => ?_)
        · have h := hx_pos c12 h
          refine hx_ldc (v := (-100001)) C (by decide +kernel) dX10_adds_54 ?_
          obtain ⟨rfl, rfl⟩ := hx_some2 h
          exact hx_iret C hr dX10_adds_56
        · have h := hx_neg c12 h
          refine hx_iload C dX10_adds_43 (lv_at hl 5 rfl) ?_
          refine hx_iconst (v := 1) C dX10_adds_45 (by decide) ?_
          refine hx_ldc (v := 100000) C (by decide +kernel) dX10_adds_46 ?_
          obtain ⟨r13, e14, h⟩ := hx_bind h
          refine hx_callS (As := [.int a5, .int 1, .int 100000]) (rest := []) (n := 3) C (c_X10_in e14) gX10_adds_X10_in (by decide +kernel) ⟨Nat.le_of_ble_eq_true rfl, Nat.le_of_ble_eq_true rfl⟩ rfl rfl rfl ⟨Nat.zero_le _, Nat.zero_le _⟩ hl.1 rfl rfl (Nat.le_of_ble_eq_true rfl) dX10_adds_48 ?_
          refine hx_if_ne (tgt := 57) C dX10_adds_51 (by decide) (fun c15 => ?_) (fun c15 => ?_)
          · have h := hx_neg c15 h
            refine hx_aload_n C dX10_adds_57 rfl (lv_at hl 0 rfl) ?_
            obtain ⟨g16, h⟩ := hx_gd h
            obtain ⟨q17, e18, h⟩ := hx_bind h
            refine hx_getr C (ci := 10) (j := 0) g16 uX10_adds_10 (by decide) rfl (by decide) rfl (by decide +kernel) rfl dX10_adds_58 e18 ?_
            refine hx_bipush (v := 15) C dX10_adds_61 (by decide) ?_
            obtain ⟨g19, h⟩ := hx_gd h
            obtain ⟨g20, h⟩ := hx_gd h
            refine hx_iald (n := 15) C g19 (hin_lit (i := 15) (by decide) rfl g20) rfl dX10_adds_63 ?_
            refine hx_bipush (v := 6) C dX10_adds_64 (by decide) ?_
            refine hx_icmp_ne (tgt := 72) C dX10_adds_66 (by decide) (fun c21 => ?_) (fun c21 => ?_)
            · have h := hx_neg c21 h
              refine hx_bipush (v := 52) C dX10_adds_72 (by decide) ?_
              refine hx_bipush (v := 7) C dX10_adds_74 (by decide) ?_
              refine hx_aload_n C dX10_adds_76 rfl (lv_at hl 0 rfl) ?_
              refine hx_getr C (ci := 10) (j := 0) g16 uX10_adds_10 (by decide) rfl (by decide) rfl (by decide +kernel) rfl dX10_adds_77 e18 ?_
              refine hx_bipush (v := 15) C dX10_adds_80 (by decide) ?_
              refine hx_iald (n := 15) C g19 (hin_lit (i := 15) (by decide) rfl g20) rfl dX10_adds_82 ?_
              refine hx_imul C dX10_adds_83 ?_
              refine hx_iadd C dX10_adds_84 ?_
              refine hx_istore (lv' := [(6, .int (52 + (7 * (X.1 q17 15)))), (0, .ref (ad this)), (1, .int a1), (2, .int a2), (3, .int a3), (4, .int a4), (5, .int a5)]) C dX10_adds_85 hl (by decide) rfl (fun ls hl => ?_)
              refine hx_aload_n C dX10_adds_87 rfl (lv_at hl 1 rfl) ?_
              refine hx_getr C (ci := 10) (j := 0) g16 uX10_adds_10 (by decide) rfl (by decide) rfl (by decide +kernel) rfl dX10_adds_88 e18 ?_
              refine hx_iload C dX10_adds_91 (lv_at hl 0 rfl) ?_
              refine hx_iload_n C dX10_adds_93 rfl (lv_at hl 2 rfl) ?_
              obtain ⟨g22, h⟩ := hx_gd h
              refine hx_iast (n := (Int32.toNatClampNeg (52 + (7 * (X.1 q17 15))))) C g19 g22 rfl dX10_adds_94 ?_
              refine hx_aload_n C dX10_adds_95 rfl (lv_at hl 1 rfl) ?_
              refine hx_getr C (ci := 10) (j := 0) g16 uX10_adds_10 (by decide) rfl (by decide) rfl (by decide +kernel) rfl dX10_adds_96 e18 ?_
              refine hx_iload C dX10_adds_99 (lv_at hl 0 rfl) ?_
              refine hx_iconst (v := 1) C dX10_adds_101 (by decide) ?_
              refine hx_iadd C dX10_adds_102 ?_
              refine hx_iload_n C dX10_adds_103 rfl (lv_at hl 3 rfl) ?_
              obtain ⟨g23, h⟩ := hx_gd h
              refine hx_iast (n := (Int32.toNatClampNeg ((52 + (7 * (X.1 q17 15))) + 1))) C g19 g23 rfl dX10_adds_104 ?_
              refine hx_aload_n C dX10_adds_105 rfl (lv_at hl 1 rfl) ?_
              refine hx_getr C (ci := 10) (j := 0) g16 uX10_adds_10 (by decide) rfl (by decide) rfl (by decide +kernel) rfl dX10_adds_106 e18 ?_
              refine hx_iload C dX10_adds_109 (lv_at hl 0 rfl) ?_
              refine hx_iconst (v := 2) C dX10_adds_111 (by decide) ?_
              refine hx_iadd C dX10_adds_112 ?_
              refine hx_iload_n C dX10_adds_113 rfl (lv_at hl 4 rfl) ?_
              obtain ⟨g24, h⟩ := hx_gd h
              refine hx_iast (n := (Int32.toNatClampNeg ((52 + (7 * (X.1 q17 15))) + 2))) C g19 g24 rfl dX10_adds_114 ?_
              refine hx_aload_n C dX10_adds_115 rfl (lv_at hl 1 rfl) ?_
              refine hx_getr C (ci := 10) (j := 0) g16 uX10_adds_10 (by decide) rfl (by decide) rfl (by decide +kernel) rfl dX10_adds_116 e18 ?_
              refine hx_iload C dX10_adds_119 (lv_at hl 0 rfl) ?_
              refine hx_iconst (v := 3) C dX10_adds_121 (by decide) ?_
              refine hx_iadd C dX10_adds_122 ?_
              refine hx_iload C dX10_adds_123 (lv_at hl 5 rfl) ?_
              obtain ⟨g25, h⟩ := hx_gd h
              refine hx_iast (n := (Int32.toNatClampNeg ((52 + (7 * (X.1 q17 15))) + 3))) C g19 g25 rfl dX10_adds_125 ?_
              refine hx_aload_n C dX10_adds_126 rfl (lv_at hl 1 rfl) ?_
              refine hx_getr C (ci := 10) (j := 0) g16 uX10_adds_10 (by decide) rfl (by decide) rfl (by decide +kernel) rfl dX10_adds_127 e18 ?_
              refine hx_iload C dX10_adds_130 (lv_at hl 0 rfl) ?_
              refine hx_iconst (v := 4) C dX10_adds_132 (by decide) ?_
              refine hx_iadd C dX10_adds_133 ?_
              refine hx_iload C dX10_adds_134 (lv_at hl 6 rfl) ?_
              obtain ⟨g26, h⟩ := hx_gd h
              refine hx_iast (n := (Int32.toNatClampNeg ((52 + (7 * (X.1 q17 15))) + 4))) C g19 g26 rfl dX10_adds_136 ?_
              refine hx_aload_n C dX10_adds_137 rfl (lv_at hl 1 rfl) ?_
              refine hx_getr C (ci := 10) (j := 0) g16 uX10_adds_10 (by decide) rfl (by decide) rfl (by decide +kernel) rfl dX10_adds_138 e18 ?_
              refine hx_iload C dX10_adds_141 (lv_at hl 0 rfl) ?_
              refine hx_iconst (v := 5) C dX10_adds_143 (by decide) ?_
              refine hx_iadd C dX10_adds_144 ?_
              refine hx_iconst (v := 0) C dX10_adds_145 (by decide) ?_
              obtain ⟨g27, h⟩ := hx_gd h
              refine hx_iast (n := (Int32.toNatClampNeg ((52 + (7 * (X.1 q17 15))) + 5))) C g19 g27 rfl dX10_adds_146 ?_
              refine hx_aload_n C dX10_adds_147 rfl (lv_at hl 1 rfl) ?_
              refine hx_getr C (ci := 10) (j := 0) g16 uX10_adds_10 (by decide) rfl (by decide) rfl (by decide +kernel) rfl dX10_adds_148 e18 ?_
              refine hx_iload C dX10_adds_151 (lv_at hl 0 rfl) ?_
              refine hx_bipush (v := 6) C dX10_adds_153 (by decide) ?_
              refine hx_iadd C dX10_adds_155 ?_
              refine hx_iconst (v := 0) C dX10_adds_156 (by decide) ?_
              obtain ⟨g28, h⟩ := hx_gd h
              refine hx_iast (n := (Int32.toNatClampNeg ((52 + (7 * (X.1 q17 15))) + 6))) C g19 g28 rfl dX10_adds_157 ?_
              refine hx_aload_n C dX10_adds_158 rfl (lv_at hl 1 rfl) ?_
              refine hx_getr C (ci := 10) (j := 0) g16 uX10_adds_10 (by decide) rfl (by decide) rfl (by decide +kernel) rfl dX10_adds_159 e18 ?_
              refine hx_bipush (v := 15) C dX10_adds_162 (by decide) ?_
              refine hx_dup2 C dX10_adds_164 rfl rfl ?_
              refine hx_iald (n := 15) C g19 (hin_lit (i := 15) (by decide) rfl g20) rfl dX10_adds_165 ?_
              refine hx_iconst (v := 1) C dX10_adds_166 (by decide) ?_
              refine hx_iadd C dX10_adds_167 ?_
              refine hx_iast (n := 15) C g19 (hin_lit (i := 15) (by decide) rfl g20) rfl dX10_adds_168 ?_
              refine hx_aload_n C dX10_adds_169 rfl (lv_at hl 1 rfl) ?_
              refine hx_getr C (ci := 10) (j := 0) g16 uX10_adds_10 (by decide) rfl (by decide) rfl (by decide +kernel) rfl dX10_adds_170 e18 ?_
              refine hx_bipush (v := 15) C dX10_adds_173 (by decide) ?_
              refine hx_iald (n := 15) C g19 (hin_lit (i := 15) (by decide) rfl g20) rfl dX10_adds_175 ?_
              refine hx_iconst (v := 1) C dX10_adds_176 (by decide) ?_
              refine hx_isub C dX10_adds_177 ?_
              obtain ⟨rfl, rfl⟩ := hx_some2 h
              exact hx_iret C hr dX10_adds_178
            · have h := hx_pos c21 h
              refine hx_ldc (v := (-100003)) C (by decide +kernel) dX10_adds_69 ?_
              obtain ⟨rfl, rfl⟩ := hx_some2 h
              exact hx_iret C hr dX10_adds_71
          · have h := hx_pos c15 h
            refine hx_ldc (v := (-100001)) C (by decide +kernel) dX10_adds_54 ?_
            obtain ⟨rfl, rfl⟩ := hx_some2 h
            exact hx_iret C hr dX10_adds_56
def f_X10_addPrize (L : hL) (X : hX) (this : Nat) (a1 : Int32) (a2 : Int32) (a3 : Int32) (a4 : Int32) (a5 : Int32) : Option (Int32 × hX) :=
  (f_X10_keeps L X this).bind fun r1 =>
  if tk L this 10 then
  (f_X10_adds L r1 this a1 a2 a3 a4 a5).bind fun r4 =>
  (f_X10_acted L r4.2 this r4.1).bind fun r6 =>
  some (r6.1, r6.2)
  else none
set_option maxRecDepth 100000 in
set_option maxHeartbeats 4000000 in
theorem c_X10_addPrize {l : Launch} {dC : Nat → ClassId} {dI : Nat → Nat → Nat} {cy : Nat → ClassId} {ad : Nat → Nat} {L : hL} {X : hX} {this : Nat} {a1 : Int32} {a2 : Int32} {a3 : Int32} {a4 : Int32} {a5 : Int32} {r : Int32} {X' : hX} (h : f_X10_addPrize L X this a1 a2 a3 a4 a5 = some (r, X')) : hMet l dC dI cy ad L yX10_addPrize wsX10_addPrize ({ frames := 2, cells := 0, slots := 0, locals := 48 } : Room) [.ref (ad this), .int a1, .int a2, .int a3, .int a4, .int a5] X (some (.int r)) X' := by
  unfold f_X10_addPrize at h
  refine hx_enter RX10 (plainFor_of_name (by decide)) rfl rfl (Nat.le_of_ble_eq_true rfl) (fun p e s m args below meth c C hr hnm ls hl => ?_)
  have hl : lv_has ls 6 [(0, .ref (ad this)), (1, .int a1), (2, .int a2), (3, .int a3), (4, .int a4), (5, .int a5)] := hl
  refine hx_aload_n C dX10_addPrize_0 rfl (lv_at hl 0 rfl) ?_
  obtain ⟨r1, e2, h⟩ := hx_bind h
  obtain ⟨g3, h⟩ := hx_gd h
  refine hx_callV (As := []) (rest := []) (n := 0) (Cn := RX10) C (c_X10_keeps e2) gX10_addPrize_X10_keeps g3 (by decide) rfl (by decide +kernel) ⟨Nat.le_of_ble_eq_true rfl, Nat.le_of_ble_eq_true rfl⟩ rfl rfl rfl ⟨Nat.zero_le _, Nat.zero_le _⟩ hl.1 rfl rfl (Nat.le_of_ble_eq_true rfl) dX10_addPrize_1 ?_
  refine hx_aload_n C dX10_addPrize_4 rfl (lv_at hl 0 rfl) ?_
  refine hx_aload_n C dX10_addPrize_5 rfl (lv_at hl 0 rfl) ?_
  refine hx_iload_n C dX10_addPrize_6 rfl (lv_at hl 1 rfl) ?_
  refine hx_iload_n C dX10_addPrize_7 rfl (lv_at hl 2 rfl) ?_
  refine hx_iload_n C dX10_addPrize_8 rfl (lv_at hl 3 rfl) ?_
  refine hx_iload C dX10_addPrize_9 (lv_at hl 4 rfl) ?_
  refine hx_iload C dX10_addPrize_11 (lv_at hl 5 rfl) ?_
  obtain ⟨r4, e5, h⟩ := hx_bind h
  refine hx_callV (As := [.int a1, .int a2, .int a3, .int a4, .int a5]) (rest := [.ref (ad this)]) (n := 5) (Cn := RX10) C (c_X10_adds e5) gX10_addPrize_X10_adds g3 (by decide) rfl (by decide +kernel) ⟨Nat.le_of_ble_eq_true rfl, Nat.le_of_ble_eq_true rfl⟩ rfl rfl rfl ⟨Nat.zero_le _, Nat.zero_le _⟩ hl.1 rfl rfl (Nat.le_of_ble_eq_true rfl) dX10_addPrize_13 ?_
  obtain ⟨r6, e7, h⟩ := hx_bind h
  refine hx_callV (As := [.int r4.1]) (rest := []) (n := 1) (Cn := RX10) C (c_X10_acted e7) gX10_addPrize_X10_acted g3 (by decide) rfl (by decide +kernel) ⟨Nat.le_of_ble_eq_true rfl, Nat.le_of_ble_eq_true rfl⟩ rfl rfl rfl ⟨Nat.zero_le _, Nat.zero_le _⟩ hl.1 rfl rfl (Nat.le_of_ble_eq_true rfl) dX10_addPrize_16 ?_
  obtain ⟨rfl, rfl⟩ := hx_some2 h
  exact hx_iret C hr dX10_addPrize_19
theorem uX10_removePrize_10 : ∀ w ∈ u_ws RX10 TX10 15, w ∈ wsX10_removePrize := by decide +kernel
def f_X10_removePrize_38 (L : hL) : Nat → Nat → Int32 → Int32 → hX → Option (Int32 × hX)
  | 0, _, _, _, _ => none
  | n + 1, v0, v2, v3, X =>
    if tk L v0 10 then
    (X.2 v0 0).bind fun q2 =>
    if tk L q2 12 then
    if 15 < L.2.2 q2 then
    if (7 * (X.1 q2 15)) ≤ v3 then
      (f_X10_acted L X v0 v2).bind fun r7 =>
      some (r7.1, r7.2)
    else
      if hin ((52 + v3) + 7) (L.2.2 q2) then
      if hin (52 + v3) (L.2.2 q2) then
      f_X10_removePrize_38 L n v0 v2 (v3 + 1) (smi X q2 (Int32.toNatClampNeg (52 + v3)) (X.1 q2 (Int32.toNatClampNeg ((52 + v3) + 7))))
      else none
      else none
    else none
    else none
    else none
set_option maxRecDepth 100000 in
set_option maxHeartbeats 4000000 in
theorem w_X10_removePrize_38 {p : Program} {l : Launch} {e : Env} {s : State} {m : MethodId} {args : Array Value} {below : List Frame} {meth : Method} {c : Code} {dC : Nat → ClassId} {dI : Nat → Nat → Nat} {cy : Nat → ClassId} {ad : Nat → Nat} {L : hL} {r : Int32} {X' : hX} (C : hC p s m args meth c dC dI cy ad L (hA ad L s.heap.size) cX10_removePrize 4 wsX10_removePrize RX10) (hr : meth.sig.returnType = (some .int)) : ∀ (n : Nat) (v0 : Nat) (v2 : Int32) (v3 : Int32) (X : hX) (ls : Array Slot), f_X10_removePrize_38 L n v0 v2 v3 X = some (r, X') → lv_has ls 4 [(0, .ref (ad v0)), (2, .int v2), (3, .int v3)] → hG p l e (headSpec wsX10_removePrize ({ frames := 2, cells := 0, slots := 0, locals := 43 } : Room)).room s m args below meth c dC dI cy ad L (hA ad L s.heap.size) 0 0 (MQ below (hQ dC dI cy ad L s.heap.size (some (.int r)) X') args s 0 0 (hA ad L s.heap.size)) X 38 ls [] := by
  intro n
  induction n with
  | zero => intro v0 v2 v3 X ls h; cases h
  | succ n ih =>
    intro v0 v2 v3 X ls h hl
    rw [f_X10_removePrize_38] at h
    refine hx_iload_n C dX10_removePrize_38 rfl (lv_at hl 2 rfl) ?_
    refine hx_bipush (v := 7) C dX10_removePrize_39 (by decide) ?_
    refine hx_aload_n C dX10_removePrize_41 rfl (lv_at hl 0 rfl) ?_
    obtain ⟨g1, h⟩ := hx_gd h
    obtain ⟨q2, e3, h⟩ := hx_bind h
    refine hx_getr C (ci := 10) (j := 0) g1 uX10_removePrize_10 (by decide) rfl (by decide) rfl (by decide +kernel) rfl dX10_removePrize_42 e3 ?_
    refine hx_bipush (v := 15) C dX10_removePrize_45 (by decide) ?_
    obtain ⟨g4, h⟩ := hx_gd h
    obtain ⟨g5, h⟩ := hx_gd h
    refine hx_iald (n := 15) C g4 (hin_lit (i := 15) (by decide) rfl g5) rfl dX10_removePrize_47 ?_
    refine hx_imul C dX10_removePrize_48 ?_
    refine hx_icmp_ge (tgt := 79) C dX10_removePrize_49 (by decide) (fun c6 => ?_) (fun c6 => ?_)
    · have h := hx_pos c6 h
      refine hx_aload_n C dX10_removePrize_79 rfl (lv_at hl 0 rfl) ?_
      refine hx_iload_n C dX10_removePrize_80 rfl (lv_at hl 1 rfl) ?_
      obtain ⟨r7, e8, h⟩ := hx_bind h
      refine hx_callV (As := [.int v2]) (rest := []) (n := 1) (Cn := RX10) C (c_X10_acted e8) gX10_removePrize_X10_acted g1 (by decide) rfl (by decide +kernel) ⟨Nat.le_of_ble_eq_true rfl, Nat.le_of_ble_eq_true rfl⟩ rfl rfl rfl ⟨Nat.zero_le _, Nat.zero_le _⟩ hl.1 rfl rfl (Nat.le_of_ble_eq_true rfl) dX10_removePrize_81 ?_
      obtain ⟨rfl, rfl⟩ := hx_some2 h
      exact hx_iret C hr dX10_removePrize_84
    · have h := hx_neg c6 h
      refine hx_aload_n C dX10_removePrize_52 rfl (lv_at hl 0 rfl) ?_
      refine hx_getr C (ci := 10) (j := 0) g1 uX10_removePrize_10 (by decide) rfl (by decide) rfl (by decide +kernel) rfl dX10_removePrize_53 e3 ?_
      refine hx_bipush (v := 52) C dX10_removePrize_56 (by decide) ?_
      refine hx_iload_n C dX10_removePrize_58 rfl (lv_at hl 2 rfl) ?_
      refine hx_iadd C dX10_removePrize_59 ?_
      refine hx_aload_n C dX10_removePrize_60 rfl (lv_at hl 0 rfl) ?_
      refine hx_getr C (ci := 10) (j := 0) g1 uX10_removePrize_10 (by decide) rfl (by decide) rfl (by decide +kernel) rfl dX10_removePrize_61 e3 ?_
      refine hx_bipush (v := 52) C dX10_removePrize_64 (by decide) ?_
      refine hx_iload_n C dX10_removePrize_66 rfl (lv_at hl 2 rfl) ?_
      refine hx_iadd C dX10_removePrize_67 ?_
      refine hx_bipush (v := 7) C dX10_removePrize_68 (by decide) ?_
      refine hx_iadd C dX10_removePrize_70 ?_
      obtain ⟨g9, h⟩ := hx_gd h
      refine hx_iald (n := (Int32.toNatClampNeg ((52 + v3) + 7))) C g4 g9 rfl dX10_removePrize_71 ?_
      obtain ⟨g10, h⟩ := hx_gd h
      refine hx_iast (n := (Int32.toNatClampNeg (52 + v3))) C g4 g10 rfl dX10_removePrize_72 ?_
      refine hx_iinc (v := v3 + 1) (lv' := [(3, .int (v3 + 1)), (0, .ref (ad v0)), (2, .int v2)]) C dX10_removePrize_73 hl (k := 2) rfl rfl (by decide) rfl (fun ls hl => ?_)
      refine hx_goto (tgt := 38) C dX10_removePrize_76 (by decide) ?_
      exact ih v0 v2 (v3 + 1) (smi X q2 (Int32.toNatClampNeg (52 + v3)) (X.1 q2 (Int32.toNatClampNeg ((52 + v3) + 7)))) ls h (lv_sub hl [1, 2, 0] rfl)
def f_X10_removePrize (L : hL) (X : hX) (this : Nat) (a1 : Int32) : Option (Int32 × hX) :=
  (f_X10_isPrize L X this a1).bind fun r11 =>
  if tk L this 10 then
  if r11 = 0 then
    some ((-100001), X)
  else
    (f_X10_keeps L X this).bind fun r15 =>
    (f_X10_priced L r15 this a1 2).bind fun r17 =>
    (r15.2 this 0).bind fun q19 =>
    if tk L q19 12 then
    if 15 < L.2.2 q19 then
    f_X10_removePrize_38 L u_fuel this r17 (7 * a1) (smi r15 q19 15 ((r15.1 q19 15) - 1))
    else none
    else none
  else none
set_option maxRecDepth 100000 in
set_option maxHeartbeats 4000000 in
theorem c_X10_removePrize {l : Launch} {dC : Nat → ClassId} {dI : Nat → Nat → Nat} {cy : Nat → ClassId} {ad : Nat → Nat} {L : hL} {X : hX} {this : Nat} {a1 : Int32} {r : Int32} {X' : hX} (h : f_X10_removePrize L X this a1 = some (r, X')) : hMet l dC dI cy ad L yX10_removePrize wsX10_removePrize ({ frames := 2, cells := 0, slots := 0, locals := 43 } : Room) [.ref (ad this), .int a1] X (some (.int r)) X' := by
  unfold f_X10_removePrize at h
  refine hx_enter RX10 (plainFor_of_name (by decide)) rfl rfl (Nat.le_of_ble_eq_true rfl) (fun p e s m args below meth c C hr hnm ls hl => ?_)
  have hl : lv_has ls 4 [(0, .ref (ad this)), (1, .int a1)] := hl
  refine hx_aload_n C dX10_removePrize_0 rfl (lv_at hl 0 rfl) ?_
  refine hx_iload_n C dX10_removePrize_1 rfl (lv_at hl 1 rfl) ?_
  obtain ⟨r11, e12, h⟩ := hx_bind h
  obtain ⟨g13, h⟩ := hx_gd h
  refine hx_callV (As := [.int a1]) (rest := []) (n := 1) (Cn := RX10) C (c_X10_isPrize e12) gX10_removePrize_X10_isPrize g13 (by decide) rfl (by decide +kernel) ⟨Nat.le_of_ble_eq_true rfl, Nat.le_of_ble_eq_true rfl⟩ rfl rfl rfl ⟨Nat.zero_le _, Nat.zero_le _⟩ hl.1 rfl rfl (Nat.le_of_ble_eq_true rfl) dX10_removePrize_2 ?_
  refine hx_if_ne (tgt := 11) C dX10_removePrize_5 (by decide) (fun c14 => ?_) (fun c14 => ?_)
  · have h := hx_neg c14 h
    refine hx_aload_n C dX10_removePrize_11 rfl (lv_at hl 0 rfl) ?_
    obtain ⟨r15, e16, h⟩ := hx_bind h
    refine hx_callV (As := []) (rest := []) (n := 0) (Cn := RX10) C (c_X10_keeps e16) gX10_removePrize_X10_keeps g13 (by decide) rfl (by decide +kernel) ⟨Nat.le_of_ble_eq_true rfl, Nat.le_of_ble_eq_true rfl⟩ rfl rfl rfl ⟨Nat.zero_le _, Nat.zero_le _⟩ hl.1 rfl rfl (Nat.le_of_ble_eq_true rfl) dX10_removePrize_12 ?_
    refine hx_aload_n C dX10_removePrize_15 rfl (lv_at hl 0 rfl) ?_
    refine hx_iload_n C dX10_removePrize_16 rfl (lv_at hl 1 rfl) ?_
    refine hx_iconst (v := 2) C dX10_removePrize_17 (by decide) ?_
    obtain ⟨r17, e18, h⟩ := hx_bind h
    refine hx_callV (As := [.int a1, .int 2]) (rest := []) (n := 2) (Cn := RX10) C (c_X10_priced e18) gX10_removePrize_X10_priced g13 (by decide) rfl (by decide +kernel) ⟨Nat.le_of_ble_eq_true rfl, Nat.le_of_ble_eq_true rfl⟩ rfl rfl rfl ⟨Nat.zero_le _, Nat.zero_le _⟩ hl.1 rfl rfl (Nat.le_of_ble_eq_true rfl) dX10_removePrize_18 ?_
    refine hx_istore_n (lv' := [(2, .int r17), (0, .ref (ad this)), (1, .int a1)]) C dX10_removePrize_21 rfl hl (by decide) rfl (fun ls hl => ?_)
    refine hx_aload_n C dX10_removePrize_22 rfl (lv_at hl 1 rfl) ?_
    obtain ⟨q19, e20, h⟩ := hx_bind h
    refine hx_getr C (ci := 10) (j := 0) g13 uX10_removePrize_10 (by decide) rfl (by decide) rfl (by decide +kernel) rfl dX10_removePrize_23 e20 ?_
    refine hx_bipush (v := 15) C dX10_removePrize_26 (by decide) ?_
    refine hx_dup2 C dX10_removePrize_28 rfl rfl ?_
    obtain ⟨g21, h⟩ := hx_gd h
    obtain ⟨g22, h⟩ := hx_gd h
    refine hx_iald (n := 15) C g21 (hin_lit (i := 15) (by decide) rfl g22) rfl dX10_removePrize_29 ?_
    refine hx_iconst (v := 1) C dX10_removePrize_30 (by decide) ?_
    refine hx_isub C dX10_removePrize_31 ?_
    refine hx_iast (n := 15) C g21 (hin_lit (i := 15) (by decide) rfl g22) rfl dX10_removePrize_32 ?_
    refine hx_bipush (v := 7) C dX10_removePrize_33 (by decide) ?_
    refine hx_iload_n C dX10_removePrize_35 rfl (lv_at hl 2 rfl) ?_
    refine hx_imul C dX10_removePrize_36 ?_
    refine hx_istore_n (lv' := [(3, .int (7 * a1)), (2, .int r17), (0, .ref (ad this)), (1, .int a1)]) C dX10_removePrize_37 rfl hl (by decide) rfl (fun ls hl => ?_)
    exact w_X10_removePrize_38 C hr u_fuel this r17 (7 * a1) (smi r15 q19 15 ((r15.1 q19 15) - 1)) ls h (lv_sub hl [2, 1, 0] rfl)
  · have h := hx_pos c14 h
    refine hx_ldc (v := (-100001)) C (by decide +kernel) dX10_removePrize_8 ?_
    obtain ⟨rfl, rfl⟩ := hx_some2 h
    exact hx_iret C hr dX10_removePrize_10
def f_X10_setPrice (L : hL) (X : hX) (this : Nat) (a1 : Int32) (a2 : Int32) : Option (Int32 × hX) :=
  (f_X10_isPrize L X this a1).bind fun r1 =>
  if tk L this 10 then
  if r1 = 0 then
    some ((-100001), X)
  else
    (f_X10_keeps L X this).bind fun r5 =>
    (f_X10_sets L r5 this (52 + (7 * a1)) a2 1 5000).bind fun r7 =>
    (f_X10_acted L r7.2 this r7.1).bind fun r9 =>
    some (r9.1, r9.2)
  else none
set_option maxRecDepth 100000 in
set_option maxHeartbeats 4000000 in
theorem c_X10_setPrice {l : Launch} {dC : Nat → ClassId} {dI : Nat → Nat → Nat} {cy : Nat → ClassId} {ad : Nat → Nat} {L : hL} {X : hX} {this : Nat} {a1 : Int32} {a2 : Int32} {r : Int32} {X' : hX} (h : f_X10_setPrice L X this a1 a2 = some (r, X')) : hMet l dC dI cy ad L yX10_setPrice wsX10_setPrice ({ frames := 2, cells := 0, slots := 0, locals := 47 } : Room) [.ref (ad this), .int a1, .int a2] X (some (.int r)) X' := by
  unfold f_X10_setPrice at h
  refine hx_enter RX10 (plainFor_of_name (by decide)) rfl rfl (Nat.le_of_ble_eq_true rfl) (fun p e s m args below meth c C hr hnm ls hl => ?_)
  have hl : lv_has ls 3 [(0, .ref (ad this)), (1, .int a1), (2, .int a2)] := hl
  refine hx_aload_n C dX10_setPrice_0 rfl (lv_at hl 0 rfl) ?_
  refine hx_iload_n C dX10_setPrice_1 rfl (lv_at hl 1 rfl) ?_
  obtain ⟨r1, e2, h⟩ := hx_bind h
  obtain ⟨g3, h⟩ := hx_gd h
  refine hx_callV (As := [.int a1]) (rest := []) (n := 1) (Cn := RX10) C (c_X10_isPrize e2) gX10_setPrice_X10_isPrize g3 (by decide) rfl (by decide +kernel) ⟨Nat.le_of_ble_eq_true rfl, Nat.le_of_ble_eq_true rfl⟩ rfl rfl rfl ⟨Nat.zero_le _, Nat.zero_le _⟩ hl.1 rfl rfl (Nat.le_of_ble_eq_true rfl) dX10_setPrice_2 ?_
  refine hx_if_ne (tgt := 11) C dX10_setPrice_5 (by decide) (fun c4 => ?_) (fun c4 => ?_)
  · have h := hx_neg c4 h
    refine hx_aload_n C dX10_setPrice_11 rfl (lv_at hl 0 rfl) ?_
    obtain ⟨r5, e6, h⟩ := hx_bind h
    refine hx_callV (As := []) (rest := []) (n := 0) (Cn := RX10) C (c_X10_keeps e6) gX10_setPrice_X10_keeps g3 (by decide) rfl (by decide +kernel) ⟨Nat.le_of_ble_eq_true rfl, Nat.le_of_ble_eq_true rfl⟩ rfl rfl rfl ⟨Nat.zero_le _, Nat.zero_le _⟩ hl.1 rfl rfl (Nat.le_of_ble_eq_true rfl) dX10_setPrice_12 ?_
    refine hx_aload_n C dX10_setPrice_15 rfl (lv_at hl 0 rfl) ?_
    refine hx_aload_n C dX10_setPrice_16 rfl (lv_at hl 0 rfl) ?_
    refine hx_bipush (v := 52) C dX10_setPrice_17 (by decide) ?_
    refine hx_bipush (v := 7) C dX10_setPrice_19 (by decide) ?_
    refine hx_iload_n C dX10_setPrice_21 rfl (lv_at hl 1 rfl) ?_
    refine hx_imul C dX10_setPrice_22 ?_
    refine hx_iadd C dX10_setPrice_23 ?_
    refine hx_iload_n C dX10_setPrice_24 rfl (lv_at hl 2 rfl) ?_
    refine hx_iconst (v := 1) C dX10_setPrice_25 (by decide) ?_
    refine hx_sipush (v := 5000) C dX10_setPrice_26 (by decide) ?_
    obtain ⟨r7, e8, h⟩ := hx_bind h
    refine hx_callV (As := [.int (52 + (7 * a1)), .int a2, .int 1, .int 5000]) (rest := [.ref (ad this)]) (n := 4) (Cn := RX10) C (c_X10_sets e8) gX10_setPrice_X10_sets g3 (by decide) rfl (by decide +kernel) ⟨Nat.le_of_ble_eq_true rfl, Nat.le_of_ble_eq_true rfl⟩ rfl rfl rfl ⟨Nat.zero_le _, Nat.zero_le _⟩ hl.1 rfl rfl (Nat.le_of_ble_eq_true rfl) dX10_setPrice_29 ?_
    obtain ⟨r9, e10, h⟩ := hx_bind h
    refine hx_callV (As := [.int r7.1]) (rest := []) (n := 1) (Cn := RX10) C (c_X10_acted e10) gX10_setPrice_X10_acted g3 (by decide) rfl (by decide +kernel) ⟨Nat.le_of_ble_eq_true rfl, Nat.le_of_ble_eq_true rfl⟩ rfl rfl rfl ⟨Nat.zero_le _, Nat.zero_le _⟩ hl.1 rfl rfl (Nat.le_of_ble_eq_true rfl) dX10_setPrice_32 ?_
    obtain ⟨rfl, rfl⟩ := hx_some2 h
    exact hx_iret C hr dX10_setPrice_35
  · have h := hx_pos c4 h
    refine hx_ldc (v := (-100001)) C (by decide +kernel) dX10_setPrice_8 ?_
    obtain ⟨rfl, rfl⟩ := hx_some2 h
    exact hx_iret C hr dX10_setPrice_10
def f_X10_stocked (L : hL) (X : hX) (a1 : Int32) (a2 : Int32) (a3 : Int32) : Option (Int32) :=
  if (lg_cmp ((Int32.toInt64 a1) + ((Int32.toInt64 a2) * (Int32.toInt64 a3))) 99) ≤ 0 then
    some (Int64.toInt32 ((Int32.toInt64 a1) + ((Int32.toInt64 a2) * (Int32.toInt64 a3))))
  else
    some 99
set_option maxRecDepth 100000 in
set_option maxHeartbeats 4000000 in
theorem c_X10_stocked {l : Launch} {dC : Nat → ClassId} {dI : Nat → Nat → Nat} {cy : Nat → ClassId} {ad : Nat → Nat} {L : hL} {X : hX} {a1 : Int32} {a2 : Int32} {a3 : Int32} {r : Int32} (h : f_X10_stocked L X a1 a2 a3 = some r) : hMet l dC dI cy ad L yX10_stocked wsX10_stocked ({ frames := 0, cells := 0, slots := 0, locals := 0 } : Room) [.int a1, .int a2, .int a3] X (some (.int r)) X := by
  unfold f_X10_stocked at h
  refine hx_enter RX10 (plainFor_of_name (by decide)) rfl rfl (Nat.le_of_ble_eq_true rfl) (fun p e s m args below meth c C hr hnm ls hl => ?_)
  have hl : lv_has ls 5 [(0, .int a1), (1, .int a2), (2, .int a3)] := hl
  refine hx_iload_n C dX10_stocked_0 rfl (lv_at hl 0 rfl) ?_
  refine hx_i2l C dX10_stocked_1 ?_
  refine hx_iload_n C dX10_stocked_2 rfl (lv_at hl 1 rfl) ?_
  refine hx_i2l C dX10_stocked_3 ?_
  refine hx_iload_n C dX10_stocked_4 rfl (lv_at hl 2 rfl) ?_
  refine hx_i2l C dX10_stocked_5 ?_
  refine hx_lmul C dX10_stocked_6 ?_
  refine hx_ladd C dX10_stocked_7 ?_
  refine hx_lstore_n (lv' := [(3, .long ((Int32.toInt64 a1) + ((Int32.toInt64 a2) * (Int32.toInt64 a3)))), (0, .int a1), (1, .int a2), (2, .int a3)]) C dX10_stocked_8 rfl hl (by decide) rfl (fun ls hl => ?_)
  refine hx_lload_n C dX10_stocked_9 rfl (lv_at hl 0 rfl) ?_
  refine hx_ldc2 (v := 99) C (by decide +kernel) dX10_stocked_10 ?_
  refine hx_lcmp C dX10_stocked_13 ?_
  refine hx_if_le (tgt := 22) C dX10_stocked_14 (by decide) (fun c1 => ?_) (fun c1 => ?_)
  · have h := hx_pos c1 h
    refine hx_lload_n C dX10_stocked_22 rfl (lv_at hl 0 rfl) ?_
    refine hx_l2i C dX10_stocked_23 ?_
    obtain rfl := hx_some1 h
    exact hx_iret C hr dX10_stocked_24
  · have h := hx_neg c1 h
    refine hx_bipush (v := 99) C dX10_stocked_17 (by decide) ?_
    refine hx_goto (tgt := 24) C dX10_stocked_19 (by decide) ?_
    obtain rfl := hx_some1 h
    exact hx_iret C hr dX10_stocked_24
