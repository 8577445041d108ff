/-! THE CLAIM OUT OF ONE WALK OF THE LAW'S BODY. Your part is whole_start (and what it stands on); all else here is the same for every law, but numbers. -/
def R_law : String := "TicketScalesLaw"
def lw_P (b : Addr) (xs : List Int32) (args : Array Value) (s : State) : Prop := args = #[.ref b] ∧ s.IntsAt b xs ∧ xs.length ≤ 3072 ∧ (Jvm.Cond.and given_1 narrow_1).before args s = true
def lw_Q (_ : Array Value) (s : State) (o : Outcome) (t : State) : Prop := o = .returned (some (.int 1)) ∧ Framed s o t [] 600000 7302250
def lw_Z (below : List Frame) (a : Array Value) (s : State) : State → Prop := fun t => ∃ o, t.status = .running ∧ Ended t below o ∧ lw_Q a s o t
/-- the law's own end, with 1 on the stack, nothing written that was there before, its room as the claim has it -/
theorem lw_ret {p : Program} {l : Launch} {e : Env} {s : State} {m : MethodId} {below : List Frame} {meth : Method} {c : Code} {b : Nat} (hx : p.tables.exec = Jvm.exec) (hb : c.code = code) (hr : meth.sig.returnType = ret) (hlocks : meth.locks = false) {pc : Nat} {H : Heap} {ls : Array Slot} (hdg : decode code pc = .ok (.ireturn, 1)) : W p l e room_1 s m #[Value.ref b] below meth c H [] 600000 7302250 (lw_Z below #[Value.ref b] s) (F0 m pc ls [.int 1]) := by
  intro T hT X
  obtain ⟨fs, hret, hrun, hended, hW, hframe⟩ := X.leave (v := some (.int 1)) (hlocks := hlocks) (fun h => by rw [hr] at h; cases h)
  have hmeth' : T.vm.method? m = some meth := X.method'
  refine ⟨T.setFrames fs, ?_, .returned (some (.int 1)), hrun, hended, rfl, ⟨_, rfl⟩, hW, hframe⟩
  jvm_step X.here [X.here.top, hx, hb, hdg, hmeth', hr, ret, narrow_b1]
  (try refine ⟨rfl, ?_⟩); (try refine ⟨rfl, ?_⟩)
  first | (intro acts; rw [hret _ acts rfl rfl rfl]) | rw [hret _ _ rfl rfl rfl]
  exact Steps.refl _
/-- what holds at the law's entry: the machine, the code, the tables' words (any of lw_tbl by 'hts w (by decide +kernel)'), the script of L ints xs at the cell b, what the Statement gives of the start (any of its parts by flat_of_before) -/
def lw_At (p : Program) (s : State) (m : MethodId) (meth : Method) (c : Code) (b L : Nat) (xs : Nat → Int32) : Prop :=
  p.tables.exec = Jvm.exec ∧ c.code = code ∧ meth.sig.returnType = ret ∧ c.maxLocals = 4 ∧ s.vm.findClass R_law = some m.cls ∧ (∀ w ∈ lw_tbl, w.before #[Value.ref b] s = true) ∧ va_X b L xs s s.heap ∧ b < s.heap.size ∧ meth.locks = false ∧ (Jvm.Cond.and given_1 narrow_1).before #[Value.ref b] s = true
section HXL
variable {p : Program} {l : Launch} {e : Env} {R : Room} {s : State} {m : MethodId} {args : Array Value} {below : List Frame} {meth : Method} {c : Code} {Q : State → Prop} {dC : Nat → ClassId} {dI : Nat → Nat → Nat} {cy : Nat → ClassId} {ad : Nat → Nat} {L : hL} {A : Nat → Prop} {cc : ByteArray} {nL : Nat} {Ts : List Cond} {own : String} {X : hX} {pc : Nat} {ls : Array Slot} {st : List Value} {cells slots : Nat}
theorem hx_sld (C : hC p s m args meth c dC dI cy ad L A cc nL Ts own) {b Ln n : Nat} {xs : Nat → Int32} {i : Int32} (hX : va_X b Ln xs s s.heap) (hbl : b < s.heap.size) (hbA : ¬ A b) (hi : hin i Ln) (hn : i.toNatClampNeg = n) (hdg : decode cc pc = .ok (.iaload, 1)) (k : hG p l e R s m args below meth c dC dI cy ad L A cells slots Q X (pc + 1) ls (.int (xs n) :: st)) : hG p l e R s m args below meth c dC dI cy ad L A cells slots Q X pc ls (.int i :: .ref b :: st) := fun H locs hP hS => by
  subst hn
  exact va_sld C.1 C.2.1 hX hbl hbA hS (hin_vp hi) hdg (k H locs hP hS)
theorem hx_slen (C : hC p s m args meth c dC dI cy ad L A cc nL Ts own) {b Ln : Nat} {xs : Nat → Int32} (hX : va_X b Ln xs s s.heap) (hbl : b < s.heap.size) (hbA : ¬ A b) (hdg : decode cc pc = .ok (.arraylength, 1)) (k : hG p l e R s m args below meth c dC dI cy ad L A cells slots Q X (pc + 1) ls (.int (Int32.ofNat Ln) :: st)) : hG p l e R s m args below meth c dC dI cy ad L A cells slots Q X pc ls (.ref b :: st) := fun H locs hP hS => va_slen C.1 C.2.1 hX hbl hbA hS hdg (k H locs hP hS)
theorem hx_lwret {b : Nat} (C : hC p s m #[Value.ref b] meth c dC dI cy ad L (fun q => s.heap.size ≤ q) code 4 wsL_law RL) (hr : meth.sig.returnType = ret) (hlocks : meth.locks = false) (hdg : decode code pc = .ok (.ireturn, 1)) : hG p l e room_1 s m #[Value.ref b] below meth c dC dI cy ad L (fun q => s.heap.size ≤ q) 478 5054 (lw_Z below #[Value.ref b] s) X pc ls [.int 1] := fun H locs hP hS => by
  refine va_forget (fun q hq => hS.2.2 q hq) ?_
  refine W.widen (k := 600000) (n := 7302250) (Nat.le_of_ble_eq_true rfl) (Nat.le_of_ble_eq_true rfl) ?_
  exact lw_ret C.1 C.2.1 hr hlocks hdg
end HXL
def f_L_law_1186 (L : hL) (xs : Nat → Int32) (Ln : Nat) (k18 : Nat → Nat → Int32 → hX → Option Int32) (v1 : Nat) (v2 : Nat) (v3 : Int32) (X : hX) : Option Int32 :=
  k18 v1 v2 (v3 + 6) X
set_option maxRecDepth 100000 in
set_option maxHeartbeats 8000000 in
theorem w_L_law_1186 {p : Program} {l : Launch} {e : Env} {s : State} {m : MethodId} {below : List Frame} {meth : Method} {c : Code} {dC : Nat → ClassId} {dI : Nat → Nat → Nat} {cy : Nat → ClassId} {ad : Nat → Nat} {L : hL} {b Ln : Nat} {xs : Nat → Int32} (k18 : Nat → Nat → Int32 → hX → Option Int32) (C : hC p s m #[Value.ref b] meth c dC dI cy ad L (fun q => s.heap.size ≤ q) code 4 wsL_law RL) (hr : meth.sig.returnType = ret) (hlocks : meth.locks = false) (hXs : va_X b Ln xs s s.heap) (hbl : b < s.heap.size) (hbA : ¬ (fun q : Nat => s.heap.size ≤ q) b) (hk18 : ∀ (v1 : Nat) (v2 : Nat) (v3 : Int32) (X : hX) (ls : Array Slot), k18 v1 v2 v3 X = some 1 → lv_has ls 4 [(0, .ref b), (1, .ref (ad v1)), (2, .ref (ad v2)), (3, .int v3)] → hG p l e room_1 s m #[Value.ref b] below meth c dC dI cy ad L (fun q => s.heap.size ≤ q) 478 5054 (lw_Z below #[Value.ref b] s) X 18 ls []) : ∀ (v1 : Nat) (v2 : Nat) (v3 : Int32) (X : hX) (ls : Array Slot), f_L_law_1186 L xs Ln k18 v1 v2 v3 X = some 1 → lv_has ls 4 [(0, .ref b), (1, .ref (ad v1)), (2, .ref (ad v2)), (3, .int v3)] → hG p l e room_1 s m #[Value.ref b] below meth c dC dI cy ad L (fun q => s.heap.size ≤ q) 478 5054 (lw_Z below #[Value.ref b] s) X 1186 ls [] := by
  intro v1 v2 v3 X ls h hl
  unfold f_L_law_1186 at h
  refine hx_iinc (v := v3 + 6) (lv' := [(3, .int (v3 + 6)), (0, .ref b), (1, .ref (ad v1)), (2, .ref (ad v2))]) C dL_law_1186 hl (k := 3) rfl rfl (by decide) rfl (fun ls hl => ?_)
  refine hx_goto (tgt := 18) C dL_law_1189 (by decide) ?_
  exact hk18 v1 v2 (v3 + 6) X ls h (lv_sub hl [1, 2, 3, 0] rfl)
def f_L_law_184 (L : hL) (xs : Nat → Int32) (Ln : Nat) (k18 : Nat → Nat → Int32 → hX → Option Int32) (v1 : Nat) (v2 : Nat) (v3 : Int32) (X : hX) : Option Int32 :=
  if hin (v3 + 1) Ln then
  if hin (v3 + 2) Ln then
  if hin (v3 + 3) Ln then
  (f_X9_setKind L X v1 (xs (Int32.toNatClampNeg (v3 + 1))) (xs (Int32.toNatClampNeg (v3 + 2))) (xs (Int32.toNatClampNeg (v3 + 3)))).bind fun r4 =>
  if tk L v1 9 then
  (f_X10_setKind L r4.2 v2 (xs (Int32.toNatClampNeg (v3 + 1))) (xs (Int32.toNatClampNeg (v3 + 2))) (xs (Int32.toNatClampNeg (v3 + 3)))).bind fun r7 =>
  if tk L v2 10 then
  if r4.1 = r7.1 then
    f_L_law_1186 L xs Ln k18 v1 v2 v3 r7.2
  else
    some 0
  else none
  else none
  else none
  else none
  else none
set_option maxRecDepth 100000 in
set_option maxHeartbeats 8000000 in
theorem w_L_law_184 {p : Program} {l : Launch} {e : Env} {s : State} {m : MethodId} {below : List Frame} {meth : Method} {c : Code} {dC : Nat → ClassId} {dI : Nat → Nat → Nat} {cy : Nat → ClassId} {ad : Nat → Nat} {L : hL} {b Ln : Nat} {xs : Nat → Int32} (k18 : Nat → Nat → Int32 → hX → Option Int32) (C : hC p s m #[Value.ref b] meth c dC dI cy ad L (fun q => s.heap.size ≤ q) code 4 wsL_law RL) (hr : meth.sig.returnType = ret) (hlocks : meth.locks = false) (hXs : va_X b Ln xs s s.heap) (hbl : b < s.heap.size) (hbA : ¬ (fun q : Nat => s.heap.size ≤ q) b) (hk18 : ∀ (v1 : Nat) (v2 : Nat) (v3 : Int32) (X : hX) (ls : Array Slot), k18 v1 v2 v3 X = some 1 → lv_has ls 4 [(0, .ref b), (1, .ref (ad v1)), (2, .ref (ad v2)), (3, .int v3)] → hG p l e room_1 s m #[Value.ref b] below meth c dC dI cy ad L (fun q => s.heap.size ≤ q) 478 5054 (lw_Z below #[Value.ref b] s) X 18 ls []) : ∀ (v1 : Nat) (v2 : Nat) (v3 : Int32) (X : hX) (ls : Array Slot), f_L_law_184 L xs Ln k18 v1 v2 v3 X = some 1 → lv_has ls 4 [(0, .ref b), (1, .ref (ad v1)), (2, .ref (ad v2)), (3, .int v3)] → hG p l e room_1 s m #[Value.ref b] below meth c dC dI cy ad L (fun q => s.heap.size ≤ q) 478 5054 (lw_Z below #[Value.ref b] s) X 184 ls [] := by
  intro v1 v2 v3 X ls h hl
  unfold f_L_law_184 at h
  refine hx_aload_n C dL_law_184 rfl (lv_at hl 1 rfl) ?_
  refine hx_aload_n C dL_law_185 rfl (lv_at hl 0 rfl) ?_
  refine hx_iload_n C dL_law_186 rfl (lv_at hl 3 rfl) ?_
  refine hx_iconst (v := 1) C dL_law_187 (by decide) ?_
  refine hx_iadd C dL_law_188 ?_
  obtain ⟨g1, h⟩ := hx_gd h
  refine hx_sld (n := (Int32.toNatClampNeg (v3 + 1))) C hXs hbl hbA g1 rfl dL_law_189 ?_
  refine hx_aload_n C dL_law_190 rfl (lv_at hl 0 rfl) ?_
  refine hx_iload_n C dL_law_191 rfl (lv_at hl 3 rfl) ?_
  refine hx_iconst (v := 2) C dL_law_192 (by decide) ?_
  refine hx_iadd C dL_law_193 ?_
  obtain ⟨g2, h⟩ := hx_gd h
  refine hx_sld (n := (Int32.toNatClampNeg (v3 + 2))) C hXs hbl hbA g2 rfl dL_law_194 ?_
  refine hx_aload_n C dL_law_195 rfl (lv_at hl 0 rfl) ?_
  refine hx_iload_n C dL_law_196 rfl (lv_at hl 3 rfl) ?_
  refine hx_iconst (v := 3) C dL_law_197 (by decide) ?_
  refine hx_iadd C dL_law_198 ?_
  obtain ⟨g3, h⟩ := hx_gd h
  refine hx_sld (n := (Int32.toNatClampNeg (v3 + 3))) C hXs hbl hbA g3 rfl dL_law_199 ?_
  obtain ⟨r4, e5, h⟩ := hx_bind h
  obtain ⟨g6, h⟩ := hx_gd h
  refine hx_callV (As := [.int (xs (Int32.toNatClampNeg (v3 + 1))), .int (xs (Int32.toNatClampNeg (v3 + 2))), .int (xs (Int32.toNatClampNeg (v3 + 3)))]) (rest := []) (n := 3) (Cn := RX9) C (c_X9_setKind e5) gL_law_X9_setKind g6 (by decide) rfl (by decide +kernel) ⟨Nat.le_of_ble_eq_true rfl, Nat.le_of_ble_eq_true rfl⟩ rfl rfl rfl ⟨Nat.le_of_ble_eq_true rfl, Nat.le_of_ble_eq_true rfl⟩ hl.1 rfl rfl (Nat.le_of_ble_eq_true rfl) dL_law_200 ?_
  refine hx_aload_n C dL_law_203 rfl (lv_at hl 2 rfl) ?_
  refine hx_aload_n C dL_law_204 rfl (lv_at hl 0 rfl) ?_
  refine hx_iload_n C dL_law_205 rfl (lv_at hl 3 rfl) ?_
  refine hx_iconst (v := 1) C dL_law_206 (by decide) ?_
  refine hx_iadd C dL_law_207 ?_
  refine hx_sld (n := (Int32.toNatClampNeg (v3 + 1))) C hXs hbl hbA g1 rfl dL_law_208 ?_
  refine hx_aload_n C dL_law_209 rfl (lv_at hl 0 rfl) ?_
  refine hx_iload_n C dL_law_210 rfl (lv_at hl 3 rfl) ?_
  refine hx_iconst (v := 2) C dL_law_211 (by decide) ?_
  refine hx_iadd C dL_law_212 ?_
  refine hx_sld (n := (Int32.toNatClampNeg (v3 + 2))) C hXs hbl hbA g2 rfl dL_law_213 ?_
  refine hx_aload_n C dL_law_214 rfl (lv_at hl 0 rfl) ?_
  refine hx_iload_n C dL_law_215 rfl (lv_at hl 3 rfl) ?_
  refine hx_iconst (v := 3) C dL_law_216 (by decide) ?_
  refine hx_iadd C dL_law_217 ?_
  refine hx_sld (n := (Int32.toNatClampNeg (v3 + 3))) C hXs hbl hbA g3 rfl dL_law_218 ?_
  obtain ⟨r7, e8, h⟩ := hx_bind h
  obtain ⟨g9, h⟩ := hx_gd h
  refine hx_callV (As := [.int (xs (Int32.toNatClampNeg (v3 + 1))), .int (xs (Int32.toNatClampNeg (v3 + 2))), .int (xs (Int32.toNatClampNeg (v3 + 3)))]) (rest := [.int r4.1]) (n := 3) (Cn := RX10) C (c_X10_setKind e8) gL_law_X10_setKind g9 (by decide) rfl (by decide +kernel) ⟨Nat.le_of_ble_eq_true rfl, Nat.le_of_ble_eq_true rfl⟩ rfl rfl rfl ⟨Nat.le_of_ble_eq_true rfl, Nat.le_of_ble_eq_true rfl⟩ hl.1 rfl rfl (Nat.le_of_ble_eq_true rfl) dL_law_219 ?_
  refine hx_icmp_eq (tgt := 1186) C dL_law_222 (by decide) (fun c10 => ?_) (fun c10 => ?_)
  · have h := hx_pos c10 h
    exact w_L_law_1186 k18 C hr hlocks hXs hbl hbA hk18 v1 v2 v3 r7.2 ls h (lv_sub hl [0, 1, 2, 3] rfl)
  · have h := hx_neg c10 h
    refine hx_iconst (v := 0) C dL_law_225 (by decide) ?_
    exact absurd (hx_some1 h) (by decide)
def f_L_law_227 (L : hL) (xs : Nat → Int32) (Ln : Nat) (k18 : Nat → Nat → Int32 → hX → Option Int32) (v1 : Nat) (v2 : Nat) (v3 : Int32) (X : hX) : Option Int32 :=
  if hin (v3 + 1) Ln then
  if hin (v3 + 2) Ln then
  (f_X9_setScale L X v1 (xs (Int32.toNatClampNeg (v3 + 1))) (xs (Int32.toNatClampNeg (v3 + 2)))).bind fun r13 =>
  if tk L v1 9 then
  (f_X10_setScale L r13.2 v2 (xs (Int32.toNatClampNeg (v3 + 1))) (xs (Int32.toNatClampNeg (v3 + 2)))).bind fun r16 =>
  if tk L v2 10 then
  if r13.1 = r16.1 then
    f_L_law_1186 L xs Ln k18 v1 v2 v3 r16.2
  else
    some 0
  else none
  else none
  else none
  else none
set_option maxRecDepth 100000 in
set_option maxHeartbeats 8000000 in
theorem w_L_law_227 {p : Program} {l : Launch} {e : Env} {s : State} {m : MethodId} {below : List Frame} {meth : Method} {c : Code} {dC : Nat → ClassId} {dI : Nat → Nat → Nat} {cy : Nat → ClassId} {ad : Nat → Nat} {L : hL} {b Ln : Nat} {xs : Nat → Int32} (k18 : Nat → Nat → Int32 → hX → Option Int32) (C : hC p s m #[Value.ref b] meth c dC dI cy ad L (fun q => s.heap.size ≤ q) code 4 wsL_law RL) (hr : meth.sig.returnType = ret) (hlocks : meth.locks = false) (hXs : va_X b Ln xs s s.heap) (hbl : b < s.heap.size) (hbA : ¬ (fun q : Nat => s.heap.size ≤ q) b) (hk18 : ∀ (v1 : Nat) (v2 : Nat) (v3 : Int32) (X : hX) (ls : Array Slot), k18 v1 v2 v3 X = some 1 → lv_has ls 4 [(0, .ref b), (1, .ref (ad v1)), (2, .ref (ad v2)), (3, .int v3)] → hG p l e room_1 s m #[Value.ref b] below meth c dC dI cy ad L (fun q => s.heap.size ≤ q) 478 5054 (lw_Z below #[Value.ref b] s) X 18 ls []) : ∀ (v1 : Nat) (v2 : Nat) (v3 : Int32) (X : hX) (ls : Array Slot), f_L_law_227 L xs Ln k18 v1 v2 v3 X = some 1 → lv_has ls 4 [(0, .ref b), (1, .ref (ad v1)), (2, .ref (ad v2)), (3, .int v3)] → hG p l e room_1 s m #[Value.ref b] below meth c dC dI cy ad L (fun q => s.heap.size ≤ q) 478 5054 (lw_Z below #[Value.ref b] s) X 227 ls [] := by
  intro v1 v2 v3 X ls h hl
  unfold f_L_law_227 at h
  refine hx_aload_n C dL_law_227 rfl (lv_at hl 1 rfl) ?_
  refine hx_aload_n C dL_law_228 rfl (lv_at hl 0 rfl) ?_
  refine hx_iload_n C dL_law_229 rfl (lv_at hl 3 rfl) ?_
  refine hx_iconst (v := 1) C dL_law_230 (by decide) ?_
  refine hx_iadd C dL_law_231 ?_
  obtain ⟨g11, h⟩ := hx_gd h
  refine hx_sld (n := (Int32.toNatClampNeg (v3 + 1))) C hXs hbl hbA g11 rfl dL_law_232 ?_
  refine hx_aload_n C dL_law_233 rfl (lv_at hl 0 rfl) ?_
  refine hx_iload_n C dL_law_234 rfl (lv_at hl 3 rfl) ?_
  refine hx_iconst (v := 2) C dL_law_235 (by decide) ?_
  refine hx_iadd C dL_law_236 ?_
  obtain ⟨g12, h⟩ := hx_gd h
  refine hx_sld (n := (Int32.toNatClampNeg (v3 + 2))) C hXs hbl hbA g12 rfl dL_law_237 ?_
  obtain ⟨r13, e14, h⟩ := hx_bind h
  obtain ⟨g15, h⟩ := hx_gd h
  refine hx_callV (As := [.int (xs (Int32.toNatClampNeg (v3 + 1))), .int (xs (Int32.toNatClampNeg (v3 + 2)))]) (rest := []) (n := 2) (Cn := RX9) C (c_X9_setScale e14) gL_law_X9_setScale g15 (by decide) rfl (by decide +kernel) ⟨Nat.le_of_ble_eq_true rfl, Nat.le_of_ble_eq_true rfl⟩ rfl rfl rfl ⟨Nat.le_of_ble_eq_true rfl, Nat.le_of_ble_eq_true rfl⟩ hl.1 rfl rfl (Nat.le_of_ble_eq_true rfl) dL_law_238 ?_
  refine hx_aload_n C dL_law_241 rfl (lv_at hl 2 rfl) ?_
  refine hx_aload_n C dL_law_242 rfl (lv_at hl 0 rfl) ?_
  refine hx_iload_n C dL_law_243 rfl (lv_at hl 3 rfl) ?_
  refine hx_iconst (v := 1) C dL_law_244 (by decide) ?_
  refine hx_iadd C dL_law_245 ?_
  refine hx_sld (n := (Int32.toNatClampNeg (v3 + 1))) C hXs hbl hbA g11 rfl dL_law_246 ?_
  refine hx_aload_n C dL_law_247 rfl (lv_at hl 0 rfl) ?_
  refine hx_iload_n C dL_law_248 rfl (lv_at hl 3 rfl) ?_
  refine hx_iconst (v := 2) C dL_law_249 (by decide) ?_
  refine hx_iadd C dL_law_250 ?_
  refine hx_sld (n := (Int32.toNatClampNeg (v3 + 2))) C hXs hbl hbA g12 rfl dL_law_251 ?_
  obtain ⟨r16, e17, h⟩ := hx_bind h
  obtain ⟨g18, h⟩ := hx_gd h
  refine hx_callV (As := [.int (xs (Int32.toNatClampNeg (v3 + 1))), .int (xs (Int32.toNatClampNeg (v3 + 2)))]) (rest := [.int r13.1]) (n := 2) (Cn := RX10) C (c_X10_setScale e17) gL_law_X10_setScale g18 (by decide) rfl (by decide +kernel) ⟨Nat.le_of_ble_eq_true rfl, Nat.le_of_ble_eq_true rfl⟩ rfl rfl rfl ⟨Nat.le_of_ble_eq_true rfl, Nat.le_of_ble_eq_true rfl⟩ hl.1 rfl rfl (Nat.le_of_ble_eq_true rfl) dL_law_252 ?_
  refine hx_icmp_eq (tgt := 1186) C dL_law_255 (by decide) (fun c19 => ?_) (fun c19 => ?_)
  · have h := hx_pos c19 h
    exact w_L_law_1186 k18 C hr hlocks hXs hbl hbA hk18 v1 v2 v3 r16.2 ls h (lv_sub hl [0, 1, 2, 3] rfl)
  · have h := hx_neg c19 h
    refine hx_iconst (v := 0) C dL_law_258 (by decide) ?_
    exact absurd (hx_some1 h) (by decide)
def f_L_law_260 (L : hL) (xs : Nat → Int32) (Ln : Nat) (k18 : Nat → Nat → Int32 → hX → Option Int32) (v1 : Nat) (v2 : Nat) (v3 : Int32) (X : hX) : Option Int32 :=
  if hin (v3 + 1) Ln then
  (f_X9_setBias L X v1 (xs (Int32.toNatClampNeg (v3 + 1)))).bind fun r21 =>
  if tk L v1 9 then
  (f_X10_setBias L r21.2 v2 (xs (Int32.toNatClampNeg (v3 + 1)))).bind fun r24 =>
  if tk L v2 10 then
  if r21.1 = r24.1 then
    f_L_law_1186 L xs Ln k18 v1 v2 v3 r24.2
  else
    some 0
  else none
  else none
  else none
set_option maxRecDepth 100000 in
set_option maxHeartbeats 8000000 in
theorem w_L_law_260 {p : Program} {l : Launch} {e : Env} {s : State} {m : MethodId} {below : List Frame} {meth : Method} {c : Code} {dC : Nat → ClassId} {dI : Nat → Nat → Nat} {cy : Nat → ClassId} {ad : Nat → Nat} {L : hL} {b Ln : Nat} {xs : Nat → Int32} (k18 : Nat → Nat → Int32 → hX → Option Int32) (C : hC p s m #[Value.ref b] meth c dC dI cy ad L (fun q => s.heap.size ≤ q) code 4 wsL_law RL) (hr : meth.sig.returnType = ret) (hlocks : meth.locks = false) (hXs : va_X b Ln xs s s.heap) (hbl : b < s.heap.size) (hbA : ¬ (fun q : Nat => s.heap.size ≤ q) b) (hk18 : ∀ (v1 : Nat) (v2 : Nat) (v3 : Int32) (X : hX) (ls : Array Slot), k18 v1 v2 v3 X = some 1 → lv_has ls 4 [(0, .ref b), (1, .ref (ad v1)), (2, .ref (ad v2)), (3, .int v3)] → hG p l e room_1 s m #[Value.ref b] below meth c dC dI cy ad L (fun q => s.heap.size ≤ q) 478 5054 (lw_Z below #[Value.ref b] s) X 18 ls []) : ∀ (v1 : Nat) (v2 : Nat) (v3 : Int32) (X : hX) (ls : Array Slot), f_L_law_260 L xs Ln k18 v1 v2 v3 X = some 1 → lv_has ls 4 [(0, .ref b), (1, .ref (ad v1)), (2, .ref (ad v2)), (3, .int v3)] → hG p l e room_1 s m #[Value.ref b] below meth c dC dI cy ad L (fun q => s.heap.size ≤ q) 478 5054 (lw_Z below #[Value.ref b] s) X 260 ls [] := by
  intro v1 v2 v3 X ls h hl
  unfold f_L_law_260 at h
  refine hx_aload_n C dL_law_260 rfl (lv_at hl 1 rfl) ?_
  refine hx_aload_n C dL_law_261 rfl (lv_at hl 0 rfl) ?_
  refine hx_iload_n C dL_law_262 rfl (lv_at hl 3 rfl) ?_
  refine hx_iconst (v := 1) C dL_law_263 (by decide) ?_
  refine hx_iadd C dL_law_264 ?_
  obtain ⟨g20, h⟩ := hx_gd h
  refine hx_sld (n := (Int32.toNatClampNeg (v3 + 1))) C hXs hbl hbA g20 rfl dL_law_265 ?_
  obtain ⟨r21, e22, h⟩ := hx_bind h
  obtain ⟨g23, h⟩ := hx_gd h
  refine hx_callV (As := [.int (xs (Int32.toNatClampNeg (v3 + 1)))]) (rest := []) (n := 1) (Cn := RX9) C (c_X9_setBias e22) gL_law_X9_setBias g23 (by decide) rfl (by decide +kernel) ⟨Nat.le_of_ble_eq_true rfl, Nat.le_of_ble_eq_true rfl⟩ rfl rfl rfl ⟨Nat.le_of_ble_eq_true rfl, Nat.le_of_ble_eq_true rfl⟩ hl.1 rfl rfl (Nat.le_of_ble_eq_true rfl) dL_law_266 ?_
  refine hx_aload_n C dL_law_269 rfl (lv_at hl 2 rfl) ?_
  refine hx_aload_n C dL_law_270 rfl (lv_at hl 0 rfl) ?_
  refine hx_iload_n C dL_law_271 rfl (lv_at hl 3 rfl) ?_
  refine hx_iconst (v := 1) C dL_law_272 (by decide) ?_
  refine hx_iadd C dL_law_273 ?_
  refine hx_sld (n := (Int32.toNatClampNeg (v3 + 1))) C hXs hbl hbA g20 rfl dL_law_274 ?_
  obtain ⟨r24, e25, h⟩ := hx_bind h
  obtain ⟨g26, h⟩ := hx_gd h
  refine hx_callV (As := [.int (xs (Int32.toNatClampNeg (v3 + 1)))]) (rest := [.int r21.1]) (n := 1) (Cn := RX10) C (c_X10_setBias e25) gL_law_X10_setBias g26 (by decide) rfl (by decide +kernel) ⟨Nat.le_of_ble_eq_true rfl, Nat.le_of_ble_eq_true rfl⟩ rfl rfl rfl ⟨Nat.le_of_ble_eq_true rfl, Nat.le_of_ble_eq_true rfl⟩ hl.1 rfl rfl (Nat.le_of_ble_eq_true rfl) dL_law_275 ?_
  refine hx_icmp_eq (tgt := 1186) C dL_law_278 (by decide) (fun c27 => ?_) (fun c27 => ?_)
  · have h := hx_pos c27 h
    exact w_L_law_1186 k18 C hr hlocks hXs hbl hbA hk18 v1 v2 v3 r24.2 ls h (lv_sub hl [0, 1, 2, 3] rfl)
  · have h := hx_neg c27 h
    refine hx_iconst (v := 0) C dL_law_281 (by decide) ?_
    exact absurd (hx_some1 h) (by decide)
def f_L_law_283 (L : hL) (xs : Nat → Int32) (Ln : Nat) (k18 : Nat → Nat → Int32 → hX → Option Int32) (v1 : Nat) (v2 : Nat) (v3 : Int32) (X : hX) : Option Int32 :=
  if hin (v3 + 1) Ln then
  (f_X9_setRule L X v1 (xs (Int32.toNatClampNeg (v3 + 1)))).bind fun r29 =>
  if tk L v1 9 then
  (f_X10_setRule L r29.2 v2 (xs (Int32.toNatClampNeg (v3 + 1)))).bind fun r32 =>
  if tk L v2 10 then
  if r29.1 = r32.1 then
    f_L_law_1186 L xs Ln k18 v1 v2 v3 r32.2
  else
    some 0
  else none
  else none
  else none
set_option maxRecDepth 100000 in
set_option maxHeartbeats 8000000 in
theorem w_L_law_283 {p : Program} {l : Launch} {e : Env} {s : State} {m : MethodId} {below : List Frame} {meth : Method} {c : Code} {dC : Nat → ClassId} {dI : Nat → Nat → Nat} {cy : Nat → ClassId} {ad : Nat → Nat} {L : hL} {b Ln : Nat} {xs : Nat → Int32} (k18 : Nat → Nat → Int32 → hX → Option Int32) (C : hC p s m #[Value.ref b] meth c dC dI cy ad L (fun q => s.heap.size ≤ q) code 4 wsL_law RL) (hr : meth.sig.returnType = ret) (hlocks : meth.locks = false) (hXs : va_X b Ln xs s s.heap) (hbl : b < s.heap.size) (hbA : ¬ (fun q : Nat => s.heap.size ≤ q) b) (hk18 : ∀ (v1 : Nat) (v2 : Nat) (v3 : Int32) (X : hX) (ls : Array Slot), k18 v1 v2 v3 X = some 1 → lv_has ls 4 [(0, .ref b), (1, .ref (ad v1)), (2, .ref (ad v2)), (3, .int v3)] → hG p l e room_1 s m #[Value.ref b] below meth c dC dI cy ad L (fun q => s.heap.size ≤ q) 478 5054 (lw_Z below #[Value.ref b] s) X 18 ls []) : ∀ (v1 : Nat) (v2 : Nat) (v3 : Int32) (X : hX) (ls : Array Slot), f_L_law_283 L xs Ln k18 v1 v2 v3 X = some 1 → lv_has ls 4 [(0, .ref b), (1, .ref (ad v1)), (2, .ref (ad v2)), (3, .int v3)] → hG p l e room_1 s m #[Value.ref b] below meth c dC dI cy ad L (fun q => s.heap.size ≤ q) 478 5054 (lw_Z below #[Value.ref b] s) X 283 ls [] := by
  intro v1 v2 v3 X ls h hl
  unfold f_L_law_283 at h
  refine hx_aload_n C dL_law_283 rfl (lv_at hl 1 rfl) ?_
  refine hx_aload_n C dL_law_284 rfl (lv_at hl 0 rfl) ?_
  refine hx_iload_n C dL_law_285 rfl (lv_at hl 3 rfl) ?_
  refine hx_iconst (v := 1) C dL_law_286 (by decide) ?_
  refine hx_iadd C dL_law_287 ?_
  obtain ⟨g28, h⟩ := hx_gd h
  refine hx_sld (n := (Int32.toNatClampNeg (v3 + 1))) C hXs hbl hbA g28 rfl dL_law_288 ?_
  obtain ⟨r29, e30, h⟩ := hx_bind h
  obtain ⟨g31, h⟩ := hx_gd h
  refine hx_callV (As := [.int (xs (Int32.toNatClampNeg (v3 + 1)))]) (rest := []) (n := 1) (Cn := RX9) C (c_X9_setRule e30) gL_law_X9_setRule g31 (by decide) rfl (by decide +kernel) ⟨Nat.le_of_ble_eq_true rfl, Nat.le_of_ble_eq_true rfl⟩ rfl rfl rfl ⟨Nat.le_of_ble_eq_true rfl, Nat.le_of_ble_eq_true rfl⟩ hl.1 rfl rfl (Nat.le_of_ble_eq_true rfl) dL_law_289 ?_
  refine hx_aload_n C dL_law_292 rfl (lv_at hl 2 rfl) ?_
  refine hx_aload_n C dL_law_293 rfl (lv_at hl 0 rfl) ?_
  refine hx_iload_n C dL_law_294 rfl (lv_at hl 3 rfl) ?_
  refine hx_iconst (v := 1) C dL_law_295 (by decide) ?_
  refine hx_iadd C dL_law_296 ?_
  refine hx_sld (n := (Int32.toNatClampNeg (v3 + 1))) C hXs hbl hbA g28 rfl dL_law_297 ?_
  obtain ⟨r32, e33, h⟩ := hx_bind h
  obtain ⟨g34, h⟩ := hx_gd h
  refine hx_callV (As := [.int (xs (Int32.toNatClampNeg (v3 + 1)))]) (rest := [.int r29.1]) (n := 1) (Cn := RX10) C (c_X10_setRule e33) gL_law_X10_setRule g34 (by decide) rfl (by decide +kernel) ⟨Nat.le_of_ble_eq_true rfl, Nat.le_of_ble_eq_true rfl⟩ rfl rfl rfl ⟨Nat.le_of_ble_eq_true rfl, Nat.le_of_ble_eq_true rfl⟩ hl.1 rfl rfl (Nat.le_of_ble_eq_true rfl) dL_law_298 ?_
  refine hx_icmp_eq (tgt := 1186) C dL_law_301 (by decide) (fun c35 => ?_) (fun c35 => ?_)
  · have h := hx_pos c35 h
    exact w_L_law_1186 k18 C hr hlocks hXs hbl hbA hk18 v1 v2 v3 r32.2 ls h (lv_sub hl [0, 1, 2, 3] rfl)
  · have h := hx_neg c35 h
    refine hx_iconst (v := 0) C dL_law_304 (by decide) ?_
    exact absurd (hx_some1 h) (by decide)
def f_L_law_306 (L : hL) (xs : Nat → Int32) (Ln : Nat) (k18 : Nat → Nat → Int32 → hX → Option Int32) (v1 : Nat) (v2 : Nat) (v3 : Int32) (X : hX) : Option Int32 :=
  if hin (v3 + 1) Ln then
  (f_X9_setFee L X v1 (xs (Int32.toNatClampNeg (v3 + 1)))).bind fun r37 =>
  if tk L v1 9 then
  (f_X10_setFee L r37.2 v2 (xs (Int32.toNatClampNeg (v3 + 1)))).bind fun r40 =>
  if tk L v2 10 then
  if r37.1 = r40.1 then
    f_L_law_1186 L xs Ln k18 v1 v2 v3 r40.2
  else
    some 0
  else none
  else none
  else none
set_option maxRecDepth 100000 in
set_option maxHeartbeats 8000000 in
theorem w_L_law_306 {p : Program} {l : Launch} {e : Env} {s : State} {m : MethodId} {below : List Frame} {meth : Method} {c : Code} {dC : Nat → ClassId} {dI : Nat → Nat → Nat} {cy : Nat → ClassId} {ad : Nat → Nat} {L : hL} {b Ln : Nat} {xs : Nat → Int32} (k18 : Nat → Nat → Int32 → hX → Option Int32) (C : hC p s m #[Value.ref b] meth c dC dI cy ad L (fun q => s.heap.size ≤ q) code 4 wsL_law RL) (hr : meth.sig.returnType = ret) (hlocks : meth.locks = false) (hXs : va_X b Ln xs s s.heap) (hbl : b < s.heap.size) (hbA : ¬ (fun q : Nat => s.heap.size ≤ q) b) (hk18 : ∀ (v1 : Nat) (v2 : Nat) (v3 : Int32) (X : hX) (ls : Array Slot), k18 v1 v2 v3 X = some 1 → lv_has ls 4 [(0, .ref b), (1, .ref (ad v1)), (2, .ref (ad v2)), (3, .int v3)] → hG p l e room_1 s m #[Value.ref b] below meth c dC dI cy ad L (fun q => s.heap.size ≤ q) 478 5054 (lw_Z below #[Value.ref b] s) X 18 ls []) : ∀ (v1 : Nat) (v2 : Nat) (v3 : Int32) (X : hX) (ls : Array Slot), f_L_law_306 L xs Ln k18 v1 v2 v3 X = some 1 → lv_has ls 4 [(0, .ref b), (1, .ref (ad v1)), (2, .ref (ad v2)), (3, .int v3)] → hG p l e room_1 s m #[Value.ref b] below meth c dC dI cy ad L (fun q => s.heap.size ≤ q) 478 5054 (lw_Z below #[Value.ref b] s) X 306 ls [] := by
  intro v1 v2 v3 X ls h hl
  unfold f_L_law_306 at h
  refine hx_aload_n C dL_law_306 rfl (lv_at hl 1 rfl) ?_
  refine hx_aload_n C dL_law_307 rfl (lv_at hl 0 rfl) ?_
  refine hx_iload_n C dL_law_308 rfl (lv_at hl 3 rfl) ?_
  refine hx_iconst (v := 1) C dL_law_309 (by decide) ?_
  refine hx_iadd C dL_law_310 ?_
  obtain ⟨g36, h⟩ := hx_gd h
  refine hx_sld (n := (Int32.toNatClampNeg (v3 + 1))) C hXs hbl hbA g36 rfl dL_law_311 ?_
  obtain ⟨r37, e38, h⟩ := hx_bind h
  obtain ⟨g39, h⟩ := hx_gd h
  refine hx_callV (As := [.int (xs (Int32.toNatClampNeg (v3 + 1)))]) (rest := []) (n := 1) (Cn := RX9) C (c_X9_setFee e38) gL_law_X9_setFee g39 (by decide) rfl (by decide +kernel) ⟨Nat.le_of_ble_eq_true rfl, Nat.le_of_ble_eq_true rfl⟩ rfl rfl rfl ⟨Nat.le_of_ble_eq_true rfl, Nat.le_of_ble_eq_true rfl⟩ hl.1 rfl rfl (Nat.le_of_ble_eq_true rfl) dL_law_312 ?_
  refine hx_aload_n C dL_law_315 rfl (lv_at hl 2 rfl) ?_
  refine hx_aload_n C dL_law_316 rfl (lv_at hl 0 rfl) ?_
  refine hx_iload_n C dL_law_317 rfl (lv_at hl 3 rfl) ?_
  refine hx_iconst (v := 1) C dL_law_318 (by decide) ?_
  refine hx_iadd C dL_law_319 ?_
  refine hx_sld (n := (Int32.toNatClampNeg (v3 + 1))) C hXs hbl hbA g36 rfl dL_law_320 ?_
  obtain ⟨r40, e41, h⟩ := hx_bind h
  obtain ⟨g42, h⟩ := hx_gd h
  refine hx_callV (As := [.int (xs (Int32.toNatClampNeg (v3 + 1)))]) (rest := [.int r37.1]) (n := 1) (Cn := RX10) C (c_X10_setFee e41) gL_law_X10_setFee g42 (by decide) rfl (by decide +kernel) ⟨Nat.le_of_ble_eq_true rfl, Nat.le_of_ble_eq_true rfl⟩ rfl rfl rfl ⟨Nat.le_of_ble_eq_true rfl, Nat.le_of_ble_eq_true rfl⟩ hl.1 rfl rfl (Nat.le_of_ble_eq_true rfl) dL_law_321 ?_
  refine hx_icmp_eq (tgt := 1186) C dL_law_324 (by decide) (fun c43 => ?_) (fun c43 => ?_)
  · have h := hx_pos c43 h
    exact w_L_law_1186 k18 C hr hlocks hXs hbl hbA hk18 v1 v2 v3 r40.2 ls h (lv_sub hl [0, 1, 2, 3] rfl)
  · have h := hx_neg c43 h
    refine hx_iconst (v := 0) C dL_law_327 (by decide) ?_
    exact absurd (hx_some1 h) (by decide)
def f_L_law_329 (L : hL) (xs : Nat → Int32) (Ln : Nat) (k18 : Nat → Nat → Int32 → hX → Option Int32) (v1 : Nat) (v2 : Nat) (v3 : Int32) (X : hX) : Option Int32 :=
  if hin (v3 + 1) Ln then
  (f_X9_come L X v1 (xs (Int32.toNatClampNeg (v3 + 1)))).bind fun r45 =>
  if tk L v1 9 then
  (f_X10_come L r45.2 v2 (xs (Int32.toNatClampNeg (v3 + 1)))).bind fun r48 =>
  if tk L v2 10 then
  if r45.1 = r48.1 then
    f_L_law_1186 L xs Ln k18 v1 v2 v3 r48.2
  else
    some 0
  else none
  else none
  else none
set_option maxRecDepth 100000 in
set_option maxHeartbeats 8000000 in
theorem w_L_law_329 {p : Program} {l : Launch} {e : Env} {s : State} {m : MethodId} {below : List Frame} {meth : Method} {c : Code} {dC : Nat → ClassId} {dI : Nat → Nat → Nat} {cy : Nat → ClassId} {ad : Nat → Nat} {L : hL} {b Ln : Nat} {xs : Nat → Int32} (k18 : Nat → Nat → Int32 → hX → Option Int32) (C : hC p s m #[Value.ref b] meth c dC dI cy ad L (fun q => s.heap.size ≤ q) code 4 wsL_law RL) (hr : meth.sig.returnType = ret) (hlocks : meth.locks = false) (hXs : va_X b Ln xs s s.heap) (hbl : b < s.heap.size) (hbA : ¬ (fun q : Nat => s.heap.size ≤ q) b) (hk18 : ∀ (v1 : Nat) (v2 : Nat) (v3 : Int32) (X : hX) (ls : Array Slot), k18 v1 v2 v3 X = some 1 → lv_has ls 4 [(0, .ref b), (1, .ref (ad v1)), (2, .ref (ad v2)), (3, .int v3)] → hG p l e room_1 s m #[Value.ref b] below meth c dC dI cy ad L (fun q => s.heap.size ≤ q) 478 5054 (lw_Z below #[Value.ref b] s) X 18 ls []) : ∀ (v1 : Nat) (v2 : Nat) (v3 : Int32) (X : hX) (ls : Array Slot), f_L_law_329 L xs Ln k18 v1 v2 v3 X = some 1 → lv_has ls 4 [(0, .ref b), (1, .ref (ad v1)), (2, .ref (ad v2)), (3, .int v3)] → hG p l e room_1 s m #[Value.ref b] below meth c dC dI cy ad L (fun q => s.heap.size ≤ q) 478 5054 (lw_Z below #[Value.ref b] s) X 329 ls [] := by
  intro v1 v2 v3 X ls h hl
  unfold f_L_law_329 at h
  refine hx_aload_n C dL_law_329 rfl (lv_at hl 1 rfl) ?_
  refine hx_aload_n C dL_law_330 rfl (lv_at hl 0 rfl) ?_
  refine hx_iload_n C dL_law_331 rfl (lv_at hl 3 rfl) ?_
  refine hx_iconst (v := 1) C dL_law_332 (by decide) ?_
  refine hx_iadd C dL_law_333 ?_
  obtain ⟨g44, h⟩ := hx_gd h
  refine hx_sld (n := (Int32.toNatClampNeg (v3 + 1))) C hXs hbl hbA g44 rfl dL_law_334 ?_
  obtain ⟨r45, e46, h⟩ := hx_bind h
  obtain ⟨g47, h⟩ := hx_gd h
  refine hx_callV (As := [.int (xs (Int32.toNatClampNeg (v3 + 1)))]) (rest := []) (n := 1) (Cn := RX9) C (c_X9_come e46) gL_law_X9_come g47 (by decide) rfl (by decide +kernel) ⟨Nat.le_of_ble_eq_true rfl, Nat.le_of_ble_eq_true rfl⟩ rfl rfl rfl ⟨Nat.le_of_ble_eq_true rfl, Nat.le_of_ble_eq_true rfl⟩ hl.1 rfl rfl (Nat.le_of_ble_eq_true rfl) dL_law_335 ?_
  refine hx_aload_n C dL_law_338 rfl (lv_at hl 2 rfl) ?_
  refine hx_aload_n C dL_law_339 rfl (lv_at hl 0 rfl) ?_
  refine hx_iload_n C dL_law_340 rfl (lv_at hl 3 rfl) ?_
  refine hx_iconst (v := 1) C dL_law_341 (by decide) ?_
  refine hx_iadd C dL_law_342 ?_
  refine hx_sld (n := (Int32.toNatClampNeg (v3 + 1))) C hXs hbl hbA g44 rfl dL_law_343 ?_
  obtain ⟨r48, e49, h⟩ := hx_bind h
  obtain ⟨g50, h⟩ := hx_gd h
  refine hx_callV (As := [.int (xs (Int32.toNatClampNeg (v3 + 1)))]) (rest := [.int r45.1]) (n := 1) (Cn := RX10) C (c_X10_come e49) gL_law_X10_come g50 (by decide) rfl (by decide +kernel) ⟨Nat.le_of_ble_eq_true rfl, Nat.le_of_ble_eq_true rfl⟩ rfl rfl rfl ⟨Nat.le_of_ble_eq_true rfl, Nat.le_of_ble_eq_true rfl⟩ hl.1 rfl rfl (Nat.le_of_ble_eq_true rfl) dL_law_344 ?_
  refine hx_icmp_eq (tgt := 1186) C dL_law_347 (by decide) (fun c51 => ?_) (fun c51 => ?_)
  · have h := hx_pos c51 h
    exact w_L_law_1186 k18 C hr hlocks hXs hbl hbA hk18 v1 v2 v3 r48.2 ls h (lv_sub hl [0, 1, 2, 3] rfl)
  · have h := hx_neg c51 h
    refine hx_iconst (v := 0) C dL_law_350 (by decide) ?_
    exact absurd (hx_some1 h) (by decide)
def f_L_law_352 (L : hL) (xs : Nat → Int32) (Ln : Nat) (k18 : Nat → Nat → Int32 → hX → Option Int32) (v1 : Nat) (v2 : Nat) (v3 : Int32) (X : hX) : Option Int32 :=
  if hin (v3 + 1) Ln then
  (f_X9_leave L X v1 (xs (Int32.toNatClampNeg (v3 + 1)))).bind fun r53 =>
  if tk L v1 9 then
  (f_X10_leave L r53.2 v2 (xs (Int32.toNatClampNeg (v3 + 1)))).bind fun r56 =>
  if tk L v2 10 then
  if r53.1 = r56.1 then
    f_L_law_1186 L xs Ln k18 v1 v2 v3 r56.2
  else
    some 0
  else none
  else none
  else none
set_option maxRecDepth 100000 in
set_option maxHeartbeats 8000000 in
theorem w_L_law_352 {p : Program} {l : Launch} {e : Env} {s : State} {m : MethodId} {below : List Frame} {meth : Method} {c : Code} {dC : Nat → ClassId} {dI : Nat → Nat → Nat} {cy : Nat → ClassId} {ad : Nat → Nat} {L : hL} {b Ln : Nat} {xs : Nat → Int32} (k18 : Nat → Nat → Int32 → hX → Option Int32) (C : hC p s m #[Value.ref b] meth c dC dI cy ad L (fun q => s.heap.size ≤ q) code 4 wsL_law RL) (hr : meth.sig.returnType = ret) (hlocks : meth.locks = false) (hXs : va_X b Ln xs s s.heap) (hbl : b < s.heap.size) (hbA : ¬ (fun q : Nat => s.heap.size ≤ q) b) (hk18 : ∀ (v1 : Nat) (v2 : Nat) (v3 : Int32) (X : hX) (ls : Array Slot), k18 v1 v2 v3 X = some 1 → lv_has ls 4 [(0, .ref b), (1, .ref (ad v1)), (2, .ref (ad v2)), (3, .int v3)] → hG p l e room_1 s m #[Value.ref b] below meth c dC dI cy ad L (fun q => s.heap.size ≤ q) 478 5054 (lw_Z below #[Value.ref b] s) X 18 ls []) : ∀ (v1 : Nat) (v2 : Nat) (v3 : Int32) (X : hX) (ls : Array Slot), f_L_law_352 L xs Ln k18 v1 v2 v3 X = some 1 → lv_has ls 4 [(0, .ref b), (1, .ref (ad v1)), (2, .ref (ad v2)), (3, .int v3)] → hG p l e room_1 s m #[Value.ref b] below meth c dC dI cy ad L (fun q => s.heap.size ≤ q) 478 5054 (lw_Z below #[Value.ref b] s) X 352 ls [] := by
  intro v1 v2 v3 X ls h hl
  unfold f_L_law_352 at h
  refine hx_aload_n C dL_law_352 rfl (lv_at hl 1 rfl) ?_
  refine hx_aload_n C dL_law_353 rfl (lv_at hl 0 rfl) ?_
  refine hx_iload_n C dL_law_354 rfl (lv_at hl 3 rfl) ?_
  refine hx_iconst (v := 1) C dL_law_355 (by decide) ?_
  refine hx_iadd C dL_law_356 ?_
  obtain ⟨g52, h⟩ := hx_gd h
  refine hx_sld (n := (Int32.toNatClampNeg (v3 + 1))) C hXs hbl hbA g52 rfl dL_law_357 ?_
  obtain ⟨r53, e54, h⟩ := hx_bind h
  obtain ⟨g55, h⟩ := hx_gd h
  refine hx_callV (As := [.int (xs (Int32.toNatClampNeg (v3 + 1)))]) (rest := []) (n := 1) (Cn := RX9) C (c_X9_leave e54) gL_law_X9_leave g55 (by decide) rfl (by decide +kernel) ⟨Nat.le_of_ble_eq_true rfl, Nat.le_of_ble_eq_true rfl⟩ rfl rfl rfl ⟨Nat.le_of_ble_eq_true rfl, Nat.le_of_ble_eq_true rfl⟩ hl.1 rfl rfl (Nat.le_of_ble_eq_true rfl) dL_law_358 ?_
  refine hx_aload_n C dL_law_361 rfl (lv_at hl 2 rfl) ?_
  refine hx_aload_n C dL_law_362 rfl (lv_at hl 0 rfl) ?_
  refine hx_iload_n C dL_law_363 rfl (lv_at hl 3 rfl) ?_
  refine hx_iconst (v := 1) C dL_law_364 (by decide) ?_
  refine hx_iadd C dL_law_365 ?_
  refine hx_sld (n := (Int32.toNatClampNeg (v3 + 1))) C hXs hbl hbA g52 rfl dL_law_366 ?_
  obtain ⟨r56, e57, h⟩ := hx_bind h
  obtain ⟨g58, h⟩ := hx_gd h
  refine hx_callV (As := [.int (xs (Int32.toNatClampNeg (v3 + 1)))]) (rest := [.int r53.1]) (n := 1) (Cn := RX10) C (c_X10_leave e57) gL_law_X10_leave g58 (by decide) rfl (by decide +kernel) ⟨Nat.le_of_ble_eq_true rfl, Nat.le_of_ble_eq_true rfl⟩ rfl rfl rfl ⟨Nat.le_of_ble_eq_true rfl, Nat.le_of_ble_eq_true rfl⟩ hl.1 rfl rfl (Nat.le_of_ble_eq_true rfl) dL_law_367 ?_
  refine hx_icmp_eq (tgt := 1186) C dL_law_370 (by decide) (fun c59 => ?_) (fun c59 => ?_)
  · have h := hx_pos c59 h
    exact w_L_law_1186 k18 C hr hlocks hXs hbl hbA hk18 v1 v2 v3 r56.2 ls h (lv_sub hl [0, 1, 2, 3] rfl)
  · have h := hx_neg c59 h
    refine hx_iconst (v := 0) C dL_law_373 (by decide) ?_
    exact absurd (hx_some1 h) (by decide)
def f_L_law_375 (L : hL) (xs : Nat → Int32) (Ln : Nat) (k18 : Nat → Nat → Int32 → hX → Option Int32) (v1 : Nat) (v2 : Nat) (v3 : Int32) (X : hX) : Option Int32 :=
  if hin (v3 + 1) Ln then
  if hin (v3 + 2) Ln then
  if hin (v3 + 3) Ln then
  if hin (v3 + 4) Ln then
  (f_X9_weigh L X v1 (xs (Int32.toNatClampNeg (v3 + 1))) (xs (Int32.toNatClampNeg (v3 + 2))) (xs (Int32.toNatClampNeg (v3 + 3))) (xs (Int32.toNatClampNeg (v3 + 4)))).bind fun r64 =>
  if tk L v1 9 then
  (f_X10_weigh L r64.2 v2 (xs (Int32.toNatClampNeg (v3 + 1))) (xs (Int32.toNatClampNeg (v3 + 2))) (xs (Int32.toNatClampNeg (v3 + 3))) (xs (Int32.toNatClampNeg (v3 + 4)))).bind fun r67 =>
  if tk L v2 10 then
  if r64.1 = r67.1 then
    f_L_law_1186 L xs Ln k18 v1 v2 v3 r67.2
  else
    some 0
  else none
  else none
  else none
  else none
  else none
  else none
set_option maxRecDepth 100000 in
set_option maxHeartbeats 8000000 in
theorem w_L_law_375 {p : Program} {l : Launch} {e : Env} {s : State} {m : MethodId} {below : List Frame} {meth : Method} {c : Code} {dC : Nat → ClassId} {dI : Nat → Nat → Nat} {cy : Nat → ClassId} {ad : Nat → Nat} {L : hL} {b Ln : Nat} {xs : Nat → Int32} (k18 : Nat → Nat → Int32 → hX → Option Int32) (C : hC p s m #[Value.ref b] meth c dC dI cy ad L (fun q => s.heap.size ≤ q) code 4 wsL_law RL) (hr : meth.sig.returnType = ret) (hlocks : meth.locks = false) (hXs : va_X b Ln xs s s.heap) (hbl : b < s.heap.size) (hbA : ¬ (fun q : Nat => s.heap.size ≤ q) b) (hk18 : ∀ (v1 : Nat) (v2 : Nat) (v3 : Int32) (X : hX) (ls : Array Slot), k18 v1 v2 v3 X = some 1 → lv_has ls 4 [(0, .ref b), (1, .ref (ad v1)), (2, .ref (ad v2)), (3, .int v3)] → hG p l e room_1 s m #[Value.ref b] below meth c dC dI cy ad L (fun q => s.heap.size ≤ q) 478 5054 (lw_Z below #[Value.ref b] s) X 18 ls []) : ∀ (v1 : Nat) (v2 : Nat) (v3 : Int32) (X : hX) (ls : Array Slot), f_L_law_375 L xs Ln k18 v1 v2 v3 X = some 1 → lv_has ls 4 [(0, .ref b), (1, .ref (ad v1)), (2, .ref (ad v2)), (3, .int v3)] → hG p l e room_1 s m #[Value.ref b] below meth c dC dI cy ad L (fun q => s.heap.size ≤ q) 478 5054 (lw_Z below #[Value.ref b] s) X 375 ls [] := by
  intro v1 v2 v3 X ls h hl
  unfold f_L_law_375 at h
  refine hx_aload_n C dL_law_375 rfl (lv_at hl 1 rfl) ?_
  refine hx_aload_n C dL_law_376 rfl (lv_at hl 0 rfl) ?_
  refine hx_iload_n C dL_law_377 rfl (lv_at hl 3 rfl) ?_
  refine hx_iconst (v := 1) C dL_law_378 (by decide) ?_
  refine hx_iadd C dL_law_379 ?_
  obtain ⟨g60, h⟩ := hx_gd h
  refine hx_sld (n := (Int32.toNatClampNeg (v3 + 1))) C hXs hbl hbA g60 rfl dL_law_380 ?_
  refine hx_aload_n C dL_law_381 rfl (lv_at hl 0 rfl) ?_
  refine hx_iload_n C dL_law_382 rfl (lv_at hl 3 rfl) ?_
  refine hx_iconst (v := 2) C dL_law_383 (by decide) ?_
  refine hx_iadd C dL_law_384 ?_
  obtain ⟨g61, h⟩ := hx_gd h
  refine hx_sld (n := (Int32.toNatClampNeg (v3 + 2))) C hXs hbl hbA g61 rfl dL_law_385 ?_
  refine hx_aload_n C dL_law_386 rfl (lv_at hl 0 rfl) ?_
  refine hx_iload_n C dL_law_387 rfl (lv_at hl 3 rfl) ?_
  refine hx_iconst (v := 3) C dL_law_388 (by decide) ?_
  refine hx_iadd C dL_law_389 ?_
  obtain ⟨g62, h⟩ := hx_gd h
  refine hx_sld (n := (Int32.toNatClampNeg (v3 + 3))) C hXs hbl hbA g62 rfl dL_law_390 ?_
  refine hx_aload_n C dL_law_391 rfl (lv_at hl 0 rfl) ?_
  refine hx_iload_n C dL_law_392 rfl (lv_at hl 3 rfl) ?_
  refine hx_iconst (v := 4) C dL_law_393 (by decide) ?_
  refine hx_iadd C dL_law_394 ?_
  obtain ⟨g63, h⟩ := hx_gd h
  refine hx_sld (n := (Int32.toNatClampNeg (v3 + 4))) C hXs hbl hbA g63 rfl dL_law_395 ?_
  obtain ⟨r64, e65, h⟩ := hx_bind h
  obtain ⟨g66, h⟩ := hx_gd h
  refine hx_callV (As := [.int (xs (Int32.toNatClampNeg (v3 + 1))), .int (xs (Int32.toNatClampNeg (v3 + 2))), .int (xs (Int32.toNatClampNeg (v3 + 3))), .int (xs (Int32.toNatClampNeg (v3 + 4)))]) (rest := []) (n := 4) (Cn := RX9) C (c_X9_weigh e65) gL_law_X9_weigh g66 (by decide) rfl (by decide +kernel) ⟨Nat.le_of_ble_eq_true rfl, Nat.le_of_ble_eq_true rfl⟩ rfl rfl rfl ⟨Nat.le_of_ble_eq_true rfl, Nat.le_of_ble_eq_true rfl⟩ hl.1 rfl rfl (Nat.le_of_ble_eq_true rfl) dL_law_396 ?_
  refine hx_aload_n C dL_law_399 rfl (lv_at hl 2 rfl) ?_
  refine hx_aload_n C dL_law_400 rfl (lv_at hl 0 rfl) ?_
  refine hx_iload_n C dL_law_401 rfl (lv_at hl 3 rfl) ?_
  refine hx_iconst (v := 1) C dL_law_402 (by decide) ?_
  refine hx_iadd C dL_law_403 ?_
  refine hx_sld (n := (Int32.toNatClampNeg (v3 + 1))) C hXs hbl hbA g60 rfl dL_law_404 ?_
  refine hx_aload_n C dL_law_405 rfl (lv_at hl 0 rfl) ?_
  refine hx_iload_n C dL_law_406 rfl (lv_at hl 3 rfl) ?_
  refine hx_iconst (v := 2) C dL_law_407 (by decide) ?_
  refine hx_iadd C dL_law_408 ?_
  refine hx_sld (n := (Int32.toNatClampNeg (v3 + 2))) C hXs hbl hbA g61 rfl dL_law_409 ?_
  refine hx_aload_n C dL_law_410 rfl (lv_at hl 0 rfl) ?_
  refine hx_iload_n C dL_law_411 rfl (lv_at hl 3 rfl) ?_
  refine hx_iconst (v := 3) C dL_law_412 (by decide) ?_
  refine hx_iadd C dL_law_413 ?_
  refine hx_sld (n := (Int32.toNatClampNeg (v3 + 3))) C hXs hbl hbA g62 rfl dL_law_414 ?_
  refine hx_aload_n C dL_law_415 rfl (lv_at hl 0 rfl) ?_
  refine hx_iload_n C dL_law_416 rfl (lv_at hl 3 rfl) ?_
  refine hx_iconst (v := 4) C dL_law_417 (by decide) ?_
  refine hx_iadd C dL_law_418 ?_
  refine hx_sld (n := (Int32.toNatClampNeg (v3 + 4))) C hXs hbl hbA g63 rfl dL_law_419 ?_
  obtain ⟨r67, e68, h⟩ := hx_bind h
  obtain ⟨g69, h⟩ := hx_gd h
  refine hx_callV (As := [.int (xs (Int32.toNatClampNeg (v3 + 1))), .int (xs (Int32.toNatClampNeg (v3 + 2))), .int (xs (Int32.toNatClampNeg (v3 + 3))), .int (xs (Int32.toNatClampNeg (v3 + 4)))]) (rest := [.int r64.1]) (n := 4) (Cn := RX10) C (c_X10_weigh e68) gL_law_X10_weigh g69 (by decide) rfl (by decide +kernel) ⟨Nat.le_of_ble_eq_true rfl, Nat.le_of_ble_eq_true rfl⟩ rfl rfl rfl ⟨Nat.le_of_ble_eq_true rfl, Nat.le_of_ble_eq_true rfl⟩ hl.1 rfl rfl (Nat.le_of_ble_eq_true rfl) dL_law_420 ?_
  refine hx_icmp_eq (tgt := 1186) C dL_law_423 (by decide) (fun c70 => ?_) (fun c70 => ?_)
  · have h := hx_pos c70 h
    exact w_L_law_1186 k18 C hr hlocks hXs hbl hbA hk18 v1 v2 v3 r67.2 ls h (lv_sub hl [0, 1, 2, 3] rfl)
  · have h := hx_neg c70 h
    refine hx_iconst (v := 0) C dL_law_426 (by decide) ?_
    exact absurd (hx_some1 h) (by decide)
def f_L_law_428 (L : hL) (xs : Nat → Int32) (Ln : Nat) (k18 : Nat → Nat → Int32 → hX → Option Int32) (v1 : Nat) (v2 : Nat) (v3 : Int32) (X : hX) : Option Int32 :=
  if hin (v3 + 1) Ln then
  if hin (v3 + 2) Ln then
  (f_X9_claim L X v1 (xs (Int32.toNatClampNeg (v3 + 1))) (xs (Int32.toNatClampNeg (v3 + 2)))).bind fun r73 =>
  if tk L v1 9 then
  (f_X10_claim L r73.2 v2 (xs (Int32.toNatClampNeg (v3 + 1))) (xs (Int32.toNatClampNeg (v3 + 2)))).bind fun r76 =>
  if tk L v2 10 then
  if r73.1 = r76.1 then
    f_L_law_1186 L xs Ln k18 v1 v2 v3 r76.2
  else
    some 0
  else none
  else none
  else none
  else none
set_option maxRecDepth 100000 in
set_option maxHeartbeats 8000000 in
theorem w_L_law_428 {p : Program} {l : Launch} {e : Env} {s : State} {m : MethodId} {below : List Frame} {meth : Method} {c : Code} {dC : Nat → ClassId} {dI : Nat → Nat → Nat} {cy : Nat → ClassId} {ad : Nat → Nat} {L : hL} {b Ln : Nat} {xs : Nat → Int32} (k18 : Nat → Nat → Int32 → hX → Option Int32) (C : hC p s m #[Value.ref b] meth c dC dI cy ad L (fun q => s.heap.size ≤ q) code 4 wsL_law RL) (hr : meth.sig.returnType = ret) (hlocks : meth.locks = false) (hXs : va_X b Ln xs s s.heap) (hbl : b < s.heap.size) (hbA : ¬ (fun q : Nat => s.heap.size ≤ q) b) (hk18 : ∀ (v1 : Nat) (v2 : Nat) (v3 : Int32) (X : hX) (ls : Array Slot), k18 v1 v2 v3 X = some 1 → lv_has ls 4 [(0, .ref b), (1, .ref (ad v1)), (2, .ref (ad v2)), (3, .int v3)] → hG p l e room_1 s m #[Value.ref b] below meth c dC dI cy ad L (fun q => s.heap.size ≤ q) 478 5054 (lw_Z below #[Value.ref b] s) X 18 ls []) : ∀ (v1 : Nat) (v2 : Nat) (v3 : Int32) (X : hX) (ls : Array Slot), f_L_law_428 L xs Ln k18 v1 v2 v3 X = some 1 → lv_has ls 4 [(0, .ref b), (1, .ref (ad v1)), (2, .ref (ad v2)), (3, .int v3)] → hG p l e room_1 s m #[Value.ref b] below meth c dC dI cy ad L (fun q => s.heap.size ≤ q) 478 5054 (lw_Z below #[Value.ref b] s) X 428 ls [] := by
  intro v1 v2 v3 X ls h hl
  unfold f_L_law_428 at h
  refine hx_aload_n C dL_law_428 rfl (lv_at hl 1 rfl) ?_
  refine hx_aload_n C dL_law_429 rfl (lv_at hl 0 rfl) ?_
  refine hx_iload_n C dL_law_430 rfl (lv_at hl 3 rfl) ?_
  refine hx_iconst (v := 1) C dL_law_431 (by decide) ?_
  refine hx_iadd C dL_law_432 ?_
  obtain ⟨g71, h⟩ := hx_gd h
  refine hx_sld (n := (Int32.toNatClampNeg (v3 + 1))) C hXs hbl hbA g71 rfl dL_law_433 ?_
  refine hx_aload_n C dL_law_434 rfl (lv_at hl 0 rfl) ?_
  refine hx_iload_n C dL_law_435 rfl (lv_at hl 3 rfl) ?_
  refine hx_iconst (v := 2) C dL_law_436 (by decide) ?_
  refine hx_iadd C dL_law_437 ?_
  obtain ⟨g72, h⟩ := hx_gd h
  refine hx_sld (n := (Int32.toNatClampNeg (v3 + 2))) C hXs hbl hbA g72 rfl dL_law_438 ?_
  obtain ⟨r73, e74, h⟩ := hx_bind h
  obtain ⟨g75, h⟩ := hx_gd h
  refine hx_callV (As := [.int (xs (Int32.toNatClampNeg (v3 + 1))), .int (xs (Int32.toNatClampNeg (v3 + 2)))]) (rest := []) (n := 2) (Cn := RX9) C (c_X9_claim e74) gL_law_X9_claim g75 (by decide) rfl (by decide +kernel) ⟨Nat.le_of_ble_eq_true rfl, Nat.le_of_ble_eq_true rfl⟩ rfl rfl rfl ⟨Nat.le_of_ble_eq_true rfl, Nat.le_of_ble_eq_true rfl⟩ hl.1 rfl rfl (Nat.le_of_ble_eq_true rfl) dL_law_439 ?_
  refine hx_aload_n C dL_law_442 rfl (lv_at hl 2 rfl) ?_
  refine hx_aload_n C dL_law_443 rfl (lv_at hl 0 rfl) ?_
  refine hx_iload_n C dL_law_444 rfl (lv_at hl 3 rfl) ?_
  refine hx_iconst (v := 1) C dL_law_445 (by decide) ?_
  refine hx_iadd C dL_law_446 ?_
  refine hx_sld (n := (Int32.toNatClampNeg (v3 + 1))) C hXs hbl hbA g71 rfl dL_law_447 ?_
  refine hx_aload_n C dL_law_448 rfl (lv_at hl 0 rfl) ?_
  refine hx_iload_n C dL_law_449 rfl (lv_at hl 3 rfl) ?_
  refine hx_iconst (v := 2) C dL_law_450 (by decide) ?_
  refine hx_iadd C dL_law_451 ?_
  refine hx_sld (n := (Int32.toNatClampNeg (v3 + 2))) C hXs hbl hbA g72 rfl dL_law_452 ?_
  obtain ⟨r76, e77, h⟩ := hx_bind h
  obtain ⟨g78, h⟩ := hx_gd h
  refine hx_callV (As := [.int (xs (Int32.toNatClampNeg (v3 + 1))), .int (xs (Int32.toNatClampNeg (v3 + 2)))]) (rest := [.int r73.1]) (n := 2) (Cn := RX10) C (c_X10_claim e77) gL_law_X10_claim g78 (by decide) rfl (by decide +kernel) ⟨Nat.le_of_ble_eq_true rfl, Nat.le_of_ble_eq_true rfl⟩ rfl rfl rfl ⟨Nat.le_of_ble_eq_true rfl, Nat.le_of_ble_eq_true rfl⟩ hl.1 rfl rfl (Nat.le_of_ble_eq_true rfl) dL_law_453 ?_
  refine hx_icmp_eq (tgt := 1186) C dL_law_456 (by decide) (fun c79 => ?_) (fun c79 => ?_)
  · have h := hx_pos c79 h
    exact w_L_law_1186 k18 C hr hlocks hXs hbl hbA hk18 v1 v2 v3 r76.2 ls h (lv_sub hl [0, 1, 2, 3] rfl)
  · have h := hx_neg c79 h
    refine hx_iconst (v := 0) C dL_law_459 (by decide) ?_
    exact absurd (hx_some1 h) (by decide)
def f_L_law_461 (L : hL) (xs : Nat → Int32) (Ln : Nat) (k18 : Nat → Nat → Int32 → hX → Option Int32) (v1 : Nat) (v2 : Nat) (v3 : Int32) (X : hX) : Option Int32 :=
  if hin (v3 + 1) Ln then
  if hin (v3 + 2) Ln then
  if hin (v3 + 3) Ln then
  if hin (v3 + 4) Ln then
  if hin (v3 + 5) Ln then
  (f_X9_addPrize L X v1 (xs (Int32.toNatClampNeg (v3 + 1))) (xs (Int32.toNatClampNeg (v3 + 2))) (xs (Int32.toNatClampNeg (v3 + 3))) (xs (Int32.toNatClampNeg (v3 + 4))) (xs (Int32.toNatClampNeg (v3 + 5)))).bind fun r85 =>
  if tk L v1 9 then
  (f_X10_addPrize L r85.2 v2 (xs (Int32.toNatClampNeg (v3 + 1))) (xs (Int32.toNatClampNeg (v3 + 2))) (xs (Int32.toNatClampNeg (v3 + 3))) (xs (Int32.toNatClampNeg (v3 + 4))) (xs (Int32.toNatClampNeg (v3 + 5)))).bind fun r88 =>
  if tk L v2 10 then
  if r85.1 = r88.1 then
    f_L_law_1186 L xs Ln k18 v1 v2 v3 r88.2
  else
    some 0
  else none
  else none
  else none
  else none
  else none
  else none
  else none
set_option maxRecDepth 100000 in
set_option maxHeartbeats 8000000 in
theorem w_L_law_461 {p : Program} {l : Launch} {e : Env} {s : State} {m : MethodId} {below : List Frame} {meth : Method} {c : Code} {dC : Nat → ClassId} {dI : Nat → Nat → Nat} {cy : Nat → ClassId} {ad : Nat → Nat} {L : hL} {b Ln : Nat} {xs : Nat → Int32} (k18 : Nat → Nat → Int32 → hX → Option Int32) (C : hC p s m #[Value.ref b] meth c dC dI cy ad L (fun q => s.heap.size ≤ q) code 4 wsL_law RL) (hr : meth.sig.returnType = ret) (hlocks : meth.locks = false) (hXs : va_X b Ln xs s s.heap) (hbl : b < s.heap.size) (hbA : ¬ (fun q : Nat => s.heap.size ≤ q) b) (hk18 : ∀ (v1 : Nat) (v2 : Nat) (v3 : Int32) (X : hX) (ls : Array Slot), k18 v1 v2 v3 X = some 1 → lv_has ls 4 [(0, .ref b), (1, .ref (ad v1)), (2, .ref (ad v2)), (3, .int v3)] → hG p l e room_1 s m #[Value.ref b] below meth c dC dI cy ad L (fun q => s.heap.size ≤ q) 478 5054 (lw_Z below #[Value.ref b] s) X 18 ls []) : ∀ (v1 : Nat) (v2 : Nat) (v3 : Int32) (X : hX) (ls : Array Slot), f_L_law_461 L xs Ln k18 v1 v2 v3 X = some 1 → lv_has ls 4 [(0, .ref b), (1, .ref (ad v1)), (2, .ref (ad v2)), (3, .int v3)] → hG p l e room_1 s m #[Value.ref b] below meth c dC dI cy ad L (fun q => s.heap.size ≤ q) 478 5054 (lw_Z below #[Value.ref b] s) X 461 ls [] := by
  intro v1 v2 v3 X ls h hl
  unfold f_L_law_461 at h
  refine hx_aload_n C dL_law_461 rfl (lv_at hl 1 rfl) ?_
  refine hx_aload_n C dL_law_462 rfl (lv_at hl 0 rfl) ?_
  refine hx_iload_n C dL_law_463 rfl (lv_at hl 3 rfl) ?_
  refine hx_iconst (v := 1) C dL_law_464 (by decide) ?_
  refine hx_iadd C dL_law_465 ?_
  obtain ⟨g80, h⟩ := hx_gd h
  refine hx_sld (n := (Int32.toNatClampNeg (v3 + 1))) C hXs hbl hbA g80 rfl dL_law_466 ?_
  refine hx_aload_n C dL_law_467 rfl (lv_at hl 0 rfl) ?_
  refine hx_iload_n C dL_law_468 rfl (lv_at hl 3 rfl) ?_
  refine hx_iconst (v := 2) C dL_law_469 (by decide) ?_
  refine hx_iadd C dL_law_470 ?_
  obtain ⟨g81, h⟩ := hx_gd h
  refine hx_sld (n := (Int32.toNatClampNeg (v3 + 2))) C hXs hbl hbA g81 rfl dL_law_471 ?_
  refine hx_aload_n C dL_law_472 rfl (lv_at hl 0 rfl) ?_
  refine hx_iload_n C dL_law_473 rfl (lv_at hl 3 rfl) ?_
  refine hx_iconst (v := 3) C dL_law_474 (by decide) ?_
  refine hx_iadd C dL_law_475 ?_
  obtain ⟨g82, h⟩ := hx_gd h
  refine hx_sld (n := (Int32.toNatClampNeg (v3 + 3))) C hXs hbl hbA g82 rfl dL_law_476 ?_
  refine hx_aload_n C dL_law_477 rfl (lv_at hl 0 rfl) ?_
  refine hx_iload_n C dL_law_478 rfl (lv_at hl 3 rfl) ?_
  refine hx_iconst (v := 4) C dL_law_479 (by decide) ?_
  refine hx_iadd C dL_law_480 ?_
  obtain ⟨g83, h⟩ := hx_gd h
  refine hx_sld (n := (Int32.toNatClampNeg (v3 + 4))) C hXs hbl hbA g83 rfl dL_law_481 ?_
  refine hx_aload_n C dL_law_482 rfl (lv_at hl 0 rfl) ?_
  refine hx_iload_n C dL_law_483 rfl (lv_at hl 3 rfl) ?_
  refine hx_iconst (v := 5) C dL_law_484 (by decide) ?_
  refine hx_iadd C dL_law_485 ?_
  obtain ⟨g84, h⟩ := hx_gd h
  refine hx_sld (n := (Int32.toNatClampNeg (v3 + 5))) C hXs hbl hbA g84 rfl dL_law_486 ?_
  obtain ⟨r85, e86, h⟩ := hx_bind h
  obtain ⟨g87, h⟩ := hx_gd h
  refine hx_callV (As := [.int (xs (Int32.toNatClampNeg (v3 + 1))), .int (xs (Int32.toNatClampNeg (v3 + 2))), .int (xs (Int32.toNatClampNeg (v3 + 3))), .int (xs (Int32.toNatClampNeg (v3 + 4))), .int (xs (Int32.toNatClampNeg (v3 + 5)))]) (rest := []) (n := 5) (Cn := RX9) C (c_X9_addPrize e86) gL_law_X9_addPrize g87 (by decide) rfl (by decide +kernel) ⟨Nat.le_of_ble_eq_true rfl, Nat.le_of_ble_eq_true rfl⟩ rfl rfl rfl ⟨Nat.le_of_ble_eq_true rfl, Nat.le_of_ble_eq_true rfl⟩ hl.1 rfl rfl (Nat.le_of_ble_eq_true rfl) dL_law_487 ?_
  refine hx_aload_n C dL_law_490 rfl (lv_at hl 2 rfl) ?_
  refine hx_aload_n C dL_law_491 rfl (lv_at hl 0 rfl) ?_
  refine hx_iload_n C dL_law_492 rfl (lv_at hl 3 rfl) ?_
  refine hx_iconst (v := 1) C dL_law_493 (by decide) ?_
  refine hx_iadd C dL_law_494 ?_
  refine hx_sld (n := (Int32.toNatClampNeg (v3 + 1))) C hXs hbl hbA g80 rfl dL_law_495 ?_
  refine hx_aload_n C dL_law_496 rfl (lv_at hl 0 rfl) ?_
  refine hx_iload_n C dL_law_497 rfl (lv_at hl 3 rfl) ?_
  refine hx_iconst (v := 2) C dL_law_498 (by decide) ?_
  refine hx_iadd C dL_law_499 ?_
  refine hx_sld (n := (Int32.toNatClampNeg (v3 + 2))) C hXs hbl hbA g81 rfl dL_law_500 ?_
  refine hx_aload_n C dL_law_501 rfl (lv_at hl 0 rfl) ?_
  refine hx_iload_n C dL_law_502 rfl (lv_at hl 3 rfl) ?_
  refine hx_iconst (v := 3) C dL_law_503 (by decide) ?_
  refine hx_iadd C dL_law_504 ?_
  refine hx_sld (n := (Int32.toNatClampNeg (v3 + 3))) C hXs hbl hbA g82 rfl dL_law_505 ?_
  refine hx_aload_n C dL_law_506 rfl (lv_at hl 0 rfl) ?_
  refine hx_iload_n C dL_law_507 rfl (lv_at hl 3 rfl) ?_
  refine hx_iconst (v := 4) C dL_law_508 (by decide) ?_
  refine hx_iadd C dL_law_509 ?_
  refine hx_sld (n := (Int32.toNatClampNeg (v3 + 4))) C hXs hbl hbA g83 rfl dL_law_510 ?_
  refine hx_aload_n C dL_law_511 rfl (lv_at hl 0 rfl) ?_
  refine hx_iload_n C dL_law_512 rfl (lv_at hl 3 rfl) ?_
  refine hx_iconst (v := 5) C dL_law_513 (by decide) ?_
  refine hx_iadd C dL_law_514 ?_
  refine hx_sld (n := (Int32.toNatClampNeg (v3 + 5))) C hXs hbl hbA g84 rfl dL_law_515 ?_
  obtain ⟨r88, e89, h⟩ := hx_bind h
  obtain ⟨g90, h⟩ := hx_gd h
  refine hx_callV (As := [.int (xs (Int32.toNatClampNeg (v3 + 1))), .int (xs (Int32.toNatClampNeg (v3 + 2))), .int (xs (Int32.toNatClampNeg (v3 + 3))), .int (xs (Int32.toNatClampNeg (v3 + 4))), .int (xs (Int32.toNatClampNeg (v3 + 5)))]) (rest := [.int r85.1]) (n := 5) (Cn := RX10) C (c_X10_addPrize e89) gL_law_X10_addPrize g90 (by decide) rfl (by decide +kernel) ⟨Nat.le_of_ble_eq_true rfl, Nat.le_of_ble_eq_true rfl⟩ rfl rfl rfl ⟨Nat.le_of_ble_eq_true rfl, Nat.le_of_ble_eq_true rfl⟩ hl.1 rfl rfl (Nat.le_of_ble_eq_true rfl) dL_law_516 ?_
  refine hx_icmp_eq (tgt := 1186) C dL_law_519 (by decide) (fun c91 => ?_) (fun c91 => ?_)
  · have h := hx_pos c91 h
    exact w_L_law_1186 k18 C hr hlocks hXs hbl hbA hk18 v1 v2 v3 r88.2 ls h (lv_sub hl [0, 1, 2, 3] rfl)
  · have h := hx_neg c91 h
    refine hx_iconst (v := 0) C dL_law_522 (by decide) ?_
    exact absurd (hx_some1 h) (by decide)
def f_L_law_524 (L : hL) (xs : Nat → Int32) (Ln : Nat) (k18 : Nat → Nat → Int32 → hX → Option Int32) (v1 : Nat) (v2 : Nat) (v3 : Int32) (X : hX) : Option Int32 :=
  if hin (v3 + 1) Ln then
  (f_X9_removePrize L X v1 (xs (Int32.toNatClampNeg (v3 + 1)))).bind fun r93 =>
  if tk L v1 9 then
  (f_X10_removePrize L r93.2 v2 (xs (Int32.toNatClampNeg (v3 + 1)))).bind fun r96 =>
  if tk L v2 10 then
  if r93.1 = r96.1 then
    f_L_law_1186 L xs Ln k18 v1 v2 v3 r96.2
  else
    some 0
  else none
  else none
  else none
set_option maxRecDepth 100000 in
set_option maxHeartbeats 8000000 in
theorem w_L_law_524 {p : Program} {l : Launch} {e : Env} {s : State} {m : MethodId} {below : List Frame} {meth : Method} {c : Code} {dC : Nat → ClassId} {dI : Nat → Nat → Nat} {cy : Nat → ClassId} {ad : Nat → Nat} {L : hL} {b Ln : Nat} {xs : Nat → Int32} (k18 : Nat → Nat → Int32 → hX → Option Int32) (C : hC p s m #[Value.ref b] meth c dC dI cy ad L (fun q => s.heap.size ≤ q) code 4 wsL_law RL) (hr : meth.sig.returnType = ret) (hlocks : meth.locks = false) (hXs : va_X b Ln xs s s.heap) (hbl : b < s.heap.size) (hbA : ¬ (fun q : Nat => s.heap.size ≤ q) b) (hk18 : ∀ (v1 : Nat) (v2 : Nat) (v3 : Int32) (X : hX) (ls : Array Slot), k18 v1 v2 v3 X = some 1 → lv_has ls 4 [(0, .ref b), (1, .ref (ad v1)), (2, .ref (ad v2)), (3, .int v3)] → hG p l e room_1 s m #[Value.ref b] below meth c dC dI cy ad L (fun q => s.heap.size ≤ q) 478 5054 (lw_Z below #[Value.ref b] s) X 18 ls []) : ∀ (v1 : Nat) (v2 : Nat) (v3 : Int32) (X : hX) (ls : Array Slot), f_L_law_524 L xs Ln k18 v1 v2 v3 X = some 1 → lv_has ls 4 [(0, .ref b), (1, .ref (ad v1)), (2, .ref (ad v2)), (3, .int v3)] → hG p l e room_1 s m #[Value.ref b] below meth c dC dI cy ad L (fun q => s.heap.size ≤ q) 478 5054 (lw_Z below #[Value.ref b] s) X 524 ls [] := by
  intro v1 v2 v3 X ls h hl
  unfold f_L_law_524 at h
  refine hx_aload_n C dL_law_524 rfl (lv_at hl 1 rfl) ?_
  refine hx_aload_n C dL_law_525 rfl (lv_at hl 0 rfl) ?_
  refine hx_iload_n C dL_law_526 rfl (lv_at hl 3 rfl) ?_
  refine hx_iconst (v := 1) C dL_law_527 (by decide) ?_
  refine hx_iadd C dL_law_528 ?_
  obtain ⟨g92, h⟩ := hx_gd h
  refine hx_sld (n := (Int32.toNatClampNeg (v3 + 1))) C hXs hbl hbA g92 rfl dL_law_529 ?_
  obtain ⟨r93, e94, h⟩ := hx_bind h
  obtain ⟨g95, h⟩ := hx_gd h
  refine hx_callV (As := [.int (xs (Int32.toNatClampNeg (v3 + 1)))]) (rest := []) (n := 1) (Cn := RX9) C (c_X9_removePrize e94) gL_law_X9_removePrize g95 (by decide) rfl (by decide +kernel) ⟨Nat.le_of_ble_eq_true rfl, Nat.le_of_ble_eq_true rfl⟩ rfl rfl rfl ⟨Nat.le_of_ble_eq_true rfl, Nat.le_of_ble_eq_true rfl⟩ hl.1 rfl rfl (Nat.le_of_ble_eq_true rfl) dL_law_530 ?_
  refine hx_aload_n C dL_law_533 rfl (lv_at hl 2 rfl) ?_
  refine hx_aload_n C dL_law_534 rfl (lv_at hl 0 rfl) ?_
  refine hx_iload_n C dL_law_535 rfl (lv_at hl 3 rfl) ?_
  refine hx_iconst (v := 1) C dL_law_536 (by decide) ?_
  refine hx_iadd C dL_law_537 ?_
  refine hx_sld (n := (Int32.toNatClampNeg (v3 + 1))) C hXs hbl hbA g92 rfl dL_law_538 ?_
  obtain ⟨r96, e97, h⟩ := hx_bind h
  obtain ⟨g98, h⟩ := hx_gd h
  refine hx_callV (As := [.int (xs (Int32.toNatClampNeg (v3 + 1)))]) (rest := [.int r93.1]) (n := 1) (Cn := RX10) C (c_X10_removePrize e97) gL_law_X10_removePrize g98 (by decide) rfl (by decide +kernel) ⟨Nat.le_of_ble_eq_true rfl, Nat.le_of_ble_eq_true rfl⟩ rfl rfl rfl ⟨Nat.le_of_ble_eq_true rfl, Nat.le_of_ble_eq_true rfl⟩ hl.1 rfl rfl (Nat.le_of_ble_eq_true rfl) dL_law_539 ?_
  refine hx_icmp_eq (tgt := 1186) C dL_law_542 (by decide) (fun c99 => ?_) (fun c99 => ?_)
  · have h := hx_pos c99 h
    exact w_L_law_1186 k18 C hr hlocks hXs hbl hbA hk18 v1 v2 v3 r96.2 ls h (lv_sub hl [0, 1, 2, 3] rfl)
  · have h := hx_neg c99 h
    refine hx_iconst (v := 0) C dL_law_545 (by decide) ?_
    exact absurd (hx_some1 h) (by decide)
def f_L_law_547 (L : hL) (xs : Nat → Int32) (Ln : Nat) (k18 : Nat → Nat → Int32 → hX → Option Int32) (v1 : Nat) (v2 : Nat) (v3 : Int32) (X : hX) : Option Int32 :=
  if hin (v3 + 1) Ln then
  if hin (v3 + 2) Ln then
  (f_X9_setPrice L X v1 (xs (Int32.toNatClampNeg (v3 + 1))) (xs (Int32.toNatClampNeg (v3 + 2)))).bind fun r102 =>
  if tk L v1 9 then
  (f_X10_setPrice L r102.2 v2 (xs (Int32.toNatClampNeg (v3 + 1))) (xs (Int32.toNatClampNeg (v3 + 2)))).bind fun r105 =>
  if tk L v2 10 then
  if r102.1 = r105.1 then
    f_L_law_1186 L xs Ln k18 v1 v2 v3 r105.2
  else
    some 0
  else none
  else none
  else none
  else none
set_option maxRecDepth 100000 in
set_option maxHeartbeats 8000000 in
theorem w_L_law_547 {p : Program} {l : Launch} {e : Env} {s : State} {m : MethodId} {below : List Frame} {meth : Method} {c : Code} {dC : Nat → ClassId} {dI : Nat → Nat → Nat} {cy : Nat → ClassId} {ad : Nat → Nat} {L : hL} {b Ln : Nat} {xs : Nat → Int32} (k18 : Nat → Nat → Int32 → hX → Option Int32) (C : hC p s m #[Value.ref b] meth c dC dI cy ad L (fun q => s.heap.size ≤ q) code 4 wsL_law RL) (hr : meth.sig.returnType = ret) (hlocks : meth.locks = false) (hXs : va_X b Ln xs s s.heap) (hbl : b < s.heap.size) (hbA : ¬ (fun q : Nat => s.heap.size ≤ q) b) (hk18 : ∀ (v1 : Nat) (v2 : Nat) (v3 : Int32) (X : hX) (ls : Array Slot), k18 v1 v2 v3 X = some 1 → lv_has ls 4 [(0, .ref b), (1, .ref (ad v1)), (2, .ref (ad v2)), (3, .int v3)] → hG p l e room_1 s m #[Value.ref b] below meth c dC dI cy ad L (fun q => s.heap.size ≤ q) 478 5054 (lw_Z below #[Value.ref b] s) X 18 ls []) : ∀ (v1 : Nat) (v2 : Nat) (v3 : Int32) (X : hX) (ls : Array Slot), f_L_law_547 L xs Ln k18 v1 v2 v3 X = some 1 → lv_has ls 4 [(0, .ref b), (1, .ref (ad v1)), (2, .ref (ad v2)), (3, .int v3)] → hG p l e room_1 s m #[Value.ref b] below meth c dC dI cy ad L (fun q => s.heap.size ≤ q) 478 5054 (lw_Z below #[Value.ref b] s) X 547 ls [] := by
  intro v1 v2 v3 X ls h hl
  unfold f_L_law_547 at h
  refine hx_aload_n C dL_law_547 rfl (lv_at hl 1 rfl) ?_
  refine hx_aload_n C dL_law_548 rfl (lv_at hl 0 rfl) ?_
  refine hx_iload_n C dL_law_549 rfl (lv_at hl 3 rfl) ?_
  refine hx_iconst (v := 1) C dL_law_550 (by decide) ?_
  refine hx_iadd C dL_law_551 ?_
  obtain ⟨g100, h⟩ := hx_gd h
  refine hx_sld (n := (Int32.toNatClampNeg (v3 + 1))) C hXs hbl hbA g100 rfl dL_law_552 ?_
  refine hx_aload_n C dL_law_553 rfl (lv_at hl 0 rfl) ?_
  refine hx_iload_n C dL_law_554 rfl (lv_at hl 3 rfl) ?_
  refine hx_iconst (v := 2) C dL_law_555 (by decide) ?_
  refine hx_iadd C dL_law_556 ?_
  obtain ⟨g101, h⟩ := hx_gd h
  refine hx_sld (n := (Int32.toNatClampNeg (v3 + 2))) C hXs hbl hbA g101 rfl dL_law_557 ?_
  obtain ⟨r102, e103, h⟩ := hx_bind h
  obtain ⟨g104, h⟩ := hx_gd h
  refine hx_callV (As := [.int (xs (Int32.toNatClampNeg (v3 + 1))), .int (xs (Int32.toNatClampNeg (v3 + 2)))]) (rest := []) (n := 2) (Cn := RX9) C (c_X9_setPrice e103) gL_law_X9_setPrice g104 (by decide) rfl (by decide +kernel) ⟨Nat.le_of_ble_eq_true rfl, Nat.le_of_ble_eq_true rfl⟩ rfl rfl rfl ⟨Nat.le_of_ble_eq_true rfl, Nat.le_of_ble_eq_true rfl⟩ hl.1 rfl rfl (Nat.le_of_ble_eq_true rfl) dL_law_558 ?_
  refine hx_aload_n C dL_law_561 rfl (lv_at hl 2 rfl) ?_
  refine hx_aload_n C dL_law_562 rfl (lv_at hl 0 rfl) ?_
  refine hx_iload_n C dL_law_563 rfl (lv_at hl 3 rfl) ?_
  refine hx_iconst (v := 1) C dL_law_564 (by decide) ?_
  refine hx_iadd C dL_law_565 ?_
  refine hx_sld (n := (Int32.toNatClampNeg (v3 + 1))) C hXs hbl hbA g100 rfl dL_law_566 ?_
  refine hx_aload_n C dL_law_567 rfl (lv_at hl 0 rfl) ?_
  refine hx_iload_n C dL_law_568 rfl (lv_at hl 3 rfl) ?_
  refine hx_iconst (v := 2) C dL_law_569 (by decide) ?_
  refine hx_iadd C dL_law_570 ?_
  refine hx_sld (n := (Int32.toNatClampNeg (v3 + 2))) C hXs hbl hbA g101 rfl dL_law_571 ?_
  obtain ⟨r105, e106, h⟩ := hx_bind h
  obtain ⟨g107, h⟩ := hx_gd h
  refine hx_callV (As := [.int (xs (Int32.toNatClampNeg (v3 + 1))), .int (xs (Int32.toNatClampNeg (v3 + 2)))]) (rest := [.int r102.1]) (n := 2) (Cn := RX10) C (c_X10_setPrice e106) gL_law_X10_setPrice g107 (by decide) rfl (by decide +kernel) ⟨Nat.le_of_ble_eq_true rfl, Nat.le_of_ble_eq_true rfl⟩ rfl rfl rfl ⟨Nat.le_of_ble_eq_true rfl, Nat.le_of_ble_eq_true rfl⟩ hl.1 rfl rfl (Nat.le_of_ble_eq_true rfl) dL_law_572 ?_
  refine hx_icmp_eq (tgt := 1186) C dL_law_575 (by decide) (fun c108 => ?_) (fun c108 => ?_)
  · have h := hx_pos c108 h
    exact w_L_law_1186 k18 C hr hlocks hXs hbl hbA hk18 v1 v2 v3 r105.2 ls h (lv_sub hl [0, 1, 2, 3] rfl)
  · have h := hx_neg c108 h
    refine hx_iconst (v := 0) C dL_law_578 (by decide) ?_
    exact absurd (hx_some1 h) (by decide)
def f_L_law_580 (L : hL) (xs : Nat → Int32) (Ln : Nat) (k18 : Nat → Nat → Int32 → hX → Option Int32) (v1 : Nat) (v2 : Nat) (v3 : Int32) (X : hX) : Option Int32 :=
  if hin (v3 + 1) Ln then
  if hin (v3 + 2) Ln then
  if hin (v3 + 3) Ln then
  (f_X9_buy L X v1 (xs (Int32.toNatClampNeg (v3 + 1))) (xs (Int32.toNatClampNeg (v3 + 2))) (xs (Int32.toNatClampNeg (v3 + 3)))).bind fun r112 =>
  if tk L v1 9 then
  (f_X10_buy L r112.2 v2 (xs (Int32.toNatClampNeg (v3 + 1))) (xs (Int32.toNatClampNeg (v3 + 2))) (xs (Int32.toNatClampNeg (v3 + 3)))).bind fun r115 =>
  if tk L v2 10 then
  if r112.1 = r115.1 then
    f_L_law_1186 L xs Ln k18 v1 v2 v3 r115.2
  else
    some 0
  else none
  else none
  else none
  else none
  else none
set_option maxRecDepth 100000 in
set_option maxHeartbeats 8000000 in
theorem w_L_law_580 {p : Program} {l : Launch} {e : Env} {s : State} {m : MethodId} {below : List Frame} {meth : Method} {c : Code} {dC : Nat → ClassId} {dI : Nat → Nat → Nat} {cy : Nat → ClassId} {ad : Nat → Nat} {L : hL} {b Ln : Nat} {xs : Nat → Int32} (k18 : Nat → Nat → Int32 → hX → Option Int32) (C : hC p s m #[Value.ref b] meth c dC dI cy ad L (fun q => s.heap.size ≤ q) code 4 wsL_law RL) (hr : meth.sig.returnType = ret) (hlocks : meth.locks = false) (hXs : va_X b Ln xs s s.heap) (hbl : b < s.heap.size) (hbA : ¬ (fun q : Nat => s.heap.size ≤ q) b) (hk18 : ∀ (v1 : Nat) (v2 : Nat) (v3 : Int32) (X : hX) (ls : Array Slot), k18 v1 v2 v3 X = some 1 → lv_has ls 4 [(0, .ref b), (1, .ref (ad v1)), (2, .ref (ad v2)), (3, .int v3)] → hG p l e room_1 s m #[Value.ref b] below meth c dC dI cy ad L (fun q => s.heap.size ≤ q) 478 5054 (lw_Z below #[Value.ref b] s) X 18 ls []) : ∀ (v1 : Nat) (v2 : Nat) (v3 : Int32) (X : hX) (ls : Array Slot), f_L_law_580 L xs Ln k18 v1 v2 v3 X = some 1 → lv_has ls 4 [(0, .ref b), (1, .ref (ad v1)), (2, .ref (ad v2)), (3, .int v3)] → hG p l e room_1 s m #[Value.ref b] below meth c dC dI cy ad L (fun q => s.heap.size ≤ q) 478 5054 (lw_Z below #[Value.ref b] s) X 580 ls [] := by
  intro v1 v2 v3 X ls h hl
  unfold f_L_law_580 at h
  refine hx_aload_n C dL_law_580 rfl (lv_at hl 1 rfl) ?_
  refine hx_aload_n C dL_law_581 rfl (lv_at hl 0 rfl) ?_
  refine hx_iload_n C dL_law_582 rfl (lv_at hl 3 rfl) ?_
  refine hx_iconst (v := 1) C dL_law_583 (by decide) ?_
  refine hx_iadd C dL_law_584 ?_
  obtain ⟨g109, h⟩ := hx_gd h
  refine hx_sld (n := (Int32.toNatClampNeg (v3 + 1))) C hXs hbl hbA g109 rfl dL_law_585 ?_
  refine hx_aload_n C dL_law_586 rfl (lv_at hl 0 rfl) ?_
  refine hx_iload_n C dL_law_587 rfl (lv_at hl 3 rfl) ?_
  refine hx_iconst (v := 2) C dL_law_588 (by decide) ?_
  refine hx_iadd C dL_law_589 ?_
  obtain ⟨g110, h⟩ := hx_gd h
  refine hx_sld (n := (Int32.toNatClampNeg (v3 + 2))) C hXs hbl hbA g110 rfl dL_law_590 ?_
  refine hx_aload_n C dL_law_591 rfl (lv_at hl 0 rfl) ?_
  refine hx_iload_n C dL_law_592 rfl (lv_at hl 3 rfl) ?_
  refine hx_iconst (v := 3) C dL_law_593 (by decide) ?_
  refine hx_iadd C dL_law_594 ?_
  obtain ⟨g111, h⟩ := hx_gd h
  refine hx_sld (n := (Int32.toNatClampNeg (v3 + 3))) C hXs hbl hbA g111 rfl dL_law_595 ?_
  obtain ⟨r112, e113, h⟩ := hx_bind h
  obtain ⟨g114, h⟩ := hx_gd h
  refine hx_callV (As := [.int (xs (Int32.toNatClampNeg (v3 + 1))), .int (xs (Int32.toNatClampNeg (v3 + 2))), .int (xs (Int32.toNatClampNeg (v3 + 3)))]) (rest := []) (n := 3) (Cn := RX9) C (c_X9_buy e113) gL_law_X9_buy g114 (by decide) rfl (by decide +kernel) ⟨Nat.le_of_ble_eq_true rfl, Nat.le_of_ble_eq_true rfl⟩ rfl rfl rfl ⟨Nat.le_of_ble_eq_true rfl, Nat.le_of_ble_eq_true rfl⟩ hl.1 rfl rfl (Nat.le_of_ble_eq_true rfl) dL_law_596 ?_
  refine hx_aload_n C dL_law_599 rfl (lv_at hl 2 rfl) ?_
  refine hx_aload_n C dL_law_600 rfl (lv_at hl 0 rfl) ?_
  refine hx_iload_n C dL_law_601 rfl (lv_at hl 3 rfl) ?_
  refine hx_iconst (v := 1) C dL_law_602 (by decide) ?_
  refine hx_iadd C dL_law_603 ?_
  refine hx_sld (n := (Int32.toNatClampNeg (v3 + 1))) C hXs hbl hbA g109 rfl dL_law_604 ?_
  refine hx_aload_n C dL_law_605 rfl (lv_at hl 0 rfl) ?_
  refine hx_iload_n C dL_law_606 rfl (lv_at hl 3 rfl) ?_
  refine hx_iconst (v := 2) C dL_law_607 (by decide) ?_
  refine hx_iadd C dL_law_608 ?_
  refine hx_sld (n := (Int32.toNatClampNeg (v3 + 2))) C hXs hbl hbA g110 rfl dL_law_609 ?_
  refine hx_aload_n C dL_law_610 rfl (lv_at hl 0 rfl) ?_
  refine hx_iload_n C dL_law_611 rfl (lv_at hl 3 rfl) ?_
  refine hx_iconst (v := 3) C dL_law_612 (by decide) ?_
  refine hx_iadd C dL_law_613 ?_
  refine hx_sld (n := (Int32.toNatClampNeg (v3 + 3))) C hXs hbl hbA g111 rfl dL_law_614 ?_
  obtain ⟨r115, e116, h⟩ := hx_bind h
  obtain ⟨g117, h⟩ := hx_gd h
  refine hx_callV (As := [.int (xs (Int32.toNatClampNeg (v3 + 1))), .int (xs (Int32.toNatClampNeg (v3 + 2))), .int (xs (Int32.toNatClampNeg (v3 + 3)))]) (rest := [.int r112.1]) (n := 3) (Cn := RX10) C (c_X10_buy e116) gL_law_X10_buy g117 (by decide) rfl (by decide +kernel) ⟨Nat.le_of_ble_eq_true rfl, Nat.le_of_ble_eq_true rfl⟩ rfl rfl rfl ⟨Nat.le_of_ble_eq_true rfl, Nat.le_of_ble_eq_true rfl⟩ hl.1 rfl rfl (Nat.le_of_ble_eq_true rfl) dL_law_615 ?_
  refine hx_icmp_eq (tgt := 1186) C dL_law_618 (by decide) (fun c118 => ?_) (fun c118 => ?_)
  · have h := hx_pos c118 h
    exact w_L_law_1186 k18 C hr hlocks hXs hbl hbA hk18 v1 v2 v3 r115.2 ls h (lv_sub hl [0, 1, 2, 3] rfl)
  · have h := hx_neg c118 h
    refine hx_iconst (v := 0) C dL_law_621 (by decide) ?_
    exact absurd (hx_some1 h) (by decide)
def f_L_law_623 (L : hL) (xs : Nat → Int32) (Ln : Nat) (k18 : Nat → Nat → Int32 → hX → Option Int32) (v1 : Nat) (v2 : Nat) (v3 : Int32) (X : hX) : Option Int32 :=
  if hin (v3 + 1) Ln then
  (f_X9_take L X v1 (xs (Int32.toNatClampNeg (v3 + 1)))).bind fun r120 =>
  if tk L v1 9 then
  (f_X10_take L r120.2 v2 (xs (Int32.toNatClampNeg (v3 + 1)))).bind fun r123 =>
  if tk L v2 10 then
  if r120.1 = r123.1 then
    f_L_law_1186 L xs Ln k18 v1 v2 v3 r123.2
  else
    some 0
  else none
  else none
  else none
set_option maxRecDepth 100000 in
set_option maxHeartbeats 8000000 in
theorem w_L_law_623 {p : Program} {l : Launch} {e : Env} {s : State} {m : MethodId} {below : List Frame} {meth : Method} {c : Code} {dC : Nat → ClassId} {dI : Nat → Nat → Nat} {cy : Nat → ClassId} {ad : Nat → Nat} {L : hL} {b Ln : Nat} {xs : Nat → Int32} (k18 : Nat → Nat → Int32 → hX → Option Int32) (C : hC p s m #[Value.ref b] meth c dC dI cy ad L (fun q => s.heap.size ≤ q) code 4 wsL_law RL) (hr : meth.sig.returnType = ret) (hlocks : meth.locks = false) (hXs : va_X b Ln xs s s.heap) (hbl : b < s.heap.size) (hbA : ¬ (fun q : Nat => s.heap.size ≤ q) b) (hk18 : ∀ (v1 : Nat) (v2 : Nat) (v3 : Int32) (X : hX) (ls : Array Slot), k18 v1 v2 v3 X = some 1 → lv_has ls 4 [(0, .ref b), (1, .ref (ad v1)), (2, .ref (ad v2)), (3, .int v3)] → hG p l e room_1 s m #[Value.ref b] below meth c dC dI cy ad L (fun q => s.heap.size ≤ q) 478 5054 (lw_Z below #[Value.ref b] s) X 18 ls []) : ∀ (v1 : Nat) (v2 : Nat) (v3 : Int32) (X : hX) (ls : Array Slot), f_L_law_623 L xs Ln k18 v1 v2 v3 X = some 1 → lv_has ls 4 [(0, .ref b), (1, .ref (ad v1)), (2, .ref (ad v2)), (3, .int v3)] → hG p l e room_1 s m #[Value.ref b] below meth c dC dI cy ad L (fun q => s.heap.size ≤ q) 478 5054 (lw_Z below #[Value.ref b] s) X 623 ls [] := by
  intro v1 v2 v3 X ls h hl
  unfold f_L_law_623 at h
  refine hx_aload_n C dL_law_623 rfl (lv_at hl 1 rfl) ?_
  refine hx_aload_n C dL_law_624 rfl (lv_at hl 0 rfl) ?_
  refine hx_iload_n C dL_law_625 rfl (lv_at hl 3 rfl) ?_
  refine hx_iconst (v := 1) C dL_law_626 (by decide) ?_
  refine hx_iadd C dL_law_627 ?_
  obtain ⟨g119, h⟩ := hx_gd h
  refine hx_sld (n := (Int32.toNatClampNeg (v3 + 1))) C hXs hbl hbA g119 rfl dL_law_628 ?_
  obtain ⟨r120, e121, h⟩ := hx_bind h
  obtain ⟨g122, h⟩ := hx_gd h
  refine hx_callV (As := [.int (xs (Int32.toNatClampNeg (v3 + 1)))]) (rest := []) (n := 1) (Cn := RX9) C (c_X9_take e121) gL_law_X9_take g122 (by decide) rfl (by decide +kernel) ⟨Nat.le_of_ble_eq_true rfl, Nat.le_of_ble_eq_true rfl⟩ rfl rfl rfl ⟨Nat.le_of_ble_eq_true rfl, Nat.le_of_ble_eq_true rfl⟩ hl.1 rfl rfl (Nat.le_of_ble_eq_true rfl) dL_law_629 ?_
  refine hx_aload_n C dL_law_632 rfl (lv_at hl 2 rfl) ?_
  refine hx_aload_n C dL_law_633 rfl (lv_at hl 0 rfl) ?_
  refine hx_iload_n C dL_law_634 rfl (lv_at hl 3 rfl) ?_
  refine hx_iconst (v := 1) C dL_law_635 (by decide) ?_
  refine hx_iadd C dL_law_636 ?_
  refine hx_sld (n := (Int32.toNatClampNeg (v3 + 1))) C hXs hbl hbA g119 rfl dL_law_637 ?_
  obtain ⟨r123, e124, h⟩ := hx_bind h
  obtain ⟨g125, h⟩ := hx_gd h
  refine hx_callV (As := [.int (xs (Int32.toNatClampNeg (v3 + 1)))]) (rest := [.int r120.1]) (n := 1) (Cn := RX10) C (c_X10_take e124) gL_law_X10_take g125 (by decide) rfl (by decide +kernel) ⟨Nat.le_of_ble_eq_true rfl, Nat.le_of_ble_eq_true rfl⟩ rfl rfl rfl ⟨Nat.le_of_ble_eq_true rfl, Nat.le_of_ble_eq_true rfl⟩ hl.1 rfl rfl (Nat.le_of_ble_eq_true rfl) dL_law_638 ?_
  refine hx_icmp_eq (tgt := 1186) C dL_law_641 (by decide) (fun c126 => ?_) (fun c126 => ?_)
  · have h := hx_pos c126 h
    exact w_L_law_1186 k18 C hr hlocks hXs hbl hbA hk18 v1 v2 v3 r123.2 ls h (lv_sub hl [0, 1, 2, 3] rfl)
  · have h := hx_neg c126 h
    refine hx_iconst (v := 0) C dL_law_644 (by decide) ?_
    exact absurd (hx_some1 h) (by decide)
def f_L_law_646 (L : hL) (xs : Nat → Int32) (Ln : Nat) (k18 : Nat → Nat → Int32 → hX → Option Int32) (v1 : Nat) (v2 : Nat) (v3 : Int32) (X : hX) : Option Int32 :=
  if hin (v3 + 1) Ln then
  (f_X9_restore L X v1 (xs (Int32.toNatClampNeg (v3 + 1)))).bind fun r128 =>
  if tk L v1 9 then
  (f_X10_restore L r128.2 v2 (xs (Int32.toNatClampNeg (v3 + 1)))).bind fun r131 =>
  if tk L v2 10 then
  if r128.1 = r131.1 then
    f_L_law_1186 L xs Ln k18 v1 v2 v3 r131.2
  else
    some 0
  else none
  else none
  else none
set_option maxRecDepth 100000 in
set_option maxHeartbeats 8000000 in
theorem w_L_law_646 {p : Program} {l : Launch} {e : Env} {s : State} {m : MethodId} {below : List Frame} {meth : Method} {c : Code} {dC : Nat → ClassId} {dI : Nat → Nat → Nat} {cy : Nat → ClassId} {ad : Nat → Nat} {L : hL} {b Ln : Nat} {xs : Nat → Int32} (k18 : Nat → Nat → Int32 → hX → Option Int32) (C : hC p s m #[Value.ref b] meth c dC dI cy ad L (fun q => s.heap.size ≤ q) code 4 wsL_law RL) (hr : meth.sig.returnType = ret) (hlocks : meth.locks = false) (hXs : va_X b Ln xs s s.heap) (hbl : b < s.heap.size) (hbA : ¬ (fun q : Nat => s.heap.size ≤ q) b) (hk18 : ∀ (v1 : Nat) (v2 : Nat) (v3 : Int32) (X : hX) (ls : Array Slot), k18 v1 v2 v3 X = some 1 → lv_has ls 4 [(0, .ref b), (1, .ref (ad v1)), (2, .ref (ad v2)), (3, .int v3)] → hG p l e room_1 s m #[Value.ref b] below meth c dC dI cy ad L (fun q => s.heap.size ≤ q) 478 5054 (lw_Z below #[Value.ref b] s) X 18 ls []) : ∀ (v1 : Nat) (v2 : Nat) (v3 : Int32) (X : hX) (ls : Array Slot), f_L_law_646 L xs Ln k18 v1 v2 v3 X = some 1 → lv_has ls 4 [(0, .ref b), (1, .ref (ad v1)), (2, .ref (ad v2)), (3, .int v3)] → hG p l e room_1 s m #[Value.ref b] below meth c dC dI cy ad L (fun q => s.heap.size ≤ q) 478 5054 (lw_Z below #[Value.ref b] s) X 646 ls [] := by
  intro v1 v2 v3 X ls h hl
  unfold f_L_law_646 at h
  refine hx_aload_n C dL_law_646 rfl (lv_at hl 1 rfl) ?_
  refine hx_aload_n C dL_law_647 rfl (lv_at hl 0 rfl) ?_
  refine hx_iload_n C dL_law_648 rfl (lv_at hl 3 rfl) ?_
  refine hx_iconst (v := 1) C dL_law_649 (by decide) ?_
  refine hx_iadd C dL_law_650 ?_
  obtain ⟨g127, h⟩ := hx_gd h
  refine hx_sld (n := (Int32.toNatClampNeg (v3 + 1))) C hXs hbl hbA g127 rfl dL_law_651 ?_
  obtain ⟨r128, e129, h⟩ := hx_bind h
  obtain ⟨g130, h⟩ := hx_gd h
  refine hx_callV (As := [.int (xs (Int32.toNatClampNeg (v3 + 1)))]) (rest := []) (n := 1) (Cn := RX9) C (c_X9_restore e129) gL_law_X9_restore g130 (by decide) rfl (by decide +kernel) ⟨Nat.le_of_ble_eq_true rfl, Nat.le_of_ble_eq_true rfl⟩ rfl rfl rfl ⟨Nat.le_of_ble_eq_true rfl, Nat.le_of_ble_eq_true rfl⟩ hl.1 rfl rfl (Nat.le_of_ble_eq_true rfl) dL_law_652 ?_
  refine hx_aload_n C dL_law_655 rfl (lv_at hl 2 rfl) ?_
  refine hx_aload_n C dL_law_656 rfl (lv_at hl 0 rfl) ?_
  refine hx_iload_n C dL_law_657 rfl (lv_at hl 3 rfl) ?_
  refine hx_iconst (v := 1) C dL_law_658 (by decide) ?_
  refine hx_iadd C dL_law_659 ?_
  refine hx_sld (n := (Int32.toNatClampNeg (v3 + 1))) C hXs hbl hbA g127 rfl dL_law_660 ?_
  obtain ⟨r131, e132, h⟩ := hx_bind h
  obtain ⟨g133, h⟩ := hx_gd h
  refine hx_callV (As := [.int (xs (Int32.toNatClampNeg (v3 + 1)))]) (rest := [.int r128.1]) (n := 1) (Cn := RX10) C (c_X10_restore e132) gL_law_X10_restore g133 (by decide) rfl (by decide +kernel) ⟨Nat.le_of_ble_eq_true rfl, Nat.le_of_ble_eq_true rfl⟩ rfl rfl rfl ⟨Nat.le_of_ble_eq_true rfl, Nat.le_of_ble_eq_true rfl⟩ hl.1 rfl rfl (Nat.le_of_ble_eq_true rfl) dL_law_661 ?_
  refine hx_icmp_eq (tgt := 1186) C dL_law_664 (by decide) (fun c134 => ?_) (fun c134 => ?_)
  · have h := hx_pos c134 h
    exact w_L_law_1186 k18 C hr hlocks hXs hbl hbA hk18 v1 v2 v3 r131.2 ls h (lv_sub hl [0, 1, 2, 3] rfl)
  · have h := hx_neg c134 h
    refine hx_iconst (v := 0) C dL_law_667 (by decide) ?_
    exact absurd (hx_some1 h) (by decide)
def f_L_law_669 (L : hL) (xs : Nat → Int32) (Ln : Nat) (k18 : Nat → Nat → Int32 → hX → Option Int32) (v1 : Nat) (v2 : Nat) (v3 : Int32) (X : hX) : Option Int32 :=
  (f_X9_undo L X v1).bind fun r135 =>
  if tk L v1 9 then
  (f_X10_undo L r135.2 v2).bind fun r138 =>
  if tk L v2 10 then
  if r135.1 = r138.1 then
    f_L_law_1186 L xs Ln k18 v1 v2 v3 r138.2
  else
    some 0
  else none
  else none
set_option maxRecDepth 100000 in
set_option maxHeartbeats 8000000 in
theorem w_L_law_669 {p : Program} {l : Launch} {e : Env} {s : State} {m : MethodId} {below : List Frame} {meth : Method} {c : Code} {dC : Nat → ClassId} {dI : Nat → Nat → Nat} {cy : Nat → ClassId} {ad : Nat → Nat} {L : hL} {b Ln : Nat} {xs : Nat → Int32} (k18 : Nat → Nat → Int32 → hX → Option Int32) (C : hC p s m #[Value.ref b] meth c dC dI cy ad L (fun q => s.heap.size ≤ q) code 4 wsL_law RL) (hr : meth.sig.returnType = ret) (hlocks : meth.locks = false) (hXs : va_X b Ln xs s s.heap) (hbl : b < s.heap.size) (hbA : ¬ (fun q : Nat => s.heap.size ≤ q) b) (hk18 : ∀ (v1 : Nat) (v2 : Nat) (v3 : Int32) (X : hX) (ls : Array Slot), k18 v1 v2 v3 X = some 1 → lv_has ls 4 [(0, .ref b), (1, .ref (ad v1)), (2, .ref (ad v2)), (3, .int v3)] → hG p l e room_1 s m #[Value.ref b] below meth c dC dI cy ad L (fun q => s.heap.size ≤ q) 478 5054 (lw_Z below #[Value.ref b] s) X 18 ls []) : ∀ (v1 : Nat) (v2 : Nat) (v3 : Int32) (X : hX) (ls : Array Slot), f_L_law_669 L xs Ln k18 v1 v2 v3 X = some 1 → lv_has ls 4 [(0, .ref b), (1, .ref (ad v1)), (2, .ref (ad v2)), (3, .int v3)] → hG p l e room_1 s m #[Value.ref b] below meth c dC dI cy ad L (fun q => s.heap.size ≤ q) 478 5054 (lw_Z below #[Value.ref b] s) X 669 ls [] := by
  intro v1 v2 v3 X ls h hl
  unfold f_L_law_669 at h
  refine hx_aload_n C dL_law_669 rfl (lv_at hl 1 rfl) ?_
  obtain ⟨r135, e136, h⟩ := hx_bind h
  obtain ⟨g137, h⟩ := hx_gd h
  refine hx_callV (As := []) (rest := []) (n := 0) (Cn := RX9) C (c_X9_undo e136) gL_law_X9_undo g137 (by decide) rfl (by decide +kernel) ⟨Nat.le_of_ble_eq_true rfl, Nat.le_of_ble_eq_true rfl⟩ rfl rfl rfl ⟨Nat.le_of_ble_eq_true rfl, Nat.le_of_ble_eq_true rfl⟩ hl.1 rfl rfl (Nat.le_of_ble_eq_true rfl) dL_law_670 ?_
  refine hx_aload_n C dL_law_673 rfl (lv_at hl 2 rfl) ?_
  obtain ⟨r138, e139, h⟩ := hx_bind h
  obtain ⟨g140, h⟩ := hx_gd h
  refine hx_callV (As := []) (rest := [.int r135.1]) (n := 0) (Cn := RX10) C (c_X10_undo e139) gL_law_X10_undo g140 (by decide) rfl (by decide +kernel) ⟨Nat.le_of_ble_eq_true rfl, Nat.le_of_ble_eq_true rfl⟩ rfl rfl rfl ⟨Nat.le_of_ble_eq_true rfl, Nat.le_of_ble_eq_true rfl⟩ hl.1 rfl rfl (Nat.le_of_ble_eq_true rfl) dL_law_674 ?_
  refine hx_icmp_eq (tgt := 1186) C dL_law_677 (by decide) (fun c141 => ?_) (fun c141 => ?_)
  · have h := hx_pos c141 h
    exact w_L_law_1186 k18 C hr hlocks hXs hbl hbA hk18 v1 v2 v3 r138.2 ls h (lv_sub hl [0, 1, 2, 3] rfl)
  · have h := hx_neg c141 h
    refine hx_iconst (v := 0) C dL_law_680 (by decide) ?_
    exact absurd (hx_some1 h) (by decide)
def f_L_law_682 (L : hL) (xs : Nat → Int32) (Ln : Nat) (k18 : Nat → Nat → Int32 → hX → Option Int32) (v1 : Nat) (v2 : Nat) (v3 : Int32) (X : hX) : Option Int32 :=
  if hin (v3 + 1) Ln then
  (f_X9_append L X v1 (xs (Int32.toNatClampNeg (v3 + 1)))).bind fun r143 =>
  if tk L v1 9 then
  (f_X10_append L r143.2 v2 (xs (Int32.toNatClampNeg (v3 + 1)))).bind fun r146 =>
  if tk L v2 10 then
  if r143.1 = r146.1 then
    f_L_law_1186 L xs Ln k18 v1 v2 v3 r146.2
  else
    some 0
  else none
  else none
  else none
set_option maxRecDepth 100000 in
set_option maxHeartbeats 8000000 in
theorem w_L_law_682 {p : Program} {l : Launch} {e : Env} {s : State} {m : MethodId} {below : List Frame} {meth : Method} {c : Code} {dC : Nat → ClassId} {dI : Nat → Nat → Nat} {cy : Nat → ClassId} {ad : Nat → Nat} {L : hL} {b Ln : Nat} {xs : Nat → Int32} (k18 : Nat → Nat → Int32 → hX → Option Int32) (C : hC p s m #[Value.ref b] meth c dC dI cy ad L (fun q => s.heap.size ≤ q) code 4 wsL_law RL) (hr : meth.sig.returnType = ret) (hlocks : meth.locks = false) (hXs : va_X b Ln xs s s.heap) (hbl : b < s.heap.size) (hbA : ¬ (fun q : Nat => s.heap.size ≤ q) b) (hk18 : ∀ (v1 : Nat) (v2 : Nat) (v3 : Int32) (X : hX) (ls : Array Slot), k18 v1 v2 v3 X = some 1 → lv_has ls 4 [(0, .ref b), (1, .ref (ad v1)), (2, .ref (ad v2)), (3, .int v3)] → hG p l e room_1 s m #[Value.ref b] below meth c dC dI cy ad L (fun q => s.heap.size ≤ q) 478 5054 (lw_Z below #[Value.ref b] s) X 18 ls []) : ∀ (v1 : Nat) (v2 : Nat) (v3 : Int32) (X : hX) (ls : Array Slot), f_L_law_682 L xs Ln k18 v1 v2 v3 X = some 1 → lv_has ls 4 [(0, .ref b), (1, .ref (ad v1)), (2, .ref (ad v2)), (3, .int v3)] → hG p l e room_1 s m #[Value.ref b] below meth c dC dI cy ad L (fun q => s.heap.size ≤ q) 478 5054 (lw_Z below #[Value.ref b] s) X 682 ls [] := by
  intro v1 v2 v3 X ls h hl
  unfold f_L_law_682 at h
  refine hx_aload_n C dL_law_682 rfl (lv_at hl 1 rfl) ?_
  refine hx_aload_n C dL_law_683 rfl (lv_at hl 0 rfl) ?_
  refine hx_iload_n C dL_law_684 rfl (lv_at hl 3 rfl) ?_
  refine hx_iconst (v := 1) C dL_law_685 (by decide) ?_
  refine hx_iadd C dL_law_686 ?_
  obtain ⟨g142, h⟩ := hx_gd h
  refine hx_sld (n := (Int32.toNatClampNeg (v3 + 1))) C hXs hbl hbA g142 rfl dL_law_687 ?_
  obtain ⟨r143, e144, h⟩ := hx_bind h
  obtain ⟨g145, h⟩ := hx_gd h
  refine hx_callV (As := [.int (xs (Int32.toNatClampNeg (v3 + 1)))]) (rest := []) (n := 1) (Cn := RX9) C (c_X9_append e144) gL_law_X9_append g145 (by decide) rfl (by decide +kernel) ⟨Nat.le_of_ble_eq_true rfl, Nat.le_of_ble_eq_true rfl⟩ rfl rfl rfl ⟨Nat.le_of_ble_eq_true rfl, Nat.le_of_ble_eq_true rfl⟩ hl.1 rfl rfl (Nat.le_of_ble_eq_true rfl) dL_law_688 ?_
  refine hx_aload_n C dL_law_691 rfl (lv_at hl 2 rfl) ?_
  refine hx_aload_n C dL_law_692 rfl (lv_at hl 0 rfl) ?_
  refine hx_iload_n C dL_law_693 rfl (lv_at hl 3 rfl) ?_
  refine hx_iconst (v := 1) C dL_law_694 (by decide) ?_
  refine hx_iadd C dL_law_695 ?_
  refine hx_sld (n := (Int32.toNatClampNeg (v3 + 1))) C hXs hbl hbA g142 rfl dL_law_696 ?_
  obtain ⟨r146, e147, h⟩ := hx_bind h
  obtain ⟨g148, h⟩ := hx_gd h
  refine hx_callV (As := [.int (xs (Int32.toNatClampNeg (v3 + 1)))]) (rest := [.int r143.1]) (n := 1) (Cn := RX10) C (c_X10_append e147) gL_law_X10_append g148 (by decide) rfl (by decide +kernel) ⟨Nat.le_of_ble_eq_true rfl, Nat.le_of_ble_eq_true rfl⟩ rfl rfl rfl ⟨Nat.le_of_ble_eq_true rfl, Nat.le_of_ble_eq_true rfl⟩ hl.1 rfl rfl (Nat.le_of_ble_eq_true rfl) dL_law_697 ?_
  refine hx_icmp_eq (tgt := 1186) C dL_law_700 (by decide) (fun c149 => ?_) (fun c149 => ?_)
  · have h := hx_pos c149 h
    exact w_L_law_1186 k18 C hr hlocks hXs hbl hbA hk18 v1 v2 v3 r146.2 ls h (lv_sub hl [0, 1, 2, 3] rfl)
  · have h := hx_neg c149 h
    refine hx_iconst (v := 0) C dL_law_703 (by decide) ?_
    exact absurd (hx_some1 h) (by decide)
def f_L_law_705 (L : hL) (xs : Nat → Int32) (Ln : Nat) (k18 : Nat → Nat → Int32 → hX → Option Int32) (v1 : Nat) (v2 : Nat) (v3 : Int32) (X : hX) : Option Int32 :=
  (f_X9_clearText L X v1).bind fun r150 =>
  if tk L v1 9 then
  (f_X10_clearText L r150.2 v2).bind fun r153 =>
  if tk L v2 10 then
  if r150.1 = r153.1 then
    f_L_law_1186 L xs Ln k18 v1 v2 v3 r153.2
  else
    some 0
  else none
  else none
set_option maxRecDepth 100000 in
set_option maxHeartbeats 8000000 in
theorem w_L_law_705 {p : Program} {l : Launch} {e : Env} {s : State} {m : MethodId} {below : List Frame} {meth : Method} {c : Code} {dC : Nat → ClassId} {dI : Nat → Nat → Nat} {cy : Nat → ClassId} {ad : Nat → Nat} {L : hL} {b Ln : Nat} {xs : Nat → Int32} (k18 : Nat → Nat → Int32 → hX → Option Int32) (C : hC p s m #[Value.ref b] meth c dC dI cy ad L (fun q => s.heap.size ≤ q) code 4 wsL_law RL) (hr : meth.sig.returnType = ret) (hlocks : meth.locks = false) (hXs : va_X b Ln xs s s.heap) (hbl : b < s.heap.size) (hbA : ¬ (fun q : Nat => s.heap.size ≤ q) b) (hk18 : ∀ (v1 : Nat) (v2 : Nat) (v3 : Int32) (X : hX) (ls : Array Slot), k18 v1 v2 v3 X = some 1 → lv_has ls 4 [(0, .ref b), (1, .ref (ad v1)), (2, .ref (ad v2)), (3, .int v3)] → hG p l e room_1 s m #[Value.ref b] below meth c dC dI cy ad L (fun q => s.heap.size ≤ q) 478 5054 (lw_Z below #[Value.ref b] s) X 18 ls []) : ∀ (v1 : Nat) (v2 : Nat) (v3 : Int32) (X : hX) (ls : Array Slot), f_L_law_705 L xs Ln k18 v1 v2 v3 X = some 1 → lv_has ls 4 [(0, .ref b), (1, .ref (ad v1)), (2, .ref (ad v2)), (3, .int v3)] → hG p l e room_1 s m #[Value.ref b] below meth c dC dI cy ad L (fun q => s.heap.size ≤ q) 478 5054 (lw_Z below #[Value.ref b] s) X 705 ls [] := by
  intro v1 v2 v3 X ls h hl
  unfold f_L_law_705 at h
  refine hx_aload_n C dL_law_705 rfl (lv_at hl 1 rfl) ?_
  obtain ⟨r150, e151, h⟩ := hx_bind h
  obtain ⟨g152, h⟩ := hx_gd h
  refine hx_callV (As := []) (rest := []) (n := 0) (Cn := RX9) C (c_X9_clearText e151) gL_law_X9_clearText g152 (by decide) rfl (by decide +kernel) ⟨Nat.le_of_ble_eq_true rfl, Nat.le_of_ble_eq_true rfl⟩ rfl rfl rfl ⟨Nat.le_of_ble_eq_true rfl, Nat.le_of_ble_eq_true rfl⟩ hl.1 rfl rfl (Nat.le_of_ble_eq_true rfl) dL_law_706 ?_
  refine hx_aload_n C dL_law_709 rfl (lv_at hl 2 rfl) ?_
  obtain ⟨r153, e154, h⟩ := hx_bind h
  obtain ⟨g155, h⟩ := hx_gd h
  refine hx_callV (As := []) (rest := [.int r150.1]) (n := 0) (Cn := RX10) C (c_X10_clearText e154) gL_law_X10_clearText g155 (by decide) rfl (by decide +kernel) ⟨Nat.le_of_ble_eq_true rfl, Nat.le_of_ble_eq_true rfl⟩ rfl rfl rfl ⟨Nat.le_of_ble_eq_true rfl, Nat.le_of_ble_eq_true rfl⟩ hl.1 rfl rfl (Nat.le_of_ble_eq_true rfl) dL_law_710 ?_
  refine hx_icmp_eq (tgt := 1186) C dL_law_713 (by decide) (fun c156 => ?_) (fun c156 => ?_)
  · have h := hx_pos c156 h
    exact w_L_law_1186 k18 C hr hlocks hXs hbl hbA hk18 v1 v2 v3 r153.2 ls h (lv_sub hl [0, 1, 2, 3] rfl)
  · have h := hx_neg c156 h
    refine hx_iconst (v := 0) C dL_law_716 (by decide) ?_
    exact absurd (hx_some1 h) (by decide)
def f_L_law_718 (L : hL) (xs : Nat → Int32) (Ln : Nat) (k18 : Nat → Nat → Int32 → hX → Option Int32) (v1 : Nat) (v2 : Nat) (v3 : Int32) (X : hX) : Option Int32 :=
  (f_X9_run L X v1).bind fun r157 =>
  if tk L v1 9 then
  (f_X10_run L r157.2 v2).bind fun r160 =>
  if tk L v2 10 then
  if r157.1 = r160.1 then
    f_L_law_1186 L xs Ln k18 v1 v2 v3 r160.2
  else
    some 0
  else none
  else none
set_option maxRecDepth 100000 in
set_option maxHeartbeats 8000000 in
theorem w_L_law_718 {p : Program} {l : Launch} {e : Env} {s : State} {m : MethodId} {below : List Frame} {meth : Method} {c : Code} {dC : Nat → ClassId} {dI : Nat → Nat → Nat} {cy : Nat → ClassId} {ad : Nat → Nat} {L : hL} {b Ln : Nat} {xs : Nat → Int32} (k18 : Nat → Nat → Int32 → hX → Option Int32) (C : hC p s m #[Value.ref b] meth c dC dI cy ad L (fun q => s.heap.size ≤ q) code 4 wsL_law RL) (hr : meth.sig.returnType = ret) (hlocks : meth.locks = false) (hXs : va_X b Ln xs s s.heap) (hbl : b < s.heap.size) (hbA : ¬ (fun q : Nat => s.heap.size ≤ q) b) (hk18 : ∀ (v1 : Nat) (v2 : Nat) (v3 : Int32) (X : hX) (ls : Array Slot), k18 v1 v2 v3 X = some 1 → lv_has ls 4 [(0, .ref b), (1, .ref (ad v1)), (2, .ref (ad v2)), (3, .int v3)] → hG p l e room_1 s m #[Value.ref b] below meth c dC dI cy ad L (fun q => s.heap.size ≤ q) 478 5054 (lw_Z below #[Value.ref b] s) X 18 ls []) : ∀ (v1 : Nat) (v2 : Nat) (v3 : Int32) (X : hX) (ls : Array Slot), f_L_law_718 L xs Ln k18 v1 v2 v3 X = some 1 → lv_has ls 4 [(0, .ref b), (1, .ref (ad v1)), (2, .ref (ad v2)), (3, .int v3)] → hG p l e room_1 s m #[Value.ref b] below meth c dC dI cy ad L (fun q => s.heap.size ≤ q) 478 5054 (lw_Z below #[Value.ref b] s) X 718 ls [] := by
  intro v1 v2 v3 X ls h hl
  unfold f_L_law_718 at h
  refine hx_aload_n C dL_law_718 rfl (lv_at hl 1 rfl) ?_
  obtain ⟨r157, e158, h⟩ := hx_bind h
  obtain ⟨g159, h⟩ := hx_gd h
  refine hx_callV (As := []) (rest := []) (n := 0) (Cn := RX9) C (c_X9_run e158) gL_law_X9_run g159 (by decide) rfl (by decide +kernel) ⟨Nat.le_of_ble_eq_true rfl, Nat.le_of_ble_eq_true rfl⟩ rfl rfl rfl ⟨Nat.le_of_ble_eq_true rfl, Nat.le_of_ble_eq_true rfl⟩ hl.1 rfl rfl (Nat.le_of_ble_eq_true rfl) dL_law_719 ?_
  refine hx_aload_n C dL_law_722 rfl (lv_at hl 2 rfl) ?_
  obtain ⟨r160, e161, h⟩ := hx_bind h
  obtain ⟨g162, h⟩ := hx_gd h
  refine hx_callV (As := []) (rest := [.int r157.1]) (n := 0) (Cn := RX10) C (c_X10_run e161) gL_law_X10_run g162 (by decide) rfl (by decide +kernel) ⟨Nat.le_of_ble_eq_true rfl, Nat.le_of_ble_eq_true rfl⟩ rfl rfl rfl ⟨Nat.le_of_ble_eq_true rfl, Nat.le_of_ble_eq_true rfl⟩ hl.1 rfl rfl (Nat.le_of_ble_eq_true rfl) dL_law_723 ?_
  refine hx_icmp_eq (tgt := 1186) C dL_law_726 (by decide) (fun c163 => ?_) (fun c163 => ?_)
  · have h := hx_pos c163 h
    exact w_L_law_1186 k18 C hr hlocks hXs hbl hbA hk18 v1 v2 v3 r160.2 ls h (lv_sub hl [0, 1, 2, 3] rfl)
  · have h := hx_neg c163 h
    refine hx_iconst (v := 0) C dL_law_729 (by decide) ?_
    exact absurd (hx_some1 h) (by decide)
def f_L_law_731 (L : hL) (xs : Nat → Int32) (Ln : Nat) (k18 : Nat → Nat → Int32 → hX → Option Int32) (v1 : Nat) (v2 : Nat) (v3 : Int32) (X : hX) : Option Int32 :=
  if hin (v3 + 1) Ln then
  (f_X9_failure L X v1 (xs (Int32.toNatClampNeg (v3 + 1)))).bind fun r165 =>
  if tk L v1 9 then
  (f_X10_failure L X v2 (xs (Int32.toNatClampNeg (v3 + 1)))).bind fun r168 =>
  if tk L v2 10 then
  if r165 = r168 then
    f_L_law_1186 L xs Ln k18 v1 v2 v3 X
  else
    some 0
  else none
  else none
  else none
set_option maxRecDepth 100000 in
set_option maxHeartbeats 8000000 in
theorem w_L_law_731 {p : Program} {l : Launch} {e : Env} {s : State} {m : MethodId} {below : List Frame} {meth : Method} {c : Code} {dC : Nat → ClassId} {dI : Nat → Nat → Nat} {cy : Nat → ClassId} {ad : Nat → Nat} {L : hL} {b Ln : Nat} {xs : Nat → Int32} (k18 : Nat → Nat → Int32 → hX → Option Int32) (C : hC p s m #[Value.ref b] meth c dC dI cy ad L (fun q => s.heap.size ≤ q) code 4 wsL_law RL) (hr : meth.sig.returnType = ret) (hlocks : meth.locks = false) (hXs : va_X b Ln xs s s.heap) (hbl : b < s.heap.size) (hbA : ¬ (fun q : Nat => s.heap.size ≤ q) b) (hk18 : ∀ (v1 : Nat) (v2 : Nat) (v3 : Int32) (X : hX) (ls : Array Slot), k18 v1 v2 v3 X = some 1 → lv_has ls 4 [(0, .ref b), (1, .ref (ad v1)), (2, .ref (ad v2)), (3, .int v3)] → hG p l e room_1 s m #[Value.ref b] below meth c dC dI cy ad L (fun q => s.heap.size ≤ q) 478 5054 (lw_Z below #[Value.ref b] s) X 18 ls []) : ∀ (v1 : Nat) (v2 : Nat) (v3 : Int32) (X : hX) (ls : Array Slot), f_L_law_731 L xs Ln k18 v1 v2 v3 X = some 1 → lv_has ls 4 [(0, .ref b), (1, .ref (ad v1)), (2, .ref (ad v2)), (3, .int v3)] → hG p l e room_1 s m #[Value.ref b] below meth c dC dI cy ad L (fun q => s.heap.size ≤ q) 478 5054 (lw_Z below #[Value.ref b] s) X 731 ls [] := by
  intro v1 v2 v3 X ls h hl
  unfold f_L_law_731 at h
  refine hx_aload_n C dL_law_731 rfl (lv_at hl 1 rfl) ?_
  refine hx_aload_n C dL_law_732 rfl (lv_at hl 0 rfl) ?_
  refine hx_iload_n C dL_law_733 rfl (lv_at hl 3 rfl) ?_
  refine hx_iconst (v := 1) C dL_law_734 (by decide) ?_
  refine hx_iadd C dL_law_735 ?_
  obtain ⟨g164, h⟩ := hx_gd h
  refine hx_sld (n := (Int32.toNatClampNeg (v3 + 1))) C hXs hbl hbA g164 rfl dL_law_736 ?_
  obtain ⟨r165, e166, h⟩ := hx_bind h
  obtain ⟨g167, h⟩ := hx_gd h
  refine hx_callV (As := [.int (xs (Int32.toNatClampNeg (v3 + 1)))]) (rest := []) (n := 1) (Cn := RX9) C (c_X9_failure e166) gL_law_X9_failure g167 (by decide) rfl (by decide +kernel) ⟨Nat.le_of_ble_eq_true rfl, Nat.le_of_ble_eq_true rfl⟩ rfl rfl rfl ⟨Nat.le_of_ble_eq_true rfl, Nat.le_of_ble_eq_true rfl⟩ hl.1 rfl rfl (Nat.le_of_ble_eq_true rfl) dL_law_737 ?_
  refine hx_aload_n C dL_law_740 rfl (lv_at hl 2 rfl) ?_
  refine hx_aload_n C dL_law_741 rfl (lv_at hl 0 rfl) ?_
  refine hx_iload_n C dL_law_742 rfl (lv_at hl 3 rfl) ?_
  refine hx_iconst (v := 1) C dL_law_743 (by decide) ?_
  refine hx_iadd C dL_law_744 ?_
  refine hx_sld (n := (Int32.toNatClampNeg (v3 + 1))) C hXs hbl hbA g164 rfl dL_law_745 ?_
  obtain ⟨r168, e169, h⟩ := hx_bind h
  obtain ⟨g170, h⟩ := hx_gd h
  refine hx_callV (As := [.int (xs (Int32.toNatClampNeg (v3 + 1)))]) (rest := [.int r165]) (n := 1) (Cn := RX10) C (c_X10_failure e169) gL_law_X10_failure g170 (by decide) rfl (by decide +kernel) ⟨Nat.le_of_ble_eq_true rfl, Nat.le_of_ble_eq_true rfl⟩ rfl rfl rfl ⟨Nat.le_of_ble_eq_true rfl, Nat.le_of_ble_eq_true rfl⟩ hl.1 rfl rfl (Nat.le_of_ble_eq_true rfl) dL_law_746 ?_
  refine hx_icmp_eq (tgt := 1186) C dL_law_749 (by decide) (fun c171 => ?_) (fun c171 => ?_)
  · have h := hx_pos c171 h
    exact w_L_law_1186 k18 C hr hlocks hXs hbl hbA hk18 v1 v2 v3 X ls h (lv_sub hl [0, 1, 2, 3] rfl)
  · have h := hx_neg c171 h
    refine hx_iconst (v := 0) C dL_law_752 (by decide) ?_
    exact absurd (hx_some1 h) (by decide)
def f_L_law_754 (L : hL) (xs : Nat → Int32) (Ln : Nat) (k18 : Nat → Nat → Int32 → hX → Option Int32) (v1 : Nat) (v2 : Nat) (v3 : Int32) (X : hX) : Option Int32 :=
  if hin (v3 + 1) Ln then
  (f_X9_count L X v1 (xs (Int32.toNatClampNeg (v3 + 1)))).bind fun r173 =>
  if tk L v1 9 then
  (f_X10_count L X v2 (xs (Int32.toNatClampNeg (v3 + 1)))).bind fun r176 =>
  if tk L v2 10 then
  if r173 = r176 then
    f_L_law_1186 L xs Ln k18 v1 v2 v3 X
  else
    some 0
  else none
  else none
  else none
set_option maxRecDepth 100000 in
set_option maxHeartbeats 8000000 in
theorem w_L_law_754 {p : Program} {l : Launch} {e : Env} {s : State} {m : MethodId} {below : List Frame} {meth : Method} {c : Code} {dC : Nat → ClassId} {dI : Nat → Nat → Nat} {cy : Nat → ClassId} {ad : Nat → Nat} {L : hL} {b Ln : Nat} {xs : Nat → Int32} (k18 : Nat → Nat → Int32 → hX → Option Int32) (C : hC p s m #[Value.ref b] meth c dC dI cy ad L (fun q => s.heap.size ≤ q) code 4 wsL_law RL) (hr : meth.sig.returnType = ret) (hlocks : meth.locks = false) (hXs : va_X b Ln xs s s.heap) (hbl : b < s.heap.size) (hbA : ¬ (fun q : Nat => s.heap.size ≤ q) b) (hk18 : ∀ (v1 : Nat) (v2 : Nat) (v3 : Int32) (X : hX) (ls : Array Slot), k18 v1 v2 v3 X = some 1 → lv_has ls 4 [(0, .ref b), (1, .ref (ad v1)), (2, .ref (ad v2)), (3, .int v3)] → hG p l e room_1 s m #[Value.ref b] below meth c dC dI cy ad L (fun q => s.heap.size ≤ q) 478 5054 (lw_Z below #[Value.ref b] s) X 18 ls []) : ∀ (v1 : Nat) (v2 : Nat) (v3 : Int32) (X : hX) (ls : Array Slot), f_L_law_754 L xs Ln k18 v1 v2 v3 X = some 1 → lv_has ls 4 [(0, .ref b), (1, .ref (ad v1)), (2, .ref (ad v2)), (3, .int v3)] → hG p l e room_1 s m #[Value.ref b] below meth c dC dI cy ad L (fun q => s.heap.size ≤ q) 478 5054 (lw_Z below #[Value.ref b] s) X 754 ls [] := by
  intro v1 v2 v3 X ls h hl
  unfold f_L_law_754 at h
  refine hx_aload_n C dL_law_754 rfl (lv_at hl 1 rfl) ?_
  refine hx_aload_n C dL_law_755 rfl (lv_at hl 0 rfl) ?_
  refine hx_iload_n C dL_law_756 rfl (lv_at hl 3 rfl) ?_
  refine hx_iconst (v := 1) C dL_law_757 (by decide) ?_
  refine hx_iadd C dL_law_758 ?_
  obtain ⟨g172, h⟩ := hx_gd h
  refine hx_sld (n := (Int32.toNatClampNeg (v3 + 1))) C hXs hbl hbA g172 rfl dL_law_759 ?_
  obtain ⟨r173, e174, h⟩ := hx_bind h
  obtain ⟨g175, h⟩ := hx_gd h
  refine hx_callV (As := [.int (xs (Int32.toNatClampNeg (v3 + 1)))]) (rest := []) (n := 1) (Cn := RX9) C (c_X9_count e174) gL_law_X9_count g175 (by decide) rfl (by decide +kernel) ⟨Nat.le_of_ble_eq_true rfl, Nat.le_of_ble_eq_true rfl⟩ rfl rfl rfl ⟨Nat.le_of_ble_eq_true rfl, Nat.le_of_ble_eq_true rfl⟩ hl.1 rfl rfl (Nat.le_of_ble_eq_true rfl) dL_law_760 ?_
  refine hx_aload_n C dL_law_763 rfl (lv_at hl 2 rfl) ?_
  refine hx_aload_n C dL_law_764 rfl (lv_at hl 0 rfl) ?_
  refine hx_iload_n C dL_law_765 rfl (lv_at hl 3 rfl) ?_
  refine hx_iconst (v := 1) C dL_law_766 (by decide) ?_
  refine hx_iadd C dL_law_767 ?_
  refine hx_sld (n := (Int32.toNatClampNeg (v3 + 1))) C hXs hbl hbA g172 rfl dL_law_768 ?_
  obtain ⟨r176, e177, h⟩ := hx_bind h
  obtain ⟨g178, h⟩ := hx_gd h
  refine hx_callV (As := [.int (xs (Int32.toNatClampNeg (v3 + 1)))]) (rest := [.int r173]) (n := 1) (Cn := RX10) C (c_X10_count e177) gL_law_X10_count g178 (by decide) rfl (by decide +kernel) ⟨Nat.le_of_ble_eq_true rfl, Nat.le_of_ble_eq_true rfl⟩ rfl rfl rfl ⟨Nat.le_of_ble_eq_true rfl, Nat.le_of_ble_eq_true rfl⟩ hl.1 rfl rfl (Nat.le_of_ble_eq_true rfl) dL_law_769 ?_
  refine hx_icmp_eq (tgt := 1186) C dL_law_772 (by decide) (fun c179 => ?_) (fun c179 => ?_)
  · have h := hx_pos c179 h
    exact w_L_law_1186 k18 C hr hlocks hXs hbl hbA hk18 v1 v2 v3 X ls h (lv_sub hl [0, 1, 2, 3] rfl)
  · have h := hx_neg c179 h
    refine hx_iconst (v := 0) C dL_law_775 (by decide) ?_
    exact absurd (hx_some1 h) (by decide)
def f_L_law_777 (L : hL) (xs : Nat → Int32) (Ln : Nat) (k18 : Nat → Nat → Int32 → hX → Option Int32) (v1 : Nat) (v2 : Nat) (v3 : Int32) (X : hX) : Option Int32 :=
  if hin (v3 + 1) Ln then
  if hin (v3 + 2) Ln then
  (f_X9_kind L X v1 (xs (Int32.toNatClampNeg (v3 + 1))) (xs (Int32.toNatClampNeg (v3 + 2)))).bind fun r182 =>
  if tk L v1 9 then
  (f_X10_kind L X v2 (xs (Int32.toNatClampNeg (v3 + 1))) (xs (Int32.toNatClampNeg (v3 + 2)))).bind fun r185 =>
  if tk L v2 10 then
  if r182 = r185 then
    f_L_law_1186 L xs Ln k18 v1 v2 v3 X
  else
    some 0
  else none
  else none
  else none
  else none
set_option maxRecDepth 100000 in
set_option maxHeartbeats 8000000 in
theorem w_L_law_777 {p : Program} {l : Launch} {e : Env} {s : State} {m : MethodId} {below : List Frame} {meth : Method} {c : Code} {dC : Nat → ClassId} {dI : Nat → Nat → Nat} {cy : Nat → ClassId} {ad : Nat → Nat} {L : hL} {b Ln : Nat} {xs : Nat → Int32} (k18 : Nat → Nat → Int32 → hX → Option Int32) (C : hC p s m #[Value.ref b] meth c dC dI cy ad L (fun q => s.heap.size ≤ q) code 4 wsL_law RL) (hr : meth.sig.returnType = ret) (hlocks : meth.locks = false) (hXs : va_X b Ln xs s s.heap) (hbl : b < s.heap.size) (hbA : ¬ (fun q : Nat => s.heap.size ≤ q) b) (hk18 : ∀ (v1 : Nat) (v2 : Nat) (v3 : Int32) (X : hX) (ls : Array Slot), k18 v1 v2 v3 X = some 1 → lv_has ls 4 [(0, .ref b), (1, .ref (ad v1)), (2, .ref (ad v2)), (3, .int v3)] → hG p l e room_1 s m #[Value.ref b] below meth c dC dI cy ad L (fun q => s.heap.size ≤ q) 478 5054 (lw_Z below #[Value.ref b] s) X 18 ls []) : ∀ (v1 : Nat) (v2 : Nat) (v3 : Int32) (X : hX) (ls : Array Slot), f_L_law_777 L xs Ln k18 v1 v2 v3 X = some 1 → lv_has ls 4 [(0, .ref b), (1, .ref (ad v1)), (2, .ref (ad v2)), (3, .int v3)] → hG p l e room_1 s m #[Value.ref b] below meth c dC dI cy ad L (fun q => s.heap.size ≤ q) 478 5054 (lw_Z below #[Value.ref b] s) X 777 ls [] := by
  intro v1 v2 v3 X ls h hl
  unfold f_L_law_777 at h
  refine hx_aload_n C dL_law_777 rfl (lv_at hl 1 rfl) ?_
  refine hx_aload_n C dL_law_778 rfl (lv_at hl 0 rfl) ?_
  refine hx_iload_n C dL_law_779 rfl (lv_at hl 3 rfl) ?_
  refine hx_iconst (v := 1) C dL_law_780 (by decide) ?_
  refine hx_iadd C dL_law_781 ?_
  obtain ⟨g180, h⟩ := hx_gd h
  refine hx_sld (n := (Int32.toNatClampNeg (v3 + 1))) C hXs hbl hbA g180 rfl dL_law_782 ?_
  refine hx_aload_n C dL_law_783 rfl (lv_at hl 0 rfl) ?_
  refine hx_iload_n C dL_law_784 rfl (lv_at hl 3 rfl) ?_
  refine hx_iconst (v := 2) C dL_law_785 (by decide) ?_
  refine hx_iadd C dL_law_786 ?_
  obtain ⟨g181, h⟩ := hx_gd h
  refine hx_sld (n := (Int32.toNatClampNeg (v3 + 2))) C hXs hbl hbA g181 rfl dL_law_787 ?_
  obtain ⟨r182, e183, h⟩ := hx_bind h
  obtain ⟨g184, h⟩ := hx_gd h
  refine hx_callV (As := [.int (xs (Int32.toNatClampNeg (v3 + 1))), .int (xs (Int32.toNatClampNeg (v3 + 2)))]) (rest := []) (n := 2) (Cn := RX9) C (c_X9_kind e183) gL_law_X9_kind g184 (by decide) rfl (by decide +kernel) ⟨Nat.le_of_ble_eq_true rfl, Nat.le_of_ble_eq_true rfl⟩ rfl rfl rfl ⟨Nat.le_of_ble_eq_true rfl, Nat.le_of_ble_eq_true rfl⟩ hl.1 rfl rfl (Nat.le_of_ble_eq_true rfl) dL_law_788 ?_
  refine hx_aload_n C dL_law_791 rfl (lv_at hl 2 rfl) ?_
  refine hx_aload_n C dL_law_792 rfl (lv_at hl 0 rfl) ?_
  refine hx_iload_n C dL_law_793 rfl (lv_at hl 3 rfl) ?_
  refine hx_iconst (v := 1) C dL_law_794 (by decide) ?_
  refine hx_iadd C dL_law_795 ?_
  refine hx_sld (n := (Int32.toNatClampNeg (v3 + 1))) C hXs hbl hbA g180 rfl dL_law_796 ?_
  refine hx_aload_n C dL_law_797 rfl (lv_at hl 0 rfl) ?_
  refine hx_iload_n C dL_law_798 rfl (lv_at hl 3 rfl) ?_
  refine hx_iconst (v := 2) C dL_law_799 (by decide) ?_
  refine hx_iadd C dL_law_800 ?_
  refine hx_sld (n := (Int32.toNatClampNeg (v3 + 2))) C hXs hbl hbA g181 rfl dL_law_801 ?_
  obtain ⟨r185, e186, h⟩ := hx_bind h
  obtain ⟨g187, h⟩ := hx_gd h
  refine hx_callV (As := [.int (xs (Int32.toNatClampNeg (v3 + 1))), .int (xs (Int32.toNatClampNeg (v3 + 2)))]) (rest := [.int r182]) (n := 2) (Cn := RX10) C (c_X10_kind e186) gL_law_X10_kind g187 (by decide) rfl (by decide +kernel) ⟨Nat.le_of_ble_eq_true rfl, Nat.le_of_ble_eq_true rfl⟩ rfl rfl rfl ⟨Nat.le_of_ble_eq_true rfl, Nat.le_of_ble_eq_true rfl⟩ hl.1 rfl rfl (Nat.le_of_ble_eq_true rfl) dL_law_802 ?_
  refine hx_icmp_eq (tgt := 1186) C dL_law_805 (by decide) (fun c188 => ?_) (fun c188 => ?_)
  · have h := hx_pos c188 h
    exact w_L_law_1186 k18 C hr hlocks hXs hbl hbA hk18 v1 v2 v3 X ls h (lv_sub hl [0, 1, 2, 3] rfl)
  · have h := hx_neg c188 h
    refine hx_iconst (v := 0) C dL_law_808 (by decide) ?_
    exact absurd (hx_some1 h) (by decide)
def f_L_law_810 (L : hL) (xs : Nat → Int32) (Ln : Nat) (k18 : Nat → Nat → Int32 → hX → Option Int32) (v1 : Nat) (v2 : Nat) (v3 : Int32) (X : hX) : Option Int32 :=
  if hin (v3 + 1) Ln then
  if hin (v3 + 2) Ln then
  (f_X9_customer L X v1 (xs (Int32.toNatClampNeg (v3 + 1))) (xs (Int32.toNatClampNeg (v3 + 2)))).bind fun r191 =>
  if tk L v1 9 then
  (f_X10_customer L X v2 (xs (Int32.toNatClampNeg (v3 + 1))) (xs (Int32.toNatClampNeg (v3 + 2)))).bind fun r194 =>
  if tk L v2 10 then
  if r191 = r194 then
    f_L_law_1186 L xs Ln k18 v1 v2 v3 X
  else
    some 0
  else none
  else none
  else none
  else none
set_option maxRecDepth 100000 in
set_option maxHeartbeats 8000000 in
theorem w_L_law_810 {p : Program} {l : Launch} {e : Env} {s : State} {m : MethodId} {below : List Frame} {meth : Method} {c : Code} {dC : Nat → ClassId} {dI : Nat → Nat → Nat} {cy : Nat → ClassId} {ad : Nat → Nat} {L : hL} {b Ln : Nat} {xs : Nat → Int32} (k18 : Nat → Nat → Int32 → hX → Option Int32) (C : hC p s m #[Value.ref b] meth c dC dI cy ad L (fun q => s.heap.size ≤ q) code 4 wsL_law RL) (hr : meth.sig.returnType = ret) (hlocks : meth.locks = false) (hXs : va_X b Ln xs s s.heap) (hbl : b < s.heap.size) (hbA : ¬ (fun q : Nat => s.heap.size ≤ q) b) (hk18 : ∀ (v1 : Nat) (v2 : Nat) (v3 : Int32) (X : hX) (ls : Array Slot), k18 v1 v2 v3 X = some 1 → lv_has ls 4 [(0, .ref b), (1, .ref (ad v1)), (2, .ref (ad v2)), (3, .int v3)] → hG p l e room_1 s m #[Value.ref b] below meth c dC dI cy ad L (fun q => s.heap.size ≤ q) 478 5054 (lw_Z below #[Value.ref b] s) X 18 ls []) : ∀ (v1 : Nat) (v2 : Nat) (v3 : Int32) (X : hX) (ls : Array Slot), f_L_law_810 L xs Ln k18 v1 v2 v3 X = some 1 → lv_has ls 4 [(0, .ref b), (1, .ref (ad v1)), (2, .ref (ad v2)), (3, .int v3)] → hG p l e room_1 s m #[Value.ref b] below meth c dC dI cy ad L (fun q => s.heap.size ≤ q) 478 5054 (lw_Z below #[Value.ref b] s) X 810 ls [] := by
  intro v1 v2 v3 X ls h hl
  unfold f_L_law_810 at h
  refine hx_aload_n C dL_law_810 rfl (lv_at hl 1 rfl) ?_
  refine hx_aload_n C dL_law_811 rfl (lv_at hl 0 rfl) ?_
  refine hx_iload_n C dL_law_812 rfl (lv_at hl 3 rfl) ?_
  refine hx_iconst (v := 1) C dL_law_813 (by decide) ?_
  refine hx_iadd C dL_law_814 ?_
  obtain ⟨g189, h⟩ := hx_gd h
  refine hx_sld (n := (Int32.toNatClampNeg (v3 + 1))) C hXs hbl hbA g189 rfl dL_law_815 ?_
  refine hx_aload_n C dL_law_816 rfl (lv_at hl 0 rfl) ?_
  refine hx_iload_n C dL_law_817 rfl (lv_at hl 3 rfl) ?_
  refine hx_iconst (v := 2) C dL_law_818 (by decide) ?_
  refine hx_iadd C dL_law_819 ?_
  obtain ⟨g190, h⟩ := hx_gd h
  refine hx_sld (n := (Int32.toNatClampNeg (v3 + 2))) C hXs hbl hbA g190 rfl dL_law_820 ?_
  obtain ⟨r191, e192, h⟩ := hx_bind h
  obtain ⟨g193, h⟩ := hx_gd h
  refine hx_callV (As := [.int (xs (Int32.toNatClampNeg (v3 + 1))), .int (xs (Int32.toNatClampNeg (v3 + 2)))]) (rest := []) (n := 2) (Cn := RX9) C (c_X9_customer e192) gL_law_X9_customer g193 (by decide) rfl (by decide +kernel) ⟨Nat.le_of_ble_eq_true rfl, Nat.le_of_ble_eq_true rfl⟩ rfl rfl rfl ⟨Nat.le_of_ble_eq_true rfl, Nat.le_of_ble_eq_true rfl⟩ hl.1 rfl rfl (Nat.le_of_ble_eq_true rfl) dL_law_821 ?_
  refine hx_aload_n C dL_law_824 rfl (lv_at hl 2 rfl) ?_
  refine hx_aload_n C dL_law_825 rfl (lv_at hl 0 rfl) ?_
  refine hx_iload_n C dL_law_826 rfl (lv_at hl 3 rfl) ?_
  refine hx_iconst (v := 1) C dL_law_827 (by decide) ?_
  refine hx_iadd C dL_law_828 ?_
  refine hx_sld (n := (Int32.toNatClampNeg (v3 + 1))) C hXs hbl hbA g189 rfl dL_law_829 ?_
  refine hx_aload_n C dL_law_830 rfl (lv_at hl 0 rfl) ?_
  refine hx_iload_n C dL_law_831 rfl (lv_at hl 3 rfl) ?_
  refine hx_iconst (v := 2) C dL_law_832 (by decide) ?_
  refine hx_iadd C dL_law_833 ?_
  refine hx_sld (n := (Int32.toNatClampNeg (v3 + 2))) C hXs hbl hbA g190 rfl dL_law_834 ?_
  obtain ⟨r194, e195, h⟩ := hx_bind h
  obtain ⟨g196, h⟩ := hx_gd h
  refine hx_callV (As := [.int (xs (Int32.toNatClampNeg (v3 + 1))), .int (xs (Int32.toNatClampNeg (v3 + 2)))]) (rest := [.int r191]) (n := 2) (Cn := RX10) C (c_X10_customer e195) gL_law_X10_customer g196 (by decide) rfl (by decide +kernel) ⟨Nat.le_of_ble_eq_true rfl, Nat.le_of_ble_eq_true rfl⟩ rfl rfl rfl ⟨Nat.le_of_ble_eq_true rfl, Nat.le_of_ble_eq_true rfl⟩ hl.1 rfl rfl (Nat.le_of_ble_eq_true rfl) dL_law_835 ?_
  refine hx_icmp_eq (tgt := 1186) C dL_law_838 (by decide) (fun c197 => ?_) (fun c197 => ?_)
  · have h := hx_pos c197 h
    exact w_L_law_1186 k18 C hr hlocks hXs hbl hbA hk18 v1 v2 v3 X ls h (lv_sub hl [0, 1, 2, 3] rfl)
  · have h := hx_neg c197 h
    refine hx_iconst (v := 0) C dL_law_841 (by decide) ?_
    exact absurd (hx_some1 h) (by decide)
def f_L_law_843 (L : hL) (xs : Nat → Int32) (Ln : Nat) (k18 : Nat → Nat → Int32 → hX → Option Int32) (v1 : Nat) (v2 : Nat) (v3 : Int32) (X : hX) : Option Int32 :=
  if hin (v3 + 1) Ln then
  if hin (v3 + 2) Ln then
  (f_X9_prize L X v1 (xs (Int32.toNatClampNeg (v3 + 1))) (xs (Int32.toNatClampNeg (v3 + 2)))).bind fun r200 =>
  if tk L v1 9 then
  (f_X10_prize L X v2 (xs (Int32.toNatClampNeg (v3 + 1))) (xs (Int32.toNatClampNeg (v3 + 2)))).bind fun r203 =>
  if tk L v2 10 then
  if r200 = r203 then
    f_L_law_1186 L xs Ln k18 v1 v2 v3 X
  else
    some 0
  else none
  else none
  else none
  else none
set_option maxRecDepth 100000 in
set_option maxHeartbeats 8000000 in
theorem w_L_law_843 {p : Program} {l : Launch} {e : Env} {s : State} {m : MethodId} {below : List Frame} {meth : Method} {c : Code} {dC : Nat → ClassId} {dI : Nat → Nat → Nat} {cy : Nat → ClassId} {ad : Nat → Nat} {L : hL} {b Ln : Nat} {xs : Nat → Int32} (k18 : Nat → Nat → Int32 → hX → Option Int32) (C : hC p s m #[Value.ref b] meth c dC dI cy ad L (fun q => s.heap.size ≤ q) code 4 wsL_law RL) (hr : meth.sig.returnType = ret) (hlocks : meth.locks = false) (hXs : va_X b Ln xs s s.heap) (hbl : b < s.heap.size) (hbA : ¬ (fun q : Nat => s.heap.size ≤ q) b) (hk18 : ∀ (v1 : Nat) (v2 : Nat) (v3 : Int32) (X : hX) (ls : Array Slot), k18 v1 v2 v3 X = some 1 → lv_has ls 4 [(0, .ref b), (1, .ref (ad v1)), (2, .ref (ad v2)), (3, .int v3)] → hG p l e room_1 s m #[Value.ref b] below meth c dC dI cy ad L (fun q => s.heap.size ≤ q) 478 5054 (lw_Z below #[Value.ref b] s) X 18 ls []) : ∀ (v1 : Nat) (v2 : Nat) (v3 : Int32) (X : hX) (ls : Array Slot), f_L_law_843 L xs Ln k18 v1 v2 v3 X = some 1 → lv_has ls 4 [(0, .ref b), (1, .ref (ad v1)), (2, .ref (ad v2)), (3, .int v3)] → hG p l e room_1 s m #[Value.ref b] below meth c dC dI cy ad L (fun q => s.heap.size ≤ q) 478 5054 (lw_Z below #[Value.ref b] s) X 843 ls [] := by
  intro v1 v2 v3 X ls h hl
  unfold f_L_law_843 at h
  refine hx_aload_n C dL_law_843 rfl (lv_at hl 1 rfl) ?_
  refine hx_aload_n C dL_law_844 rfl (lv_at hl 0 rfl) ?_
  refine hx_iload_n C dL_law_845 rfl (lv_at hl 3 rfl) ?_
  refine hx_iconst (v := 1) C dL_law_846 (by decide) ?_
  refine hx_iadd C dL_law_847 ?_
  obtain ⟨g198, h⟩ := hx_gd h
  refine hx_sld (n := (Int32.toNatClampNeg (v3 + 1))) C hXs hbl hbA g198 rfl dL_law_848 ?_
  refine hx_aload_n C dL_law_849 rfl (lv_at hl 0 rfl) ?_
  refine hx_iload_n C dL_law_850 rfl (lv_at hl 3 rfl) ?_
  refine hx_iconst (v := 2) C dL_law_851 (by decide) ?_
  refine hx_iadd C dL_law_852 ?_
  obtain ⟨g199, h⟩ := hx_gd h
  refine hx_sld (n := (Int32.toNatClampNeg (v3 + 2))) C hXs hbl hbA g199 rfl dL_law_853 ?_
  obtain ⟨r200, e201, h⟩ := hx_bind h
  obtain ⟨g202, h⟩ := hx_gd h
  refine hx_callV (As := [.int (xs (Int32.toNatClampNeg (v3 + 1))), .int (xs (Int32.toNatClampNeg (v3 + 2)))]) (rest := []) (n := 2) (Cn := RX9) C (c_X9_prize e201) gL_law_X9_prize g202 (by decide) rfl (by decide +kernel) ⟨Nat.le_of_ble_eq_true rfl, Nat.le_of_ble_eq_true rfl⟩ rfl rfl rfl ⟨Nat.le_of_ble_eq_true rfl, Nat.le_of_ble_eq_true rfl⟩ hl.1 rfl rfl (Nat.le_of_ble_eq_true rfl) dL_law_854 ?_
  refine hx_aload_n C dL_law_857 rfl (lv_at hl 2 rfl) ?_
  refine hx_aload_n C dL_law_858 rfl (lv_at hl 0 rfl) ?_
  refine hx_iload_n C dL_law_859 rfl (lv_at hl 3 rfl) ?_
  refine hx_iconst (v := 1) C dL_law_860 (by decide) ?_
  refine hx_iadd C dL_law_861 ?_
  refine hx_sld (n := (Int32.toNatClampNeg (v3 + 1))) C hXs hbl hbA g198 rfl dL_law_862 ?_
  refine hx_aload_n C dL_law_863 rfl (lv_at hl 0 rfl) ?_
  refine hx_iload_n C dL_law_864 rfl (lv_at hl 3 rfl) ?_
  refine hx_iconst (v := 2) C dL_law_865 (by decide) ?_
  refine hx_iadd C dL_law_866 ?_
  refine hx_sld (n := (Int32.toNatClampNeg (v3 + 2))) C hXs hbl hbA g199 rfl dL_law_867 ?_
  obtain ⟨r203, e204, h⟩ := hx_bind h
  obtain ⟨g205, h⟩ := hx_gd h
  refine hx_callV (As := [.int (xs (Int32.toNatClampNeg (v3 + 1))), .int (xs (Int32.toNatClampNeg (v3 + 2)))]) (rest := [.int r200]) (n := 2) (Cn := RX10) C (c_X10_prize e204) gL_law_X10_prize g205 (by decide) rfl (by decide +kernel) ⟨Nat.le_of_ble_eq_true rfl, Nat.le_of_ble_eq_true rfl⟩ rfl rfl rfl ⟨Nat.le_of_ble_eq_true rfl, Nat.le_of_ble_eq_true rfl⟩ hl.1 rfl rfl (Nat.le_of_ble_eq_true rfl) dL_law_868 ?_
  refine hx_icmp_eq (tgt := 1186) C dL_law_871 (by decide) (fun c206 => ?_) (fun c206 => ?_)
  · have h := hx_pos c206 h
    exact w_L_law_1186 k18 C hr hlocks hXs hbl hbA hk18 v1 v2 v3 X ls h (lv_sub hl [0, 1, 2, 3] rfl)
  · have h := hx_neg c206 h
    refine hx_iconst (v := 0) C dL_law_874 (by decide) ?_
    exact absurd (hx_some1 h) (by decide)
def f_L_law_876 (L : hL) (xs : Nat → Int32) (Ln : Nat) (k18 : Nat → Nat → Int32 → hX → Option Int32) (v1 : Nat) (v2 : Nat) (v3 : Int32) (X : hX) : Option Int32 :=
  if hin (v3 + 1) Ln then
  (f_X9_read L X v1 (xs (Int32.toNatClampNeg (v3 + 1)))).bind fun r208 =>
  if tk L v1 9 then
  (f_X10_read L X v2 (xs (Int32.toNatClampNeg (v3 + 1)))).bind fun r211 =>
  if tk L v2 10 then
  if r208 = r211 then
    f_L_law_1186 L xs Ln k18 v1 v2 v3 X
  else
    some 0
  else none
  else none
  else none
set_option maxRecDepth 100000 in
set_option maxHeartbeats 8000000 in
theorem w_L_law_876 {p : Program} {l : Launch} {e : Env} {s : State} {m : MethodId} {below : List Frame} {meth : Method} {c : Code} {dC : Nat → ClassId} {dI : Nat → Nat → Nat} {cy : Nat → ClassId} {ad : Nat → Nat} {L : hL} {b Ln : Nat} {xs : Nat → Int32} (k18 : Nat → Nat → Int32 → hX → Option Int32) (C : hC p s m #[Value.ref b] meth c dC dI cy ad L (fun q => s.heap.size ≤ q) code 4 wsL_law RL) (hr : meth.sig.returnType = ret) (hlocks : meth.locks = false) (hXs : va_X b Ln xs s s.heap) (hbl : b < s.heap.size) (hbA : ¬ (fun q : Nat => s.heap.size ≤ q) b) (hk18 : ∀ (v1 : Nat) (v2 : Nat) (v3 : Int32) (X : hX) (ls : Array Slot), k18 v1 v2 v3 X = some 1 → lv_has ls 4 [(0, .ref b), (1, .ref (ad v1)), (2, .ref (ad v2)), (3, .int v3)] → hG p l e room_1 s m #[Value.ref b] below meth c dC dI cy ad L (fun q => s.heap.size ≤ q) 478 5054 (lw_Z below #[Value.ref b] s) X 18 ls []) : ∀ (v1 : Nat) (v2 : Nat) (v3 : Int32) (X : hX) (ls : Array Slot), f_L_law_876 L xs Ln k18 v1 v2 v3 X = some 1 → lv_has ls 4 [(0, .ref b), (1, .ref (ad v1)), (2, .ref (ad v2)), (3, .int v3)] → hG p l e room_1 s m #[Value.ref b] below meth c dC dI cy ad L (fun q => s.heap.size ≤ q) 478 5054 (lw_Z below #[Value.ref b] s) X 876 ls [] := by
  intro v1 v2 v3 X ls h hl
  unfold f_L_law_876 at h
  refine hx_aload_n C dL_law_876 rfl (lv_at hl 1 rfl) ?_
  refine hx_aload_n C dL_law_877 rfl (lv_at hl 0 rfl) ?_
  refine hx_iload_n C dL_law_878 rfl (lv_at hl 3 rfl) ?_
  refine hx_iconst (v := 1) C dL_law_879 (by decide) ?_
  refine hx_iadd C dL_law_880 ?_
  obtain ⟨g207, h⟩ := hx_gd h
  refine hx_sld (n := (Int32.toNatClampNeg (v3 + 1))) C hXs hbl hbA g207 rfl dL_law_881 ?_
  obtain ⟨r208, e209, h⟩ := hx_bind h
  obtain ⟨g210, h⟩ := hx_gd h
  refine hx_callV (As := [.int (xs (Int32.toNatClampNeg (v3 + 1)))]) (rest := []) (n := 1) (Cn := RX9) C (c_X9_read e209) gL_law_X9_read g210 (by decide) rfl (by decide +kernel) ⟨Nat.le_of_ble_eq_true rfl, Nat.le_of_ble_eq_true rfl⟩ rfl rfl rfl ⟨Nat.le_of_ble_eq_true rfl, Nat.le_of_ble_eq_true rfl⟩ hl.1 rfl rfl (Nat.le_of_ble_eq_true rfl) dL_law_882 ?_
  refine hx_aload_n C dL_law_885 rfl (lv_at hl 2 rfl) ?_
  refine hx_aload_n C dL_law_886 rfl (lv_at hl 0 rfl) ?_
  refine hx_iload_n C dL_law_887 rfl (lv_at hl 3 rfl) ?_
  refine hx_iconst (v := 1) C dL_law_888 (by decide) ?_
  refine hx_iadd C dL_law_889 ?_
  refine hx_sld (n := (Int32.toNatClampNeg (v3 + 1))) C hXs hbl hbA g207 rfl dL_law_890 ?_
  obtain ⟨r211, e212, h⟩ := hx_bind h
  obtain ⟨g213, h⟩ := hx_gd h
  refine hx_callV (As := [.int (xs (Int32.toNatClampNeg (v3 + 1)))]) (rest := [.int r208]) (n := 1) (Cn := RX10) C (c_X10_read e212) gL_law_X10_read g213 (by decide) rfl (by decide +kernel) ⟨Nat.le_of_ble_eq_true rfl, Nat.le_of_ble_eq_true rfl⟩ rfl rfl rfl ⟨Nat.le_of_ble_eq_true rfl, Nat.le_of_ble_eq_true rfl⟩ hl.1 rfl rfl (Nat.le_of_ble_eq_true rfl) dL_law_891 ?_
  refine hx_icmp_eq (tgt := 1186) C dL_law_894 (by decide) (fun c214 => ?_) (fun c214 => ?_)
  · have h := hx_pos c214 h
    exact w_L_law_1186 k18 C hr hlocks hXs hbl hbA hk18 v1 v2 v3 X ls h (lv_sub hl [0, 1, 2, 3] rfl)
  · have h := hx_neg c214 h
    refine hx_iconst (v := 0) C dL_law_897 (by decide) ?_
    exact absurd (hx_some1 h) (by decide)
def f_L_law_899 (L : hL) (xs : Nat → Int32) (Ln : Nat) (k18 : Nat → Nat → Int32 → hX → Option Int32) (v1 : Nat) (v2 : Nat) (v3 : Int32) (X : hX) : Option Int32 :=
  if hin (v3 + 1) Ln then
  if hin (v3 + 2) Ln then
  if hin (v3 + 3) Ln then
  (f_X9_allowed L X v1 (xs (Int32.toNatClampNeg (v3 + 1))) (xs (Int32.toNatClampNeg (v3 + 2))) (xs (Int32.toNatClampNeg (v3 + 3)))).bind fun r218 =>
  if tk L v1 9 then
  (f_X10_allowed L X v2 (xs (Int32.toNatClampNeg (v3 + 1))) (xs (Int32.toNatClampNeg (v3 + 2))) (xs (Int32.toNatClampNeg (v3 + 3)))).bind fun r221 =>
  if tk L v2 10 then
  if r218 = r221.1 then
    f_L_law_1186 L xs Ln k18 v1 v2 v3 r221.2
  else
    some 0
  else none
  else none
  else none
  else none
  else none
set_option maxRecDepth 100000 in
set_option maxHeartbeats 8000000 in
theorem w_L_law_899 {p : Program} {l : Launch} {e : Env} {s : State} {m : MethodId} {below : List Frame} {meth : Method} {c : Code} {dC : Nat → ClassId} {dI : Nat → Nat → Nat} {cy : Nat → ClassId} {ad : Nat → Nat} {L : hL} {b Ln : Nat} {xs : Nat → Int32} (k18 : Nat → Nat → Int32 → hX → Option Int32) (C : hC p s m #[Value.ref b] meth c dC dI cy ad L (fun q => s.heap.size ≤ q) code 4 wsL_law RL) (hr : meth.sig.returnType = ret) (hlocks : meth.locks = false) (hXs : va_X b Ln xs s s.heap) (hbl : b < s.heap.size) (hbA : ¬ (fun q : Nat => s.heap.size ≤ q) b) (hk18 : ∀ (v1 : Nat) (v2 : Nat) (v3 : Int32) (X : hX) (ls : Array Slot), k18 v1 v2 v3 X = some 1 → lv_has ls 4 [(0, .ref b), (1, .ref (ad v1)), (2, .ref (ad v2)), (3, .int v3)] → hG p l e room_1 s m #[Value.ref b] below meth c dC dI cy ad L (fun q => s.heap.size ≤ q) 478 5054 (lw_Z below #[Value.ref b] s) X 18 ls []) : ∀ (v1 : Nat) (v2 : Nat) (v3 : Int32) (X : hX) (ls : Array Slot), f_L_law_899 L xs Ln k18 v1 v2 v3 X = some 1 → lv_has ls 4 [(0, .ref b), (1, .ref (ad v1)), (2, .ref (ad v2)), (3, .int v3)] → hG p l e room_1 s m #[Value.ref b] below meth c dC dI cy ad L (fun q => s.heap.size ≤ q) 478 5054 (lw_Z below #[Value.ref b] s) X 899 ls [] := by
  intro v1 v2 v3 X ls h hl
  unfold f_L_law_899 at h
  refine hx_aload_n C dL_law_899 rfl (lv_at hl 1 rfl) ?_
  refine hx_aload_n C dL_law_900 rfl (lv_at hl 0 rfl) ?_
  refine hx_iload_n C dL_law_901 rfl (lv_at hl 3 rfl) ?_
  refine hx_iconst (v := 1) C dL_law_902 (by decide) ?_
  refine hx_iadd C dL_law_903 ?_
  obtain ⟨g215, h⟩ := hx_gd h
  refine hx_sld (n := (Int32.toNatClampNeg (v3 + 1))) C hXs hbl hbA g215 rfl dL_law_904 ?_
  refine hx_aload_n C dL_law_905 rfl (lv_at hl 0 rfl) ?_
  refine hx_iload_n C dL_law_906 rfl (lv_at hl 3 rfl) ?_
  refine hx_iconst (v := 2) C dL_law_907 (by decide) ?_
  refine hx_iadd C dL_law_908 ?_
  obtain ⟨g216, h⟩ := hx_gd h
  refine hx_sld (n := (Int32.toNatClampNeg (v3 + 2))) C hXs hbl hbA g216 rfl dL_law_909 ?_
  refine hx_aload_n C dL_law_910 rfl (lv_at hl 0 rfl) ?_
  refine hx_iload_n C dL_law_911 rfl (lv_at hl 3 rfl) ?_
  refine hx_iconst (v := 3) C dL_law_912 (by decide) ?_
  refine hx_iadd C dL_law_913 ?_
  obtain ⟨g217, h⟩ := hx_gd h
  refine hx_sld (n := (Int32.toNatClampNeg (v3 + 3))) C hXs hbl hbA g217 rfl dL_law_914 ?_
  obtain ⟨r218, e219, h⟩ := hx_bind h
  obtain ⟨g220, h⟩ := hx_gd h
  refine hx_callV (As := [.int (xs (Int32.toNatClampNeg (v3 + 1))), .int (xs (Int32.toNatClampNeg (v3 + 2))), .int (xs (Int32.toNatClampNeg (v3 + 3)))]) (rest := []) (n := 3) (Cn := RX9) C (c_X9_allowed e219) gL_law_X9_allowed g220 (by decide) rfl (by decide +kernel) ⟨Nat.le_of_ble_eq_true rfl, Nat.le_of_ble_eq_true rfl⟩ rfl rfl rfl ⟨Nat.le_of_ble_eq_true rfl, Nat.le_of_ble_eq_true rfl⟩ hl.1 rfl rfl (Nat.le_of_ble_eq_true rfl) dL_law_915 ?_
  refine hx_aload_n C dL_law_918 rfl (lv_at hl 2 rfl) ?_
  refine hx_aload_n C dL_law_919 rfl (lv_at hl 0 rfl) ?_
  refine hx_iload_n C dL_law_920 rfl (lv_at hl 3 rfl) ?_
  refine hx_iconst (v := 1) C dL_law_921 (by decide) ?_
  refine hx_iadd C dL_law_922 ?_
  refine hx_sld (n := (Int32.toNatClampNeg (v3 + 1))) C hXs hbl hbA g215 rfl dL_law_923 ?_
  refine hx_aload_n C dL_law_924 rfl (lv_at hl 0 rfl) ?_
  refine hx_iload_n C dL_law_925 rfl (lv_at hl 3 rfl) ?_
  refine hx_iconst (v := 2) C dL_law_926 (by decide) ?_
  refine hx_iadd C dL_law_927 ?_
  refine hx_sld (n := (Int32.toNatClampNeg (v3 + 2))) C hXs hbl hbA g216 rfl dL_law_928 ?_
  refine hx_aload_n C dL_law_929 rfl (lv_at hl 0 rfl) ?_
  refine hx_iload_n C dL_law_930 rfl (lv_at hl 3 rfl) ?_
  refine hx_iconst (v := 3) C dL_law_931 (by decide) ?_
  refine hx_iadd C dL_law_932 ?_
  refine hx_sld (n := (Int32.toNatClampNeg (v3 + 3))) C hXs hbl hbA g217 rfl dL_law_933 ?_
  obtain ⟨r221, e222, h⟩ := hx_bind h
  obtain ⟨g223, h⟩ := hx_gd h
  refine hx_callV (As := [.int (xs (Int32.toNatClampNeg (v3 + 1))), .int (xs (Int32.toNatClampNeg (v3 + 2))), .int (xs (Int32.toNatClampNeg (v3 + 3)))]) (rest := [.int r218]) (n := 3) (Cn := RX10) C (c_X10_allowed e222) gL_law_X10_allowed g223 (by decide) rfl (by decide +kernel) ⟨Nat.le_of_ble_eq_true rfl, Nat.le_of_ble_eq_true rfl⟩ rfl rfl rfl ⟨Nat.le_of_ble_eq_true rfl, Nat.le_of_ble_eq_true rfl⟩ hl.1 rfl rfl (Nat.le_of_ble_eq_true rfl) dL_law_934 ?_
  refine hx_icmp_eq (tgt := 1186) C dL_law_937 (by decide) (fun c224 => ?_) (fun c224 => ?_)
  · have h := hx_pos c224 h
    exact w_L_law_1186 k18 C hr hlocks hXs hbl hbA hk18 v1 v2 v3 r221.2 ls h (lv_sub hl [0, 1, 2, 3] rfl)
  · have h := hx_neg c224 h
    refine hx_iconst (v := 0) C dL_law_940 (by decide) ?_
    exact absurd (hx_some1 h) (by decide)
def f_L_law_942 (L : hL) (xs : Nat → Int32) (Ln : Nat) (k18 : Nat → Nat → Int32 → hX → Option Int32) (v1 : Nat) (v2 : Nat) (v3 : Int32) (X : hX) : Option Int32 :=
  if hin (v3 + 1) Ln then
  if hin (v3 + 2) Ln then
  if hin (v3 + 3) Ln then
  (f_X9_guess L X v1 (xs (Int32.toNatClampNeg (v3 + 1))) (xs (Int32.toNatClampNeg (v3 + 2))) (xs (Int32.toNatClampNeg (v3 + 3)))).bind fun r228 =>
  if tk L v1 9 then
  (f_X10_guess L X v2 (xs (Int32.toNatClampNeg (v3 + 1))) (xs (Int32.toNatClampNeg (v3 + 2))) (xs (Int32.toNatClampNeg (v3 + 3)))).bind fun r231 =>
  if tk L v2 10 then
  if r228 = r231.1 then
    f_L_law_1186 L xs Ln k18 v1 v2 v3 r231.2
  else
    some 0
  else none
  else none
  else none
  else none
  else none
set_option maxRecDepth 100000 in
set_option maxHeartbeats 8000000 in
theorem w_L_law_942 {p : Program} {l : Launch} {e : Env} {s : State} {m : MethodId} {below : List Frame} {meth : Method} {c : Code} {dC : Nat → ClassId} {dI : Nat → Nat → Nat} {cy : Nat → ClassId} {ad : Nat → Nat} {L : hL} {b Ln : Nat} {xs : Nat → Int32} (k18 : Nat → Nat → Int32 → hX → Option Int32) (C : hC p s m #[Value.ref b] meth c dC dI cy ad L (fun q => s.heap.size ≤ q) code 4 wsL_law RL) (hr : meth.sig.returnType = ret) (hlocks : meth.locks = false) (hXs : va_X b Ln xs s s.heap) (hbl : b < s.heap.size) (hbA : ¬ (fun q : Nat => s.heap.size ≤ q) b) (hk18 : ∀ (v1 : Nat) (v2 : Nat) (v3 : Int32) (X : hX) (ls : Array Slot), k18 v1 v2 v3 X = some 1 → lv_has ls 4 [(0, .ref b), (1, .ref (ad v1)), (2, .ref (ad v2)), (3, .int v3)] → hG p l e room_1 s m #[Value.ref b] below meth c dC dI cy ad L (fun q => s.heap.size ≤ q) 478 5054 (lw_Z below #[Value.ref b] s) X 18 ls []) : ∀ (v1 : Nat) (v2 : Nat) (v3 : Int32) (X : hX) (ls : Array Slot), f_L_law_942 L xs Ln k18 v1 v2 v3 X = some 1 → lv_has ls 4 [(0, .ref b), (1, .ref (ad v1)), (2, .ref (ad v2)), (3, .int v3)] → hG p l e room_1 s m #[Value.ref b] below meth c dC dI cy ad L (fun q => s.heap.size ≤ q) 478 5054 (lw_Z below #[Value.ref b] s) X 942 ls [] := by
  intro v1 v2 v3 X ls h hl
  unfold f_L_law_942 at h
  refine hx_aload_n C dL_law_942 rfl (lv_at hl 1 rfl) ?_
  refine hx_aload_n C dL_law_943 rfl (lv_at hl 0 rfl) ?_
  refine hx_iload_n C dL_law_944 rfl (lv_at hl 3 rfl) ?_
  refine hx_iconst (v := 1) C dL_law_945 (by decide) ?_
  refine hx_iadd C dL_law_946 ?_
  obtain ⟨g225, h⟩ := hx_gd h
  refine hx_sld (n := (Int32.toNatClampNeg (v3 + 1))) C hXs hbl hbA g225 rfl dL_law_947 ?_
  refine hx_aload_n C dL_law_948 rfl (lv_at hl 0 rfl) ?_
  refine hx_iload_n C dL_law_949 rfl (lv_at hl 3 rfl) ?_
  refine hx_iconst (v := 2) C dL_law_950 (by decide) ?_
  refine hx_iadd C dL_law_951 ?_
  obtain ⟨g226, h⟩ := hx_gd h
  refine hx_sld (n := (Int32.toNatClampNeg (v3 + 2))) C hXs hbl hbA g226 rfl dL_law_952 ?_
  refine hx_aload_n C dL_law_953 rfl (lv_at hl 0 rfl) ?_
  refine hx_iload_n C dL_law_954 rfl (lv_at hl 3 rfl) ?_
  refine hx_iconst (v := 3) C dL_law_955 (by decide) ?_
  refine hx_iadd C dL_law_956 ?_
  obtain ⟨g227, h⟩ := hx_gd h
  refine hx_sld (n := (Int32.toNatClampNeg (v3 + 3))) C hXs hbl hbA g227 rfl dL_law_957 ?_
  obtain ⟨r228, e229, h⟩ := hx_bind h
  obtain ⟨g230, h⟩ := hx_gd h
  refine hx_callV (As := [.int (xs (Int32.toNatClampNeg (v3 + 1))), .int (xs (Int32.toNatClampNeg (v3 + 2))), .int (xs (Int32.toNatClampNeg (v3 + 3)))]) (rest := []) (n := 3) (Cn := RX9) C (c_X9_guess e229) gL_law_X9_guess g230 (by decide) rfl (by decide +kernel) ⟨Nat.le_of_ble_eq_true rfl, Nat.le_of_ble_eq_true rfl⟩ rfl rfl rfl ⟨Nat.le_of_ble_eq_true rfl, Nat.le_of_ble_eq_true rfl⟩ hl.1 rfl rfl (Nat.le_of_ble_eq_true rfl) dL_law_958 ?_
  refine hx_aload_n C dL_law_961 rfl (lv_at hl 2 rfl) ?_
  refine hx_aload_n C dL_law_962 rfl (lv_at hl 0 rfl) ?_
  refine hx_iload_n C dL_law_963 rfl (lv_at hl 3 rfl) ?_
  refine hx_iconst (v := 1) C dL_law_964 (by decide) ?_
  refine hx_iadd C dL_law_965 ?_
  refine hx_sld (n := (Int32.toNatClampNeg (v3 + 1))) C hXs hbl hbA g225 rfl dL_law_966 ?_
  refine hx_aload_n C dL_law_967 rfl (lv_at hl 0 rfl) ?_
  refine hx_iload_n C dL_law_968 rfl (lv_at hl 3 rfl) ?_
  refine hx_iconst (v := 2) C dL_law_969 (by decide) ?_
  refine hx_iadd C dL_law_970 ?_
  refine hx_sld (n := (Int32.toNatClampNeg (v3 + 2))) C hXs hbl hbA g226 rfl dL_law_971 ?_
  refine hx_aload_n C dL_law_972 rfl (lv_at hl 0 rfl) ?_
  refine hx_iload_n C dL_law_973 rfl (lv_at hl 3 rfl) ?_
  refine hx_iconst (v := 3) C dL_law_974 (by decide) ?_
  refine hx_iadd C dL_law_975 ?_
  refine hx_sld (n := (Int32.toNatClampNeg (v3 + 3))) C hXs hbl hbA g227 rfl dL_law_976 ?_
  obtain ⟨r231, e232, h⟩ := hx_bind h
  obtain ⟨g233, h⟩ := hx_gd h
  refine hx_callV (As := [.int (xs (Int32.toNatClampNeg (v3 + 1))), .int (xs (Int32.toNatClampNeg (v3 + 2))), .int (xs (Int32.toNatClampNeg (v3 + 3)))]) (rest := [.int r228]) (n := 3) (Cn := RX10) C (c_X10_guess e232) gL_law_X10_guess g233 (by decide) rfl (by decide +kernel) ⟨Nat.le_of_ble_eq_true rfl, Nat.le_of_ble_eq_true rfl⟩ rfl rfl rfl ⟨Nat.le_of_ble_eq_true rfl, Nat.le_of_ble_eq_true rfl⟩ hl.1 rfl rfl (Nat.le_of_ble_eq_true rfl) dL_law_977 ?_
  refine hx_icmp_eq (tgt := 1186) C dL_law_980 (by decide) (fun c234 => ?_) (fun c234 => ?_)
  · have h := hx_pos c234 h
    exact w_L_law_1186 k18 C hr hlocks hXs hbl hbA hk18 v1 v2 v3 r231.2 ls h (lv_sub hl [0, 1, 2, 3] rfl)
  · have h := hx_neg c234 h
    refine hx_iconst (v := 0) C dL_law_983 (by decide) ?_
    exact absurd (hx_some1 h) (by decide)
def f_L_law_985 (L : hL) (xs : Nat → Int32) (Ln : Nat) (k18 : Nat → Nat → Int32 → hX → Option Int32) (v1 : Nat) (v2 : Nat) (v3 : Int32) (X : hX) : Option Int32 :=
  if hin (v3 + 1) Ln then
  (f_X9_apartUpTo L X v1 (xs (Int32.toNatClampNeg (v3 + 1)))).bind fun r236 =>
  if tk L v1 9 then
  (f_X10_apartUpTo L X v2 (xs (Int32.toNatClampNeg (v3 + 1)))).bind fun r239 =>
  if tk L v2 10 then
  if r236 = r239 then
    f_L_law_1186 L xs Ln k18 v1 v2 v3 X
  else
    some 0
  else none
  else none
  else none
set_option maxRecDepth 100000 in
set_option maxHeartbeats 8000000 in
theorem w_L_law_985 {p : Program} {l : Launch} {e : Env} {s : State} {m : MethodId} {below : List Frame} {meth : Method} {c : Code} {dC : Nat → ClassId} {dI : Nat → Nat → Nat} {cy : Nat → ClassId} {ad : Nat → Nat} {L : hL} {b Ln : Nat} {xs : Nat → Int32} (k18 : Nat → Nat → Int32 → hX → Option Int32) (C : hC p s m #[Value.ref b] meth c dC dI cy ad L (fun q => s.heap.size ≤ q) code 4 wsL_law RL) (hr : meth.sig.returnType = ret) (hlocks : meth.locks = false) (hXs : va_X b Ln xs s s.heap) (hbl : b < s.heap.size) (hbA : ¬ (fun q : Nat => s.heap.size ≤ q) b) (hk18 : ∀ (v1 : Nat) (v2 : Nat) (v3 : Int32) (X : hX) (ls : Array Slot), k18 v1 v2 v3 X = some 1 → lv_has ls 4 [(0, .ref b), (1, .ref (ad v1)), (2, .ref (ad v2)), (3, .int v3)] → hG p l e room_1 s m #[Value.ref b] below meth c dC dI cy ad L (fun q => s.heap.size ≤ q) 478 5054 (lw_Z below #[Value.ref b] s) X 18 ls []) : ∀ (v1 : Nat) (v2 : Nat) (v3 : Int32) (X : hX) (ls : Array Slot), f_L_law_985 L xs Ln k18 v1 v2 v3 X = some 1 → lv_has ls 4 [(0, .ref b), (1, .ref (ad v1)), (2, .ref (ad v2)), (3, .int v3)] → hG p l e room_1 s m #[Value.ref b] below meth c dC dI cy ad L (fun q => s.heap.size ≤ q) 478 5054 (lw_Z below #[Value.ref b] s) X 985 ls [] := by
  intro v1 v2 v3 X ls h hl
  unfold f_L_law_985 at h
  refine hx_aload_n C dL_law_985 rfl (lv_at hl 1 rfl) ?_
  refine hx_aload_n C dL_law_986 rfl (lv_at hl 0 rfl) ?_
  refine hx_iload_n C dL_law_987 rfl (lv_at hl 3 rfl) ?_
  refine hx_iconst (v := 1) C dL_law_988 (by decide) ?_
  refine hx_iadd C dL_law_989 ?_
  obtain ⟨g235, h⟩ := hx_gd h
  refine hx_sld (n := (Int32.toNatClampNeg (v3 + 1))) C hXs hbl hbA g235 rfl dL_law_990 ?_
  obtain ⟨r236, e237, h⟩ := hx_bind h
  obtain ⟨g238, h⟩ := hx_gd h
  refine hx_callV (As := [.int (xs (Int32.toNatClampNeg (v3 + 1)))]) (rest := []) (n := 1) (Cn := RX9) C (c_X9_apartUpTo e237) gL_law_X9_apartUpTo g238 (by decide) rfl (by decide +kernel) ⟨Nat.le_of_ble_eq_true rfl, Nat.le_of_ble_eq_true rfl⟩ rfl rfl rfl ⟨Nat.le_of_ble_eq_true rfl, Nat.le_of_ble_eq_true rfl⟩ hl.1 rfl rfl (Nat.le_of_ble_eq_true rfl) dL_law_991 ?_
  refine hx_aload_n C dL_law_994 rfl (lv_at hl 2 rfl) ?_
  refine hx_aload_n C dL_law_995 rfl (lv_at hl 0 rfl) ?_
  refine hx_iload_n C dL_law_996 rfl (lv_at hl 3 rfl) ?_
  refine hx_iconst (v := 1) C dL_law_997 (by decide) ?_
  refine hx_iadd C dL_law_998 ?_
  refine hx_sld (n := (Int32.toNatClampNeg (v3 + 1))) C hXs hbl hbA g235 rfl dL_law_999 ?_
  obtain ⟨r239, e240, h⟩ := hx_bind h
  obtain ⟨g241, h⟩ := hx_gd h
  refine hx_callV (As := [.int (xs (Int32.toNatClampNeg (v3 + 1)))]) (rest := [.int r236]) (n := 1) (Cn := RX10) C (c_X10_apartUpTo e240) gL_law_X10_apartUpTo g241 (by decide) rfl (by decide +kernel) ⟨Nat.le_of_ble_eq_true rfl, Nat.le_of_ble_eq_true rfl⟩ rfl rfl rfl ⟨Nat.le_of_ble_eq_true rfl, Nat.le_of_ble_eq_true rfl⟩ hl.1 rfl rfl (Nat.le_of_ble_eq_true rfl) dL_law_1000 ?_
  refine hx_icmp_eq (tgt := 1186) C dL_law_1003 (by decide) (fun c242 => ?_) (fun c242 => ?_)
  · have h := hx_pos c242 h
    exact w_L_law_1186 k18 C hr hlocks hXs hbl hbA hk18 v1 v2 v3 X ls h (lv_sub hl [0, 1, 2, 3] rfl)
  · have h := hx_neg c242 h
    refine hx_iconst (v := 0) C dL_law_1006 (by decide) ?_
    exact absurd (hx_some1 h) (by decide)
def f_L_law_1008 (L : hL) (xs : Nat → Int32) (Ln : Nat) (k18 : Nat → Nat → Int32 → hX → Option Int32) (v1 : Nat) (v2 : Nat) (v3 : Int32) (X : hX) : Option Int32 :=
  if hin (v3 + 1) Ln then
  if hin (v3 + 2) Ln then
  (f_X9_bestStep L X v1 (xs (Int32.toNatClampNeg (v3 + 1))) (xs (Int32.toNatClampNeg (v3 + 2)))).bind fun r245 =>
  if tk L v1 9 then
  (f_X10_bestStep L X v2 (xs (Int32.toNatClampNeg (v3 + 1))) (xs (Int32.toNatClampNeg (v3 + 2)))).bind fun r248 =>
  if tk L v2 10 then
  if r245 = r248 then
    f_L_law_1186 L xs Ln k18 v1 v2 v3 X
  else
    some 0
  else none
  else none
  else none
  else none
set_option maxRecDepth 100000 in
set_option maxHeartbeats 8000000 in
theorem w_L_law_1008 {p : Program} {l : Launch} {e : Env} {s : State} {m : MethodId} {below : List Frame} {meth : Method} {c : Code} {dC : Nat → ClassId} {dI : Nat → Nat → Nat} {cy : Nat → ClassId} {ad : Nat → Nat} {L : hL} {b Ln : Nat} {xs : Nat → Int32} (k18 : Nat → Nat → Int32 → hX → Option Int32) (C : hC p s m #[Value.ref b] meth c dC dI cy ad L (fun q => s.heap.size ≤ q) code 4 wsL_law RL) (hr : meth.sig.returnType = ret) (hlocks : meth.locks = false) (hXs : va_X b Ln xs s s.heap) (hbl : b < s.heap.size) (hbA : ¬ (fun q : Nat => s.heap.size ≤ q) b) (hk18 : ∀ (v1 : Nat) (v2 : Nat) (v3 : Int32) (X : hX) (ls : Array Slot), k18 v1 v2 v3 X = some 1 → lv_has ls 4 [(0, .ref b), (1, .ref (ad v1)), (2, .ref (ad v2)), (3, .int v3)] → hG p l e room_1 s m #[Value.ref b] below meth c dC dI cy ad L (fun q => s.heap.size ≤ q) 478 5054 (lw_Z below #[Value.ref b] s) X 18 ls []) : ∀ (v1 : Nat) (v2 : Nat) (v3 : Int32) (X : hX) (ls : Array Slot), f_L_law_1008 L xs Ln k18 v1 v2 v3 X = some 1 → lv_has ls 4 [(0, .ref b), (1, .ref (ad v1)), (2, .ref (ad v2)), (3, .int v3)] → hG p l e room_1 s m #[Value.ref b] below meth c dC dI cy ad L (fun q => s.heap.size ≤ q) 478 5054 (lw_Z below #[Value.ref b] s) X 1008 ls [] := by
  intro v1 v2 v3 X ls h hl
  unfold f_L_law_1008 at h
  refine hx_aload_n C dL_law_1008 rfl (lv_at hl 1 rfl) ?_
  refine hx_aload_n C dL_law_1009 rfl (lv_at hl 0 rfl) ?_
  refine hx_iload_n C dL_law_1010 rfl (lv_at hl 3 rfl) ?_
  refine hx_iconst (v := 1) C dL_law_1011 (by decide) ?_
  refine hx_iadd C dL_law_1012 ?_
  obtain ⟨g243, h⟩ := hx_gd h
  refine hx_sld (n := (Int32.toNatClampNeg (v3 + 1))) C hXs hbl hbA g243 rfl dL_law_1013 ?_
  refine hx_aload_n C dL_law_1014 rfl (lv_at hl 0 rfl) ?_
  refine hx_iload_n C dL_law_1015 rfl (lv_at hl 3 rfl) ?_
  refine hx_iconst (v := 2) C dL_law_1016 (by decide) ?_
  refine hx_iadd C dL_law_1017 ?_
  obtain ⟨g244, h⟩ := hx_gd h
  refine hx_sld (n := (Int32.toNatClampNeg (v3 + 2))) C hXs hbl hbA g244 rfl dL_law_1018 ?_
  obtain ⟨r245, e246, h⟩ := hx_bind h
  obtain ⟨g247, h⟩ := hx_gd h
  refine hx_callV (As := [.int (xs (Int32.toNatClampNeg (v3 + 1))), .int (xs (Int32.toNatClampNeg (v3 + 2)))]) (rest := []) (n := 2) (Cn := RX9) C (c_X9_bestStep e246) gL_law_X9_bestStep g247 (by decide) rfl (by decide +kernel) ⟨Nat.le_of_ble_eq_true rfl, Nat.le_of_ble_eq_true rfl⟩ rfl rfl rfl ⟨Nat.le_of_ble_eq_true rfl, Nat.le_of_ble_eq_true rfl⟩ hl.1 rfl rfl (Nat.le_of_ble_eq_true rfl) dL_law_1019 ?_
  refine hx_aload_n C dL_law_1022 rfl (lv_at hl 2 rfl) ?_
  refine hx_aload_n C dL_law_1023 rfl (lv_at hl 0 rfl) ?_
  refine hx_iload_n C dL_law_1024 rfl (lv_at hl 3 rfl) ?_
  refine hx_iconst (v := 1) C dL_law_1025 (by decide) ?_
  refine hx_iadd C dL_law_1026 ?_
  refine hx_sld (n := (Int32.toNatClampNeg (v3 + 1))) C hXs hbl hbA g243 rfl dL_law_1027 ?_
  refine hx_aload_n C dL_law_1028 rfl (lv_at hl 0 rfl) ?_
  refine hx_iload_n C dL_law_1029 rfl (lv_at hl 3 rfl) ?_
  refine hx_iconst (v := 2) C dL_law_1030 (by decide) ?_
  refine hx_iadd C dL_law_1031 ?_
  refine hx_sld (n := (Int32.toNatClampNeg (v3 + 2))) C hXs hbl hbA g244 rfl dL_law_1032 ?_
  obtain ⟨r248, e249, h⟩ := hx_bind h
  obtain ⟨g250, h⟩ := hx_gd h
  refine hx_callV (As := [.int (xs (Int32.toNatClampNeg (v3 + 1))), .int (xs (Int32.toNatClampNeg (v3 + 2)))]) (rest := [.int r245]) (n := 2) (Cn := RX10) C (c_X10_bestStep e249) gL_law_X10_bestStep g250 (by decide) rfl (by decide +kernel) ⟨Nat.le_of_ble_eq_true rfl, Nat.le_of_ble_eq_true rfl⟩ rfl rfl rfl ⟨Nat.le_of_ble_eq_true rfl, Nat.le_of_ble_eq_true rfl⟩ hl.1 rfl rfl (Nat.le_of_ble_eq_true rfl) dL_law_1033 ?_
  refine hx_icmp_eq (tgt := 1186) C dL_law_1036 (by decide) (fun c251 => ?_) (fun c251 => ?_)
  · have h := hx_pos c251 h
    exact w_L_law_1186 k18 C hr hlocks hXs hbl hbA hk18 v1 v2 v3 X ls h (lv_sub hl [0, 1, 2, 3] rfl)
  · have h := hx_neg c251 h
    refine hx_iconst (v := 0) C dL_law_1039 (by decide) ?_
    exact absurd (hx_some1 h) (by decide)
def f_L_law_1041 (L : hL) (xs : Nat → Int32) (Ln : Nat) (k18 : Nat → Nat → Int32 → hX → Option Int32) (v1 : Nat) (v2 : Nat) (v3 : Int32) (X : hX) : Option Int32 :=
  if hin (v3 + 1) Ln then
  if hin (v3 + 2) Ln then
  if hin (v3 + 3) Ln then
  if hin (v3 + 4) Ln then
  (f_X9_mixed L X v1 (xs (Int32.toNatClampNeg (v3 + 1))) (xs (Int32.toNatClampNeg (v3 + 2))) (xs (Int32.toNatClampNeg (v3 + 3))) (xs (Int32.toNatClampNeg (v3 + 4)))).bind fun r256 =>
  if tk L v1 9 then
  (f_X10_mixed L X v2 (xs (Int32.toNatClampNeg (v3 + 1))) (xs (Int32.toNatClampNeg (v3 + 2))) (xs (Int32.toNatClampNeg (v3 + 3))) (xs (Int32.toNatClampNeg (v3 + 4)))).bind fun r259 =>
  if tk L v2 10 then
  if r256 = r259 then
    f_L_law_1186 L xs Ln k18 v1 v2 v3 X
  else
    some 0
  else none
  else none
  else none
  else none
  else none
  else none
set_option maxRecDepth 100000 in
set_option maxHeartbeats 8000000 in
theorem w_L_law_1041 {p : Program} {l : Launch} {e : Env} {s : State} {m : MethodId} {below : List Frame} {meth : Method} {c : Code} {dC : Nat → ClassId} {dI : Nat → Nat → Nat} {cy : Nat → ClassId} {ad : Nat → Nat} {L : hL} {b Ln : Nat} {xs : Nat → Int32} (k18 : Nat → Nat → Int32 → hX → Option Int32) (C : hC p s m #[Value.ref b] meth c dC dI cy ad L (fun q => s.heap.size ≤ q) code 4 wsL_law RL) (hr : meth.sig.returnType = ret) (hlocks : meth.locks = false) (hXs : va_X b Ln xs s s.heap) (hbl : b < s.heap.size) (hbA : ¬ (fun q : Nat => s.heap.size ≤ q) b) (hk18 : ∀ (v1 : Nat) (v2 : Nat) (v3 : Int32) (X : hX) (ls : Array Slot), k18 v1 v2 v3 X = some 1 → lv_has ls 4 [(0, .ref b), (1, .ref (ad v1)), (2, .ref (ad v2)), (3, .int v3)] → hG p l e room_1 s m #[Value.ref b] below meth c dC dI cy ad L (fun q => s.heap.size ≤ q) 478 5054 (lw_Z below #[Value.ref b] s) X 18 ls []) : ∀ (v1 : Nat) (v2 : Nat) (v3 : Int32) (X : hX) (ls : Array Slot), f_L_law_1041 L xs Ln k18 v1 v2 v3 X = some 1 → lv_has ls 4 [(0, .ref b), (1, .ref (ad v1)), (2, .ref (ad v2)), (3, .int v3)] → hG p l e room_1 s m #[Value.ref b] below meth c dC dI cy ad L (fun q => s.heap.size ≤ q) 478 5054 (lw_Z below #[Value.ref b] s) X 1041 ls [] := by
  intro v1 v2 v3 X ls h hl
  unfold f_L_law_1041 at h
  refine hx_aload_n C dL_law_1041 rfl (lv_at hl 1 rfl) ?_
  refine hx_aload_n C dL_law_1042 rfl (lv_at hl 0 rfl) ?_
  refine hx_iload_n C dL_law_1043 rfl (lv_at hl 3 rfl) ?_
  refine hx_iconst (v := 1) C dL_law_1044 (by decide) ?_
  refine hx_iadd C dL_law_1045 ?_
  obtain ⟨g252, h⟩ := hx_gd h
  refine hx_sld (n := (Int32.toNatClampNeg (v3 + 1))) C hXs hbl hbA g252 rfl dL_law_1046 ?_
  refine hx_aload_n C dL_law_1047 rfl (lv_at hl 0 rfl) ?_
  refine hx_iload_n C dL_law_1048 rfl (lv_at hl 3 rfl) ?_
  refine hx_iconst (v := 2) C dL_law_1049 (by decide) ?_
  refine hx_iadd C dL_law_1050 ?_
  obtain ⟨g253, h⟩ := hx_gd h
  refine hx_sld (n := (Int32.toNatClampNeg (v3 + 2))) C hXs hbl hbA g253 rfl dL_law_1051 ?_
  refine hx_aload_n C dL_law_1052 rfl (lv_at hl 0 rfl) ?_
  refine hx_iload_n C dL_law_1053 rfl (lv_at hl 3 rfl) ?_
  refine hx_iconst (v := 3) C dL_law_1054 (by decide) ?_
  refine hx_iadd C dL_law_1055 ?_
  obtain ⟨g254, h⟩ := hx_gd h
  refine hx_sld (n := (Int32.toNatClampNeg (v3 + 3))) C hXs hbl hbA g254 rfl dL_law_1056 ?_
  refine hx_aload_n C dL_law_1057 rfl (lv_at hl 0 rfl) ?_
  refine hx_iload_n C dL_law_1058 rfl (lv_at hl 3 rfl) ?_
  refine hx_iconst (v := 4) C dL_law_1059 (by decide) ?_
  refine hx_iadd C dL_law_1060 ?_
  obtain ⟨g255, h⟩ := hx_gd h
  refine hx_sld (n := (Int32.toNatClampNeg (v3 + 4))) C hXs hbl hbA g255 rfl dL_law_1061 ?_
  obtain ⟨r256, e257, h⟩ := hx_bind h
  obtain ⟨g258, h⟩ := hx_gd h
  refine hx_callV (As := [.int (xs (Int32.toNatClampNeg (v3 + 1))), .int (xs (Int32.toNatClampNeg (v3 + 2))), .int (xs (Int32.toNatClampNeg (v3 + 3))), .int (xs (Int32.toNatClampNeg (v3 + 4)))]) (rest := []) (n := 4) (Cn := RX9) C (c_X9_mixed e257) gL_law_X9_mixed g258 (by decide) rfl (by decide +kernel) ⟨Nat.le_of_ble_eq_true rfl, Nat.le_of_ble_eq_true rfl⟩ rfl rfl rfl ⟨Nat.le_of_ble_eq_true rfl, Nat.le_of_ble_eq_true rfl⟩ hl.1 rfl rfl (Nat.le_of_ble_eq_true rfl) dL_law_1062 ?_
  refine hx_aload_n C dL_law_1065 rfl (lv_at hl 2 rfl) ?_
  refine hx_aload_n C dL_law_1066 rfl (lv_at hl 0 rfl) ?_
  refine hx_iload_n C dL_law_1067 rfl (lv_at hl 3 rfl) ?_
  refine hx_iconst (v := 1) C dL_law_1068 (by decide) ?_
  refine hx_iadd C dL_law_1069 ?_
  refine hx_sld (n := (Int32.toNatClampNeg (v3 + 1))) C hXs hbl hbA g252 rfl dL_law_1070 ?_
  refine hx_aload_n C dL_law_1071 rfl (lv_at hl 0 rfl) ?_
  refine hx_iload_n C dL_law_1072 rfl (lv_at hl 3 rfl) ?_
  refine hx_iconst (v := 2) C dL_law_1073 (by decide) ?_
  refine hx_iadd C dL_law_1074 ?_
  refine hx_sld (n := (Int32.toNatClampNeg (v3 + 2))) C hXs hbl hbA g253 rfl dL_law_1075 ?_
  refine hx_aload_n C dL_law_1076 rfl (lv_at hl 0 rfl) ?_
  refine hx_iload_n C dL_law_1077 rfl (lv_at hl 3 rfl) ?_
  refine hx_iconst (v := 3) C dL_law_1078 (by decide) ?_
  refine hx_iadd C dL_law_1079 ?_
  refine hx_sld (n := (Int32.toNatClampNeg (v3 + 3))) C hXs hbl hbA g254 rfl dL_law_1080 ?_
  refine hx_aload_n C dL_law_1081 rfl (lv_at hl 0 rfl) ?_
  refine hx_iload_n C dL_law_1082 rfl (lv_at hl 3 rfl) ?_
  refine hx_iconst (v := 4) C dL_law_1083 (by decide) ?_
  refine hx_iadd C dL_law_1084 ?_
  refine hx_sld (n := (Int32.toNatClampNeg (v3 + 4))) C hXs hbl hbA g255 rfl dL_law_1085 ?_
  obtain ⟨r259, e260, h⟩ := hx_bind h
  obtain ⟨g261, h⟩ := hx_gd h
  refine hx_callV (As := [.int (xs (Int32.toNatClampNeg (v3 + 1))), .int (xs (Int32.toNatClampNeg (v3 + 2))), .int (xs (Int32.toNatClampNeg (v3 + 3))), .int (xs (Int32.toNatClampNeg (v3 + 4)))]) (rest := [.int r256]) (n := 4) (Cn := RX10) C (c_X10_mixed e260) gL_law_X10_mixed g261 (by decide) rfl (by decide +kernel) ⟨Nat.le_of_ble_eq_true rfl, Nat.le_of_ble_eq_true rfl⟩ rfl rfl rfl ⟨Nat.le_of_ble_eq_true rfl, Nat.le_of_ble_eq_true rfl⟩ hl.1 rfl rfl (Nat.le_of_ble_eq_true rfl) dL_law_1086 ?_
  refine hx_icmp_eq (tgt := 1186) C dL_law_1089 (by decide) (fun c262 => ?_) (fun c262 => ?_)
  · have h := hx_pos c262 h
    exact w_L_law_1186 k18 C hr hlocks hXs hbl hbA hk18 v1 v2 v3 X ls h (lv_sub hl [0, 1, 2, 3] rfl)
  · have h := hx_neg c262 h
    refine hx_iconst (v := 0) C dL_law_1092 (by decide) ?_
    exact absurd (hx_some1 h) (by decide)
def f_L_law_1094 (L : hL) (xs : Nat → Int32) (Ln : Nat) (k18 : Nat → Nat → Int32 → hX → Option Int32) (v1 : Nat) (v2 : Nat) (v3 : Int32) (X : hX) : Option Int32 :=
  if hin (v3 + 1) Ln then
  (f_X9_would L X v1 (xs (Int32.toNatClampNeg (v3 + 1)))).bind fun r264 =>
  if tk L v1 9 then
  (f_X10_would L X v2 (xs (Int32.toNatClampNeg (v3 + 1)))).bind fun r267 =>
  if tk L v2 10 then
  if r264 = r267.1 then
    f_L_law_1186 L xs Ln k18 v1 v2 v3 r267.2
  else
    some 0
  else none
  else none
  else none
set_option maxRecDepth 100000 in
set_option maxHeartbeats 8000000 in
theorem w_L_law_1094 {p : Program} {l : Launch} {e : Env} {s : State} {m : MethodId} {below : List Frame} {meth : Method} {c : Code} {dC : Nat → ClassId} {dI : Nat → Nat → Nat} {cy : Nat → ClassId} {ad : Nat → Nat} {L : hL} {b Ln : Nat} {xs : Nat → Int32} (k18 : Nat → Nat → Int32 → hX → Option Int32) (C : hC p s m #[Value.ref b] meth c dC dI cy ad L (fun q => s.heap.size ≤ q) code 4 wsL_law RL) (hr : meth.sig.returnType = ret) (hlocks : meth.locks = false) (hXs : va_X b Ln xs s s.heap) (hbl : b < s.heap.size) (hbA : ¬ (fun q : Nat => s.heap.size ≤ q) b) (hk18 : ∀ (v1 : Nat) (v2 : Nat) (v3 : Int32) (X : hX) (ls : Array Slot), k18 v1 v2 v3 X = some 1 → lv_has ls 4 [(0, .ref b), (1, .ref (ad v1)), (2, .ref (ad v2)), (3, .int v3)] → hG p l e room_1 s m #[Value.ref b] below meth c dC dI cy ad L (fun q => s.heap.size ≤ q) 478 5054 (lw_Z below #[Value.ref b] s) X 18 ls []) : ∀ (v1 : Nat) (v2 : Nat) (v3 : Int32) (X : hX) (ls : Array Slot), f_L_law_1094 L xs Ln k18 v1 v2 v3 X = some 1 → lv_has ls 4 [(0, .ref b), (1, .ref (ad v1)), (2, .ref (ad v2)), (3, .int v3)] → hG p l e room_1 s m #[Value.ref b] below meth c dC dI cy ad L (fun q => s.heap.size ≤ q) 478 5054 (lw_Z below #[Value.ref b] s) X 1094 ls [] := by
  intro v1 v2 v3 X ls h hl
  unfold f_L_law_1094 at h
  refine hx_aload_n C dL_law_1094 rfl (lv_at hl 1 rfl) ?_
  refine hx_aload_n C dL_law_1095 rfl (lv_at hl 0 rfl) ?_
  refine hx_iload_n C dL_law_1096 rfl (lv_at hl 3 rfl) ?_
  refine hx_iconst (v := 1) C dL_law_1097 (by decide) ?_
  refine hx_iadd C dL_law_1098 ?_
  obtain ⟨g263, h⟩ := hx_gd h
  refine hx_sld (n := (Int32.toNatClampNeg (v3 + 1))) C hXs hbl hbA g263 rfl dL_law_1099 ?_
  obtain ⟨r264, e265, h⟩ := hx_bind h
  obtain ⟨g266, h⟩ := hx_gd h
  refine hx_callV (As := [.int (xs (Int32.toNatClampNeg (v3 + 1)))]) (rest := []) (n := 1) (Cn := RX9) C (c_X9_would e265) gL_law_X9_would g266 (by decide) rfl (by decide +kernel) ⟨Nat.le_of_ble_eq_true rfl, Nat.le_of_ble_eq_true rfl⟩ rfl rfl rfl ⟨Nat.le_of_ble_eq_true rfl, Nat.le_of_ble_eq_true rfl⟩ hl.1 rfl rfl (Nat.le_of_ble_eq_true rfl) dL_law_1100 ?_
  refine hx_aload_n C dL_law_1103 rfl (lv_at hl 2 rfl) ?_
  refine hx_aload_n C dL_law_1104 rfl (lv_at hl 0 rfl) ?_
  refine hx_iload_n C dL_law_1105 rfl (lv_at hl 3 rfl) ?_
  refine hx_iconst (v := 1) C dL_law_1106 (by decide) ?_
  refine hx_iadd C dL_law_1107 ?_
  refine hx_sld (n := (Int32.toNatClampNeg (v3 + 1))) C hXs hbl hbA g263 rfl dL_law_1108 ?_
  obtain ⟨r267, e268, h⟩ := hx_bind h
  obtain ⟨g269, h⟩ := hx_gd h
  refine hx_callV (As := [.int (xs (Int32.toNatClampNeg (v3 + 1)))]) (rest := [.int r264]) (n := 1) (Cn := RX10) C (c_X10_would e268) gL_law_X10_would g269 (by decide) rfl (by decide +kernel) ⟨Nat.le_of_ble_eq_true rfl, Nat.le_of_ble_eq_true rfl⟩ rfl rfl rfl ⟨Nat.le_of_ble_eq_true rfl, Nat.le_of_ble_eq_true rfl⟩ hl.1 rfl rfl (Nat.le_of_ble_eq_true rfl) dL_law_1109 ?_
  refine hx_icmp_eq (tgt := 1186) C dL_law_1112 (by decide) (fun c270 => ?_) (fun c270 => ?_)
  · have h := hx_pos c270 h
    exact w_L_law_1186 k18 C hr hlocks hXs hbl hbA hk18 v1 v2 v3 r267.2 ls h (lv_sub hl [0, 1, 2, 3] rfl)
  · have h := hx_neg c270 h
    refine hx_iconst (v := 0) C dL_law_1115 (by decide) ?_
    exact absurd (hx_some1 h) (by decide)
def f_L_law_1117 (L : hL) (xs : Nat → Int32) (Ln : Nat) (k18 : Nat → Nat → Int32 → hX → Option Int32) (v1 : Nat) (v2 : Nat) (v3 : Int32) (X : hX) : Option Int32 :=
  (f_X9_fairest L X v1).bind fun r271 =>
  if tk L v1 9 then
  (f_X10_fairest L X v2).bind fun r274 =>
  if tk L v2 10 then
  if r271 = r274.1 then
    f_L_law_1186 L xs Ln k18 v1 v2 v3 r274.2
  else
    some 0
  else none
  else none
set_option maxRecDepth 100000 in
set_option maxHeartbeats 8000000 in
theorem w_L_law_1117 {p : Program} {l : Launch} {e : Env} {s : State} {m : MethodId} {below : List Frame} {meth : Method} {c : Code} {dC : Nat → ClassId} {dI : Nat → Nat → Nat} {cy : Nat → ClassId} {ad : Nat → Nat} {L : hL} {b Ln : Nat} {xs : Nat → Int32} (k18 : Nat → Nat → Int32 → hX → Option Int32) (C : hC p s m #[Value.ref b] meth c dC dI cy ad L (fun q => s.heap.size ≤ q) code 4 wsL_law RL) (hr : meth.sig.returnType = ret) (hlocks : meth.locks = false) (hXs : va_X b Ln xs s s.heap) (hbl : b < s.heap.size) (hbA : ¬ (fun q : Nat => s.heap.size ≤ q) b) (hk18 : ∀ (v1 : Nat) (v2 : Nat) (v3 : Int32) (X : hX) (ls : Array Slot), k18 v1 v2 v3 X = some 1 → lv_has ls 4 [(0, .ref b), (1, .ref (ad v1)), (2, .ref (ad v2)), (3, .int v3)] → hG p l e room_1 s m #[Value.ref b] below meth c dC dI cy ad L (fun q => s.heap.size ≤ q) 478 5054 (lw_Z below #[Value.ref b] s) X 18 ls []) : ∀ (v1 : Nat) (v2 : Nat) (v3 : Int32) (X : hX) (ls : Array Slot), f_L_law_1117 L xs Ln k18 v1 v2 v3 X = some 1 → lv_has ls 4 [(0, .ref b), (1, .ref (ad v1)), (2, .ref (ad v2)), (3, .int v3)] → hG p l e room_1 s m #[Value.ref b] below meth c dC dI cy ad L (fun q => s.heap.size ≤ q) 478 5054 (lw_Z below #[Value.ref b] s) X 1117 ls [] := by
  intro v1 v2 v3 X ls h hl
  unfold f_L_law_1117 at h
  refine hx_aload_n C dL_law_1117 rfl (lv_at hl 1 rfl) ?_
  obtain ⟨r271, e272, h⟩ := hx_bind h
  obtain ⟨g273, h⟩ := hx_gd h
  refine hx_callV (As := []) (rest := []) (n := 0) (Cn := RX9) C (c_X9_fairest e272) gL_law_X9_fairest g273 (by decide) rfl (by decide +kernel) ⟨Nat.le_of_ble_eq_true rfl, Nat.le_of_ble_eq_true rfl⟩ rfl rfl rfl ⟨Nat.le_of_ble_eq_true rfl, Nat.le_of_ble_eq_true rfl⟩ hl.1 rfl rfl (Nat.le_of_ble_eq_true rfl) dL_law_1118 ?_
  refine hx_aload_n C dL_law_1121 rfl (lv_at hl 2 rfl) ?_
  obtain ⟨r274, e275, h⟩ := hx_bind h
  obtain ⟨g276, h⟩ := hx_gd h
  refine hx_callV (As := []) (rest := [.int r271]) (n := 0) (Cn := RX10) C (c_X10_fairest e275) gL_law_X10_fairest g276 (by decide) rfl (by decide +kernel) ⟨Nat.le_of_ble_eq_true rfl, Nat.le_of_ble_eq_true rfl⟩ rfl rfl rfl ⟨Nat.le_of_ble_eq_true rfl, Nat.le_of_ble_eq_true rfl⟩ hl.1 rfl rfl (Nat.le_of_ble_eq_true rfl) dL_law_1122 ?_
  refine hx_icmp_eq (tgt := 1186) C dL_law_1125 (by decide) (fun c277 => ?_) (fun c277 => ?_)
  · have h := hx_pos c277 h
    exact w_L_law_1186 k18 C hr hlocks hXs hbl hbA hk18 v1 v2 v3 r274.2 ls h (lv_sub hl [0, 1, 2, 3] rfl)
  · have h := hx_neg c277 h
    refine hx_iconst (v := 0) C dL_law_1128 (by decide) ?_
    exact absurd (hx_some1 h) (by decide)
def f_L_law_1130 (L : hL) (xs : Nat → Int32) (Ln : Nat) (k18 : Nat → Nat → Int32 → hX → Option Int32) (v1 : Nat) (v2 : Nat) (v3 : Int32) (X : hX) : Option Int32 :=
  if hin (v3 + 1) Ln then
  (f_X9_soldOut L X v1 (xs (Int32.toNatClampNeg (v3 + 1)))).bind fun r279 =>
  if tk L v1 9 then
  (f_X10_soldOut L r279.2 v2 (xs (Int32.toNatClampNeg (v3 + 1)))).bind fun r282 =>
  if tk L v2 10 then
  if r279.1 = r282 then
    f_L_law_1186 L xs Ln k18 v1 v2 v3 r279.2
  else
    some 0
  else none
  else none
  else none
set_option maxRecDepth 100000 in
set_option maxHeartbeats 8000000 in
theorem w_L_law_1130 {p : Program} {l : Launch} {e : Env} {s : State} {m : MethodId} {below : List Frame} {meth : Method} {c : Code} {dC : Nat → ClassId} {dI : Nat → Nat → Nat} {cy : Nat → ClassId} {ad : Nat → Nat} {L : hL} {b Ln : Nat} {xs : Nat → Int32} (k18 : Nat → Nat → Int32 → hX → Option Int32) (C : hC p s m #[Value.ref b] meth c dC dI cy ad L (fun q => s.heap.size ≤ q) code 4 wsL_law RL) (hr : meth.sig.returnType = ret) (hlocks : meth.locks = false) (hXs : va_X b Ln xs s s.heap) (hbl : b < s.heap.size) (hbA : ¬ (fun q : Nat => s.heap.size ≤ q) b) (hk18 : ∀ (v1 : Nat) (v2 : Nat) (v3 : Int32) (X : hX) (ls : Array Slot), k18 v1 v2 v3 X = some 1 → lv_has ls 4 [(0, .ref b), (1, .ref (ad v1)), (2, .ref (ad v2)), (3, .int v3)] → hG p l e room_1 s m #[Value.ref b] below meth c dC dI cy ad L (fun q => s.heap.size ≤ q) 478 5054 (lw_Z below #[Value.ref b] s) X 18 ls []) : ∀ (v1 : Nat) (v2 : Nat) (v3 : Int32) (X : hX) (ls : Array Slot), f_L_law_1130 L xs Ln k18 v1 v2 v3 X = some 1 → lv_has ls 4 [(0, .ref b), (1, .ref (ad v1)), (2, .ref (ad v2)), (3, .int v3)] → hG p l e room_1 s m #[Value.ref b] below meth c dC dI cy ad L (fun q => s.heap.size ≤ q) 478 5054 (lw_Z below #[Value.ref b] s) X 1130 ls [] := by
  intro v1 v2 v3 X ls h hl
  unfold f_L_law_1130 at h
  refine hx_aload_n C dL_law_1130 rfl (lv_at hl 1 rfl) ?_
  refine hx_aload_n C dL_law_1131 rfl (lv_at hl 0 rfl) ?_
  refine hx_iload_n C dL_law_1132 rfl (lv_at hl 3 rfl) ?_
  refine hx_iconst (v := 1) C dL_law_1133 (by decide) ?_
  refine hx_iadd C dL_law_1134 ?_
  obtain ⟨g278, h⟩ := hx_gd h
  refine hx_sld (n := (Int32.toNatClampNeg (v3 + 1))) C hXs hbl hbA g278 rfl dL_law_1135 ?_
  obtain ⟨r279, e280, h⟩ := hx_bind h
  obtain ⟨g281, h⟩ := hx_gd h
  refine hx_callV (As := [.int (xs (Int32.toNatClampNeg (v3 + 1)))]) (rest := []) (n := 1) (Cn := RX9) C (c_X9_soldOut e280) gL_law_X9_soldOut g281 (by decide) rfl (by decide +kernel) ⟨Nat.le_of_ble_eq_true rfl, Nat.le_of_ble_eq_true rfl⟩ rfl rfl rfl ⟨Nat.le_of_ble_eq_true rfl, Nat.le_of_ble_eq_true rfl⟩ hl.1 rfl rfl (Nat.le_of_ble_eq_true rfl) dL_law_1136 ?_
  refine hx_aload_n C dL_law_1139 rfl (lv_at hl 2 rfl) ?_
  refine hx_aload_n C dL_law_1140 rfl (lv_at hl 0 rfl) ?_
  refine hx_iload_n C dL_law_1141 rfl (lv_at hl 3 rfl) ?_
  refine hx_iconst (v := 1) C dL_law_1142 (by decide) ?_
  refine hx_iadd C dL_law_1143 ?_
  refine hx_sld (n := (Int32.toNatClampNeg (v3 + 1))) C hXs hbl hbA g278 rfl dL_law_1144 ?_
  obtain ⟨r282, e283, h⟩ := hx_bind h
  obtain ⟨g284, h⟩ := hx_gd h
  refine hx_callV (As := [.int (xs (Int32.toNatClampNeg (v3 + 1)))]) (rest := [.int r279.1]) (n := 1) (Cn := RX10) C (c_X10_soldOut e283) gL_law_X10_soldOut g284 (by decide) rfl (by decide +kernel) ⟨Nat.le_of_ble_eq_true rfl, Nat.le_of_ble_eq_true rfl⟩ rfl rfl rfl ⟨Nat.le_of_ble_eq_true rfl, Nat.le_of_ble_eq_true rfl⟩ hl.1 rfl rfl (Nat.le_of_ble_eq_true rfl) dL_law_1145 ?_
  refine hx_icmp_eq (tgt := 1186) C dL_law_1148 (by decide) (fun c285 => ?_) (fun c285 => ?_)
  · have h := hx_pos c285 h
    exact w_L_law_1186 k18 C hr hlocks hXs hbl hbA hk18 v1 v2 v3 r279.2 ls h (lv_sub hl [0, 1, 2, 3] rfl)
  · have h := hx_neg c285 h
    refine hx_iconst (v := 0) C dL_law_1151 (by decide) ?_
    exact absurd (hx_some1 h) (by decide)
def f_L_law_1153 (L : hL) (xs : Nat → Int32) (Ln : Nat) (k18 : Nat → Nat → Int32 → hX → Option Int32) (v1 : Nat) (v2 : Nat) (v3 : Int32) (X : hX) : Option Int32 :=
  if hin (v3 + 1) Ln then
  if hin (v3 + 2) Ln then
  (f_X9_shop L X v1 (xs (Int32.toNatClampNeg (v3 + 1))) (xs (Int32.toNatClampNeg (v3 + 2)))).bind fun r288 =>
  if tk L v1 9 then
  (f_X10_shop L X v2 (xs (Int32.toNatClampNeg (v3 + 1))) (xs (Int32.toNatClampNeg (v3 + 2)))).bind fun r291 =>
  if tk L v2 10 then
  if r288 = r291 then
    f_L_law_1186 L xs Ln k18 v1 v2 v3 X
  else
    some 0
  else none
  else none
  else none
  else none
set_option maxRecDepth 100000 in
set_option maxHeartbeats 8000000 in
theorem w_L_law_1153 {p : Program} {l : Launch} {e : Env} {s : State} {m : MethodId} {below : List Frame} {meth : Method} {c : Code} {dC : Nat → ClassId} {dI : Nat → Nat → Nat} {cy : Nat → ClassId} {ad : Nat → Nat} {L : hL} {b Ln : Nat} {xs : Nat → Int32} (k18 : Nat → Nat → Int32 → hX → Option Int32) (C : hC p s m #[Value.ref b] meth c dC dI cy ad L (fun q => s.heap.size ≤ q) code 4 wsL_law RL) (hr : meth.sig.returnType = ret) (hlocks : meth.locks = false) (hXs : va_X b Ln xs s s.heap) (hbl : b < s.heap.size) (hbA : ¬ (fun q : Nat => s.heap.size ≤ q) b) (hk18 : ∀ (v1 : Nat) (v2 : Nat) (v3 : Int32) (X : hX) (ls : Array Slot), k18 v1 v2 v3 X = some 1 → lv_has ls 4 [(0, .ref b), (1, .ref (ad v1)), (2, .ref (ad v2)), (3, .int v3)] → hG p l e room_1 s m #[Value.ref b] below meth c dC dI cy ad L (fun q => s.heap.size ≤ q) 478 5054 (lw_Z below #[Value.ref b] s) X 18 ls []) : ∀ (v1 : Nat) (v2 : Nat) (v3 : Int32) (X : hX) (ls : Array Slot), f_L_law_1153 L xs Ln k18 v1 v2 v3 X = some 1 → lv_has ls 4 [(0, .ref b), (1, .ref (ad v1)), (2, .ref (ad v2)), (3, .int v3)] → hG p l e room_1 s m #[Value.ref b] below meth c dC dI cy ad L (fun q => s.heap.size ≤ q) 478 5054 (lw_Z below #[Value.ref b] s) X 1153 ls [] := by
  intro v1 v2 v3 X ls h hl
  unfold f_L_law_1153 at h
  refine hx_aload_n C dL_law_1153 rfl (lv_at hl 1 rfl) ?_
  refine hx_aload_n C dL_law_1154 rfl (lv_at hl 0 rfl) ?_
  refine hx_iload_n C dL_law_1155 rfl (lv_at hl 3 rfl) ?_
  refine hx_iconst (v := 1) C dL_law_1156 (by decide) ?_
  refine hx_iadd C dL_law_1157 ?_
  obtain ⟨g286, h⟩ := hx_gd h
  refine hx_sld (n := (Int32.toNatClampNeg (v3 + 1))) C hXs hbl hbA g286 rfl dL_law_1158 ?_
  refine hx_aload_n C dL_law_1159 rfl (lv_at hl 0 rfl) ?_
  refine hx_iload_n C dL_law_1160 rfl (lv_at hl 3 rfl) ?_
  refine hx_iconst (v := 2) C dL_law_1161 (by decide) ?_
  refine hx_iadd C dL_law_1162 ?_
  obtain ⟨g287, h⟩ := hx_gd h
  refine hx_sld (n := (Int32.toNatClampNeg (v3 + 2))) C hXs hbl hbA g287 rfl dL_law_1163 ?_
  obtain ⟨r288, e289, h⟩ := hx_bind h
  obtain ⟨g290, h⟩ := hx_gd h
  refine hx_callV (As := [.int (xs (Int32.toNatClampNeg (v3 + 1))), .int (xs (Int32.toNatClampNeg (v3 + 2)))]) (rest := []) (n := 2) (Cn := RX9) C (c_X9_shop e289) gL_law_X9_shop g290 (by decide) rfl (by decide +kernel) ⟨Nat.le_of_ble_eq_true rfl, Nat.le_of_ble_eq_true rfl⟩ rfl rfl rfl ⟨Nat.le_of_ble_eq_true rfl, Nat.le_of_ble_eq_true rfl⟩ hl.1 rfl rfl (Nat.le_of_ble_eq_true rfl) dL_law_1164 ?_
  refine hx_aload_n C dL_law_1167 rfl (lv_at hl 2 rfl) ?_
  refine hx_aload_n C dL_law_1168 rfl (lv_at hl 0 rfl) ?_
  refine hx_iload_n C dL_law_1169 rfl (lv_at hl 3 rfl) ?_
  refine hx_iconst (v := 1) C dL_law_1170 (by decide) ?_
  refine hx_iadd C dL_law_1171 ?_
  refine hx_sld (n := (Int32.toNatClampNeg (v3 + 1))) C hXs hbl hbA g286 rfl dL_law_1172 ?_
  refine hx_aload_n C dL_law_1173 rfl (lv_at hl 0 rfl) ?_
  refine hx_iload_n C dL_law_1174 rfl (lv_at hl 3 rfl) ?_
  refine hx_iconst (v := 2) C dL_law_1175 (by decide) ?_
  refine hx_iadd C dL_law_1176 ?_
  refine hx_sld (n := (Int32.toNatClampNeg (v3 + 2))) C hXs hbl hbA g287 rfl dL_law_1177 ?_
  obtain ⟨r291, e292, h⟩ := hx_bind h
  obtain ⟨g293, h⟩ := hx_gd h
  refine hx_callV (As := [.int (xs (Int32.toNatClampNeg (v3 + 1))), .int (xs (Int32.toNatClampNeg (v3 + 2)))]) (rest := [.int r288]) (n := 2) (Cn := RX10) C (c_X10_shop e292) gL_law_X10_shop g293 (by decide) rfl (by decide +kernel) ⟨Nat.le_of_ble_eq_true rfl, Nat.le_of_ble_eq_true rfl⟩ rfl rfl rfl ⟨Nat.le_of_ble_eq_true rfl, Nat.le_of_ble_eq_true rfl⟩ hl.1 rfl rfl (Nat.le_of_ble_eq_true rfl) dL_law_1178 ?_
  refine hx_icmp_eq (tgt := 1186) C dL_law_1181 (by decide) (fun c294 => ?_) (fun c294 => ?_)
  · have h := hx_pos c294 h
    exact w_L_law_1186 k18 C hr hlocks hXs hbl hbA hk18 v1 v2 v3 X ls h (lv_sub hl [0, 1, 2, 3] rfl)
  · have h := hx_neg c294 h
    refine hx_iconst (v := 0) C dL_law_1184 (by decide) ?_
    exact absurd (hx_some1 h) (by decide)
def f_L_law_18 (L : hL) (xs : Nat → Int32) (Ln : Nat) : Nat → Nat → Nat → Int32 → hX → Option Int32
  | 0, _, _, _, _ => none
  | n + 1, v1, v2, v3, X =>
    if ((Int32.ofNat Ln) - 6) < v3 then
      some 1
    else
      if hin v3 Ln then
      if ((xs (Int32.toNatClampNeg v3)) &&& 63) = 0 then
        f_L_law_184 L xs Ln (f_L_law_18 L xs Ln n) v1 v2 v3 X
      else
      if ((xs (Int32.toNatClampNeg v3)) &&& 63) = 1 then
        f_L_law_227 L xs Ln (f_L_law_18 L xs Ln n) v1 v2 v3 X
      else
      if ((xs (Int32.toNatClampNeg v3)) &&& 63) = 2 then
        f_L_law_260 L xs Ln (f_L_law_18 L xs Ln n) v1 v2 v3 X
      else
      if ((xs (Int32.toNatClampNeg v3)) &&& 63) = 3 then
        f_L_law_283 L xs Ln (f_L_law_18 L xs Ln n) v1 v2 v3 X
      else
      if ((xs (Int32.toNatClampNeg v3)) &&& 63) = 4 then
        f_L_law_306 L xs Ln (f_L_law_18 L xs Ln n) v1 v2 v3 X
      else
      if ((xs (Int32.toNatClampNeg v3)) &&& 63) = 5 then
        f_L_law_329 L xs Ln (f_L_law_18 L xs Ln n) v1 v2 v3 X
      else
      if ((xs (Int32.toNatClampNeg v3)) &&& 63) = 6 then
        f_L_law_352 L xs Ln (f_L_law_18 L xs Ln n) v1 v2 v3 X
      else
      if ((xs (Int32.toNatClampNeg v3)) &&& 63) = 7 then
        f_L_law_375 L xs Ln (f_L_law_18 L xs Ln n) v1 v2 v3 X
      else
      if ((xs (Int32.toNatClampNeg v3)) &&& 63) = 8 then
        f_L_law_428 L xs Ln (f_L_law_18 L xs Ln n) v1 v2 v3 X
      else
      if ((xs (Int32.toNatClampNeg v3)) &&& 63) = 9 then
        f_L_law_461 L xs Ln (f_L_law_18 L xs Ln n) v1 v2 v3 X
      else
      if ((xs (Int32.toNatClampNeg v3)) &&& 63) = 10 then
        f_L_law_524 L xs Ln (f_L_law_18 L xs Ln n) v1 v2 v3 X
      else
      if ((xs (Int32.toNatClampNeg v3)) &&& 63) = 11 then
        f_L_law_547 L xs Ln (f_L_law_18 L xs Ln n) v1 v2 v3 X
      else
      if ((xs (Int32.toNatClampNeg v3)) &&& 63) = 12 then
        f_L_law_580 L xs Ln (f_L_law_18 L xs Ln n) v1 v2 v3 X
      else
      if ((xs (Int32.toNatClampNeg v3)) &&& 63) = 13 then
        f_L_law_623 L xs Ln (f_L_law_18 L xs Ln n) v1 v2 v3 X
      else
      if ((xs (Int32.toNatClampNeg v3)) &&& 63) = 14 then
        f_L_law_646 L xs Ln (f_L_law_18 L xs Ln n) v1 v2 v3 X
      else
      if ((xs (Int32.toNatClampNeg v3)) &&& 63) = 15 then
        f_L_law_669 L xs Ln (f_L_law_18 L xs Ln n) v1 v2 v3 X
      else
      if ((xs (Int32.toNatClampNeg v3)) &&& 63) = 16 then
        f_L_law_682 L xs Ln (f_L_law_18 L xs Ln n) v1 v2 v3 X
      else
      if ((xs (Int32.toNatClampNeg v3)) &&& 63) = 17 then
        f_L_law_705 L xs Ln (f_L_law_18 L xs Ln n) v1 v2 v3 X
      else
      if ((xs (Int32.toNatClampNeg v3)) &&& 63) = 18 then
        f_L_law_718 L xs Ln (f_L_law_18 L xs Ln n) v1 v2 v3 X
      else
      if ((xs (Int32.toNatClampNeg v3)) &&& 63) = 19 then
        f_L_law_731 L xs Ln (f_L_law_18 L xs Ln n) v1 v2 v3 X
      else
      if ((xs (Int32.toNatClampNeg v3)) &&& 63) = 20 then
        f_L_law_754 L xs Ln (f_L_law_18 L xs Ln n) v1 v2 v3 X
      else
      if ((xs (Int32.toNatClampNeg v3)) &&& 63) = 21 then
        f_L_law_777 L xs Ln (f_L_law_18 L xs Ln n) v1 v2 v3 X
      else
      if ((xs (Int32.toNatClampNeg v3)) &&& 63) = 22 then
        f_L_law_810 L xs Ln (f_L_law_18 L xs Ln n) v1 v2 v3 X
      else
      if ((xs (Int32.toNatClampNeg v3)) &&& 63) = 23 then
        f_L_law_843 L xs Ln (f_L_law_18 L xs Ln n) v1 v2 v3 X
      else
      if ((xs (Int32.toNatClampNeg v3)) &&& 63) = 24 then
        f_L_law_876 L xs Ln (f_L_law_18 L xs Ln n) v1 v2 v3 X
      else
      if ((xs (Int32.toNatClampNeg v3)) &&& 63) = 25 then
        f_L_law_899 L xs Ln (f_L_law_18 L xs Ln n) v1 v2 v3 X
      else
      if ((xs (Int32.toNatClampNeg v3)) &&& 63) = 26 then
        f_L_law_942 L xs Ln (f_L_law_18 L xs Ln n) v1 v2 v3 X
      else
      if ((xs (Int32.toNatClampNeg v3)) &&& 63) = 27 then
        f_L_law_985 L xs Ln (f_L_law_18 L xs Ln n) v1 v2 v3 X
      else
      if ((xs (Int32.toNatClampNeg v3)) &&& 63) = 28 then
        f_L_law_1008 L xs Ln (f_L_law_18 L xs Ln n) v1 v2 v3 X
      else
      if ((xs (Int32.toNatClampNeg v3)) &&& 63) = 29 then
        f_L_law_1041 L xs Ln (f_L_law_18 L xs Ln n) v1 v2 v3 X
      else
      if ((xs (Int32.toNatClampNeg v3)) &&& 63) = 30 then
        f_L_law_1094 L xs Ln (f_L_law_18 L xs Ln n) v1 v2 v3 X
      else
      if ((xs (Int32.toNatClampNeg v3)) &&& 63) = 31 then
        f_L_law_1117 L xs Ln (f_L_law_18 L xs Ln n) v1 v2 v3 X
      else
      if ((xs (Int32.toNatClampNeg v3)) &&& 63) = 32 then
        f_L_law_1130 L xs Ln (f_L_law_18 L xs Ln n) v1 v2 v3 X
      else
      if ((xs (Int32.toNatClampNeg v3)) &&& 63) = 33 then
        f_L_law_1153 L xs Ln (f_L_law_18 L xs Ln n) v1 v2 v3 X
      else
      f_L_law_1186 L xs Ln (f_L_law_18 L xs Ln n) v1 v2 v3 X
      else none
set_option maxRecDepth 100000 in
set_option maxHeartbeats 8000000 in
theorem w_L_law_18 {p : Program} {l : Launch} {e : Env} {s : State} {m : MethodId} {below : List Frame} {meth : Method} {c : Code} {dC : Nat → ClassId} {dI : Nat → Nat → Nat} {cy : Nat → ClassId} {ad : Nat → Nat} {L : hL} {b Ln : Nat} {xs : Nat → Int32} (C : hC p s m #[Value.ref b] meth c dC dI cy ad L (fun q => s.heap.size ≤ q) code 4 wsL_law RL) (hr : meth.sig.returnType = ret) (hlocks : meth.locks = false) (hXs : va_X b Ln xs s s.heap) (hbl : b < s.heap.size) (hbA : ¬ (fun q : Nat => s.heap.size ≤ q) b) : ∀ (n : Nat) (v1 : Nat) (v2 : Nat) (v3 : Int32) (X : hX) (ls : Array Slot), f_L_law_18 L xs Ln n v1 v2 v3 X = some 1 → lv_has ls 4 [(0, .ref b), (1, .ref (ad v1)), (2, .ref (ad v2)), (3, .int v3)] → hG p l e room_1 s m #[Value.ref b] below meth c dC dI cy ad L (fun q => s.heap.size ≤ q) 478 5054 (lw_Z below #[Value.ref b] s) X 18 ls [] := by
  intro n
  induction n with
  | zero => intro v1 v2 v3 X ls h; cases h
  | succ n ih =>
    intro v1 v2 v3 X ls h hl
    rw [f_L_law_18] at h
    refine hx_iload_n C dL_law_18 rfl (lv_at hl 3 rfl) ?_
    refine hx_aload_n C dL_law_19 rfl (lv_at hl 0 rfl) ?_
    refine hx_slen C hXs hbl hbA dL_law_20 ?_
    refine hx_bipush (v := 6) C dL_law_21 (by decide) ?_
    refine hx_isub C dL_law_23 ?_
    refine hx_icmp_gt (tgt := 1192) C dL_law_24 (by decide) (fun c295 => ?_) (fun c295 => ?_)
    · have h := hx_pos c295 h
      refine hx_iconst (v := 1) C dL_law_1192 (by decide) ?_
      exact hx_lwret C hr hlocks dL_law_1193
    · have h := hx_neg c295 h
      refine hx_aload_n C dL_law_27 rfl (lv_at hl 0 rfl) ?_
      refine hx_iload_n C dL_law_28 rfl (lv_at hl 3 rfl) ?_
      obtain ⟨g296, h⟩ := hx_gd h
      refine hx_sld (n := (Int32.toNatClampNeg v3)) C hXs hbl hbA g296 rfl dL_law_29 ?_
      refine hx_bipush (v := 63) C dL_law_30 (by decide) ?_
      refine hx_iand C dL_law_32 ?_
      by_cases c297 : ((xs (Int32.toNatClampNeg v3)) &&& 63) = 0
      · have h := hx_pos c297 h
        have hz : Int32.toInt ((xs (Int32.toNatClampNeg v3)) &&& 63) = 0 := by rw [c297]; rfl
        refine hx_tableIn (tgt := 184) C dL_law_33 (by rw [hz] <;> decide) (by rw [hz] <;> decide) (off := 151) (by rw [hz] <;> rfl) (by decide) ?_
        exact w_L_law_184 (f_L_law_18 L xs Ln n) C hr hlocks hXs hbl hbA ih v1 v2 v3 X ls h (lv_sub hl [0, 1, 2, 3] rfl)
      have h := hx_neg c297 h
      have zc297 : Int32.toInt ((xs (Int32.toNatClampNeg v3)) &&& 63) ≠ 0 := fun z => c297 (Int32.toInt_inj.mp (z.trans rfl))
      by_cases c298 : ((xs (Int32.toNatClampNeg v3)) &&& 63) = 1
      · have h := hx_pos c298 h
        have hz : Int32.toInt ((xs (Int32.toNatClampNeg v3)) &&& 63) = 1 := by rw [c298]; rfl
        refine hx_tableIn (tgt := 227) C dL_law_33 (by rw [hz] <;> decide) (by rw [hz] <;> decide) (off := 194) (by rw [hz] <;> rfl) (by decide) ?_
        exact w_L_law_227 (f_L_law_18 L xs Ln n) C hr hlocks hXs hbl hbA ih v1 v2 v3 X ls h (lv_sub hl [0, 1, 2, 3] rfl)
      have h := hx_neg c298 h
      have zc298 : Int32.toInt ((xs (Int32.toNatClampNeg v3)) &&& 63) ≠ 1 := fun z => c298 (Int32.toInt_inj.mp (z.trans rfl))
      by_cases c299 : ((xs (Int32.toNatClampNeg v3)) &&& 63) = 2
      · have h := hx_pos c299 h
        have hz : Int32.toInt ((xs (Int32.toNatClampNeg v3)) &&& 63) = 2 := by rw [c299]; rfl
        refine hx_tableIn (tgt := 260) C dL_law_33 (by rw [hz] <;> decide) (by rw [hz] <;> decide) (off := 227) (by rw [hz] <;> rfl) (by decide) ?_
        exact w_L_law_260 (f_L_law_18 L xs Ln n) C hr hlocks hXs hbl hbA ih v1 v2 v3 X ls h (lv_sub hl [0, 1, 2, 3] rfl)
      have h := hx_neg c299 h
      have zc299 : Int32.toInt ((xs (Int32.toNatClampNeg v3)) &&& 63) ≠ 2 := fun z => c299 (Int32.toInt_inj.mp (z.trans rfl))
      by_cases c300 : ((xs (Int32.toNatClampNeg v3)) &&& 63) = 3
      · have h := hx_pos c300 h
        have hz : Int32.toInt ((xs (Int32.toNatClampNeg v3)) &&& 63) = 3 := by rw [c300]; rfl
        refine hx_tableIn (tgt := 283) C dL_law_33 (by rw [hz] <;> decide) (by rw [hz] <;> decide) (off := 250) (by rw [hz] <;> rfl) (by decide) ?_
        exact w_L_law_283 (f_L_law_18 L xs Ln n) C hr hlocks hXs hbl hbA ih v1 v2 v3 X ls h (lv_sub hl [0, 1, 2, 3] rfl)
      have h := hx_neg c300 h
      have zc300 : Int32.toInt ((xs (Int32.toNatClampNeg v3)) &&& 63) ≠ 3 := fun z => c300 (Int32.toInt_inj.mp (z.trans rfl))
      by_cases c301 : ((xs (Int32.toNatClampNeg v3)) &&& 63) = 4
      · have h := hx_pos c301 h
        have hz : Int32.toInt ((xs (Int32.toNatClampNeg v3)) &&& 63) = 4 := by rw [c301]; rfl
        refine hx_tableIn (tgt := 306) C dL_law_33 (by rw [hz] <;> decide) (by rw [hz] <;> decide) (off := 273) (by rw [hz] <;> rfl) (by decide) ?_
        exact w_L_law_306 (f_L_law_18 L xs Ln n) C hr hlocks hXs hbl hbA ih v1 v2 v3 X ls h (lv_sub hl [0, 1, 2, 3] rfl)
      have h := hx_neg c301 h
      have zc301 : Int32.toInt ((xs (Int32.toNatClampNeg v3)) &&& 63) ≠ 4 := fun z => c301 (Int32.toInt_inj.mp (z.trans rfl))
      by_cases c302 : ((xs (Int32.toNatClampNeg v3)) &&& 63) = 5
      · have h := hx_pos c302 h
        have hz : Int32.toInt ((xs (Int32.toNatClampNeg v3)) &&& 63) = 5 := by rw [c302]; rfl
        refine hx_tableIn (tgt := 329) C dL_law_33 (by rw [hz] <;> decide) (by rw [hz] <;> decide) (off := 296) (by rw [hz] <;> rfl) (by decide) ?_
        exact w_L_law_329 (f_L_law_18 L xs Ln n) C hr hlocks hXs hbl hbA ih v1 v2 v3 X ls h (lv_sub hl [0, 1, 2, 3] rfl)
      have h := hx_neg c302 h
      have zc302 : Int32.toInt ((xs (Int32.toNatClampNeg v3)) &&& 63) ≠ 5 := fun z => c302 (Int32.toInt_inj.mp (z.trans rfl))
      by_cases c303 : ((xs (Int32.toNatClampNeg v3)) &&& 63) = 6
      · have h := hx_pos c303 h
        have hz : Int32.toInt ((xs (Int32.toNatClampNeg v3)) &&& 63) = 6 := by rw [c303]; rfl
        refine hx_tableIn (tgt := 352) C dL_law_33 (by rw [hz] <;> decide) (by rw [hz] <;> decide) (off := 319) (by rw [hz] <;> rfl) (by decide) ?_
        exact w_L_law_352 (f_L_law_18 L xs Ln n) C hr hlocks hXs hbl hbA ih v1 v2 v3 X ls h (lv_sub hl [0, 1, 2, 3] rfl)
      have h := hx_neg c303 h
      have zc303 : Int32.toInt ((xs (Int32.toNatClampNeg v3)) &&& 63) ≠ 6 := fun z => c303 (Int32.toInt_inj.mp (z.trans rfl))
      by_cases c304 : ((xs (Int32.toNatClampNeg v3)) &&& 63) = 7
      · have h := hx_pos c304 h
        have hz : Int32.toInt ((xs (Int32.toNatClampNeg v3)) &&& 63) = 7 := by rw [c304]; rfl
        refine hx_tableIn (tgt := 375) C dL_law_33 (by rw [hz] <;> decide) (by rw [hz] <;> decide) (off := 342) (by rw [hz] <;> rfl) (by decide) ?_
        exact w_L_law_375 (f_L_law_18 L xs Ln n) C hr hlocks hXs hbl hbA ih v1 v2 v3 X ls h (lv_sub hl [0, 1, 2, 3] rfl)
      have h := hx_neg c304 h
      have zc304 : Int32.toInt ((xs (Int32.toNatClampNeg v3)) &&& 63) ≠ 7 := fun z => c304 (Int32.toInt_inj.mp (z.trans rfl))
      by_cases c305 : ((xs (Int32.toNatClampNeg v3)) &&& 63) = 8
      · have h := hx_pos c305 h
        have hz : Int32.toInt ((xs (Int32.toNatClampNeg v3)) &&& 63) = 8 := by rw [c305]; rfl
        refine hx_tableIn (tgt := 428) C dL_law_33 (by rw [hz] <;> decide) (by rw [hz] <;> decide) (off := 395) (by rw [hz] <;> rfl) (by decide) ?_
        exact w_L_law_428 (f_L_law_18 L xs Ln n) C hr hlocks hXs hbl hbA ih v1 v2 v3 X ls h (lv_sub hl [0, 1, 2, 3] rfl)
      have h := hx_neg c305 h
      have zc305 : Int32.toInt ((xs (Int32.toNatClampNeg v3)) &&& 63) ≠ 8 := fun z => c305 (Int32.toInt_inj.mp (z.trans rfl))
      by_cases c306 : ((xs (Int32.toNatClampNeg v3)) &&& 63) = 9
      · have h := hx_pos c306 h
        have hz : Int32.toInt ((xs (Int32.toNatClampNeg v3)) &&& 63) = 9 := by rw [c306]; rfl
        refine hx_tableIn (tgt := 461) C dL_law_33 (by rw [hz] <;> decide) (by rw [hz] <;> decide) (off := 428) (by rw [hz] <;> rfl) (by decide) ?_
        exact w_L_law_461 (f_L_law_18 L xs Ln n) C hr hlocks hXs hbl hbA ih v1 v2 v3 X ls h (lv_sub hl [0, 1, 2, 3] rfl)
      have h := hx_neg c306 h
      have zc306 : Int32.toInt ((xs (Int32.toNatClampNeg v3)) &&& 63) ≠ 9 := fun z => c306 (Int32.toInt_inj.mp (z.trans rfl))
      by_cases c307 : ((xs (Int32.toNatClampNeg v3)) &&& 63) = 10
      · have h := hx_pos c307 h
        have hz : Int32.toInt ((xs (Int32.toNatClampNeg v3)) &&& 63) = 10 := by rw [c307]; rfl
        refine hx_tableIn (tgt := 524) C dL_law_33 (by rw [hz] <;> decide) (by rw [hz] <;> decide) (off := 491) (by rw [hz] <;> rfl) (by decide) ?_
        exact w_L_law_524 (f_L_law_18 L xs Ln n) C hr hlocks hXs hbl hbA ih v1 v2 v3 X ls h (lv_sub hl [0, 1, 2, 3] rfl)
      have h := hx_neg c307 h
      have zc307 : Int32.toInt ((xs (Int32.toNatClampNeg v3)) &&& 63) ≠ 10 := fun z => c307 (Int32.toInt_inj.mp (z.trans rfl))
      by_cases c308 : ((xs (Int32.toNatClampNeg v3)) &&& 63) = 11
      · have h := hx_pos c308 h
        have hz : Int32.toInt ((xs (Int32.toNatClampNeg v3)) &&& 63) = 11 := by rw [c308]; rfl
        refine hx_tableIn (tgt := 547) C dL_law_33 (by rw [hz] <;> decide) (by rw [hz] <;> decide) (off := 514) (by rw [hz] <;> rfl) (by decide) ?_
        exact w_L_law_547 (f_L_law_18 L xs Ln n) C hr hlocks hXs hbl hbA ih v1 v2 v3 X ls h (lv_sub hl [0, 1, 2, 3] rfl)
      have h := hx_neg c308 h
      have zc308 : Int32.toInt ((xs (Int32.toNatClampNeg v3)) &&& 63) ≠ 11 := fun z => c308 (Int32.toInt_inj.mp (z.trans rfl))
      by_cases c309 : ((xs (Int32.toNatClampNeg v3)) &&& 63) = 12
      · have h := hx_pos c309 h
        have hz : Int32.toInt ((xs (Int32.toNatClampNeg v3)) &&& 63) = 12 := by rw [c309]; rfl
        refine hx_tableIn (tgt := 580) C dL_law_33 (by rw [hz] <;> decide) (by rw [hz] <;> decide) (off := 547) (by rw [hz] <;> rfl) (by decide) ?_
        exact w_L_law_580 (f_L_law_18 L xs Ln n) C hr hlocks hXs hbl hbA ih v1 v2 v3 X ls h (lv_sub hl [0, 1, 2, 3] rfl)
      have h := hx_neg c309 h
      have zc309 : Int32.toInt ((xs (Int32.toNatClampNeg v3)) &&& 63) ≠ 12 := fun z => c309 (Int32.toInt_inj.mp (z.trans rfl))
      by_cases c310 : ((xs (Int32.toNatClampNeg v3)) &&& 63) = 13
      · have h := hx_pos c310 h
        have hz : Int32.toInt ((xs (Int32.toNatClampNeg v3)) &&& 63) = 13 := by rw [c310]; rfl
        refine hx_tableIn (tgt := 623) C dL_law_33 (by rw [hz] <;> decide) (by rw [hz] <;> decide) (off := 590) (by rw [hz] <;> rfl) (by decide) ?_
        exact w_L_law_623 (f_L_law_18 L xs Ln n) C hr hlocks hXs hbl hbA ih v1 v2 v3 X ls h (lv_sub hl [0, 1, 2, 3] rfl)
      have h := hx_neg c310 h
      have zc310 : Int32.toInt ((xs (Int32.toNatClampNeg v3)) &&& 63) ≠ 13 := fun z => c310 (Int32.toInt_inj.mp (z.trans rfl))
      by_cases c311 : ((xs (Int32.toNatClampNeg v3)) &&& 63) = 14
      · have h := hx_pos c311 h
        have hz : Int32.toInt ((xs (Int32.toNatClampNeg v3)) &&& 63) = 14 := by rw [c311]; rfl
        refine hx_tableIn (tgt := 646) C dL_law_33 (by rw [hz] <;> decide) (by rw [hz] <;> decide) (off := 613) (by rw [hz] <;> rfl) (by decide) ?_
        exact w_L_law_646 (f_L_law_18 L xs Ln n) C hr hlocks hXs hbl hbA ih v1 v2 v3 X ls h (lv_sub hl [0, 1, 2, 3] rfl)
      have h := hx_neg c311 h
      have zc311 : Int32.toInt ((xs (Int32.toNatClampNeg v3)) &&& 63) ≠ 14 := fun z => c311 (Int32.toInt_inj.mp (z.trans rfl))
      by_cases c312 : ((xs (Int32.toNatClampNeg v3)) &&& 63) = 15
      · have h := hx_pos c312 h
        have hz : Int32.toInt ((xs (Int32.toNatClampNeg v3)) &&& 63) = 15 := by rw [c312]; rfl
        refine hx_tableIn (tgt := 669) C dL_law_33 (by rw [hz] <;> decide) (by rw [hz] <;> decide) (off := 636) (by rw [hz] <;> rfl) (by decide) ?_
        exact w_L_law_669 (f_L_law_18 L xs Ln n) C hr hlocks hXs hbl hbA ih v1 v2 v3 X ls h (lv_sub hl [0, 1, 2, 3] rfl)
      have h := hx_neg c312 h
      have zc312 : Int32.toInt ((xs (Int32.toNatClampNeg v3)) &&& 63) ≠ 15 := fun z => c312 (Int32.toInt_inj.mp (z.trans rfl))
      by_cases c313 : ((xs (Int32.toNatClampNeg v3)) &&& 63) = 16
      · have h := hx_pos c313 h
        have hz : Int32.toInt ((xs (Int32.toNatClampNeg v3)) &&& 63) = 16 := by rw [c313]; rfl
        refine hx_tableIn (tgt := 682) C dL_law_33 (by rw [hz] <;> decide) (by rw [hz] <;> decide) (off := 649) (by rw [hz] <;> rfl) (by decide) ?_
        exact w_L_law_682 (f_L_law_18 L xs Ln n) C hr hlocks hXs hbl hbA ih v1 v2 v3 X ls h (lv_sub hl [0, 1, 2, 3] rfl)
      have h := hx_neg c313 h
      have zc313 : Int32.toInt ((xs (Int32.toNatClampNeg v3)) &&& 63) ≠ 16 := fun z => c313 (Int32.toInt_inj.mp (z.trans rfl))
      by_cases c314 : ((xs (Int32.toNatClampNeg v3)) &&& 63) = 17
      · have h := hx_pos c314 h
        have hz : Int32.toInt ((xs (Int32.toNatClampNeg v3)) &&& 63) = 17 := by rw [c314]; rfl
        refine hx_tableIn (tgt := 705) C dL_law_33 (by rw [hz] <;> decide) (by rw [hz] <;> decide) (off := 672) (by rw [hz] <;> rfl) (by decide) ?_
        exact w_L_law_705 (f_L_law_18 L xs Ln n) C hr hlocks hXs hbl hbA ih v1 v2 v3 X ls h (lv_sub hl [0, 1, 2, 3] rfl)
      have h := hx_neg c314 h
      have zc314 : Int32.toInt ((xs (Int32.toNatClampNeg v3)) &&& 63) ≠ 17 := fun z => c314 (Int32.toInt_inj.mp (z.trans rfl))
      by_cases c315 : ((xs (Int32.toNatClampNeg v3)) &&& 63) = 18
      · have h := hx_pos c315 h
        have hz : Int32.toInt ((xs (Int32.toNatClampNeg v3)) &&& 63) = 18 := by rw [c315]; rfl
        refine hx_tableIn (tgt := 718) C dL_law_33 (by rw [hz] <;> decide) (by rw [hz] <;> decide) (off := 685) (by rw [hz] <;> rfl) (by decide) ?_
        exact w_L_law_718 (f_L_law_18 L xs Ln n) C hr hlocks hXs hbl hbA ih v1 v2 v3 X ls h (lv_sub hl [0, 1, 2, 3] rfl)
      have h := hx_neg c315 h
      have zc315 : Int32.toInt ((xs (Int32.toNatClampNeg v3)) &&& 63) ≠ 18 := fun z => c315 (Int32.toInt_inj.mp (z.trans rfl))
      by_cases c316 : ((xs (Int32.toNatClampNeg v3)) &&& 63) = 19
      · have h := hx_pos c316 h
        have hz : Int32.toInt ((xs (Int32.toNatClampNeg v3)) &&& 63) = 19 := by rw [c316]; rfl
        refine hx_tableIn (tgt := 731) C dL_law_33 (by rw [hz] <;> decide) (by rw [hz] <;> decide) (off := 698) (by rw [hz] <;> rfl) (by decide) ?_
        exact w_L_law_731 (f_L_law_18 L xs Ln n) C hr hlocks hXs hbl hbA ih v1 v2 v3 X ls h (lv_sub hl [0, 1, 2, 3] rfl)
      have h := hx_neg c316 h
      have zc316 : Int32.toInt ((xs (Int32.toNatClampNeg v3)) &&& 63) ≠ 19 := fun z => c316 (Int32.toInt_inj.mp (z.trans rfl))
      by_cases c317 : ((xs (Int32.toNatClampNeg v3)) &&& 63) = 20
      · have h := hx_pos c317 h
        have hz : Int32.toInt ((xs (Int32.toNatClampNeg v3)) &&& 63) = 20 := by rw [c317]; rfl
        refine hx_tableIn (tgt := 754) C dL_law_33 (by rw [hz] <;> decide) (by rw [hz] <;> decide) (off := 721) (by rw [hz] <;> rfl) (by decide) ?_
        exact w_L_law_754 (f_L_law_18 L xs Ln n) C hr hlocks hXs hbl hbA ih v1 v2 v3 X ls h (lv_sub hl [0, 1, 2, 3] rfl)
      have h := hx_neg c317 h
      have zc317 : Int32.toInt ((xs (Int32.toNatClampNeg v3)) &&& 63) ≠ 20 := fun z => c317 (Int32.toInt_inj.mp (z.trans rfl))
      by_cases c318 : ((xs (Int32.toNatClampNeg v3)) &&& 63) = 21
      · have h := hx_pos c318 h
        have hz : Int32.toInt ((xs (Int32.toNatClampNeg v3)) &&& 63) = 21 := by rw [c318]; rfl
        refine hx_tableIn (tgt := 777) C dL_law_33 (by rw [hz] <;> decide) (by rw [hz] <;> decide) (off := 744) (by rw [hz] <;> rfl) (by decide) ?_
        exact w_L_law_777 (f_L_law_18 L xs Ln n) C hr hlocks hXs hbl hbA ih v1 v2 v3 X ls h (lv_sub hl [0, 1, 2, 3] rfl)
      have h := hx_neg c318 h
      have zc318 : Int32.toInt ((xs (Int32.toNatClampNeg v3)) &&& 63) ≠ 21 := fun z => c318 (Int32.toInt_inj.mp (z.trans rfl))
      by_cases c319 : ((xs (Int32.toNatClampNeg v3)) &&& 63) = 22
      · have h := hx_pos c319 h
        have hz : Int32.toInt ((xs (Int32.toNatClampNeg v3)) &&& 63) = 22 := by rw [c319]; rfl
        refine hx_tableIn (tgt := 810) C dL_law_33 (by rw [hz] <;> decide) (by rw [hz] <;> decide) (off := 777) (by rw [hz] <;> rfl) (by decide) ?_
        exact w_L_law_810 (f_L_law_18 L xs Ln n) C hr hlocks hXs hbl hbA ih v1 v2 v3 X ls h (lv_sub hl [0, 1, 2, 3] rfl)
      have h := hx_neg c319 h
      have zc319 : Int32.toInt ((xs (Int32.toNatClampNeg v3)) &&& 63) ≠ 22 := fun z => c319 (Int32.toInt_inj.mp (z.trans rfl))
      by_cases c320 : ((xs (Int32.toNatClampNeg v3)) &&& 63) = 23
      · have h := hx_pos c320 h
        have hz : Int32.toInt ((xs (Int32.toNatClampNeg v3)) &&& 63) = 23 := by rw [c320]; rfl
        refine hx_tableIn (tgt := 843) C dL_law_33 (by rw [hz] <;> decide) (by rw [hz] <;> decide) (off := 810) (by rw [hz] <;> rfl) (by decide) ?_
        exact w_L_law_843 (f_L_law_18 L xs Ln n) C hr hlocks hXs hbl hbA ih v1 v2 v3 X ls h (lv_sub hl [0, 1, 2, 3] rfl)
      have h := hx_neg c320 h
      have zc320 : Int32.toInt ((xs (Int32.toNatClampNeg v3)) &&& 63) ≠ 23 := fun z => c320 (Int32.toInt_inj.mp (z.trans rfl))
      by_cases c321 : ((xs (Int32.toNatClampNeg v3)) &&& 63) = 24
      · have h := hx_pos c321 h
        have hz : Int32.toInt ((xs (Int32.toNatClampNeg v3)) &&& 63) = 24 := by rw [c321]; rfl
        refine hx_tableIn (tgt := 876) C dL_law_33 (by rw [hz] <;> decide) (by rw [hz] <;> decide) (off := 843) (by rw [hz] <;> rfl) (by decide) ?_
        exact w_L_law_876 (f_L_law_18 L xs Ln n) C hr hlocks hXs hbl hbA ih v1 v2 v3 X ls h (lv_sub hl [0, 1, 2, 3] rfl)
      have h := hx_neg c321 h
      have zc321 : Int32.toInt ((xs (Int32.toNatClampNeg v3)) &&& 63) ≠ 24 := fun z => c321 (Int32.toInt_inj.mp (z.trans rfl))
      by_cases c322 : ((xs (Int32.toNatClampNeg v3)) &&& 63) = 25
      · have h := hx_pos c322 h
        have hz : Int32.toInt ((xs (Int32.toNatClampNeg v3)) &&& 63) = 25 := by rw [c322]; rfl
        refine hx_tableIn (tgt := 899) C dL_law_33 (by rw [hz] <;> decide) (by rw [hz] <;> decide) (off := 866) (by rw [hz] <;> rfl) (by decide) ?_
        exact w_L_law_899 (f_L_law_18 L xs Ln n) C hr hlocks hXs hbl hbA ih v1 v2 v3 X ls h (lv_sub hl [0, 1, 2, 3] rfl)
      have h := hx_neg c322 h
      have zc322 : Int32.toInt ((xs (Int32.toNatClampNeg v3)) &&& 63) ≠ 25 := fun z => c322 (Int32.toInt_inj.mp (z.trans rfl))
      by_cases c323 : ((xs (Int32.toNatClampNeg v3)) &&& 63) = 26
      · have h := hx_pos c323 h
        have hz : Int32.toInt ((xs (Int32.toNatClampNeg v3)) &&& 63) = 26 := by rw [c323]; rfl
        refine hx_tableIn (tgt := 942) C dL_law_33 (by rw [hz] <;> decide) (by rw [hz] <;> decide) (off := 909) (by rw [hz] <;> rfl) (by decide) ?_
        exact w_L_law_942 (f_L_law_18 L xs Ln n) C hr hlocks hXs hbl hbA ih v1 v2 v3 X ls h (lv_sub hl [0, 1, 2, 3] rfl)
      have h := hx_neg c323 h
      have zc323 : Int32.toInt ((xs (Int32.toNatClampNeg v3)) &&& 63) ≠ 26 := fun z => c323 (Int32.toInt_inj.mp (z.trans rfl))
      by_cases c324 : ((xs (Int32.toNatClampNeg v3)) &&& 63) = 27
      · have h := hx_pos c324 h
        have hz : Int32.toInt ((xs (Int32.toNatClampNeg v3)) &&& 63) = 27 := by rw [c324]; rfl
        refine hx_tableIn (tgt := 985) C dL_law_33 (by rw [hz] <;> decide) (by rw [hz] <;> decide) (off := 952) (by rw [hz] <;> rfl) (by decide) ?_
        exact w_L_law_985 (f_L_law_18 L xs Ln n) C hr hlocks hXs hbl hbA ih v1 v2 v3 X ls h (lv_sub hl [0, 1, 2, 3] rfl)
      have h := hx_neg c324 h
      have zc324 : Int32.toInt ((xs (Int32.toNatClampNeg v3)) &&& 63) ≠ 27 := fun z => c324 (Int32.toInt_inj.mp (z.trans rfl))
      by_cases c325 : ((xs (Int32.toNatClampNeg v3)) &&& 63) = 28
      · have h := hx_pos c325 h
        have hz : Int32.toInt ((xs (Int32.toNatClampNeg v3)) &&& 63) = 28 := by rw [c325]; rfl
        refine hx_tableIn (tgt := 1008) C dL_law_33 (by rw [hz] <;> decide) (by rw [hz] <;> decide) (off := 975) (by rw [hz] <;> rfl) (by decide) ?_
        exact w_L_law_1008 (f_L_law_18 L xs Ln n) C hr hlocks hXs hbl hbA ih v1 v2 v3 X ls h (lv_sub hl [0, 1, 2, 3] rfl)
      have h := hx_neg c325 h
      have zc325 : Int32.toInt ((xs (Int32.toNatClampNeg v3)) &&& 63) ≠ 28 := fun z => c325 (Int32.toInt_inj.mp (z.trans rfl))
      by_cases c326 : ((xs (Int32.toNatClampNeg v3)) &&& 63) = 29
      · have h := hx_pos c326 h
        have hz : Int32.toInt ((xs (Int32.toNatClampNeg v3)) &&& 63) = 29 := by rw [c326]; rfl
        refine hx_tableIn (tgt := 1041) C dL_law_33 (by rw [hz] <;> decide) (by rw [hz] <;> decide) (off := 1008) (by rw [hz] <;> rfl) (by decide) ?_
        exact w_L_law_1041 (f_L_law_18 L xs Ln n) C hr hlocks hXs hbl hbA ih v1 v2 v3 X ls h (lv_sub hl [0, 1, 2, 3] rfl)
      have h := hx_neg c326 h
      have zc326 : Int32.toInt ((xs (Int32.toNatClampNeg v3)) &&& 63) ≠ 29 := fun z => c326 (Int32.toInt_inj.mp (z.trans rfl))
      by_cases c327 : ((xs (Int32.toNatClampNeg v3)) &&& 63) = 30
      · have h := hx_pos c327 h
        have hz : Int32.toInt ((xs (Int32.toNatClampNeg v3)) &&& 63) = 30 := by rw [c327]; rfl
        refine hx_tableIn (tgt := 1094) C dL_law_33 (by rw [hz] <;> decide) (by rw [hz] <;> decide) (off := 1061) (by rw [hz] <;> rfl) (by decide) ?_
        exact w_L_law_1094 (f_L_law_18 L xs Ln n) C hr hlocks hXs hbl hbA ih v1 v2 v3 X ls h (lv_sub hl [0, 1, 2, 3] rfl)
      have h := hx_neg c327 h
      have zc327 : Int32.toInt ((xs (Int32.toNatClampNeg v3)) &&& 63) ≠ 30 := fun z => c327 (Int32.toInt_inj.mp (z.trans rfl))
      by_cases c328 : ((xs (Int32.toNatClampNeg v3)) &&& 63) = 31
      · have h := hx_pos c328 h
        have hz : Int32.toInt ((xs (Int32.toNatClampNeg v3)) &&& 63) = 31 := by rw [c328]; rfl
        refine hx_tableIn (tgt := 1117) C dL_law_33 (by rw [hz] <;> decide) (by rw [hz] <;> decide) (off := 1084) (by rw [hz] <;> rfl) (by decide) ?_
        exact w_L_law_1117 (f_L_law_18 L xs Ln n) C hr hlocks hXs hbl hbA ih v1 v2 v3 X ls h (lv_sub hl [0, 1, 2, 3] rfl)
      have h := hx_neg c328 h
      have zc328 : Int32.toInt ((xs (Int32.toNatClampNeg v3)) &&& 63) ≠ 31 := fun z => c328 (Int32.toInt_inj.mp (z.trans rfl))
      by_cases c329 : ((xs (Int32.toNatClampNeg v3)) &&& 63) = 32
      · have h := hx_pos c329 h
        have hz : Int32.toInt ((xs (Int32.toNatClampNeg v3)) &&& 63) = 32 := by rw [c329]; rfl
        refine hx_tableIn (tgt := 1130) C dL_law_33 (by rw [hz] <;> decide) (by rw [hz] <;> decide) (off := 1097) (by rw [hz] <;> rfl) (by decide) ?_
        exact w_L_law_1130 (f_L_law_18 L xs Ln n) C hr hlocks hXs hbl hbA ih v1 v2 v3 X ls h (lv_sub hl [0, 1, 2, 3] rfl)
      have h := hx_neg c329 h
      have zc329 : Int32.toInt ((xs (Int32.toNatClampNeg v3)) &&& 63) ≠ 32 := fun z => c329 (Int32.toInt_inj.mp (z.trans rfl))
      by_cases c330 : ((xs (Int32.toNatClampNeg v3)) &&& 63) = 33
      · have h := hx_pos c330 h
        have hz : Int32.toInt ((xs (Int32.toNatClampNeg v3)) &&& 63) = 33 := by rw [c330]; rfl
        refine hx_tableIn (tgt := 1153) C dL_law_33 (by rw [hz] <;> decide) (by rw [hz] <;> decide) (off := 1120) (by rw [hz] <;> rfl) (by decide) ?_
        exact w_L_law_1153 (f_L_law_18 L xs Ln n) C hr hlocks hXs hbl hbA ih v1 v2 v3 X ls h (lv_sub hl [0, 1, 2, 3] rfl)
      have h := hx_neg c330 h
      have zc330 : Int32.toInt ((xs (Int32.toNatClampNeg v3)) &&& 63) ≠ 33 := fun z => c330 (Int32.toInt_inj.mp (z.trans rfl))
      refine hx_tableOut (tgt := 1186) C dL_law_33 (by omega) (by decide) ?_
      exact w_L_law_1186 (f_L_law_18 L xs Ln n) C hr hlocks hXs hbl hbA ih v1 v2 v3 X ls h (lv_sub hl [0, 1, 2, 3] rfl)
