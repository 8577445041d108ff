/-! THE CLAIM OUT OF ONE WALK OF THE LAW'S BODY. Your part is whole_start (and what it stands on); all else here is the same for every law, but numbers. -/
def R_law : String := "TicketScalesLaw"
def lw_P (b : Addr) (xs : List Int32) (args : Array Value) (s : State) : Prop := args = #[.ref b] ∧ s.IntsAt b xs ∧ xs.length ≤ 260 ∧ (Jvm.Cond.and given_1 narrow_1).before args s = true
def lw_Q (_ : Array Value) (s : State) (o : Outcome) (t : State) : Prop := o = .returned (some (.int 1)) ∧ Framed s o t [] 730724 6910076
def lw_Z (below : List Frame) (a : Array Value) (s : State) : State → Prop := fun t => ∃ o, t.status = .running ∧ Ended t below o ∧ lw_Q a s o t
/-- the law's own end, with 1 on the stack, nothing written that was there before, its room as the claim has it -/
theorem lw_ret {p : Program} {l : Launch} {e : Env} {s : State} {m : MethodId} {below : List Frame} {meth : Method} {c : Code} {b : Nat} (hx : p.tables.exec = Jvm.exec) (hb : c.code = code) (hr : meth.sig.returnType = ret) (hlocks : meth.locks = false) {pc : Nat} {H : Heap} {ls : Array Slot} (hdg : decode code pc = .ok (.ireturn, 1)) : W p l e room_1 s m #[Value.ref b] below meth c H [] 730724 6910076 (lw_Z below #[Value.ref b] s) (F0 m pc ls [.int 1]) := by
  intro T hT X
  obtain ⟨fs, hret, hrun, hended, hW, hframe⟩ := X.leave (v := some (.int 1)) (hlocks := hlocks) (fun h => by rw [hr] at h; cases h)
  have hmeth' : T.vm.method? m = some meth := X.method'
  refine ⟨T.setFrames fs, ?_, .returned (some (.int 1)), hrun, hended, rfl, ⟨_, rfl⟩, hW, hframe⟩
  jvm_step X.here [X.here.top, hx, hb, hdg, hmeth', hr, ret, narrow_b1]
  (try refine ⟨rfl, ?_⟩); (try refine ⟨rfl, ?_⟩)
  first | (intro acts; rw [hret _ acts rfl rfl rfl]) | rw [hret _ _ rfl rfl rfl]
  exact Steps.refl _
/-- what holds at the law's entry: the machine, the code, the tables' words (any of lw_tbl by 'hts w (by decide +kernel)'), the script of L ints xs at the cell b, what the Statement gives of the start (any of its parts by flat_of_before) -/
def lw_At (p : Program) (s : State) (m : MethodId) (meth : Method) (c : Code) (b L : Nat) (xs : Nat → Int32) : Prop :=
  p.tables.exec = Jvm.exec ∧ c.code = code ∧ meth.sig.returnType = ret ∧ c.maxLocals = 11 ∧ s.vm.findClass R_law = some m.cls ∧ (∀ w ∈ lw_tbl, w.before #[Value.ref b] s = true) ∧ va_X b L xs s s.heap ∧ b < s.heap.size ∧ meth.locks = false ∧ (Jvm.Cond.and given_1 narrow_1).before #[Value.ref b] s = true
theorem hx_lwret {p : Program} {l : Launch} {e : Env} {s : State} {m : MethodId} {below : List Frame} {meth : Method} {c : Code} {dC : Nat → ClassId} {dI : Nat → Nat → Nat} {cy : Nat → ClassId} {ad : Nat → Nat} {L : hL} {X : hX} {pc : Nat} {ls : Array Slot} {b : Nat} {v : Int32} (C : hC p s m #[Value.ref b] meth c dC dI cy ad L (fun q => s.heap.size ≤ q) code 11 wsL_law RL) (hr : meth.sig.returnType = ret) (hlocks : meth.locks = false) (hv : (some v : Option Int32) = some 1) (hdg : decode code pc = .ok (.ireturn, 1)) : hG p l e room_1 s m #[Value.ref b] below meth c dC dI cy ad L (fun q => s.heap.size ≤ q) 470 2617 (lw_Z below #[Value.ref b] s) X pc ls [.int v] := fun H locs hP hS => by
  obtain rfl : v = 1 := Option.some.inj hv
  refine va_forget (fun q hq => hS.2.2 q hq) ?_
  refine W.widen (k := 730724) (n := 6910076) (Nat.le_of_ble_eq_true rfl) (Nat.le_of_ble_eq_true rfl) ?_
  exact lw_ret C.1 C.2.1 hr hlocks hdg
def f_L_law_136 (L : hL) (xs : Nat → Int32) (Ln : Nat) (k15 : Nat → Int32 → Int32 → hX → Option Int32) (v1 : Nat) (v3 : Int32) (s0 : Int32) (X : hX) : Option Int32 :=
  k15 v1 s0 (v3 + 1) X
set_option maxRecDepth 100000 in
set_option maxHeartbeats 8000000 in
theorem w_L_law_136 {p : Program} {l : Launch} {e : Env} {s : State} {m : MethodId} {below : List Frame} {meth : Method} {c : Code} {dC : Nat → ClassId} {dI : Nat → Nat → Nat} {cy : Nat → ClassId} {ad : Nat → Nat} {L : hL} (k15 : Nat → Int32 → Int32 → hX → Option Int32) (C : hC p s m #[Value.ref (dI 100 0)] meth c dC dI cy ad L (fun q => s.heap.size ≤ q) code 11 wsL_law RL) (hr : meth.sig.returnType = ret) (hlocks : meth.locks = false) (hk15 : ∀ (v1 : Nat) (v2 : Int32) (v3 : Int32) (X : hX) (ls : Array Slot), k15 v1 v2 v3 X = some 1 → lv_has ls 11 [(0, .ref (dI 100 0)), (1, .ref (ad v1)), (2, .int v2), (3, .int v3)] → hG p l e room_1 s m #[Value.ref (dI 100 0)] below meth c dC dI cy ad L (fun q => s.heap.size ≤ q) 470 2617 (lw_Z below #[Value.ref (dI 100 0)] s) X 15 ls []) : ∀ (v1 : Nat) (v3 : Int32) (s0 : Int32) (X : hX) (ls : Array Slot), f_L_law_136 L (sX dI) (dI 100 1) k15 v1 v3 s0 X = some 1 → lv_has ls 11 [(0, .ref (dI 100 0)), (1, .ref (ad v1)), (3, .int v3)] → hG p l e room_1 s m #[Value.ref (dI 100 0)] below meth c dC dI cy ad L (fun q => s.heap.size ≤ q) 470 2617 (lw_Z below #[Value.ref (dI 100 0)] s) X 136 ls [.int s0] := by
  intro v1 v3 s0 X ls h hl
  unfold f_L_law_136 at h
  refine hx_istore_n (lv' := [(2, .int s0), (0, .ref (dI 100 0)), (1, .ref (ad v1)), (3, .int v3)]) C dL_law_136 rfl hl (by decide) rfl (fun ls hl => ?_)
  refine hx_iinc (v := v3 + 1) (lv' := [(3, .int (v3 + 1)), (2, .int s0), (0, .ref (dI 100 0)), (1, .ref (ad v1))]) C dL_law_137 hl (k := 3) rfl rfl (by decide) rfl (fun ls hl => ?_)
  refine hx_goto (tgt := 15) C dL_law_140 (by decide) ?_
  exact hk15 v1 s0 (v3 + 1) X ls h (lv_sub hl [2, 3, 1, 0] rfl)
def f_L_law_135 (L : hL) (xs : Nat → Int32) (Ln : Nat) (k15 : Nat → Int32 → Int32 → hX → Option Int32) (v1 : Nat) (v3 : Int32) (X : hX) : Option Int32 :=
  f_L_law_136 L xs Ln k15 v1 v3 0 X
set_option maxRecDepth 100000 in
set_option maxHeartbeats 8000000 in
theorem w_L_law_135 {p : Program} {l : Launch} {e : Env} {s : State} {m : MethodId} {below : List Frame} {meth : Method} {c : Code} {dC : Nat → ClassId} {dI : Nat → Nat → Nat} {cy : Nat → ClassId} {ad : Nat → Nat} {L : hL} (k15 : Nat → Int32 → Int32 → hX → Option Int32) (C : hC p s m #[Value.ref (dI 100 0)] meth c dC dI cy ad L (fun q => s.heap.size ≤ q) code 11 wsL_law RL) (hr : meth.sig.returnType = ret) (hlocks : meth.locks = false) (hk15 : ∀ (v1 : Nat) (v2 : Int32) (v3 : Int32) (X : hX) (ls : Array Slot), k15 v1 v2 v3 X = some 1 → lv_has ls 11 [(0, .ref (dI 100 0)), (1, .ref (ad v1)), (2, .int v2), (3, .int v3)] → hG p l e room_1 s m #[Value.ref (dI 100 0)] below meth c dC dI cy ad L (fun q => s.heap.size ≤ q) 470 2617 (lw_Z below #[Value.ref (dI 100 0)] s) X 15 ls []) : ∀ (v1 : Nat) (v3 : Int32) (X : hX) (ls : Array Slot), f_L_law_135 L (sX dI) (dI 100 1) k15 v1 v3 X = some 1 → lv_has ls 11 [(0, .ref (dI 100 0)), (1, .ref (ad v1)), (3, .int v3)] → hG p l e room_1 s m #[Value.ref (dI 100 0)] below meth c dC dI cy ad L (fun q => s.heap.size ≤ q) 470 2617 (lw_Z below #[Value.ref (dI 100 0)] s) X 135 ls [] := by
  intro v1 v3 X ls h hl
  unfold f_L_law_135 at h
  refine hx_iconst (v := 0) C dL_law_135 (by decide) ?_
  exact w_L_law_136 k15 C hr hlocks hk15 v1 v3 0 X ls h (lv_sub hl [0, 1, 2] rfl)
def f_L_law_650 (L : hL) (xs : Nat → Int32) (Ln : Nat) (k189 : Nat → Int32 → Int32 → hX → Option Int32) (v1 : Nat) (v3 : Int32) (s0 : Int32) (X : hX) : Option Int32 :=
  k189 v1 s0 (v3 + 1) X
set_option maxRecDepth 100000 in
set_option maxHeartbeats 8000000 in
theorem w_L_law_650 {p : Program} {l : Launch} {e : Env} {s : State} {m : MethodId} {below : List Frame} {meth : Method} {c : Code} {dC : Nat → ClassId} {dI : Nat → Nat → Nat} {cy : Nat → ClassId} {ad : Nat → Nat} {L : hL} (k189 : Nat → Int32 → Int32 → hX → Option Int32) (C : hC p s m #[Value.ref (dI 100 0)] meth c dC dI cy ad L (fun q => s.heap.size ≤ q) code 11 wsL_law RL) (hr : meth.sig.returnType = ret) (hlocks : meth.locks = false) (hk189 : ∀ (v1 : Nat) (v2 : Int32) (v3 : Int32) (X : hX) (ls : Array Slot), k189 v1 v2 v3 X = some 1 → lv_has ls 11 [(0, .ref (dI 100 0)), (1, .ref (ad v1)), (2, .int v2), (3, .int v3)] → hG p l e room_1 s m #[Value.ref (dI 100 0)] below meth c dC dI cy ad L (fun q => s.heap.size ≤ q) 470 2617 (lw_Z below #[Value.ref (dI 100 0)] s) X 189 ls []) : ∀ (v1 : Nat) (v3 : Int32) (s0 : Int32) (X : hX) (ls : Array Slot), f_L_law_650 L (sX dI) (dI 100 1) k189 v1 v3 s0 X = some 1 → lv_has ls 11 [(0, .ref (dI 100 0)), (1, .ref (ad v1)), (3, .int v3)] → hG p l e room_1 s m #[Value.ref (dI 100 0)] below meth c dC dI cy ad L (fun q => s.heap.size ≤ q) 470 2617 (lw_Z below #[Value.ref (dI 100 0)] s) X 650 ls [.int s0] := by
  intro v1 v3 s0 X ls h hl
  unfold f_L_law_650 at h
  refine hx_istore_n (lv' := [(2, .int s0), (0, .ref (dI 100 0)), (1, .ref (ad v1)), (3, .int v3)]) C dL_law_650 rfl hl (by decide) rfl (fun ls hl => ?_)
  refine hx_iinc (v := v3 + 1) (lv' := [(3, .int (v3 + 1)), (2, .int s0), (0, .ref (dI 100 0)), (1, .ref (ad v1))]) C dL_law_651 hl (k := 3) rfl rfl (by decide) rfl (fun ls hl => ?_)
  refine hx_goto (tgt := 189) C dL_law_654 (by decide) ?_
  exact hk189 v1 s0 (v3 + 1) X ls h (lv_sub hl [2, 3, 1, 0] rfl)
def f_L_law_649 (L : hL) (xs : Nat → Int32) (Ln : Nat) (k189 : Nat → Int32 → Int32 → hX → Option Int32) (v1 : Nat) (v3 : Int32) (X : hX) : Option Int32 :=
  f_L_law_650 L xs Ln k189 v1 v3 0 X
set_option maxRecDepth 100000 in
set_option maxHeartbeats 8000000 in
theorem w_L_law_649 {p : Program} {l : Launch} {e : Env} {s : State} {m : MethodId} {below : List Frame} {meth : Method} {c : Code} {dC : Nat → ClassId} {dI : Nat → Nat → Nat} {cy : Nat → ClassId} {ad : Nat → Nat} {L : hL} (k189 : Nat → Int32 → Int32 → hX → Option Int32) (C : hC p s m #[Value.ref (dI 100 0)] meth c dC dI cy ad L (fun q => s.heap.size ≤ q) code 11 wsL_law RL) (hr : meth.sig.returnType = ret) (hlocks : meth.locks = false) (hk189 : ∀ (v1 : Nat) (v2 : Int32) (v3 : Int32) (X : hX) (ls : Array Slot), k189 v1 v2 v3 X = some 1 → lv_has ls 11 [(0, .ref (dI 100 0)), (1, .ref (ad v1)), (2, .int v2), (3, .int v3)] → hG p l e room_1 s m #[Value.ref (dI 100 0)] below meth c dC dI cy ad L (fun q => s.heap.size ≤ q) 470 2617 (lw_Z below #[Value.ref (dI 100 0)] s) X 189 ls []) : ∀ (v1 : Nat) (v3 : Int32) (X : hX) (ls : Array Slot), f_L_law_649 L (sX dI) (dI 100 1) k189 v1 v3 X = some 1 → lv_has ls 11 [(0, .ref (dI 100 0)), (1, .ref (ad v1)), (3, .int v3)] → hG p l e room_1 s m #[Value.ref (dI 100 0)] below meth c dC dI cy ad L (fun q => s.heap.size ≤ q) 470 2617 (lw_Z below #[Value.ref (dI 100 0)] s) X 649 ls [] := by
  intro v1 v3 X ls h hl
  unfold f_L_law_649 at h
  refine hx_iconst (v := 0) C dL_law_649 (by decide) ?_
  exact w_L_law_650 k189 C hr hlocks hk189 v1 v3 0 X ls h (lv_sub hl [0, 1, 2] rfl)
def f_L_law_595 (L : hL) (xs : Nat → Int32) (Ln : Nat) (k189 : Nat → Int32 → Int32 → hX → Option Int32) (v1 : Nat) (v2 : Int32) (v3 : Int32) (v5 : Int32) (X : hX) : Option Int32 :=
  if v2 = 0 then
    f_L_law_649 L xs Ln k189 v1 v3 X
  else
    (f_L_holds L X v1).bind fun r2 =>
    if r2.1 = 0 then
      f_L_law_649 L xs Ln k189 v1 v3 r2.2
    else
      (f_L_reading L r2.2 v1 (v5 - v5 / 100000 * 100000) (v5 - v5 / 4 * 4)).bind fun r5 =>
      if r5 = 0 then
        f_L_law_649 L xs Ln k189 v1 v3 r2.2
      else
        (f_L_reading L r2.2 v1 ((v5 - v5 / 5000 * 5000) - 4900) ((v5 / 4) - (v5 / 4) / 4 * 4)).bind fun r8 =>
        if r8 = 0 then
          f_L_law_649 L xs Ln k189 v1 v3 r2.2
        else
          f_L_law_650 L xs Ln k189 v1 v3 1 r2.2
set_option maxRecDepth 100000 in
set_option maxHeartbeats 8000000 in
theorem w_L_law_595 {p : Program} {l : Launch} {e : Env} {s : State} {m : MethodId} {below : List Frame} {meth : Method} {c : Code} {dC : Nat → ClassId} {dI : Nat → Nat → Nat} {cy : Nat → ClassId} {ad : Nat → Nat} {L : hL} (k189 : Nat → Int32 → Int32 → hX → Option Int32) (C : hC p s m #[Value.ref (dI 100 0)] meth c dC dI cy ad L (fun q => s.heap.size ≤ q) code 11 wsL_law RL) (hr : meth.sig.returnType = ret) (hlocks : meth.locks = false) (hk189 : ∀ (v1 : Nat) (v2 : Int32) (v3 : Int32) (X : hX) (ls : Array Slot), k189 v1 v2 v3 X = some 1 → lv_has ls 11 [(0, .ref (dI 100 0)), (1, .ref (ad v1)), (2, .int v2), (3, .int v3)] → hG p l e room_1 s m #[Value.ref (dI 100 0)] below meth c dC dI cy ad L (fun q => s.heap.size ≤ q) 470 2617 (lw_Z below #[Value.ref (dI 100 0)] s) X 189 ls []) : ∀ (v1 : Nat) (v2 : Int32) (v3 : Int32) (v5 : Int32) (X : hX) (ls : Array Slot), f_L_law_595 L (sX dI) (dI 100 1) k189 v1 v2 v3 v5 X = some 1 → lv_has ls 11 [(0, .ref (dI 100 0)), (1, .ref (ad v1)), (2, .int v2), (3, .int v3), (5, .int v5)] → hG p l e room_1 s m #[Value.ref (dI 100 0)] below meth c dC dI cy ad L (fun q => s.heap.size ≤ q) 470 2617 (lw_Z below #[Value.ref (dI 100 0)] s) X 595 ls [] := by
  intro v1 v2 v3 v5 X ls h hl
  unfold f_L_law_595 at h
  refine hx_iload_n C dL_law_595 rfl (lv_at hl 2 rfl) ?_
  refine hx_if_eq (tgt := 649) C dL_law_596 (by decide) (fun c1 => ?_) (fun c1 => ?_)
  · have h := hx_pos c1 h
    exact w_L_law_649 k189 C hr hlocks hk189 v1 v3 X ls h (lv_sub hl [0, 1, 3] rfl)
  · have h := hx_neg c1 h
    refine hx_aload_n C dL_law_599 rfl (lv_at hl 1 rfl) ?_
    obtain ⟨r2, e3, h⟩ := hx_bind h
    refine hx_callS (As := [.ref (ad v1)]) (rest := []) (n := 1) C (c_L_holds e3) gL_law_L_holds (by decide +kernel) ⟨Nat.le_of_ble_eq_true rfl, Nat.le_of_ble_eq_true rfl⟩ rfl rfl rfl ⟨Nat.le_of_ble_eq_true rfl, Nat.le_of_ble_eq_true rfl⟩ hl.1 rfl rfl (Nat.le_of_ble_eq_true rfl) dL_law_600 ?_
    refine hx_if_eq (tgt := 649) C dL_law_603 (by decide) (fun c4 => ?_) (fun c4 => ?_)
    · have h := hx_pos c4 h
      exact w_L_law_649 k189 C hr hlocks hk189 v1 v3 r2.2 ls h (lv_sub hl [0, 1, 3] rfl)
    · have h := hx_neg c4 h
      refine hx_aload_n C dL_law_606 rfl (lv_at hl 1 rfl) ?_
      refine hx_iload C dL_law_607 (lv_at hl 4 rfl) ?_
      refine hx_ldc (v := 100000) C (by decide +kernel) dL_law_609 ?_
      refine hx_irem C dL_law_611 (by decide) ?_
      refine hx_iload C dL_law_612 (lv_at hl 4 rfl) ?_
      refine hx_iconst (v := 4) C dL_law_614 (by decide) ?_
      refine hx_irem C dL_law_615 (by decide) ?_
      obtain ⟨r5, e6, h⟩ := hx_bind h
      refine hx_callS (As := [.ref (ad v1), .int (v5 - v5 / 100000 * 100000), .int (v5 - v5 / 4 * 4)]) (rest := []) (n := 3) C (c_L_reading e6) gL_law_L_reading (by decide +kernel) ⟨Nat.le_of_ble_eq_true rfl, Nat.le_of_ble_eq_true rfl⟩ rfl rfl rfl ⟨Nat.le_of_ble_eq_true rfl, Nat.le_of_ble_eq_true rfl⟩ hl.1 rfl rfl (Nat.le_of_ble_eq_true rfl) dL_law_616 ?_
      refine hx_if_eq (tgt := 649) C dL_law_619 (by decide) (fun c7 => ?_) (fun c7 => ?_)
      · have h := hx_pos c7 h
        exact w_L_law_649 k189 C hr hlocks hk189 v1 v3 r2.2 ls h (lv_sub hl [0, 1, 3] rfl)
      · have h := hx_neg c7 h
        refine hx_aload_n C dL_law_622 rfl (lv_at hl 1 rfl) ?_
        refine hx_iload C dL_law_623 (lv_at hl 4 rfl) ?_
        refine hx_sipush (v := 5000) C dL_law_625 (by decide) ?_
        refine hx_irem C dL_law_628 (by decide) ?_
        refine hx_sipush (v := 4900) C dL_law_629 (by decide) ?_
        refine hx_isub C dL_law_632 ?_
        refine hx_iload C dL_law_633 (lv_at hl 4 rfl) ?_
        refine hx_iconst (v := 4) C dL_law_635 (by decide) ?_
        refine hx_idiv C dL_law_636 (by decide) ?_
        refine hx_iconst (v := 4) C dL_law_637 (by decide) ?_
        refine hx_irem C dL_law_638 (by decide) ?_
        obtain ⟨r8, e9, h⟩ := hx_bind h
        refine hx_callS (As := [.ref (ad v1), .int ((v5 - v5 / 5000 * 5000) - 4900), .int ((v5 / 4) - (v5 / 4) / 4 * 4)]) (rest := []) (n := 3) C (c_L_reading e9) gL_law_L_reading (by decide +kernel) ⟨Nat.le_of_ble_eq_true rfl, Nat.le_of_ble_eq_true rfl⟩ rfl rfl rfl ⟨Nat.le_of_ble_eq_true rfl, Nat.le_of_ble_eq_true rfl⟩ hl.1 rfl rfl (Nat.le_of_ble_eq_true rfl) dL_law_639 ?_
        refine hx_if_eq (tgt := 649) C dL_law_642 (by decide) (fun c10 => ?_) (fun c10 => ?_)
        · have h := hx_pos c10 h
          exact w_L_law_649 k189 C hr hlocks hk189 v1 v3 r2.2 ls h (lv_sub hl [0, 1, 3] rfl)
        · have h := hx_neg c10 h
          refine hx_iconst (v := 1) C dL_law_645 (by decide) ?_
          refine hx_goto (tgt := 650) C dL_law_646 (by decide) ?_
          exact w_L_law_650 k189 C hr hlocks hk189 v1 v3 1 r2.2 ls h (lv_sub hl [0, 1, 3] rfl)
def f_L_law_296 (L : hL) (xs : Nat → Int32) (Ln : Nat) (k189 : Nat → Int32 → Int32 → hX → Option Int32) (v1 : Nat) (v3 : Int32) (v5 : Int32) (s0 : Int32) (X : hX) : Option Int32 :=
  f_L_law_595 L xs Ln k189 v1 s0 v3 v5 X
set_option maxRecDepth 100000 in
set_option maxHeartbeats 8000000 in
theorem w_L_law_296 {p : Program} {l : Launch} {e : Env} {s : State} {m : MethodId} {below : List Frame} {meth : Method} {c : Code} {dC : Nat → ClassId} {dI : Nat → Nat → Nat} {cy : Nat → ClassId} {ad : Nat → Nat} {L : hL} (k189 : Nat → Int32 → Int32 → hX → Option Int32) (C : hC p s m #[Value.ref (dI 100 0)] meth c dC dI cy ad L (fun q => s.heap.size ≤ q) code 11 wsL_law RL) (hr : meth.sig.returnType = ret) (hlocks : meth.locks = false) (hk189 : ∀ (v1 : Nat) (v2 : Int32) (v3 : Int32) (X : hX) (ls : Array Slot), k189 v1 v2 v3 X = some 1 → lv_has ls 11 [(0, .ref (dI 100 0)), (1, .ref (ad v1)), (2, .int v2), (3, .int v3)] → hG p l e room_1 s m #[Value.ref (dI 100 0)] below meth c dC dI cy ad L (fun q => s.heap.size ≤ q) 470 2617 (lw_Z below #[Value.ref (dI 100 0)] s) X 189 ls []) : ∀ (v1 : Nat) (v3 : Int32) (v5 : Int32) (s0 : Int32) (X : hX) (ls : Array Slot), f_L_law_296 L (sX dI) (dI 100 1) k189 v1 v3 v5 s0 X = some 1 → lv_has ls 11 [(0, .ref (dI 100 0)), (1, .ref (ad v1)), (3, .int v3), (5, .int v5)] → hG p l e room_1 s m #[Value.ref (dI 100 0)] below meth c dC dI cy ad L (fun q => s.heap.size ≤ q) 470 2617 (lw_Z below #[Value.ref (dI 100 0)] s) X 296 ls [.int s0] := by
  intro v1 v3 v5 s0 X ls h hl
  unfold f_L_law_296 at h
  refine hx_istore_n (lv' := [(2, .int s0), (0, .ref (dI 100 0)), (1, .ref (ad v1)), (3, .int v3), (5, .int v5)]) C dL_law_296 rfl hl (by decide) rfl (fun ls hl => ?_)
  refine hx_goto (tgt := 595) C dL_law_297 (by decide) ?_
  exact w_L_law_595 k189 C hr hlocks hk189 v1 s0 v3 v5 X ls h (lv_sub hl [1, 2, 0, 3, 4] rfl)
def f_L_law_295 (L : hL) (xs : Nat → Int32) (Ln : Nat) (k189 : Nat → Int32 → Int32 → hX → Option Int32) (v1 : Nat) (v3 : Int32) (v5 : Int32) (X : hX) : Option Int32 :=
  f_L_law_296 L xs Ln k189 v1 v3 v5 0 X
set_option maxRecDepth 100000 in
set_option maxHeartbeats 8000000 in
theorem w_L_law_295 {p : Program} {l : Launch} {e : Env} {s : State} {m : MethodId} {below : List Frame} {meth : Method} {c : Code} {dC : Nat → ClassId} {dI : Nat → Nat → Nat} {cy : Nat → ClassId} {ad : Nat → Nat} {L : hL} (k189 : Nat → Int32 → Int32 → hX → Option Int32) (C : hC p s m #[Value.ref (dI 100 0)] meth c dC dI cy ad L (fun q => s.heap.size ≤ q) code 11 wsL_law RL) (hr : meth.sig.returnType = ret) (hlocks : meth.locks = false) (hk189 : ∀ (v1 : Nat) (v2 : Int32) (v3 : Int32) (X : hX) (ls : Array Slot), k189 v1 v2 v3 X = some 1 → lv_has ls 11 [(0, .ref (dI 100 0)), (1, .ref (ad v1)), (2, .int v2), (3, .int v3)] → hG p l e room_1 s m #[Value.ref (dI 100 0)] below meth c dC dI cy ad L (fun q => s.heap.size ≤ q) 470 2617 (lw_Z below #[Value.ref (dI 100 0)] s) X 189 ls []) : ∀ (v1 : Nat) (v3 : Int32) (v5 : Int32) (X : hX) (ls : Array Slot), f_L_law_295 L (sX dI) (dI 100 1) k189 v1 v3 v5 X = some 1 → lv_has ls 11 [(0, .ref (dI 100 0)), (1, .ref (ad v1)), (3, .int v3), (5, .int v5)] → hG p l e room_1 s m #[Value.ref (dI 100 0)] below meth c dC dI cy ad L (fun q => s.heap.size ≤ q) 470 2617 (lw_Z below #[Value.ref (dI 100 0)] s) X 295 ls [] := by
  intro v1 v3 v5 X ls h hl
  unfold f_L_law_295 at h
  refine hx_iconst (v := 0) C dL_law_295 (by decide) ?_
  exact w_L_law_296 k189 C hr hlocks hk189 v1 v3 v5 0 X ls h (lv_sub hl [0, 1, 2, 3] rfl)
def f_L_law_268 (L : hL) (xs : Nat → Int32) (Ln : Nat) (k189 : Nat → Int32 → Int32 → hX → Option Int32) (v1 : Nat) (v3 : Int32) (v5 : Int32) (X : hX) : Option Int32 :=
  (f_X9_setRule L X v1 (v5 - v5 / 4 * 4)).bind fun r11 =>
  if tk L v1 9 then
  if r11.1 < 0 then
    f_L_law_295 L xs Ln k189 v1 v3 v5 r11.2
  else
    (f_X9_count L r11.2 v1 3).bind fun r15 =>
    if r15 = (v5 - v5 / 4 * 4) then
      f_L_law_296 L xs Ln k189 v1 v3 v5 1 r11.2
    else
      f_L_law_295 L xs Ln k189 v1 v3 v5 r11.2
  else none
set_option maxRecDepth 100000 in
set_option maxHeartbeats 8000000 in
theorem w_L_law_268 {p : Program} {l : Launch} {e : Env} {s : State} {m : MethodId} {below : List Frame} {meth : Method} {c : Code} {dC : Nat → ClassId} {dI : Nat → Nat → Nat} {cy : Nat → ClassId} {ad : Nat → Nat} {L : hL} (k189 : Nat → Int32 → Int32 → hX → Option Int32) (C : hC p s m #[Value.ref (dI 100 0)] meth c dC dI cy ad L (fun q => s.heap.size ≤ q) code 11 wsL_law RL) (hr : meth.sig.returnType = ret) (hlocks : meth.locks = false) (hk189 : ∀ (v1 : Nat) (v2 : Int32) (v3 : Int32) (X : hX) (ls : Array Slot), k189 v1 v2 v3 X = some 1 → lv_has ls 11 [(0, .ref (dI 100 0)), (1, .ref (ad v1)), (2, .int v2), (3, .int v3)] → hG p l e room_1 s m #[Value.ref (dI 100 0)] below meth c dC dI cy ad L (fun q => s.heap.size ≤ q) 470 2617 (lw_Z below #[Value.ref (dI 100 0)] s) X 189 ls []) : ∀ (v1 : Nat) (v3 : Int32) (v5 : Int32) (X : hX) (ls : Array Slot), f_L_law_268 L (sX dI) (dI 100 1) k189 v1 v3 v5 X = some 1 → lv_has ls 11 [(0, .ref (dI 100 0)), (1, .ref (ad v1)), (3, .int v3), (5, .int v5)] → hG p l e room_1 s m #[Value.ref (dI 100 0)] below meth c dC dI cy ad L (fun q => s.heap.size ≤ q) 470 2617 (lw_Z below #[Value.ref (dI 100 0)] s) X 268 ls [] := by
  intro v1 v3 v5 X ls h hl
  unfold f_L_law_268 at h
  refine hx_aload_n C dL_law_268 rfl (lv_at hl 1 rfl) ?_
  refine hx_iload C dL_law_269 (lv_at hl 3 rfl) ?_
  refine hx_iconst (v := 4) C dL_law_271 (by decide) ?_
  refine hx_irem C dL_law_272 (by decide) ?_
  obtain ⟨r11, e12, h⟩ := hx_bind h
  obtain ⟨g13, h⟩ := hx_gd h
  refine hx_callV (As := [.int (v5 - v5 / 4 * 4)]) (rest := []) (n := 1) (Cn := RX9) C (c_X9_setRule e12) gL_law_X9_setRule g13 (by decide) rfl (by decide +kernel) ⟨Nat.le_of_ble_eq_true rfl, Nat.le_of_ble_eq_true rfl⟩ rfl rfl rfl ⟨Nat.le_of_ble_eq_true rfl, Nat.le_of_ble_eq_true rfl⟩ hl.1 rfl rfl (Nat.le_of_ble_eq_true rfl) dL_law_273 ?_
  refine hx_if_lt (tgt := 295) C dL_law_276 (by decide) (fun c14 => ?_) (fun c14 => ?_)
  · have h := hx_pos c14 h
    exact w_L_law_295 k189 C hr hlocks hk189 v1 v3 v5 r11.2 ls h (lv_sub hl [0, 1, 2, 3] rfl)
  · have h := hx_neg c14 h
    refine hx_aload_n C dL_law_279 rfl (lv_at hl 1 rfl) ?_
    refine hx_iconst (v := 3) C dL_law_280 (by decide) ?_
    obtain ⟨r15, e16, h⟩ := hx_bind h
    refine hx_callV (As := [.int 3]) (rest := []) (n := 1) (Cn := RX9) C (c_X9_count e16) gL_law_X9_count g13 (by decide) rfl (by decide +kernel) ⟨Nat.le_of_ble_eq_true rfl, Nat.le_of_ble_eq_true rfl⟩ rfl rfl rfl ⟨Nat.le_of_ble_eq_true rfl, Nat.le_of_ble_eq_true rfl⟩ hl.1 rfl rfl (Nat.le_of_ble_eq_true rfl) dL_law_281 ?_
    refine hx_iload C dL_law_284 (lv_at hl 3 rfl) ?_
    refine hx_iconst (v := 4) C dL_law_286 (by decide) ?_
    refine hx_irem C dL_law_287 (by decide) ?_
    refine hx_icmp_ne (tgt := 295) C dL_law_288 (by decide) (fun c17 => ?_) (fun c17 => ?_)
    · have h := hx_neg c17 h
      exact w_L_law_295 k189 C hr hlocks hk189 v1 v3 v5 r11.2 ls h (lv_sub hl [0, 1, 2, 3] rfl)
    · have h := hx_pos c17 h
      refine hx_iconst (v := 1) C dL_law_291 (by decide) ?_
      refine hx_goto (tgt := 296) C dL_law_292 (by decide) ?_
      exact w_L_law_296 k189 C hr hlocks hk189 v1 v3 v5 1 r11.2 ls h (lv_sub hl [0, 1, 2, 3] rfl)
def f_L_law_300 (L : hL) (xs : Nat → Int32) (Ln : Nat) (k189 : Nat → Int32 → Int32 → hX → Option Int32) (v1 : Nat) (v3 : Int32) (v5 : Int32) (X : hX) : Option Int32 :=
  (f_L_apart L X v1 (v5 - v5 / 4 * 4) (v5 / 4)).bind fun r18 =>
  f_L_law_595 L xs Ln k189 v1 r18.1 v3 v5 r18.2
set_option maxRecDepth 100000 in
set_option maxHeartbeats 8000000 in
theorem w_L_law_300 {p : Program} {l : Launch} {e : Env} {s : State} {m : MethodId} {below : List Frame} {meth : Method} {c : Code} {dC : Nat → ClassId} {dI : Nat → Nat → Nat} {cy : Nat → ClassId} {ad : Nat → Nat} {L : hL} (k189 : Nat → Int32 → Int32 → hX → Option Int32) (C : hC p s m #[Value.ref (dI 100 0)] meth c dC dI cy ad L (fun q => s.heap.size ≤ q) code 11 wsL_law RL) (hr : meth.sig.returnType = ret) (hlocks : meth.locks = false) (hk189 : ∀ (v1 : Nat) (v2 : Int32) (v3 : Int32) (X : hX) (ls : Array Slot), k189 v1 v2 v3 X = some 1 → lv_has ls 11 [(0, .ref (dI 100 0)), (1, .ref (ad v1)), (2, .int v2), (3, .int v3)] → hG p l e room_1 s m #[Value.ref (dI 100 0)] below meth c dC dI cy ad L (fun q => s.heap.size ≤ q) 470 2617 (lw_Z below #[Value.ref (dI 100 0)] s) X 189 ls []) : ∀ (v1 : Nat) (v3 : Int32) (v5 : Int32) (X : hX) (ls : Array Slot), f_L_law_300 L (sX dI) (dI 100 1) k189 v1 v3 v5 X = some 1 → lv_has ls 11 [(0, .ref (dI 100 0)), (1, .ref (ad v1)), (3, .int v3), (5, .int v5)] → hG p l e room_1 s m #[Value.ref (dI 100 0)] below meth c dC dI cy ad L (fun q => s.heap.size ≤ q) 470 2617 (lw_Z below #[Value.ref (dI 100 0)] s) X 300 ls [] := by
  intro v1 v3 v5 X ls h hl
  unfold f_L_law_300 at h
  refine hx_aload_n C dL_law_300 rfl (lv_at hl 1 rfl) ?_
  refine hx_iload C dL_law_301 (lv_at hl 3 rfl) ?_
  refine hx_iconst (v := 4) C dL_law_303 (by decide) ?_
  refine hx_irem C dL_law_304 (by decide) ?_
  refine hx_iload C dL_law_305 (lv_at hl 3 rfl) ?_
  refine hx_iconst (v := 4) C dL_law_307 (by decide) ?_
  refine hx_idiv C dL_law_308 (by decide) ?_
  obtain ⟨r18, e19, h⟩ := hx_bind h
  refine hx_callS (As := [.ref (ad v1), .int (v5 - v5 / 4 * 4), .int (v5 / 4)]) (rest := []) (n := 3) C (c_L_apart e19) gL_law_L_apart (by decide +kernel) ⟨Nat.le_of_ble_eq_true rfl, Nat.le_of_ble_eq_true rfl⟩ rfl rfl rfl ⟨Nat.le_of_ble_eq_true rfl, Nat.le_of_ble_eq_true rfl⟩ hl.1 rfl rfl (Nat.le_of_ble_eq_true rfl) dL_law_309 ?_
  refine hx_istore_n (lv' := [(2, .int r18.1), (0, .ref (dI 100 0)), (1, .ref (ad v1)), (3, .int v3), (5, .int v5)]) C dL_law_312 rfl hl (by decide) rfl (fun ls hl => ?_)
  refine hx_goto (tgt := 595) C dL_law_313 (by decide) ?_
  exact w_L_law_595 k189 C hr hlocks hk189 v1 r18.1 v3 v5 r18.2 ls h (lv_sub hl [1, 2, 0, 3, 4] rfl)
def f_L_law_370 (L : hL) (xs : Nat → Int32) (Ln : Nat) (k189 : Nat → Int32 → Int32 → hX → Option Int32) (v1 : Nat) (v3 : Int32) (v5 : Int32) (s0 : Int32) (X : hX) : Option Int32 :=
  f_L_law_595 L xs Ln k189 v1 s0 v3 v5 X
set_option maxRecDepth 100000 in
set_option maxHeartbeats 8000000 in
theorem w_L_law_370 {p : Program} {l : Launch} {e : Env} {s : State} {m : MethodId} {below : List Frame} {meth : Method} {c : Code} {dC : Nat → ClassId} {dI : Nat → Nat → Nat} {cy : Nat → ClassId} {ad : Nat → Nat} {L : hL} (k189 : Nat → Int32 → Int32 → hX → Option Int32) (C : hC p s m #[Value.ref (dI 100 0)] meth c dC dI cy ad L (fun q => s.heap.size ≤ q) code 11 wsL_law RL) (hr : meth.sig.returnType = ret) (hlocks : meth.locks = false) (hk189 : ∀ (v1 : Nat) (v2 : Int32) (v3 : Int32) (X : hX) (ls : Array Slot), k189 v1 v2 v3 X = some 1 → lv_has ls 11 [(0, .ref (dI 100 0)), (1, .ref (ad v1)), (2, .int v2), (3, .int v3)] → hG p l e room_1 s m #[Value.ref (dI 100 0)] below meth c dC dI cy ad L (fun q => s.heap.size ≤ q) 470 2617 (lw_Z below #[Value.ref (dI 100 0)] s) X 189 ls []) : ∀ (v1 : Nat) (v3 : Int32) (v5 : Int32) (s0 : Int32) (X : hX) (ls : Array Slot), f_L_law_370 L (sX dI) (dI 100 1) k189 v1 v3 v5 s0 X = some 1 → lv_has ls 11 [(0, .ref (dI 100 0)), (1, .ref (ad v1)), (3, .int v3), (5, .int v5)] → hG p l e room_1 s m #[Value.ref (dI 100 0)] below meth c dC dI cy ad L (fun q => s.heap.size ≤ q) 470 2617 (lw_Z below #[Value.ref (dI 100 0)] s) X 370 ls [.int s0] := by
  intro v1 v3 v5 s0 X ls h hl
  unfold f_L_law_370 at h
  refine hx_istore_n (lv' := [(2, .int s0), (0, .ref (dI 100 0)), (1, .ref (ad v1)), (3, .int v3), (5, .int v5)]) C dL_law_370 rfl hl (by decide) rfl (fun ls hl => ?_)
  refine hx_goto (tgt := 595) C dL_law_371 (by decide) ?_
  exact w_L_law_595 k189 C hr hlocks hk189 v1 s0 v3 v5 X ls h (lv_sub hl [1, 2, 0, 3, 4] rfl)
def f_L_law_369 (L : hL) (xs : Nat → Int32) (Ln : Nat) (k189 : Nat → Int32 → Int32 → hX → Option Int32) (v1 : Nat) (v3 : Int32) (v5 : Int32) (X : hX) : Option Int32 :=
  f_L_law_370 L xs Ln k189 v1 v3 v5 0 X
set_option maxRecDepth 100000 in
set_option maxHeartbeats 8000000 in
theorem w_L_law_369 {p : Program} {l : Launch} {e : Env} {s : State} {m : MethodId} {below : List Frame} {meth : Method} {c : Code} {dC : Nat → ClassId} {dI : Nat → Nat → Nat} {cy : Nat → ClassId} {ad : Nat → Nat} {L : hL} (k189 : Nat → Int32 → Int32 → hX → Option Int32) (C : hC p s m #[Value.ref (dI 100 0)] meth c dC dI cy ad L (fun q => s.heap.size ≤ q) code 11 wsL_law RL) (hr : meth.sig.returnType = ret) (hlocks : meth.locks = false) (hk189 : ∀ (v1 : Nat) (v2 : Int32) (v3 : Int32) (X : hX) (ls : Array Slot), k189 v1 v2 v3 X = some 1 → lv_has ls 11 [(0, .ref (dI 100 0)), (1, .ref (ad v1)), (2, .int v2), (3, .int v3)] → hG p l e room_1 s m #[Value.ref (dI 100 0)] below meth c dC dI cy ad L (fun q => s.heap.size ≤ q) 470 2617 (lw_Z below #[Value.ref (dI 100 0)] s) X 189 ls []) : ∀ (v1 : Nat) (v3 : Int32) (v5 : Int32) (X : hX) (ls : Array Slot), f_L_law_369 L (sX dI) (dI 100 1) k189 v1 v3 v5 X = some 1 → lv_has ls 11 [(0, .ref (dI 100 0)), (1, .ref (ad v1)), (3, .int v3), (5, .int v5)] → hG p l e room_1 s m #[Value.ref (dI 100 0)] below meth c dC dI cy ad L (fun q => s.heap.size ≤ q) 470 2617 (lw_Z below #[Value.ref (dI 100 0)] s) X 369 ls [] := by
  intro v1 v3 v5 X ls h hl
  unfold f_L_law_369 at h
  refine hx_iconst (v := 0) C dL_law_369 (by decide) ?_
  exact w_L_law_370 k189 C hr hlocks hk189 v1 v3 v5 0 X ls h (lv_sub hl [0, 1, 2, 3] rfl)
def f_L_law_316 (L : hL) (xs : Nat → Int32) (Ln : Nat) (k189 : Nat → Int32 → Int32 → hX → Option Int32) (v1 : Nat) (v3 : Int32) (v5 : Int32) (X : hX) : Option Int32 :=
  (f_X9_count L X v1 1).bind fun r20 =>
  if tk L v1 9 then
  if ¬ ((2 * r20) + 1) = 0 then
  (f_X9_setBias L X v1 ((v5 - v5 / ((2 * r20) + 1) * ((2 * r20) + 1)) - r20)).bind fun r24 =>
  if r24.1 < (-r20) then
    f_L_law_369 L xs Ln k189 v1 v3 v5 r24.2
  else
    (f_X9_count L r24.2 v1 2).bind fun r27 =>
    if r27 = ((v5 - v5 / ((2 * r20) + 1) * ((2 * r20) + 1)) - r20) then
      f_L_law_370 L xs Ln k189 v1 v3 v5 1 r24.2
    else
      f_L_law_369 L xs Ln k189 v1 v3 v5 r24.2
  else none
  else none
set_option maxRecDepth 100000 in
set_option maxHeartbeats 8000000 in
theorem w_L_law_316 {p : Program} {l : Launch} {e : Env} {s : State} {m : MethodId} {below : List Frame} {meth : Method} {c : Code} {dC : Nat → ClassId} {dI : Nat → Nat → Nat} {cy : Nat → ClassId} {ad : Nat → Nat} {L : hL} (k189 : Nat → Int32 → Int32 → hX → Option Int32) (C : hC p s m #[Value.ref (dI 100 0)] meth c dC dI cy ad L (fun q => s.heap.size ≤ q) code 11 wsL_law RL) (hr : meth.sig.returnType = ret) (hlocks : meth.locks = false) (hk189 : ∀ (v1 : Nat) (v2 : Int32) (v3 : Int32) (X : hX) (ls : Array Slot), k189 v1 v2 v3 X = some 1 → lv_has ls 11 [(0, .ref (dI 100 0)), (1, .ref (ad v1)), (2, .int v2), (3, .int v3)] → hG p l e room_1 s m #[Value.ref (dI 100 0)] below meth c dC dI cy ad L (fun q => s.heap.size ≤ q) 470 2617 (lw_Z below #[Value.ref (dI 100 0)] s) X 189 ls []) : ∀ (v1 : Nat) (v3 : Int32) (v5 : Int32) (X : hX) (ls : Array Slot), f_L_law_316 L (sX dI) (dI 100 1) k189 v1 v3 v5 X = some 1 → lv_has ls 11 [(0, .ref (dI 100 0)), (1, .ref (ad v1)), (3, .int v3), (5, .int v5)] → hG p l e room_1 s m #[Value.ref (dI 100 0)] below meth c dC dI cy ad L (fun q => s.heap.size ≤ q) 470 2617 (lw_Z below #[Value.ref (dI 100 0)] s) X 316 ls [] := by
  intro v1 v3 v5 X ls h hl
  unfold f_L_law_316 at h
  refine hx_aload_n C dL_law_316 rfl (lv_at hl 1 rfl) ?_
  refine hx_iconst (v := 1) C dL_law_317 (by decide) ?_
  obtain ⟨r20, e21, h⟩ := hx_bind h
  obtain ⟨g22, h⟩ := hx_gd h
  refine hx_callV (As := [.int 1]) (rest := []) (n := 1) (Cn := RX9) C (c_X9_count e21) gL_law_X9_count g22 (by decide) rfl (by decide +kernel) ⟨Nat.le_of_ble_eq_true rfl, Nat.le_of_ble_eq_true rfl⟩ rfl rfl rfl ⟨Nat.le_of_ble_eq_true rfl, Nat.le_of_ble_eq_true rfl⟩ hl.1 rfl rfl (Nat.le_of_ble_eq_true rfl) dL_law_318 ?_
  refine hx_istore (lv' := [(7, .int r20), (0, .ref (dI 100 0)), (1, .ref (ad v1)), (3, .int v3), (5, .int v5)]) C dL_law_321 hl (by decide) rfl (fun ls hl => ?_)
  refine hx_aload_n C dL_law_323 rfl (lv_at hl 2 rfl) ?_
  refine hx_iload C dL_law_324 (lv_at hl 4 rfl) ?_
  refine hx_iconst (v := 2) C dL_law_326 (by decide) ?_
  refine hx_iload C dL_law_327 (lv_at hl 0 rfl) ?_
  refine hx_imul C dL_law_329 ?_
  refine hx_iconst (v := 1) C dL_law_330 (by decide) ?_
  refine hx_iadd C dL_law_331 ?_
  obtain ⟨g23, h⟩ := hx_gd h
  refine hx_irem C dL_law_332 g23 ?_
  refine hx_iload C dL_law_333 (lv_at hl 0 rfl) ?_
  refine hx_isub C dL_law_335 ?_
  obtain ⟨r24, e25, h⟩ := hx_bind h
  refine hx_callV (As := [.int ((v5 - v5 / ((2 * r20) + 1) * ((2 * r20) + 1)) - r20)]) (rest := []) (n := 1) (Cn := RX9) C (c_X9_setBias e25) gL_law_X9_setBias g22 (by decide) rfl (by decide +kernel) ⟨Nat.le_of_ble_eq_true rfl, Nat.le_of_ble_eq_true rfl⟩ rfl rfl rfl ⟨Nat.le_of_ble_eq_true rfl, Nat.le_of_ble_eq_true rfl⟩ hl.1 rfl rfl (Nat.le_of_ble_eq_true rfl) dL_law_336 ?_
  refine hx_iload C dL_law_339 (lv_at hl 0 rfl) ?_
  refine hx_ineg C dL_law_341 ?_
  refine hx_icmp_lt (tgt := 369) C dL_law_342 (by decide) (fun c26 => ?_) (fun c26 => ?_)
  · have h := hx_pos c26 h
    exact w_L_law_369 k189 C hr hlocks hk189 v1 v3 v5 r24.2 ls h (lv_sub hl [1, 2, 3, 4] rfl)
  · have h := hx_neg c26 h
    refine hx_aload_n C dL_law_345 rfl (lv_at hl 2 rfl) ?_
    refine hx_iconst (v := 2) C dL_law_346 (by decide) ?_
    obtain ⟨r27, e28, h⟩ := hx_bind h
    refine hx_callV (As := [.int 2]) (rest := []) (n := 1) (Cn := RX9) C (c_X9_count e28) gL_law_X9_count g22 (by decide) rfl (by decide +kernel) ⟨Nat.le_of_ble_eq_true rfl, Nat.le_of_ble_eq_true rfl⟩ rfl rfl rfl ⟨Nat.le_of_ble_eq_true rfl, Nat.le_of_ble_eq_true rfl⟩ hl.1 rfl rfl (Nat.le_of_ble_eq_true rfl) dL_law_347 ?_
    refine hx_iload C dL_law_350 (lv_at hl 4 rfl) ?_
    refine hx_iconst (v := 2) C dL_law_352 (by decide) ?_
    refine hx_iload C dL_law_353 (lv_at hl 0 rfl) ?_
    refine hx_imul C dL_law_355 ?_
    refine hx_iconst (v := 1) C dL_law_356 (by decide) ?_
    refine hx_iadd C dL_law_357 ?_
    refine hx_irem C dL_law_358 g23 ?_
    refine hx_iload C dL_law_359 (lv_at hl 0 rfl) ?_
    refine hx_isub C dL_law_361 ?_
    refine hx_icmp_ne (tgt := 369) C dL_law_362 (by decide) (fun c29 => ?_) (fun c29 => ?_)
    · have h := hx_neg c29 h
      exact w_L_law_369 k189 C hr hlocks hk189 v1 v3 v5 r24.2 ls h (lv_sub hl [1, 2, 3, 4] rfl)
    · have h := hx_pos c29 h
      refine hx_iconst (v := 1) C dL_law_365 (by decide) ?_
      refine hx_goto (tgt := 370) C dL_law_366 (by decide) ?_
      exact w_L_law_370 k189 C hr hlocks hk189 v1 v3 v5 1 r24.2 ls h (lv_sub hl [1, 2, 3, 4] rfl)
def f_L_law_374 (L : hL) (xs : Nat → Int32) (Ln : Nat) (k189 : Nat → Int32 → Int32 → hX → Option Int32) (v1 : Nat) (v3 : Int32) (v5 : Int32) (v6 : Int32) (X : hX) : Option Int32 :=
  (f_L_claims L X v1 v6 (v5 / 8)).bind fun r30 =>
  f_L_law_595 L xs Ln k189 v1 r30.1 v3 v5 r30.2
set_option maxRecDepth 100000 in
set_option maxHeartbeats 8000000 in
theorem w_L_law_374 {p : Program} {l : Launch} {e : Env} {s : State} {m : MethodId} {below : List Frame} {meth : Method} {c : Code} {dC : Nat → ClassId} {dI : Nat → Nat → Nat} {cy : Nat → ClassId} {ad : Nat → Nat} {L : hL} (k189 : Nat → Int32 → Int32 → hX → Option Int32) (C : hC p s m #[Value.ref (dI 100 0)] meth c dC dI cy ad L (fun q => s.heap.size ≤ q) code 11 wsL_law RL) (hr : meth.sig.returnType = ret) (hlocks : meth.locks = false) (hk189 : ∀ (v1 : Nat) (v2 : Int32) (v3 : Int32) (X : hX) (ls : Array Slot), k189 v1 v2 v3 X = some 1 → lv_has ls 11 [(0, .ref (dI 100 0)), (1, .ref (ad v1)), (2, .int v2), (3, .int v3)] → hG p l e room_1 s m #[Value.ref (dI 100 0)] below meth c dC dI cy ad L (fun q => s.heap.size ≤ q) 470 2617 (lw_Z below #[Value.ref (dI 100 0)] s) X 189 ls []) : ∀ (v1 : Nat) (v3 : Int32) (v5 : Int32) (v6 : Int32) (X : hX) (ls : Array Slot), f_L_law_374 L (sX dI) (dI 100 1) k189 v1 v3 v5 v6 X = some 1 → lv_has ls 11 [(0, .ref (dI 100 0)), (1, .ref (ad v1)), (3, .int v3), (5, .int v5), (6, .int v6)] → hG p l e room_1 s m #[Value.ref (dI 100 0)] below meth c dC dI cy ad L (fun q => s.heap.size ≤ q) 470 2617 (lw_Z below #[Value.ref (dI 100 0)] s) X 374 ls [] := by
  intro v1 v3 v5 v6 X ls h hl
  unfold f_L_law_374 at h
  refine hx_aload_n C dL_law_374 rfl (lv_at hl 1 rfl) ?_
  refine hx_iload C dL_law_375 (lv_at hl 4 rfl) ?_
  refine hx_iload C dL_law_377 (lv_at hl 3 rfl) ?_
  refine hx_bipush (v := 8) C dL_law_379 (by decide) ?_
  refine hx_idiv C dL_law_381 (by decide) ?_
  obtain ⟨r30, e31, h⟩ := hx_bind h
  refine hx_callS (As := [.ref (ad v1), .int v6, .int (v5 / 8)]) (rest := []) (n := 3) C (c_L_claims e31) gL_law_L_claims (by decide +kernel) ⟨Nat.le_of_ble_eq_true rfl, Nat.le_of_ble_eq_true rfl⟩ rfl rfl rfl ⟨Nat.le_of_ble_eq_true rfl, Nat.le_of_ble_eq_true rfl⟩ hl.1 rfl rfl (Nat.le_of_ble_eq_true rfl) dL_law_382 ?_
  refine hx_istore_n (lv' := [(2, .int r30.1), (0, .ref (dI 100 0)), (1, .ref (ad v1)), (3, .int v3), (5, .int v5), (6, .int v6)]) C dL_law_385 rfl hl (by decide) rfl (fun ls hl => ?_)
  refine hx_goto (tgt := 595) C dL_law_386 (by decide) ?_
  exact w_L_law_595 k189 C hr hlocks hk189 v1 r30.1 v3 v5 r30.2 ls h (lv_sub hl [1, 2, 0, 3, 4] rfl)
def f_L_law_487 (L : hL) (xs : Nat → Int32) (Ln : Nat) (k189 : Nat → Int32 → Int32 → hX → Option Int32) (v1 : Nat) (v3 : Int32) (v5 : Int32) (s0 : Int32) (X : hX) : Option Int32 :=
  f_L_law_595 L xs Ln k189 v1 s0 v3 v5 X
set_option maxRecDepth 100000 in
set_option maxHeartbeats 8000000 in
theorem w_L_law_487 {p : Program} {l : Launch} {e : Env} {s : State} {m : MethodId} {below : List Frame} {meth : Method} {c : Code} {dC : Nat → ClassId} {dI : Nat → Nat → Nat} {cy : Nat → ClassId} {ad : Nat → Nat} {L : hL} (k189 : Nat → Int32 → Int32 → hX → Option Int32) (C : hC p s m #[Value.ref (dI 100 0)] meth c dC dI cy ad L (fun q => s.heap.size ≤ q) code 11 wsL_law RL) (hr : meth.sig.returnType = ret) (hlocks : meth.locks = false) (hk189 : ∀ (v1 : Nat) (v2 : Int32) (v3 : Int32) (X : hX) (ls : Array Slot), k189 v1 v2 v3 X = some 1 → lv_has ls 11 [(0, .ref (dI 100 0)), (1, .ref (ad v1)), (2, .int v2), (3, .int v3)] → hG p l e room_1 s m #[Value.ref (dI 100 0)] below meth c dC dI cy ad L (fun q => s.heap.size ≤ q) 470 2617 (lw_Z below #[Value.ref (dI 100 0)] s) X 189 ls []) : ∀ (v1 : Nat) (v3 : Int32) (v5 : Int32) (s0 : Int32) (X : hX) (ls : Array Slot), f_L_law_487 L (sX dI) (dI 100 1) k189 v1 v3 v5 s0 X = some 1 → lv_has ls 11 [(0, .ref (dI 100 0)), (1, .ref (ad v1)), (3, .int v3), (5, .int v5)] → hG p l e room_1 s m #[Value.ref (dI 100 0)] below meth c dC dI cy ad L (fun q => s.heap.size ≤ q) 470 2617 (lw_Z below #[Value.ref (dI 100 0)] s) X 487 ls [.int s0] := by
  intro v1 v3 v5 s0 X ls h hl
  unfold f_L_law_487 at h
  refine hx_istore_n (lv' := [(2, .int s0), (0, .ref (dI 100 0)), (1, .ref (ad v1)), (3, .int v3), (5, .int v5)]) C dL_law_487 rfl hl (by decide) rfl (fun ls hl => ?_)
  refine hx_goto (tgt := 595) C dL_law_488 (by decide) ?_
  exact w_L_law_595 k189 C hr hlocks hk189 v1 s0 v3 v5 X ls h (lv_sub hl [1, 2, 0, 3, 4] rfl)
def f_L_law_482 (L : hL) (xs : Nat → Int32) (Ln : Nat) (k189 : Nat → Int32 → Int32 → hX → Option Int32) (v1 : Nat) (v3 : Int32) (v5 : Int32) (X : hX) : Option Int32 :=
  f_L_law_487 L xs Ln k189 v1 v3 v5 1 X
set_option maxRecDepth 100000 in
set_option maxHeartbeats 8000000 in
theorem w_L_law_482 {p : Program} {l : Launch} {e : Env} {s : State} {m : MethodId} {below : List Frame} {meth : Method} {c : Code} {dC : Nat → ClassId} {dI : Nat → Nat → Nat} {cy : Nat → ClassId} {ad : Nat → Nat} {L : hL} (k189 : Nat → Int32 → Int32 → hX → Option Int32) (C : hC p s m #[Value.ref (dI 100 0)] meth c dC dI cy ad L (fun q => s.heap.size ≤ q) code 11 wsL_law RL) (hr : meth.sig.returnType = ret) (hlocks : meth.locks = false) (hk189 : ∀ (v1 : Nat) (v2 : Int32) (v3 : Int32) (X : hX) (ls : Array Slot), k189 v1 v2 v3 X = some 1 → lv_has ls 11 [(0, .ref (dI 100 0)), (1, .ref (ad v1)), (2, .int v2), (3, .int v3)] → hG p l e room_1 s m #[Value.ref (dI 100 0)] below meth c dC dI cy ad L (fun q => s.heap.size ≤ q) 470 2617 (lw_Z below #[Value.ref (dI 100 0)] s) X 189 ls []) : ∀ (v1 : Nat) (v3 : Int32) (v5 : Int32) (X : hX) (ls : Array Slot), f_L_law_482 L (sX dI) (dI 100 1) k189 v1 v3 v5 X = some 1 → lv_has ls 11 [(0, .ref (dI 100 0)), (1, .ref (ad v1)), (3, .int v3), (5, .int v5)] → hG p l e room_1 s m #[Value.ref (dI 100 0)] below meth c dC dI cy ad L (fun q => s.heap.size ≤ q) 470 2617 (lw_Z below #[Value.ref (dI 100 0)] s) X 482 ls [] := by
  intro v1 v3 v5 X ls h hl
  unfold f_L_law_482 at h
  refine hx_iconst (v := 1) C dL_law_482 (by decide) ?_
  refine hx_goto (tgt := 487) C dL_law_483 (by decide) ?_
  exact w_L_law_487 k189 C hr hlocks hk189 v1 v3 v5 1 X ls h (lv_sub hl [0, 1, 2, 3] rfl)
def f_L_law_486 (L : hL) (xs : Nat → Int32) (Ln : Nat) (k189 : Nat → Int32 → Int32 → hX → Option Int32) (v1 : Nat) (v3 : Int32) (v5 : Int32) (X : hX) : Option Int32 :=
  f_L_law_487 L xs Ln k189 v1 v3 v5 0 X
set_option maxRecDepth 100000 in
set_option maxHeartbeats 8000000 in
theorem w_L_law_486 {p : Program} {l : Launch} {e : Env} {s : State} {m : MethodId} {below : List Frame} {meth : Method} {c : Code} {dC : Nat → ClassId} {dI : Nat → Nat → Nat} {cy : Nat → ClassId} {ad : Nat → Nat} {L : hL} (k189 : Nat → Int32 → Int32 → hX → Option Int32) (C : hC p s m #[Value.ref (dI 100 0)] meth c dC dI cy ad L (fun q => s.heap.size ≤ q) code 11 wsL_law RL) (hr : meth.sig.returnType = ret) (hlocks : meth.locks = false) (hk189 : ∀ (v1 : Nat) (v2 : Int32) (v3 : Int32) (X : hX) (ls : Array Slot), k189 v1 v2 v3 X = some 1 → lv_has ls 11 [(0, .ref (dI 100 0)), (1, .ref (ad v1)), (2, .int v2), (3, .int v3)] → hG p l e room_1 s m #[Value.ref (dI 100 0)] below meth c dC dI cy ad L (fun q => s.heap.size ≤ q) 470 2617 (lw_Z below #[Value.ref (dI 100 0)] s) X 189 ls []) : ∀ (v1 : Nat) (v3 : Int32) (v5 : Int32) (X : hX) (ls : Array Slot), f_L_law_486 L (sX dI) (dI 100 1) k189 v1 v3 v5 X = some 1 → lv_has ls 11 [(0, .ref (dI 100 0)), (1, .ref (ad v1)), (3, .int v3), (5, .int v5)] → hG p l e room_1 s m #[Value.ref (dI 100 0)] below meth c dC dI cy ad L (fun q => s.heap.size ≤ q) 470 2617 (lw_Z below #[Value.ref (dI 100 0)] s) X 486 ls [] := by
  intro v1 v3 v5 X ls h hl
  unfold f_L_law_486 at h
  refine hx_iconst (v := 0) C dL_law_486 (by decide) ?_
  exact w_L_law_487 k189 C hr hlocks hk189 v1 v3 v5 0 X ls h (lv_sub hl [0, 1, 2, 3] rfl)
def f_L_law_389 (L : hL) (xs : Nat → Int32) (Ln : Nat) (k189 : Nat → Int32 → Int32 → hX → Option Int32) (v1 : Nat) (v3 : Int32) (v5 : Int32) (v6 : Int32) (X : hX) : Option Int32 :=
  (f_X9_count L X v1 6).bind fun r32 =>
  if tk L v1 9 then
  if ¬ r32 = 0 then
  (f_X9_customer L X v1 v6 0).bind fun r36 =>
  (f_X9_buy L X v1 v6 ((v5 / 8) - (v5 / 8) / r32 * r32) (1 + ((v5 / 64) - (v5 / 64) / 5 * 5))).bind fun r38 =>
  if r38.1 = (-100002) then
    f_L_law_482 L xs Ln k189 v1 v3 v5 r38.2
  else
    if r38.1 = (-100003) then
      f_L_law_482 L xs Ln k189 v1 v3 v5 r38.2
    else
      (f_X9_prize L r38.2 v1 ((v5 / 8) - (v5 / 8) / r32 * r32) 0).bind fun r42 =>
      if r38.1 = (r36 - ((1 + ((v5 / 64) - (v5 / 64) / 5 * 5)) * r42)) then
        (f_X9_customer L r38.2 v1 v6 0).bind fun r45 =>
        if r38.1 = r45 then
          f_L_law_482 L xs Ln k189 v1 v3 v5 r38.2
        else
          f_L_law_486 L xs Ln k189 v1 v3 v5 r38.2
      else
        f_L_law_486 L xs Ln k189 v1 v3 v5 r38.2
  else none
  else none
set_option maxRecDepth 100000 in
set_option maxHeartbeats 8000000 in
theorem w_L_law_389 {p : Program} {l : Launch} {e : Env} {s : State} {m : MethodId} {below : List Frame} {meth : Method} {c : Code} {dC : Nat → ClassId} {dI : Nat → Nat → Nat} {cy : Nat → ClassId} {ad : Nat → Nat} {L : hL} (k189 : Nat → Int32 → Int32 → hX → Option Int32) (C : hC p s m #[Value.ref (dI 100 0)] meth c dC dI cy ad L (fun q => s.heap.size ≤ q) code 11 wsL_law RL) (hr : meth.sig.returnType = ret) (hlocks : meth.locks = false) (hk189 : ∀ (v1 : Nat) (v2 : Int32) (v3 : Int32) (X : hX) (ls : Array Slot), k189 v1 v2 v3 X = some 1 → lv_has ls 11 [(0, .ref (dI 100 0)), (1, .ref (ad v1)), (2, .int v2), (3, .int v3)] → hG p l e room_1 s m #[Value.ref (dI 100 0)] below meth c dC dI cy ad L (fun q => s.heap.size ≤ q) 470 2617 (lw_Z below #[Value.ref (dI 100 0)] s) X 189 ls []) : ∀ (v1 : Nat) (v3 : Int32) (v5 : Int32) (v6 : Int32) (X : hX) (ls : Array Slot), f_L_law_389 L (sX dI) (dI 100 1) k189 v1 v3 v5 v6 X = some 1 → lv_has ls 11 [(0, .ref (dI 100 0)), (1, .ref (ad v1)), (3, .int v3), (5, .int v5), (6, .int v6)] → hG p l e room_1 s m #[Value.ref (dI 100 0)] below meth c dC dI cy ad L (fun q => s.heap.size ≤ q) 470 2617 (lw_Z below #[Value.ref (dI 100 0)] s) X 389 ls [] := by
  intro v1 v3 v5 v6 X ls h hl
  unfold f_L_law_389 at h
  refine hx_iload C dL_law_389 (lv_at hl 3 rfl) ?_
  refine hx_bipush (v := 8) C dL_law_391 (by decide) ?_
  refine hx_idiv C dL_law_393 (by decide) ?_
  refine hx_aload_n C dL_law_394 rfl (lv_at hl 1 rfl) ?_
  refine hx_bipush (v := 6) C dL_law_395 (by decide) ?_
  obtain ⟨r32, e33, h⟩ := hx_bind h
  obtain ⟨g34, h⟩ := hx_gd h
  refine hx_callV (As := [.int 6]) (rest := [.int (v5 / 8)]) (n := 1) (Cn := RX9) C (c_X9_count e33) gL_law_X9_count g34 (by decide) rfl (by decide +kernel) ⟨Nat.le_of_ble_eq_true rfl, Nat.le_of_ble_eq_true rfl⟩ rfl rfl rfl ⟨Nat.le_of_ble_eq_true rfl, Nat.le_of_ble_eq_true rfl⟩ hl.1 rfl rfl (Nat.le_of_ble_eq_true rfl) dL_law_397 ?_
  obtain ⟨g35, h⟩ := hx_gd h
  refine hx_irem C dL_law_400 g35 ?_
  refine hx_istore (lv' := [(8, .int ((v5 / 8) - (v5 / 8) / r32 * r32)), (0, .ref (dI 100 0)), (1, .ref (ad v1)), (3, .int v3), (5, .int v5), (6, .int v6)]) C dL_law_401 hl (by decide) rfl (fun ls hl => ?_)
  refine hx_aload_n C dL_law_403 rfl (lv_at hl 2 rfl) ?_
  refine hx_iload C dL_law_404 (lv_at hl 5 rfl) ?_
  refine hx_iconst (v := 0) C dL_law_406 (by decide) ?_
  obtain ⟨r36, e37, h⟩ := hx_bind h
  refine hx_callV (As := [.int v6, .int 0]) (rest := []) (n := 2) (Cn := RX9) C (c_X9_customer e37) gL_law_X9_customer g34 (by decide) rfl (by decide +kernel) ⟨Nat.le_of_ble_eq_true rfl, Nat.le_of_ble_eq_true rfl⟩ rfl rfl rfl ⟨Nat.le_of_ble_eq_true rfl, Nat.le_of_ble_eq_true rfl⟩ hl.1 rfl rfl (Nat.le_of_ble_eq_true rfl) dL_law_407 ?_
  refine hx_istore (lv' := [(9, .int r36), (8, .int ((v5 / 8) - (v5 / 8) / r32 * r32)), (0, .ref (dI 100 0)), (1, .ref (ad v1)), (3, .int v3), (5, .int v5), (6, .int v6)]) C dL_law_410 hl (by decide) rfl (fun ls hl => ?_)
  refine hx_aload_n C dL_law_412 rfl (lv_at hl 3 rfl) ?_
  refine hx_iload C dL_law_413 (lv_at hl 6 rfl) ?_
  refine hx_iload C dL_law_415 (lv_at hl 1 rfl) ?_
  refine hx_iconst (v := 1) C dL_law_417 (by decide) ?_
  refine hx_iload C dL_law_418 (lv_at hl 5 rfl) ?_
  refine hx_bipush (v := 64) C dL_law_420 (by decide) ?_
  refine hx_idiv C dL_law_422 (by decide) ?_
  refine hx_iconst (v := 5) C dL_law_423 (by decide) ?_
  refine hx_irem C dL_law_424 (by decide) ?_
  refine hx_iadd C dL_law_425 ?_
  obtain ⟨r38, e39, h⟩ := hx_bind h
  refine hx_callV (As := [.int v6, .int ((v5 / 8) - (v5 / 8) / r32 * r32), .int (1 + ((v5 / 64) - (v5 / 64) / 5 * 5))]) (rest := []) (n := 3) (Cn := RX9) C (c_X9_buy e39) gL_law_X9_buy g34 (by decide) rfl (by decide +kernel) ⟨Nat.le_of_ble_eq_true rfl, Nat.le_of_ble_eq_true rfl⟩ rfl rfl rfl ⟨Nat.le_of_ble_eq_true rfl, Nat.le_of_ble_eq_true rfl⟩ hl.1 rfl rfl (Nat.le_of_ble_eq_true rfl) dL_law_426 ?_
  refine hx_istore (lv' := [(10, .int r38.1), (9, .int r36), (8, .int ((v5 / 8) - (v5 / 8) / r32 * r32)), (0, .ref (dI 100 0)), (1, .ref (ad v1)), (3, .int v3), (5, .int v5), (6, .int v6)]) C dL_law_429 hl (by decide) rfl (fun ls hl => ?_)
  refine hx_iload C dL_law_431 (lv_at hl 0 rfl) ?_
  refine hx_ldc (v := (-100002)) C (by decide +kernel) dL_law_433 ?_
  refine hx_icmp_eq (tgt := 482) C dL_law_435 (by decide) (fun c40 => ?_) (fun c40 => ?_)
  · have h := hx_pos c40 h
    exact w_L_law_482 k189 C hr hlocks hk189 v1 v3 v5 r38.2 ls h (lv_sub hl [3, 4, 5, 6] rfl)
  · have h := hx_neg c40 h
    refine hx_iload C dL_law_438 (lv_at hl 0 rfl) ?_
    refine hx_ldc (v := (-100003)) C (by decide +kernel) dL_law_440 ?_
    refine hx_icmp_eq (tgt := 482) C dL_law_442 (by decide) (fun c41 => ?_) (fun c41 => ?_)
    · have h := hx_pos c41 h
      exact w_L_law_482 k189 C hr hlocks hk189 v1 v3 v5 r38.2 ls h (lv_sub hl [3, 4, 5, 6] rfl)
    · have h := hx_neg c41 h
      refine hx_iload C dL_law_445 (lv_at hl 0 rfl) ?_
      refine hx_iload C dL_law_447 (lv_at hl 1 rfl) ?_
      refine hx_iconst (v := 1) C dL_law_449 (by decide) ?_
      refine hx_iload C dL_law_450 (lv_at hl 6 rfl) ?_
      refine hx_bipush (v := 64) C dL_law_452 (by decide) ?_
      refine hx_idiv C dL_law_454 (by decide) ?_
      refine hx_iconst (v := 5) C dL_law_455 (by decide) ?_
      refine hx_irem C dL_law_456 (by decide) ?_
      refine hx_iadd C dL_law_457 ?_
      refine hx_aload_n C dL_law_458 rfl (lv_at hl 4 rfl) ?_
      refine hx_iload C dL_law_459 (lv_at hl 2 rfl) ?_
      refine hx_iconst (v := 0) C dL_law_461 (by decide) ?_
      obtain ⟨r42, e43, h⟩ := hx_bind h
      refine hx_callV (As := [.int ((v5 / 8) - (v5 / 8) / r32 * r32), .int 0]) (rest := [.int (1 + ((v5 / 64) - (v5 / 64) / 5 * 5)), .int r36, .int r38.1]) (n := 2) (Cn := RX9) C (c_X9_prize e43) gL_law_X9_prize g34 (by decide) rfl (by decide +kernel) ⟨Nat.le_of_ble_eq_true rfl, Nat.le_of_ble_eq_true rfl⟩ rfl rfl rfl ⟨Nat.le_of_ble_eq_true rfl, Nat.le_of_ble_eq_true rfl⟩ hl.1 rfl rfl (Nat.le_of_ble_eq_true rfl) dL_law_462 ?_
      refine hx_imul C dL_law_465 ?_
      refine hx_isub C dL_law_466 ?_
      refine hx_icmp_ne (tgt := 486) C dL_law_467 (by decide) (fun c44 => ?_) (fun c44 => ?_)
      · have h := hx_neg c44 h
        exact w_L_law_486 k189 C hr hlocks hk189 v1 v3 v5 r38.2 ls h (lv_sub hl [3, 4, 5, 6] rfl)
      · have h := hx_pos c44 h
        refine hx_iload C dL_law_470 (lv_at hl 0 rfl) ?_
        refine hx_aload_n C dL_law_472 rfl (lv_at hl 4 rfl) ?_
        refine hx_iload C dL_law_473 (lv_at hl 7 rfl) ?_
        refine hx_iconst (v := 0) C dL_law_475 (by decide) ?_
        obtain ⟨r45, e46, h⟩ := hx_bind h
        refine hx_callV (As := [.int v6, .int 0]) (rest := [.int r38.1]) (n := 2) (Cn := RX9) C (c_X9_customer e46) gL_law_X9_customer g34 (by decide) rfl (by decide +kernel) ⟨Nat.le_of_ble_eq_true rfl, Nat.le_of_ble_eq_true rfl⟩ rfl rfl rfl ⟨Nat.le_of_ble_eq_true rfl, Nat.le_of_ble_eq_true rfl⟩ hl.1 rfl rfl (Nat.le_of_ble_eq_true rfl) dL_law_476 ?_
        refine hx_icmp_ne (tgt := 486) C dL_law_479 (by decide) (fun c47 => ?_) (fun c47 => ?_)
        · have h := hx_neg c47 h
          exact w_L_law_486 k189 C hr hlocks hk189 v1 v3 v5 r38.2 ls h (lv_sub hl [3, 4, 5, 6] rfl)
        · have h := hx_pos c47 h
          exact w_L_law_482 k189 C hr hlocks hk189 v1 v3 v5 r38.2 ls h (lv_sub hl [3, 4, 5, 6] rfl)
def f_L_law_579 (L : hL) (xs : Nat → Int32) (Ln : Nat) (k189 : Nat → Int32 → Int32 → hX → Option Int32) (v1 : Nat) (v3 : Int32) (v5 : Int32) (s0 : Int32) (X : hX) : Option Int32 :=
  f_L_law_595 L xs Ln k189 v1 s0 v3 v5 X
set_option maxRecDepth 100000 in
set_option maxHeartbeats 8000000 in
theorem w_L_law_579 {p : Program} {l : Launch} {e : Env} {s : State} {m : MethodId} {below : List Frame} {meth : Method} {c : Code} {dC : Nat → ClassId} {dI : Nat → Nat → Nat} {cy : Nat → ClassId} {ad : Nat → Nat} {L : hL} (k189 : Nat → Int32 → Int32 → hX → Option Int32) (C : hC p s m #[Value.ref (dI 100 0)] meth c dC dI cy ad L (fun q => s.heap.size ≤ q) code 11 wsL_law RL) (hr : meth.sig.returnType = ret) (hlocks : meth.locks = false) (hk189 : ∀ (v1 : Nat) (v2 : Int32) (v3 : Int32) (X : hX) (ls : Array Slot), k189 v1 v2 v3 X = some 1 → lv_has ls 11 [(0, .ref (dI 100 0)), (1, .ref (ad v1)), (2, .int v2), (3, .int v3)] → hG p l e room_1 s m #[Value.ref (dI 100 0)] below meth c dC dI cy ad L (fun q => s.heap.size ≤ q) 470 2617 (lw_Z below #[Value.ref (dI 100 0)] s) X 189 ls []) : ∀ (v1 : Nat) (v3 : Int32) (v5 : Int32) (s0 : Int32) (X : hX) (ls : Array Slot), f_L_law_579 L (sX dI) (dI 100 1) k189 v1 v3 v5 s0 X = some 1 → lv_has ls 11 [(0, .ref (dI 100 0)), (1, .ref (ad v1)), (3, .int v3), (5, .int v5)] → hG p l e room_1 s m #[Value.ref (dI 100 0)] below meth c dC dI cy ad L (fun q => s.heap.size ≤ q) 470 2617 (lw_Z below #[Value.ref (dI 100 0)] s) X 579 ls [.int s0] := by
  intro v1 v3 v5 s0 X ls h hl
  unfold f_L_law_579 at h
  refine hx_istore_n (lv' := [(2, .int s0), (0, .ref (dI 100 0)), (1, .ref (ad v1)), (3, .int v3), (5, .int v5)]) C dL_law_579 rfl hl (by decide) rfl (fun ls hl => ?_)
  refine hx_goto (tgt := 595) C dL_law_580 (by decide) ?_
  exact w_L_law_595 k189 C hr hlocks hk189 v1 s0 v3 v5 X ls h (lv_sub hl [1, 2, 0, 3, 4] rfl)
def f_L_law_491 (L : hL) (xs : Nat → Int32) (Ln : Nat) (k189 : Nat → Int32 → Int32 → hX → Option Int32) (v1 : Nat) (v3 : Int32) (v5 : Int32) (X : hX) : Option Int32 :=
  (f_X9_read L X v1 (v5 - v5 / 40000 * 40000)).bind fun r48 =>
  if tk L v1 9 then
  (f_X9_mixed L X v1 0 1 r48 0).bind fun r51 =>
  if r51 = 0 then
    (f_X9_read L X v1 (v5 - v5 / 40000 * 40000)).bind fun r63 =>
    (f_X9_mixed L X v1 0 1 r63 1).bind fun r65 =>
    if r65 = (-100009) then
      f_L_law_579 L xs Ln k189 v1 v3 v5 1 X
    else
      f_L_law_579 L xs Ln k189 v1 v3 v5 0 X
  else
    (f_X9_read L X v1 (v5 - v5 / 40000 * 40000)).bind fun r54 =>
    (f_X9_mixed L X v1 0 1 r54 1).bind fun r56 =>
    (f_X9_read L X v1 (v5 - v5 / 40000 * 40000)).bind fun r58 =>
    (f_X9_mixed L X v1 0 1 r58 2).bind fun r60 =>
    if r60 < r56 then
      f_L_law_579 L xs Ln k189 v1 v3 v5 0 X
    else
      f_L_law_579 L xs Ln k189 v1 v3 v5 1 X
  else none
set_option maxRecDepth 100000 in
set_option maxHeartbeats 8000000 in
theorem w_L_law_491 {p : Program} {l : Launch} {e : Env} {s : State} {m : MethodId} {below : List Frame} {meth : Method} {c : Code} {dC : Nat → ClassId} {dI : Nat → Nat → Nat} {cy : Nat → ClassId} {ad : Nat → Nat} {L : hL} (k189 : Nat → Int32 → Int32 → hX → Option Int32) (C : hC p s m #[Value.ref (dI 100 0)] meth c dC dI cy ad L (fun q => s.heap.size ≤ q) code 11 wsL_law RL) (hr : meth.sig.returnType = ret) (hlocks : meth.locks = false) (hk189 : ∀ (v1 : Nat) (v2 : Int32) (v3 : Int32) (X : hX) (ls : Array Slot), k189 v1 v2 v3 X = some 1 → lv_has ls 11 [(0, .ref (dI 100 0)), (1, .ref (ad v1)), (2, .int v2), (3, .int v3)] → hG p l e room_1 s m #[Value.ref (dI 100 0)] below meth c dC dI cy ad L (fun q => s.heap.size ≤ q) 470 2617 (lw_Z below #[Value.ref (dI 100 0)] s) X 189 ls []) : ∀ (v1 : Nat) (v3 : Int32) (v5 : Int32) (X : hX) (ls : Array Slot), f_L_law_491 L (sX dI) (dI 100 1) k189 v1 v3 v5 X = some 1 → lv_has ls 11 [(0, .ref (dI 100 0)), (1, .ref (ad v1)), (3, .int v3), (5, .int v5)] → hG p l e room_1 s m #[Value.ref (dI 100 0)] below meth c dC dI cy ad L (fun q => s.heap.size ≤ q) 470 2617 (lw_Z below #[Value.ref (dI 100 0)] s) X 491 ls [] := by
  intro v1 v3 v5 X ls h hl
  unfold f_L_law_491 at h
  refine hx_aload_n C dL_law_491 rfl (lv_at hl 1 rfl) ?_
  refine hx_iconst (v := 0) C dL_law_492 (by decide) ?_
  refine hx_iconst (v := 1) C dL_law_493 (by decide) ?_
  refine hx_aload_n C dL_law_494 rfl (lv_at hl 1 rfl) ?_
  refine hx_iload C dL_law_495 (lv_at hl 3 rfl) ?_
  refine hx_ldc (v := 40000) C (by decide +kernel) dL_law_497 ?_
  refine hx_irem C dL_law_499 (by decide) ?_
  obtain ⟨r48, e49, h⟩ := hx_bind h
  obtain ⟨g50, h⟩ := hx_gd h
  refine hx_callV (As := [.int (v5 - v5 / 40000 * 40000)]) (rest := [.int 1, .int 0, .ref (ad v1)]) (n := 1) (Cn := RX9) C (c_X9_read e49) gL_law_X9_read g50 (by decide) rfl (by decide +kernel) ⟨Nat.le_of_ble_eq_true rfl, Nat.le_of_ble_eq_true rfl⟩ rfl rfl rfl ⟨Nat.le_of_ble_eq_true rfl, Nat.le_of_ble_eq_true rfl⟩ hl.1 rfl rfl (Nat.le_of_ble_eq_true rfl) dL_law_500 ?_
  refine hx_iconst (v := 0) C dL_law_503 (by decide) ?_
  obtain ⟨r51, e52, h⟩ := hx_bind h
  refine hx_callV (As := [.int 0, .int 1, .int r48, .int 0]) (rest := []) (n := 4) (Cn := RX9) C (c_X9_mixed e52) gL_law_X9_mixed g50 (by decide) rfl (by decide +kernel) ⟨Nat.le_of_ble_eq_true rfl, Nat.le_of_ble_eq_true rfl⟩ rfl rfl rfl ⟨Nat.le_of_ble_eq_true rfl, Nat.le_of_ble_eq_true rfl⟩ hl.1 rfl rfl (Nat.le_of_ble_eq_true rfl) dL_law_504 ?_
  refine hx_if_ne (tgt := 539) C dL_law_507 (by decide) (fun c53 => ?_) (fun c53 => ?_)
  · have h := hx_neg c53 h
    refine hx_aload_n C dL_law_539 rfl (lv_at hl 1 rfl) ?_
    refine hx_iconst (v := 0) C dL_law_540 (by decide) ?_
    refine hx_iconst (v := 1) C dL_law_541 (by decide) ?_
    refine hx_aload_n C dL_law_542 rfl (lv_at hl 1 rfl) ?_
    refine hx_iload C dL_law_543 (lv_at hl 3 rfl) ?_
    refine hx_ldc (v := 40000) C (by decide +kernel) dL_law_545 ?_
    refine hx_irem C dL_law_547 (by decide) ?_
    obtain ⟨r54, e55, h⟩ := hx_bind h
    refine hx_callV (As := [.int (v5 - v5 / 40000 * 40000)]) (rest := [.int 1, .int 0, .ref (ad v1)]) (n := 1) (Cn := RX9) C (c_X9_read e55) gL_law_X9_read g50 (by decide) rfl (by decide +kernel) ⟨Nat.le_of_ble_eq_true rfl, Nat.le_of_ble_eq_true rfl⟩ rfl rfl rfl ⟨Nat.le_of_ble_eq_true rfl, Nat.le_of_ble_eq_true rfl⟩ hl.1 rfl rfl (Nat.le_of_ble_eq_true rfl) dL_law_548 ?_
    refine hx_iconst (v := 1) C dL_law_551 (by decide) ?_
    obtain ⟨r56, e57, h⟩ := hx_bind h
    refine hx_callV (As := [.int 0, .int 1, .int r54, .int 1]) (rest := []) (n := 4) (Cn := RX9) C (c_X9_mixed e57) gL_law_X9_mixed g50 (by decide) rfl (by decide +kernel) ⟨Nat.le_of_ble_eq_true rfl, Nat.le_of_ble_eq_true rfl⟩ rfl rfl rfl ⟨Nat.le_of_ble_eq_true rfl, Nat.le_of_ble_eq_true rfl⟩ hl.1 rfl rfl (Nat.le_of_ble_eq_true rfl) dL_law_552 ?_
    refine hx_aload_n C dL_law_555 rfl (lv_at hl 1 rfl) ?_
    refine hx_iconst (v := 0) C dL_law_556 (by decide) ?_
    refine hx_iconst (v := 1) C dL_law_557 (by decide) ?_
    refine hx_aload_n C dL_law_558 rfl (lv_at hl 1 rfl) ?_
    refine hx_iload C dL_law_559 (lv_at hl 3 rfl) ?_
    refine hx_ldc (v := 40000) C (by decide +kernel) dL_law_561 ?_
    refine hx_irem C dL_law_563 (by decide) ?_
    obtain ⟨r58, e59, h⟩ := hx_bind h
    refine hx_callV (As := [.int (v5 - v5 / 40000 * 40000)]) (rest := [.int 1, .int 0, .ref (ad v1), .int r56]) (n := 1) (Cn := RX9) C (c_X9_read e59) gL_law_X9_read g50 (by decide) rfl (by decide +kernel) ⟨Nat.le_of_ble_eq_true rfl, Nat.le_of_ble_eq_true rfl⟩ rfl rfl rfl ⟨Nat.le_of_ble_eq_true rfl, Nat.le_of_ble_eq_true rfl⟩ hl.1 rfl rfl (Nat.le_of_ble_eq_true rfl) dL_law_564 ?_
    refine hx_iconst (v := 2) C dL_law_567 (by decide) ?_
    obtain ⟨r60, e61, h⟩ := hx_bind h
    refine hx_callV (As := [.int 0, .int 1, .int r58, .int 2]) (rest := [.int r56]) (n := 4) (Cn := RX9) C (c_X9_mixed e61) gL_law_X9_mixed g50 (by decide) rfl (by decide +kernel) ⟨Nat.le_of_ble_eq_true rfl, Nat.le_of_ble_eq_true rfl⟩ rfl rfl rfl ⟨Nat.le_of_ble_eq_true rfl, Nat.le_of_ble_eq_true rfl⟩ hl.1 rfl rfl (Nat.le_of_ble_eq_true rfl) dL_law_568 ?_
    refine hx_icmp_gt (tgt := 578) C dL_law_571 (by decide) (fun c62 => ?_) (fun c62 => ?_)
    · have h := hx_pos c62 h
      refine hx_iconst (v := 0) C dL_law_578 (by decide) ?_
      exact w_L_law_579 k189 C hr hlocks hk189 v1 v3 v5 0 X ls h (lv_sub hl [0, 1, 2, 3] rfl)
    · have h := hx_neg c62 h
      refine hx_iconst (v := 1) C dL_law_574 (by decide) ?_
      refine hx_goto (tgt := 579) C dL_law_575 (by decide) ?_
      exact w_L_law_579 k189 C hr hlocks hk189 v1 v3 v5 1 X ls h (lv_sub hl [0, 1, 2, 3] rfl)
  · have h := hx_pos c53 h
    refine hx_aload_n C dL_law_510 rfl (lv_at hl 1 rfl) ?_
    refine hx_iconst (v := 0) C dL_law_511 (by decide) ?_
    refine hx_iconst (v := 1) C dL_law_512 (by decide) ?_
    refine hx_aload_n C dL_law_513 rfl (lv_at hl 1 rfl) ?_
    refine hx_iload C dL_law_514 (lv_at hl 3 rfl) ?_
    refine hx_ldc (v := 40000) C (by decide +kernel) dL_law_516 ?_
    refine hx_irem C dL_law_518 (by decide) ?_
    obtain ⟨r63, e64, h⟩ := hx_bind h
    refine hx_callV (As := [.int (v5 - v5 / 40000 * 40000)]) (rest := [.int 1, .int 0, .ref (ad v1)]) (n := 1) (Cn := RX9) C (c_X9_read e64) gL_law_X9_read g50 (by decide) rfl (by decide +kernel) ⟨Nat.le_of_ble_eq_true rfl, Nat.le_of_ble_eq_true rfl⟩ rfl rfl rfl ⟨Nat.le_of_ble_eq_true rfl, Nat.le_of_ble_eq_true rfl⟩ hl.1 rfl rfl (Nat.le_of_ble_eq_true rfl) dL_law_519 ?_
    refine hx_iconst (v := 1) C dL_law_522 (by decide) ?_
    obtain ⟨r65, e66, h⟩ := hx_bind h
    refine hx_callV (As := [.int 0, .int 1, .int r63, .int 1]) (rest := []) (n := 4) (Cn := RX9) C (c_X9_mixed e66) gL_law_X9_mixed g50 (by decide) rfl (by decide +kernel) ⟨Nat.le_of_ble_eq_true rfl, Nat.le_of_ble_eq_true rfl⟩ rfl rfl rfl ⟨Nat.le_of_ble_eq_true rfl, Nat.le_of_ble_eq_true rfl⟩ hl.1 rfl rfl (Nat.le_of_ble_eq_true rfl) dL_law_523 ?_
    refine hx_ldc (v := (-100009)) C (by decide +kernel) dL_law_526 ?_
    refine hx_icmp_ne (tgt := 535) C dL_law_528 (by decide) (fun c67 => ?_) (fun c67 => ?_)
    · have h := hx_neg c67 h
      refine hx_iconst (v := 0) C dL_law_535 (by decide) ?_
      refine hx_goto (tgt := 579) C dL_law_536 (by decide) ?_
      exact w_L_law_579 k189 C hr hlocks hk189 v1 v3 v5 0 X ls h (lv_sub hl [0, 1, 2, 3] rfl)
    · have h := hx_pos c67 h
      refine hx_iconst (v := 1) C dL_law_531 (by decide) ?_
      refine hx_goto (tgt := 579) C dL_law_532 (by decide) ?_
      exact w_L_law_579 k189 C hr hlocks hk189 v1 v3 v5 1 X ls h (lv_sub hl [0, 1, 2, 3] rfl)
def f_L_law_583 (L : hL) (xs : Nat → Int32) (Ln : Nat) (k189 : Nat → Int32 → Int32 → hX → Option Int32) (v1 : Nat) (v3 : Int32) (v5 : Int32) (v6 : Int32) (X : hX) : Option Int32 :=
  (f_L_weighs L X v1 v6 (v5 / 8)).bind fun r68 =>
  f_L_law_595 L xs Ln k189 v1 r68.1 v3 v5 r68.2
set_option maxRecDepth 100000 in
set_option maxHeartbeats 8000000 in
theorem w_L_law_583 {p : Program} {l : Launch} {e : Env} {s : State} {m : MethodId} {below : List Frame} {meth : Method} {c : Code} {dC : Nat → ClassId} {dI : Nat → Nat → Nat} {cy : Nat → ClassId} {ad : Nat → Nat} {L : hL} (k189 : Nat → Int32 → Int32 → hX → Option Int32) (C : hC p s m #[Value.ref (dI 100 0)] meth c dC dI cy ad L (fun q => s.heap.size ≤ q) code 11 wsL_law RL) (hr : meth.sig.returnType = ret) (hlocks : meth.locks = false) (hk189 : ∀ (v1 : Nat) (v2 : Int32) (v3 : Int32) (X : hX) (ls : Array Slot), k189 v1 v2 v3 X = some 1 → lv_has ls 11 [(0, .ref (dI 100 0)), (1, .ref (ad v1)), (2, .int v2), (3, .int v3)] → hG p l e room_1 s m #[Value.ref (dI 100 0)] below meth c dC dI cy ad L (fun q => s.heap.size ≤ q) 470 2617 (lw_Z below #[Value.ref (dI 100 0)] s) X 189 ls []) : ∀ (v1 : Nat) (v3 : Int32) (v5 : Int32) (v6 : Int32) (X : hX) (ls : Array Slot), f_L_law_583 L (sX dI) (dI 100 1) k189 v1 v3 v5 v6 X = some 1 → lv_has ls 11 [(0, .ref (dI 100 0)), (1, .ref (ad v1)), (3, .int v3), (5, .int v5), (6, .int v6)] → hG p l e room_1 s m #[Value.ref (dI 100 0)] below meth c dC dI cy ad L (fun q => s.heap.size ≤ q) 470 2617 (lw_Z below #[Value.ref (dI 100 0)] s) X 583 ls [] := by
  intro v1 v3 v5 v6 X ls h hl
  unfold f_L_law_583 at h
  refine hx_aload_n C dL_law_583 rfl (lv_at hl 1 rfl) ?_
  refine hx_iload C dL_law_584 (lv_at hl 4 rfl) ?_
  refine hx_iload C dL_law_586 (lv_at hl 3 rfl) ?_
  refine hx_bipush (v := 8) C dL_law_588 (by decide) ?_
  refine hx_idiv C dL_law_590 (by decide) ?_
  obtain ⟨r68, e69, h⟩ := hx_bind h
  refine hx_callS (As := [.ref (ad v1), .int v6, .int (v5 / 8)]) (rest := []) (n := 3) C (c_L_weighs e69) gL_law_L_weighs (by decide +kernel) ⟨Nat.le_of_ble_eq_true rfl, Nat.le_of_ble_eq_true rfl⟩ rfl rfl rfl ⟨Nat.le_of_ble_eq_true rfl, Nat.le_of_ble_eq_true rfl⟩ hl.1 rfl rfl (Nat.le_of_ble_eq_true rfl) dL_law_591 ?_
  refine hx_istore_n (lv' := [(2, .int r68.1), (0, .ref (dI 100 0)), (1, .ref (ad v1)), (3, .int v3), (5, .int v5), (6, .int v6)]) C dL_law_594 rfl hl (by decide) rfl (fun ls hl => ?_)
  exact w_L_law_595 k189 C hr hlocks hk189 v1 r68.1 v3 v5 r68.2 ls h (lv_sub hl [1, 2, 0, 3, 4] rfl)
def f_L_law_746 (L : hL) (xs : Nat → Int32) (Ln : Nat) (v1 : Nat) (s0 : Int32) (X : hX) : Option Int32 :=
  if s0 = 0 then
    some 0
  else
    (f_L_holds L X v1).bind fun r71 =>
    if r71.1 = 0 then
      some 0
    else
      some 1
set_option maxRecDepth 100000 in
set_option maxHeartbeats 8000000 in
theorem w_L_law_746 {p : Program} {l : Launch} {e : Env} {s : State} {m : MethodId} {below : List Frame} {meth : Method} {c : Code} {dC : Nat → ClassId} {dI : Nat → Nat → Nat} {cy : Nat → ClassId} {ad : Nat → Nat} {L : hL} (C : hC p s m #[Value.ref (dI 100 0)] meth c dC dI cy ad L (fun q => s.heap.size ≤ q) code 11 wsL_law RL) (hr : meth.sig.returnType = ret) (hlocks : meth.locks = false) : ∀ (v1 : Nat) (s0 : Int32) (X : hX) (ls : Array Slot), f_L_law_746 L (sX dI) (dI 100 1) v1 s0 X = some 1 → lv_has ls 11 [(1, .ref (ad v1))] → hG p l e room_1 s m #[Value.ref (dI 100 0)] below meth c dC dI cy ad L (fun q => s.heap.size ≤ q) 470 2617 (lw_Z below #[Value.ref (dI 100 0)] s) X 746 ls [.int s0] := by
  intro v1 s0 X ls h hl
  unfold f_L_law_746 at h
  refine hx_istore_n (lv' := [(2, .int s0), (1, .ref (ad v1))]) C dL_law_746 rfl hl (by decide) rfl (fun ls hl => ?_)
  refine hx_iload_n C dL_law_747 rfl (lv_at hl 0 rfl) ?_
  refine hx_if_eq (tgt := 762) C dL_law_748 (by decide) (fun c70 => ?_) (fun c70 => ?_)
  · have h := hx_pos c70 h
    refine hx_iconst (v := 0) C dL_law_762 (by decide) ?_
    exact hx_lwret C hr hlocks h dL_law_763
  · have h := hx_neg c70 h
    refine hx_aload_n C dL_law_751 rfl (lv_at hl 1 rfl) ?_
    obtain ⟨r71, e72, h⟩ := hx_bind h
    refine hx_callS (As := [.ref (ad v1)]) (rest := []) (n := 1) C (c_L_holds e72) gL_law_L_holds (by decide +kernel) ⟨Nat.le_of_ble_eq_true rfl, Nat.le_of_ble_eq_true rfl⟩ rfl rfl rfl ⟨Nat.le_of_ble_eq_true rfl, Nat.le_of_ble_eq_true rfl⟩ hl.1 rfl rfl (Nat.le_of_ble_eq_true rfl) dL_law_752 ?_
    refine hx_if_eq (tgt := 762) C dL_law_755 (by decide) (fun c73 => ?_) (fun c73 => ?_)
    · have h := hx_pos c73 h
      refine hx_iconst (v := 0) C dL_law_762 (by decide) ?_
      exact hx_lwret C hr hlocks h dL_law_763
    · have h := hx_neg c73 h
      refine hx_iconst (v := 1) C dL_law_758 (by decide) ?_
      refine hx_goto (tgt := 763) C dL_law_759 (by decide) ?_
      exact hx_lwret C hr hlocks h dL_law_763
def f_L_law_745 (L : hL) (xs : Nat → Int32) (Ln : Nat) (v1 : Nat) (X : hX) : Option Int32 :=
  f_L_law_746 L xs Ln v1 0 X
set_option maxRecDepth 100000 in
set_option maxHeartbeats 8000000 in
theorem w_L_law_745 {p : Program} {l : Launch} {e : Env} {s : State} {m : MethodId} {below : List Frame} {meth : Method} {c : Code} {dC : Nat → ClassId} {dI : Nat → Nat → Nat} {cy : Nat → ClassId} {ad : Nat → Nat} {L : hL} (C : hC p s m #[Value.ref (dI 100 0)] meth c dC dI cy ad L (fun q => s.heap.size ≤ q) code 11 wsL_law RL) (hr : meth.sig.returnType = ret) (hlocks : meth.locks = false) : ∀ (v1 : Nat) (X : hX) (ls : Array Slot), f_L_law_745 L (sX dI) (dI 100 1) v1 X = some 1 → lv_has ls 11 [(1, .ref (ad v1))] → hG p l e room_1 s m #[Value.ref (dI 100 0)] below meth c dC dI cy ad L (fun q => s.heap.size ≤ q) 470 2617 (lw_Z below #[Value.ref (dI 100 0)] s) X 745 ls [] := by
  intro v1 X ls h hl
  unfold f_L_law_745 at h
  refine hx_iconst (v := 0) C dL_law_745 (by decide) ?_
  exact w_L_law_746 C hr hlocks v1 0 X ls h (lv_sub hl [0] rfl)
def f_L_law_708 (L : hL) (xs : Nat → Int32) (Ln : Nat) (v1 : Nat) (v3 : Int32) (v4 : Int32) (s0 : Int32) (s1 : Int32) (X : hX) : Option Int32 :=
  if s1 = s0 then
    (f_X9_count L X v1 9).bind fun r75 =>
    if tk L v1 9 then
    if r75 = v3 then
      (f_X9_count L X v1 8).bind fun r79 =>
      if r79 = v4 then
        (f_X9_count L X v1 5).bind fun r82 =>
        if r82 = 4 then
          f_L_law_746 L xs Ln v1 1 X
        else
          f_L_law_745 L xs Ln v1 X
      else
        f_L_law_745 L xs Ln v1 X
    else
      f_L_law_745 L xs Ln v1 X
    else none
  else
    f_L_law_745 L xs Ln v1 X
set_option maxRecDepth 100000 in
set_option maxHeartbeats 8000000 in
theorem w_L_law_708 {p : Program} {l : Launch} {e : Env} {s : State} {m : MethodId} {below : List Frame} {meth : Method} {c : Code} {dC : Nat → ClassId} {dI : Nat → Nat → Nat} {cy : Nat → ClassId} {ad : Nat → Nat} {L : hL} (C : hC p s m #[Value.ref (dI 100 0)] meth c dC dI cy ad L (fun q => s.heap.size ≤ q) code 11 wsL_law RL) (hr : meth.sig.returnType = ret) (hlocks : meth.locks = false) : ∀ (v1 : Nat) (v3 : Int32) (v4 : Int32) (s0 : Int32) (s1 : Int32) (X : hX) (ls : Array Slot), f_L_law_708 L (sX dI) (dI 100 1) v1 v3 v4 s0 s1 X = some 1 → lv_has ls 11 [(1, .ref (ad v1)), (3, .int v3), (4, .int v4)] → hG p l e room_1 s m #[Value.ref (dI 100 0)] below meth c dC dI cy ad L (fun q => s.heap.size ≤ q) 470 2617 (lw_Z below #[Value.ref (dI 100 0)] s) X 708 ls [.int s0, .int s1] := by
  intro v1 v3 v4 s0 s1 X ls h hl
  unfold f_L_law_708 at h
  refine hx_icmp_ne (tgt := 745) C dL_law_708 (by decide) (fun c74 => ?_) (fun c74 => ?_)
  · have h := hx_neg c74 h
    exact w_L_law_745 C hr hlocks v1 X ls h (lv_sub hl [0] rfl)
  · have h := hx_pos c74 h
    refine hx_aload_n C dL_law_711 rfl (lv_at hl 0 rfl) ?_
    refine hx_bipush (v := 9) C dL_law_712 (by decide) ?_
    obtain ⟨r75, e76, h⟩ := hx_bind h
    obtain ⟨g77, h⟩ := hx_gd h
    refine hx_callV (As := [.int 9]) (rest := []) (n := 1) (Cn := RX9) C (c_X9_count e76) gL_law_X9_count g77 (by decide) rfl (by decide +kernel) ⟨Nat.le_of_ble_eq_true rfl, Nat.le_of_ble_eq_true rfl⟩ rfl rfl rfl ⟨Nat.le_of_ble_eq_true rfl, Nat.le_of_ble_eq_true rfl⟩ hl.1 rfl rfl (Nat.le_of_ble_eq_true rfl) dL_law_714 ?_
    refine hx_iload_n C dL_law_717 rfl (lv_at hl 1 rfl) ?_
    refine hx_icmp_ne (tgt := 745) C dL_law_718 (by decide) (fun c78 => ?_) (fun c78 => ?_)
    · have h := hx_neg c78 h
      exact w_L_law_745 C hr hlocks v1 X ls h (lv_sub hl [0] rfl)
    · have h := hx_pos c78 h
      refine hx_aload_n C dL_law_721 rfl (lv_at hl 0 rfl) ?_
      refine hx_bipush (v := 8) C dL_law_722 (by decide) ?_
      obtain ⟨r79, e80, h⟩ := hx_bind h
      refine hx_callV (As := [.int 8]) (rest := []) (n := 1) (Cn := RX9) C (c_X9_count e80) gL_law_X9_count g77 (by decide) rfl (by decide +kernel) ⟨Nat.le_of_ble_eq_true rfl, Nat.le_of_ble_eq_true rfl⟩ rfl rfl rfl ⟨Nat.le_of_ble_eq_true rfl, Nat.le_of_ble_eq_true rfl⟩ hl.1 rfl rfl (Nat.le_of_ble_eq_true rfl) dL_law_724 ?_
      refine hx_iload C dL_law_727 (lv_at hl 2 rfl) ?_
      refine hx_icmp_ne (tgt := 745) C dL_law_729 (by decide) (fun c81 => ?_) (fun c81 => ?_)
      · have h := hx_neg c81 h
        exact w_L_law_745 C hr hlocks v1 X ls h (lv_sub hl [0] rfl)
      · have h := hx_pos c81 h
        refine hx_aload_n C dL_law_732 rfl (lv_at hl 0 rfl) ?_
        refine hx_iconst (v := 5) C dL_law_733 (by decide) ?_
        obtain ⟨r82, e83, h⟩ := hx_bind h
        refine hx_callV (As := [.int 5]) (rest := []) (n := 1) (Cn := RX9) C (c_X9_count e83) gL_law_X9_count g77 (by decide) rfl (by decide +kernel) ⟨Nat.le_of_ble_eq_true rfl, Nat.le_of_ble_eq_true rfl⟩ rfl rfl rfl ⟨Nat.le_of_ble_eq_true rfl, Nat.le_of_ble_eq_true rfl⟩ hl.1 rfl rfl (Nat.le_of_ble_eq_true rfl) dL_law_734 ?_
        refine hx_iconst (v := 4) C dL_law_737 (by decide) ?_
        refine hx_icmp_ne (tgt := 745) C dL_law_738 (by decide) (fun c84 => ?_) (fun c84 => ?_)
        · have h := hx_neg c84 h
          exact w_L_law_745 C hr hlocks v1 X ls h (lv_sub hl [0] rfl)
        · have h := hx_pos c84 h
          refine hx_iconst (v := 1) C dL_law_741 (by decide) ?_
          refine hx_goto (tgt := 746) C dL_law_742 (by decide) ?_
          exact w_L_law_746 C hr hlocks v1 1 X ls h (lv_sub hl [0] rfl)
def f_L_law_657 (L : hL) (xs : Nat → Int32) (Ln : Nat) (v1 : Nat) (v2 : Int32) (X : hX) : Option Int32 :=
  (f_X9_count L X v1 9).bind fun r85 =>
  if tk L v1 9 then
  (f_X9_count L X v1 8).bind fun r88 =>
  (f_X9_count L X v1 12).bind fun r90 =>
  if v2 = 0 then
    f_L_law_745 L xs Ln v1 X
  else
    (f_X9_leave L X v1 0).bind fun r93 =>
    if r93.1 < 0 then
      f_L_law_745 L xs Ln v1 r93.2
    else
      (f_X9_undo L r93.2 v1).bind fun r96 =>
      if 5 ≤ r90 then
        f_L_law_708 L xs Ln v1 r85 r88 4 r96.1 r96.2
      else
        f_L_law_708 L xs Ln v1 r85 r88 r90 r96.1 r96.2
  else none
set_option maxRecDepth 100000 in
set_option maxHeartbeats 8000000 in
theorem w_L_law_657 {p : Program} {l : Launch} {e : Env} {s : State} {m : MethodId} {below : List Frame} {meth : Method} {c : Code} {dC : Nat → ClassId} {dI : Nat → Nat → Nat} {cy : Nat → ClassId} {ad : Nat → Nat} {L : hL} (C : hC p s m #[Value.ref (dI 100 0)] meth c dC dI cy ad L (fun q => s.heap.size ≤ q) code 11 wsL_law RL) (hr : meth.sig.returnType = ret) (hlocks : meth.locks = false) : ∀ (v1 : Nat) (v2 : Int32) (X : hX) (ls : Array Slot), f_L_law_657 L (sX dI) (dI 100 1) v1 v2 X = some 1 → lv_has ls 11 [(1, .ref (ad v1)), (2, .int v2)] → hG p l e room_1 s m #[Value.ref (dI 100 0)] below meth c dC dI cy ad L (fun q => s.heap.size ≤ q) 470 2617 (lw_Z below #[Value.ref (dI 100 0)] s) X 657 ls [] := by
  intro v1 v2 X ls h hl
  unfold f_L_law_657 at h
  refine hx_aload_n C dL_law_657 rfl (lv_at hl 0 rfl) ?_
  refine hx_bipush (v := 9) C dL_law_658 (by decide) ?_
  obtain ⟨r85, e86, h⟩ := hx_bind h
  obtain ⟨g87, h⟩ := hx_gd h
  refine hx_callV (As := [.int 9]) (rest := []) (n := 1) (Cn := RX9) C (c_X9_count e86) gL_law_X9_count g87 (by decide) rfl (by decide +kernel) ⟨Nat.le_of_ble_eq_true rfl, Nat.le_of_ble_eq_true rfl⟩ rfl rfl rfl ⟨Nat.le_of_ble_eq_true rfl, Nat.le_of_ble_eq_true rfl⟩ hl.1 rfl rfl (Nat.le_of_ble_eq_true rfl) dL_law_660 ?_
  refine hx_istore_n (lv' := [(3, .int r85), (1, .ref (ad v1)), (2, .int v2)]) C dL_law_663 rfl hl (by decide) rfl (fun ls hl => ?_)
  refine hx_aload_n C dL_law_664 rfl (lv_at hl 1 rfl) ?_
  refine hx_bipush (v := 8) C dL_law_665 (by decide) ?_
  obtain ⟨r88, e89, h⟩ := hx_bind h
  refine hx_callV (As := [.int 8]) (rest := []) (n := 1) (Cn := RX9) C (c_X9_count e89) gL_law_X9_count g87 (by decide) rfl (by decide +kernel) ⟨Nat.le_of_ble_eq_true rfl, Nat.le_of_ble_eq_true rfl⟩ rfl rfl rfl ⟨Nat.le_of_ble_eq_true rfl, Nat.le_of_ble_eq_true rfl⟩ hl.1 rfl rfl (Nat.le_of_ble_eq_true rfl) dL_law_667 ?_
  refine hx_istore (lv' := [(4, .int r88), (3, .int r85), (1, .ref (ad v1)), (2, .int v2)]) C dL_law_670 hl (by decide) rfl (fun ls hl => ?_)
  refine hx_aload_n C dL_law_672 rfl (lv_at hl 2 rfl) ?_
  refine hx_bipush (v := 12) C dL_law_673 (by decide) ?_
  obtain ⟨r90, e91, h⟩ := hx_bind h
  refine hx_callV (As := [.int 12]) (rest := []) (n := 1) (Cn := RX9) C (c_X9_count e91) gL_law_X9_count g87 (by decide) rfl (by decide +kernel) ⟨Nat.le_of_ble_eq_true rfl, Nat.le_of_ble_eq_true rfl⟩ rfl rfl rfl ⟨Nat.le_of_ble_eq_true rfl, Nat.le_of_ble_eq_true rfl⟩ hl.1 rfl rfl (Nat.le_of_ble_eq_true rfl) dL_law_675 ?_
  refine hx_istore (lv' := [(5, .int r90), (4, .int r88), (3, .int r85), (1, .ref (ad v1)), (2, .int v2)]) C dL_law_678 hl (by decide) rfl (fun ls hl => ?_)
  refine hx_iload_n C dL_law_680 rfl (lv_at hl 4 rfl) ?_
  refine hx_if_eq (tgt := 745) C dL_law_681 (by decide) (fun c92 => ?_) (fun c92 => ?_)
  · have h := hx_pos c92 h
    exact w_L_law_745 C hr hlocks v1 X ls h (lv_sub hl [3] rfl)
  · have h := hx_neg c92 h
    refine hx_aload_n C dL_law_684 rfl (lv_at hl 3 rfl) ?_
    refine hx_iconst (v := 0) C dL_law_685 (by decide) ?_
    obtain ⟨r93, e94, h⟩ := hx_bind h
    refine hx_callV (As := [.int 0]) (rest := []) (n := 1) (Cn := RX9) C (c_X9_leave e94) gL_law_X9_leave g87 (by decide) rfl (by decide +kernel) ⟨Nat.le_of_ble_eq_true rfl, Nat.le_of_ble_eq_true rfl⟩ rfl rfl rfl ⟨Nat.le_of_ble_eq_true rfl, Nat.le_of_ble_eq_true rfl⟩ hl.1 rfl rfl (Nat.le_of_ble_eq_true rfl) dL_law_686 ?_
    refine hx_if_lt (tgt := 745) C dL_law_689 (by decide) (fun c95 => ?_) (fun c95 => ?_)
    · have h := hx_pos c95 h
      exact w_L_law_745 C hr hlocks v1 r93.2 ls h (lv_sub hl [3] rfl)
    · have h := hx_neg c95 h
      refine hx_aload_n C dL_law_692 rfl (lv_at hl 3 rfl) ?_
      obtain ⟨r96, e97, h⟩ := hx_bind h
      refine hx_callV (As := []) (rest := []) (n := 0) (Cn := RX9) C (c_X9_undo e97) gL_law_X9_undo g87 (by decide) rfl (by decide +kernel) ⟨Nat.le_of_ble_eq_true rfl, Nat.le_of_ble_eq_true rfl⟩ rfl rfl rfl ⟨Nat.le_of_ble_eq_true rfl, Nat.le_of_ble_eq_true rfl⟩ hl.1 rfl rfl (Nat.le_of_ble_eq_true rfl) dL_law_693 ?_
      refine hx_iload C dL_law_696 (lv_at hl 0 rfl) ?_
      refine hx_iconst (v := 5) C dL_law_698 (by decide) ?_
      refine hx_icmp_ge (tgt := 707) C dL_law_699 (by decide) (fun c98 => ?_) (fun c98 => ?_)
      · have h := hx_pos c98 h
        refine hx_iconst (v := 4) C dL_law_707 (by decide) ?_
        exact w_L_law_708 C hr hlocks v1 r85 r88 4 r96.1 r96.2 ls h (lv_sub hl [3, 2, 1] rfl)
      · have h := hx_neg c98 h
        refine hx_iload C dL_law_702 (lv_at hl 0 rfl) ?_
        refine hx_goto (tgt := 708) C dL_law_704 (by decide) ?_
        exact w_L_law_708 C hr hlocks v1 r85 r88 r90 r96.1 r96.2 ls h (lv_sub hl [3, 2, 1] rfl)
def f_L_law_189 (L : hL) (xs : Nat → Int32) (Ln : Nat) : Nat → Nat → Int32 → Int32 → hX → Option Int32
  | 0, _, _, _, _ => none
  | n + 1, v1, v2, v3, X =>
    if 24 ≤ v3 then
      f_L_law_657 L xs Ln v1 v2 X
    else
      if v2 = 0 then
        f_L_law_657 L xs Ln v1 v2 X
      else
        (f_L_cell L xs Ln X (6 + v3)).bind fun r101 =>
        (f_X9_count L X v1 5).bind fun r103 =>
        if tk L v1 9 then
        if ¬ r103 = 0 then
        if (r101 - r101 / 8 * 8) = 0 then
          f_L_law_268 L xs Ln (f_L_law_189 L xs Ln n) v1 v3 (r101 / 8) X
        else
        if (r101 - r101 / 8 * 8) = 1 then
          f_L_law_300 L xs Ln (f_L_law_189 L xs Ln n) v1 v3 (r101 / 8) X
        else
        if (r101 - r101 / 8 * 8) = 2 then
          f_L_law_316 L xs Ln (f_L_law_189 L xs Ln n) v1 v3 (r101 / 8) X
        else
        if (r101 - r101 / 8 * 8) = 3 then
          f_L_law_374 L xs Ln (f_L_law_189 L xs Ln n) v1 v3 (r101 / 8) ((r101 / 8) - (r101 / 8) / r103 * r103) X
        else
        if (r101 - r101 / 8 * 8) = 4 then
          f_L_law_389 L xs Ln (f_L_law_189 L xs Ln n) v1 v3 (r101 / 8) ((r101 / 8) - (r101 / 8) / r103 * r103) X
        else
        if (r101 - r101 / 8 * 8) = 5 then
          f_L_law_491 L xs Ln (f_L_law_189 L xs Ln n) v1 v3 (r101 / 8) X
        else
        f_L_law_583 L xs Ln (f_L_law_189 L xs Ln n) v1 v3 (r101 / 8) ((r101 / 8) - (r101 / 8) / r103 * r103) X
        else none
        else none
set_option maxRecDepth 100000 in
set_option maxHeartbeats 8000000 in
theorem w_L_law_189 {p : Program} {l : Launch} {e : Env} {s : State} {m : MethodId} {below : List Frame} {meth : Method} {c : Code} {dC : Nat → ClassId} {dI : Nat → Nat → Nat} {cy : Nat → ClassId} {ad : Nat → Nat} {L : hL} (C : hC p s m #[Value.ref (dI 100 0)] meth c dC dI cy ad L (fun q => s.heap.size ≤ q) code 11 wsL_law RL) (hr : meth.sig.returnType = ret) (hlocks : meth.locks = false) : ∀ (n : Nat) (v1 : Nat) (v2 : Int32) (v3 : Int32) (X : hX) (ls : Array Slot), f_L_law_189 L (sX dI) (dI 100 1) n v1 v2 v3 X = some 1 → lv_has ls 11 [(0, .ref (dI 100 0)), (1, .ref (ad v1)), (2, .int v2), (3, .int v3)] → hG p l e room_1 s m #[Value.ref (dI 100 0)] below meth c dC dI cy ad L (fun q => s.heap.size ≤ q) 470 2617 (lw_Z below #[Value.ref (dI 100 0)] s) X 189 ls [] := by
  intro n
  induction n with
  | zero => intro v1 v2 v3 X ls h; cases h
  | succ n ih =>
    intro v1 v2 v3 X ls h hl
    rw [f_L_law_189] at h
    refine hx_iload_n C dL_law_189 rfl (lv_at hl 3 rfl) ?_
    refine hx_bipush (v := 24) C dL_law_190 (by decide) ?_
    refine hx_icmp_ge (tgt := 657) C dL_law_192 (by decide) (fun c99 => ?_) (fun c99 => ?_)
    · have h := hx_pos c99 h
      exact w_L_law_657 C hr hlocks v1 v2 X ls h (lv_sub hl [1, 2] rfl)
    · have h := hx_neg c99 h
      refine hx_iload_n C dL_law_195 rfl (lv_at hl 2 rfl) ?_
      refine hx_if_eq (tgt := 657) C dL_law_196 (by decide) (fun c100 => ?_) (fun c100 => ?_)
      · have h := hx_pos c100 h
        exact w_L_law_657 C hr hlocks v1 v2 X ls h (lv_sub hl [1, 2] rfl)
      · have h := hx_neg c100 h
        refine hx_aload_n C dL_law_199 rfl (lv_at hl 0 rfl) ?_
        refine hx_bipush (v := 6) C dL_law_200 (by decide) ?_
        refine hx_iload_n C dL_law_202 rfl (lv_at hl 3 rfl) ?_
        refine hx_iadd C dL_law_203 ?_
        obtain ⟨r101, e102, h⟩ := hx_bind h
        refine hx_callS (As := [.ref (dI 100 0), .int (6 + v3)]) (rest := []) (n := 2) C (c_L_cell e102) gL_law_L_cell (by decide +kernel) ⟨Nat.le_of_ble_eq_true rfl, Nat.le_of_ble_eq_true rfl⟩ rfl rfl rfl ⟨Nat.le_of_ble_eq_true rfl, Nat.le_of_ble_eq_true rfl⟩ hl.1 rfl rfl (Nat.le_of_ble_eq_true rfl) dL_law_204 ?_
        refine hx_istore (lv' := [(4, .int r101), (0, .ref (dI 100 0)), (1, .ref (ad v1)), (2, .int v2), (3, .int v3)]) C dL_law_207 hl (by decide) rfl (fun ls hl => ?_)
        refine hx_iload C dL_law_209 (lv_at hl 0 rfl) ?_
        refine hx_bipush (v := 8) C dL_law_211 (by decide) ?_
        refine hx_idiv C dL_law_213 (by decide) ?_
        refine hx_istore (lv' := [(5, .int (r101 / 8)), (4, .int r101), (0, .ref (dI 100 0)), (1, .ref (ad v1)), (2, .int v2), (3, .int v3)]) C dL_law_214 hl (by decide) rfl (fun ls hl => ?_)
        refine hx_iload C dL_law_216 (lv_at hl 0 rfl) ?_
        refine hx_aload_n C dL_law_218 rfl (lv_at hl 3 rfl) ?_
        refine hx_iconst (v := 5) C dL_law_219 (by decide) ?_
        obtain ⟨r103, e104, h⟩ := hx_bind h
        obtain ⟨g105, h⟩ := hx_gd h
        refine hx_callV (As := [.int 5]) (rest := [.int (r101 / 8)]) (n := 1) (Cn := RX9) C (c_X9_count e104) gL_law_X9_count g105 (by decide) rfl (by decide +kernel) ⟨Nat.le_of_ble_eq_true rfl, Nat.le_of_ble_eq_true rfl⟩ rfl rfl rfl ⟨Nat.le_of_ble_eq_true rfl, Nat.le_of_ble_eq_true rfl⟩ hl.1 rfl rfl (Nat.le_of_ble_eq_true rfl) dL_law_220 ?_
        obtain ⟨g106, h⟩ := hx_gd h
        refine hx_irem C dL_law_223 g106 ?_
        refine hx_istore (lv' := [(6, .int ((r101 / 8) - (r101 / 8) / r103 * r103)), (5, .int (r101 / 8)), (4, .int r101), (0, .ref (dI 100 0)), (1, .ref (ad v1)), (2, .int v2), (3, .int v3)]) C dL_law_224 hl (by decide) rfl (fun ls hl => ?_)
        refine hx_iload C dL_law_226 (lv_at hl 2 rfl) ?_
        refine hx_bipush (v := 8) C dL_law_228 (by decide) ?_
        refine hx_irem C dL_law_230 (by decide) ?_
        by_cases c107 : (r101 - r101 / 8 * 8) = 0
        · have h := hx_pos c107 h
          have hz : Int32.toInt (r101 - r101 / 8 * 8) = 0 := by rw [c107]; rfl
          refine hx_tableIn (tgt := 268) C dL_law_231 (by rw [hz] <;> decide) (by rw [hz] <;> decide) (off := 37) (by rw [hz] <;> rfl) (by decide) ?_
          exact w_L_law_268 (f_L_law_189 L (sX dI) (dI 100 1) n) C hr hlocks ih v1 v3 (r101 / 8) X ls h (lv_sub hl [3, 4, 6, 1] rfl)
        have h := hx_neg c107 h
        have zc107 : Int32.toInt (r101 - r101 / 8 * 8) ≠ 0 := fun z => c107 (Int32.toInt_inj.mp (z.trans rfl))
        by_cases c108 : (r101 - r101 / 8 * 8) = 1
        · have h := hx_pos c108 h
          have hz : Int32.toInt (r101 - r101 / 8 * 8) = 1 := by rw [c108]; rfl
          refine hx_tableIn (tgt := 300) C dL_law_231 (by rw [hz] <;> decide) (by rw [hz] <;> decide) (off := 69) (by rw [hz] <;> rfl) (by decide) ?_
          exact w_L_law_300 (f_L_law_189 L (sX dI) (dI 100 1) n) C hr hlocks ih v1 v3 (r101 / 8) X ls h (lv_sub hl [3, 4, 6, 1] rfl)
        have h := hx_neg c108 h
        have zc108 : Int32.toInt (r101 - r101 / 8 * 8) ≠ 1 := fun z => c108 (Int32.toInt_inj.mp (z.trans rfl))
        by_cases c109 : (r101 - r101 / 8 * 8) = 2
        · have h := hx_pos c109 h
          have hz : Int32.toInt (r101 - r101 / 8 * 8) = 2 := by rw [c109]; rfl
          refine hx_tableIn (tgt := 316) C dL_law_231 (by rw [hz] <;> decide) (by rw [hz] <;> decide) (off := 85) (by rw [hz] <;> rfl) (by decide) ?_
          exact w_L_law_316 (f_L_law_189 L (sX dI) (dI 100 1) n) C hr hlocks ih v1 v3 (r101 / 8) X ls h (lv_sub hl [3, 4, 6, 1] rfl)
        have h := hx_neg c109 h
        have zc109 : Int32.toInt (r101 - r101 / 8 * 8) ≠ 2 := fun z => c109 (Int32.toInt_inj.mp (z.trans rfl))
        by_cases c110 : (r101 - r101 / 8 * 8) = 3
        · have h := hx_pos c110 h
          have hz : Int32.toInt (r101 - r101 / 8 * 8) = 3 := by rw [c110]; rfl
          refine hx_tableIn (tgt := 374) C dL_law_231 (by rw [hz] <;> decide) (by rw [hz] <;> decide) (off := 143) (by rw [hz] <;> rfl) (by decide) ?_
          exact w_L_law_374 (f_L_law_189 L (sX dI) (dI 100 1) n) C hr hlocks ih v1 v3 (r101 / 8) ((r101 / 8) - (r101 / 8) / r103 * r103) X ls h (lv_sub hl [3, 4, 6, 1, 0] rfl)
        have h := hx_neg c110 h
        have zc110 : Int32.toInt (r101 - r101 / 8 * 8) ≠ 3 := fun z => c110 (Int32.toInt_inj.mp (z.trans rfl))
        by_cases c111 : (r101 - r101 / 8 * 8) = 4
        · have h := hx_pos c111 h
          have hz : Int32.toInt (r101 - r101 / 8 * 8) = 4 := by rw [c111]; rfl
          refine hx_tableIn (tgt := 389) C dL_law_231 (by rw [hz] <;> decide) (by rw [hz] <;> decide) (off := 158) (by rw [hz] <;> rfl) (by decide) ?_
          exact w_L_law_389 (f_L_law_189 L (sX dI) (dI 100 1) n) C hr hlocks ih v1 v3 (r101 / 8) ((r101 / 8) - (r101 / 8) / r103 * r103) X ls h (lv_sub hl [3, 4, 6, 1, 0] rfl)
        have h := hx_neg c111 h
        have zc111 : Int32.toInt (r101 - r101 / 8 * 8) ≠ 4 := fun z => c111 (Int32.toInt_inj.mp (z.trans rfl))
        by_cases c112 : (r101 - r101 / 8 * 8) = 5
        · have h := hx_pos c112 h
          have hz : Int32.toInt (r101 - r101 / 8 * 8) = 5 := by rw [c112]; rfl
          refine hx_tableIn (tgt := 491) C dL_law_231 (by rw [hz] <;> decide) (by rw [hz] <;> decide) (off := 260) (by rw [hz] <;> rfl) (by decide) ?_
          exact w_L_law_491 (f_L_law_189 L (sX dI) (dI 100 1) n) C hr hlocks ih v1 v3 (r101 / 8) X ls h (lv_sub hl [3, 4, 6, 1] rfl)
        have h := hx_neg c112 h
        have zc112 : Int32.toInt (r101 - r101 / 8 * 8) ≠ 5 := fun z => c112 (Int32.toInt_inj.mp (z.trans rfl))
        refine hx_tableOut (tgt := 583) C dL_law_231 (by omega) (by decide) ?_
        exact w_L_law_583 (f_L_law_189 L (sX dI) (dI 100 1) n) C hr hlocks ih v1 v3 (r101 / 8) ((r101 / 8) - (r101 / 8) / r103 * r103) X ls h (lv_sub hl [3, 4, 6, 1, 0] rfl)
def f_L_law_186 (L : hL) (xs : Nat → Int32) (Ln : Nat) (v1 : Nat) (s0 : Int32) (X : hX) : Option Int32 :=
  f_L_law_189 L xs Ln u_fuel v1 s0 0 X
set_option maxRecDepth 100000 in
set_option maxHeartbeats 8000000 in
theorem w_L_law_186 {p : Program} {l : Launch} {e : Env} {s : State} {m : MethodId} {below : List Frame} {meth : Method} {c : Code} {dC : Nat → ClassId} {dI : Nat → Nat → Nat} {cy : Nat → ClassId} {ad : Nat → Nat} {L : hL} (C : hC p s m #[Value.ref (dI 100 0)] meth c dC dI cy ad L (fun q => s.heap.size ≤ q) code 11 wsL_law RL) (hr : meth.sig.returnType = ret) (hlocks : meth.locks = false) : ∀ (v1 : Nat) (s0 : Int32) (X : hX) (ls : Array Slot), f_L_law_186 L (sX dI) (dI 100 1) v1 s0 X = some 1 → lv_has ls 11 [(0, .ref (dI 100 0)), (1, .ref (ad v1))] → hG p l e room_1 s m #[Value.ref (dI 100 0)] below meth c dC dI cy ad L (fun q => s.heap.size ≤ q) 470 2617 (lw_Z below #[Value.ref (dI 100 0)] s) X 186 ls [.int s0] := by
  intro v1 s0 X ls h hl
  unfold f_L_law_186 at h
  refine hx_istore_n (lv' := [(2, .int s0), (0, .ref (dI 100 0)), (1, .ref (ad v1))]) C dL_law_186 rfl hl (by decide) rfl (fun ls hl => ?_)
  refine hx_iconst (v := 0) C dL_law_187 (by decide) ?_
  refine hx_istore_n (lv' := [(3, .int 0), (2, .int s0), (0, .ref (dI 100 0)), (1, .ref (ad v1))]) C dL_law_188 rfl hl (by decide) rfl (fun ls hl => ?_)
  exact w_L_law_189 C hr hlocks u_fuel v1 s0 0 X ls h (lv_sub hl [2, 3, 1, 0] rfl)
def f_L_law_185 (L : hL) (xs : Nat → Int32) (Ln : Nat) (v1 : Nat) (X : hX) : Option Int32 :=
  f_L_law_186 L xs Ln v1 0 X
set_option maxRecDepth 100000 in
set_option maxHeartbeats 8000000 in
theorem w_L_law_185 {p : Program} {l : Launch} {e : Env} {s : State} {m : MethodId} {below : List Frame} {meth : Method} {c : Code} {dC : Nat → ClassId} {dI : Nat → Nat → Nat} {cy : Nat → ClassId} {ad : Nat → Nat} {L : hL} (C : hC p s m #[Value.ref (dI 100 0)] meth c dC dI cy ad L (fun q => s.heap.size ≤ q) code 11 wsL_law RL) (hr : meth.sig.returnType = ret) (hlocks : meth.locks = false) : ∀ (v1 : Nat) (X : hX) (ls : Array Slot), f_L_law_185 L (sX dI) (dI 100 1) v1 X = some 1 → lv_has ls 11 [(0, .ref (dI 100 0)), (1, .ref (ad v1))] → hG p l e room_1 s m #[Value.ref (dI 100 0)] below meth c dC dI cy ad L (fun q => s.heap.size ≤ q) 470 2617 (lw_Z below #[Value.ref (dI 100 0)] s) X 185 ls [] := by
  intro v1 X ls h hl
  unfold f_L_law_185 at h
  refine hx_iconst (v := 0) C dL_law_185 (by decide) ?_
  exact w_L_law_186 C hr hlocks v1 0 X ls h (lv_sub hl [0, 1] rfl)
def f_L_law_143 (L : hL) (xs : Nat → Int32) (Ln : Nat) (v1 : Nat) (v2 : Int32) (X : hX) : Option Int32 :=
  if v2 = 0 then
    f_L_law_185 L xs Ln v1 X
  else
    (f_L_cell L xs Ln X 4).bind fun r114 =>
    (f_L_cell L xs Ln X 5).bind fun r116 =>
    (f_X9_setScale L X v1 (1 + (r114 - r114 / 600 * 600)) (r116 - r116 / 400 * 400)).bind fun r118 =>
    if tk L v1 9 then
    if r118.1 = 0 then
      (f_L_holds L r118.2 v1).bind fun r122 =>
      if r122.1 = 0 then
        f_L_law_185 L xs Ln v1 r122.2
      else
        f_L_law_186 L xs Ln v1 1 r122.2
    else
      f_L_law_185 L xs Ln v1 r118.2
    else none
set_option maxRecDepth 100000 in
set_option maxHeartbeats 8000000 in
theorem w_L_law_143 {p : Program} {l : Launch} {e : Env} {s : State} {m : MethodId} {below : List Frame} {meth : Method} {c : Code} {dC : Nat → ClassId} {dI : Nat → Nat → Nat} {cy : Nat → ClassId} {ad : Nat → Nat} {L : hL} (C : hC p s m #[Value.ref (dI 100 0)] meth c dC dI cy ad L (fun q => s.heap.size ≤ q) code 11 wsL_law RL) (hr : meth.sig.returnType = ret) (hlocks : meth.locks = false) : ∀ (v1 : Nat) (v2 : Int32) (X : hX) (ls : Array Slot), f_L_law_143 L (sX dI) (dI 100 1) v1 v2 X = some 1 → lv_has ls 11 [(0, .ref (dI 100 0)), (1, .ref (ad v1)), (2, .int v2)] → hG p l e room_1 s m #[Value.ref (dI 100 0)] below meth c dC dI cy ad L (fun q => s.heap.size ≤ q) 470 2617 (lw_Z below #[Value.ref (dI 100 0)] s) X 143 ls [] := by
  intro v1 v2 X ls h hl
  unfold f_L_law_143 at h
  refine hx_iload_n C dL_law_143 rfl (lv_at hl 2 rfl) ?_
  refine hx_if_eq (tgt := 185) C dL_law_144 (by decide) (fun c113 => ?_) (fun c113 => ?_)
  · have h := hx_pos c113 h
    exact w_L_law_185 C hr hlocks v1 X ls h (lv_sub hl [0, 1] rfl)
  · have h := hx_neg c113 h
    refine hx_aload_n C dL_law_147 rfl (lv_at hl 1 rfl) ?_
    refine hx_iconst (v := 1) C dL_law_148 (by decide) ?_
    refine hx_aload_n C dL_law_149 rfl (lv_at hl 0 rfl) ?_
    refine hx_iconst (v := 4) C dL_law_150 (by decide) ?_
    obtain ⟨r114, e115, h⟩ := hx_bind h
    refine hx_callS (As := [.ref (dI 100 0), .int 4]) (rest := [.int 1, .ref (ad v1)]) (n := 2) C (c_L_cell e115) gL_law_L_cell (by decide +kernel) ⟨Nat.le_of_ble_eq_true rfl, Nat.le_of_ble_eq_true rfl⟩ rfl rfl rfl ⟨Nat.le_of_ble_eq_true rfl, Nat.le_of_ble_eq_true rfl⟩ hl.1 rfl rfl (Nat.le_of_ble_eq_true rfl) dL_law_151 ?_
    refine hx_sipush (v := 600) C dL_law_154 (by decide) ?_
    refine hx_irem C dL_law_157 (by decide) ?_
    refine hx_iadd C dL_law_158 ?_
    refine hx_aload_n C dL_law_159 rfl (lv_at hl 0 rfl) ?_
    refine hx_iconst (v := 5) C dL_law_160 (by decide) ?_
    obtain ⟨r116, e117, h⟩ := hx_bind h
    refine hx_callS (As := [.ref (dI 100 0), .int 5]) (rest := [.int (1 + (r114 - r114 / 600 * 600)), .ref (ad v1)]) (n := 2) C (c_L_cell e117) gL_law_L_cell (by decide +kernel) ⟨Nat.le_of_ble_eq_true rfl, Nat.le_of_ble_eq_true rfl⟩ rfl rfl rfl ⟨Nat.le_of_ble_eq_true rfl, Nat.le_of_ble_eq_true rfl⟩ hl.1 rfl rfl (Nat.le_of_ble_eq_true rfl) dL_law_161 ?_
    refine hx_sipush (v := 400) C dL_law_164 (by decide) ?_
    refine hx_irem C dL_law_167 (by decide) ?_
    obtain ⟨r118, e119, h⟩ := hx_bind h
    obtain ⟨g120, h⟩ := hx_gd h
    refine hx_callV (As := [.int (1 + (r114 - r114 / 600 * 600)), .int (r116 - r116 / 400 * 400)]) (rest := []) (n := 2) (Cn := RX9) C (c_X9_setScale e119) gL_law_X9_setScale g120 (by decide) rfl (by decide +kernel) ⟨Nat.le_of_ble_eq_true rfl, Nat.le_of_ble_eq_true rfl⟩ rfl rfl rfl ⟨Nat.le_of_ble_eq_true rfl, Nat.le_of_ble_eq_true rfl⟩ hl.1 rfl rfl (Nat.le_of_ble_eq_true rfl) dL_law_168 ?_
    refine hx_if_ne (tgt := 185) C dL_law_171 (by decide) (fun c121 => ?_) (fun c121 => ?_)
    · have h := hx_neg c121 h
      exact w_L_law_185 C hr hlocks v1 r118.2 ls h (lv_sub hl [0, 1] rfl)
    · have h := hx_pos c121 h
      refine hx_aload_n C dL_law_174 rfl (lv_at hl 1 rfl) ?_
      obtain ⟨r122, e123, h⟩ := hx_bind h
      refine hx_callS (As := [.ref (ad v1)]) (rest := []) (n := 1) C (c_L_holds e123) gL_law_L_holds (by decide +kernel) ⟨Nat.le_of_ble_eq_true rfl, Nat.le_of_ble_eq_true rfl⟩ rfl rfl rfl ⟨Nat.le_of_ble_eq_true rfl, Nat.le_of_ble_eq_true rfl⟩ hl.1 rfl rfl (Nat.le_of_ble_eq_true rfl) dL_law_175 ?_
      refine hx_if_eq (tgt := 185) C dL_law_178 (by decide) (fun c124 => ?_) (fun c124 => ?_)
      · have h := hx_pos c124 h
        exact w_L_law_185 C hr hlocks v1 r122.2 ls h (lv_sub hl [0, 1] rfl)
      · have h := hx_neg c124 h
        refine hx_iconst (v := 1) C dL_law_181 (by decide) ?_
        refine hx_goto (tgt := 186) C dL_law_182 (by decide) ?_
        exact w_L_law_186 C hr hlocks v1 1 r122.2 ls h (lv_sub hl [0, 1] rfl)
def f_L_law_15 (L : hL) (xs : Nat → Int32) (Ln : Nat) : Nat → Nat → Int32 → Int32 → hX → Option Int32
  | 0, _, _, _, _ => none
  | n + 1, v1, v2, v3, X =>
    if 4 ≤ v3 then
      f_L_law_143 L xs Ln v1 v2 X
    else
      if v2 = 0 then
        f_L_law_143 L xs Ln v1 v2 X
      else
        (f_L_cell L xs Ln X v3).bind fun r127 =>
        (f_X9_setKind L X v1 v3 (100 + (r127 - r127 / 1500 * 1500)) ((r127 / 2048) - (r127 / 2048) / 51 * 51)).bind fun r129 =>
        if tk L v1 9 then
        if r129.1 = 1000 then
          (f_X9_come L r129.2 v1 (r127 - r127 / 5000 * 5000)).bind fun r133 =>
          if r133.1 = v3 then
            (f_X9_addPrize L r133.2 v1 (1 + (r127 - r127 / 90 * 90)) (1 + ((r127 / 128) - (r127 / 128) / 500 * 500)) ((r127 / 65536) - (r127 / 65536) / 60 * 60) (1 + ((r127 / 64) - (r127 / 64) / 3000 * 3000)) (1 + ((r127 / 16) - (r127 / 16) / 5000 * 5000))).bind fun r136 =>
            if r136.1 = v3 then
              f_L_law_136 L xs Ln (f_L_law_15 L xs Ln n) v1 v3 1 r136.2
            else
              f_L_law_135 L xs Ln (f_L_law_15 L xs Ln n) v1 v3 r136.2
          else
            f_L_law_135 L xs Ln (f_L_law_15 L xs Ln n) v1 v3 r133.2
        else
          f_L_law_135 L xs Ln (f_L_law_15 L xs Ln n) v1 v3 r129.2
        else none
set_option maxRecDepth 100000 in
set_option maxHeartbeats 8000000 in
theorem w_L_law_15 {p : Program} {l : Launch} {e : Env} {s : State} {m : MethodId} {below : List Frame} {meth : Method} {c : Code} {dC : Nat → ClassId} {dI : Nat → Nat → Nat} {cy : Nat → ClassId} {ad : Nat → Nat} {L : hL} (C : hC p s m #[Value.ref (dI 100 0)] meth c dC dI cy ad L (fun q => s.heap.size ≤ q) code 11 wsL_law RL) (hr : meth.sig.returnType = ret) (hlocks : meth.locks = false) : ∀ (n : Nat) (v1 : Nat) (v2 : Int32) (v3 : Int32) (X : hX) (ls : Array Slot), f_L_law_15 L (sX dI) (dI 100 1) n v1 v2 v3 X = some 1 → lv_has ls 11 [(0, .ref (dI 100 0)), (1, .ref (ad v1)), (2, .int v2), (3, .int v3)] → hG p l e room_1 s m #[Value.ref (dI 100 0)] below meth c dC dI cy ad L (fun q => s.heap.size ≤ q) 470 2617 (lw_Z below #[Value.ref (dI 100 0)] s) X 15 ls [] := by
  intro n
  induction n with
  | zero => intro v1 v2 v3 X ls h; cases h
  | succ n ih =>
    intro v1 v2 v3 X ls h hl
    rw [f_L_law_15] at h
    refine hx_iload_n C dL_law_15 rfl (lv_at hl 3 rfl) ?_
    refine hx_iconst (v := 4) C dL_law_16 (by decide) ?_
    refine hx_icmp_ge (tgt := 143) C dL_law_17 (by decide) (fun c125 => ?_) (fun c125 => ?_)
    · have h := hx_pos c125 h
      exact w_L_law_143 C hr hlocks v1 v2 X ls h (lv_sub hl [0, 1, 2] rfl)
    · have h := hx_neg c125 h
      refine hx_iload_n C dL_law_20 rfl (lv_at hl 2 rfl) ?_
      refine hx_if_eq (tgt := 143) C dL_law_21 (by decide) (fun c126 => ?_) (fun c126 => ?_)
      · have h := hx_pos c126 h
        exact w_L_law_143 C hr hlocks v1 v2 X ls h (lv_sub hl [0, 1, 2] rfl)
      · have h := hx_neg c126 h
        refine hx_aload_n C dL_law_24 rfl (lv_at hl 0 rfl) ?_
        refine hx_iload_n C dL_law_25 rfl (lv_at hl 3 rfl) ?_
        obtain ⟨r127, e128, h⟩ := hx_bind h
        refine hx_callS (As := [.ref (dI 100 0), .int v3]) (rest := []) (n := 2) C (c_L_cell e128) gL_law_L_cell (by decide +kernel) ⟨Nat.le_of_ble_eq_true rfl, Nat.le_of_ble_eq_true rfl⟩ rfl rfl rfl ⟨Nat.le_of_ble_eq_true rfl, Nat.le_of_ble_eq_true rfl⟩ hl.1 rfl rfl (Nat.le_of_ble_eq_true rfl) dL_law_26 ?_
        refine hx_istore (lv' := [(4, .int r127), (0, .ref (dI 100 0)), (1, .ref (ad v1)), (2, .int v2), (3, .int v3)]) C dL_law_29 hl (by decide) rfl (fun ls hl => ?_)
        refine hx_aload_n C dL_law_31 rfl (lv_at hl 2 rfl) ?_
        refine hx_iload_n C dL_law_32 rfl (lv_at hl 4 rfl) ?_
        refine hx_bipush (v := 100) C dL_law_33 (by decide) ?_
        refine hx_iload C dL_law_35 (lv_at hl 0 rfl) ?_
        refine hx_sipush (v := 1500) C dL_law_37 (by decide) ?_
        refine hx_irem C dL_law_40 (by decide) ?_
        refine hx_iadd C dL_law_41 ?_
        refine hx_iload C dL_law_42 (lv_at hl 0 rfl) ?_
        refine hx_sipush (v := 2048) C dL_law_44 (by decide) ?_
        refine hx_idiv C dL_law_47 (by decide) ?_
        refine hx_bipush (v := 51) C dL_law_48 (by decide) ?_
        refine hx_irem C dL_law_50 (by decide) ?_
        obtain ⟨r129, e130, h⟩ := hx_bind h
        obtain ⟨g131, h⟩ := hx_gd h
        refine hx_callV (As := [.int v3, .int (100 + (r127 - r127 / 1500 * 1500)), .int ((r127 / 2048) - (r127 / 2048) / 51 * 51)]) (rest := []) (n := 3) (Cn := RX9) C (c_X9_setKind e130) gL_law_X9_setKind g131 (by decide) rfl (by decide +kernel) ⟨Nat.le_of_ble_eq_true rfl, Nat.le_of_ble_eq_true rfl⟩ rfl rfl rfl ⟨Nat.le_of_ble_eq_true rfl, Nat.le_of_ble_eq_true rfl⟩ hl.1 rfl rfl (Nat.le_of_ble_eq_true rfl) dL_law_51 ?_
        refine hx_sipush (v := 1000) C dL_law_54 (by decide) ?_
        refine hx_icmp_ne (tgt := 135) C dL_law_57 (by decide) (fun c132 => ?_) (fun c132 => ?_)
        · have h := hx_neg c132 h
          exact w_L_law_135 (f_L_law_15 L (sX dI) (dI 100 1) n) C hr hlocks ih v1 v3 r129.2 ls h (lv_sub hl [1, 2, 4] rfl)
        · have h := hx_pos c132 h
          refine hx_aload_n C dL_law_60 rfl (lv_at hl 2 rfl) ?_
          refine hx_iload C dL_law_61 (lv_at hl 0 rfl) ?_
          refine hx_sipush (v := 5000) C dL_law_63 (by decide) ?_
          refine hx_irem C dL_law_66 (by decide) ?_
          obtain ⟨r133, e134, h⟩ := hx_bind h
          refine hx_callV (As := [.int (r127 - r127 / 5000 * 5000)]) (rest := []) (n := 1) (Cn := RX9) C (c_X9_come e134) gL_law_X9_come g131 (by decide) rfl (by decide +kernel) ⟨Nat.le_of_ble_eq_true rfl, Nat.le_of_ble_eq_true rfl⟩ rfl rfl rfl ⟨Nat.le_of_ble_eq_true rfl, Nat.le_of_ble_eq_true rfl⟩ hl.1 rfl rfl (Nat.le_of_ble_eq_true rfl) dL_law_67 ?_
          refine hx_iload_n C dL_law_70 rfl (lv_at hl 4 rfl) ?_
          refine hx_icmp_ne (tgt := 135) C dL_law_71 (by decide) (fun c135 => ?_) (fun c135 => ?_)
          · have h := hx_neg c135 h
            exact w_L_law_135 (f_L_law_15 L (sX dI) (dI 100 1) n) C hr hlocks ih v1 v3 r133.2 ls h (lv_sub hl [1, 2, 4] rfl)
          · have h := hx_pos c135 h
            refine hx_aload_n C dL_law_74 rfl (lv_at hl 2 rfl) ?_
            refine hx_iconst (v := 1) C dL_law_75 (by decide) ?_
            refine hx_iload C dL_law_76 (lv_at hl 0 rfl) ?_
            refine hx_bipush (v := 90) C dL_law_78 (by decide) ?_
            refine hx_irem C dL_law_80 (by decide) ?_
            refine hx_iadd C dL_law_81 ?_
            refine hx_iconst (v := 1) C dL_law_82 (by decide) ?_
            refine hx_iload C dL_law_83 (lv_at hl 0 rfl) ?_
            refine hx_sipush (v := 128) C dL_law_85 (by decide) ?_
            refine hx_idiv C dL_law_88 (by decide) ?_
            refine hx_sipush (v := 500) C dL_law_89 (by decide) ?_
            refine hx_irem C dL_law_92 (by decide) ?_
            refine hx_iadd C dL_law_93 ?_
            refine hx_iload C dL_law_94 (lv_at hl 0 rfl) ?_
            refine hx_ldc (v := 65536) C (by decide +kernel) dL_law_96 ?_
            refine hx_idiv C dL_law_98 (by decide) ?_
            refine hx_bipush (v := 60) C dL_law_99 (by decide) ?_
            refine hx_irem C dL_law_101 (by decide) ?_
            refine hx_iconst (v := 1) C dL_law_102 (by decide) ?_
            refine hx_iload C dL_law_103 (lv_at hl 0 rfl) ?_
            refine hx_bipush (v := 64) C dL_law_105 (by decide) ?_
            refine hx_idiv C dL_law_107 (by decide) ?_
            refine hx_sipush (v := 3000) C dL_law_108 (by decide) ?_
            refine hx_irem C dL_law_111 (by decide) ?_
            refine hx_iadd C dL_law_112 ?_
            refine hx_iconst (v := 1) C dL_law_113 (by decide) ?_
            refine hx_iload C dL_law_114 (lv_at hl 0 rfl) ?_
            refine hx_bipush (v := 16) C dL_law_116 (by decide) ?_
            refine hx_idiv C dL_law_118 (by decide) ?_
            refine hx_sipush (v := 5000) C dL_law_119 (by decide) ?_
            refine hx_irem C dL_law_122 (by decide) ?_
            refine hx_iadd C dL_law_123 ?_
            obtain ⟨r136, e137, h⟩ := hx_bind h
            refine hx_callV (As := [.int (1 + (r127 - r127 / 90 * 90)), .int (1 + ((r127 / 128) - (r127 / 128) / 500 * 500)), .int ((r127 / 65536) - (r127 / 65536) / 60 * 60), .int (1 + ((r127 / 64) - (r127 / 64) / 3000 * 3000)), .int (1 + ((r127 / 16) - (r127 / 16) / 5000 * 5000))]) (rest := []) (n := 5) (Cn := RX9) C (c_X9_addPrize e137) gL_law_X9_addPrize g131 (by decide) rfl (by decide +kernel) ⟨Nat.le_of_ble_eq_true rfl, Nat.le_of_ble_eq_true rfl⟩ rfl rfl rfl ⟨Nat.le_of_ble_eq_true rfl, Nat.le_of_ble_eq_true rfl⟩ hl.1 rfl rfl (Nat.le_of_ble_eq_true rfl) dL_law_124 ?_
            refine hx_iload_n C dL_law_127 rfl (lv_at hl 4 rfl) ?_
            refine hx_icmp_ne (tgt := 135) C dL_law_128 (by decide) (fun c138 => ?_) (fun c138 => ?_)
            · have h := hx_neg c138 h
              exact w_L_law_135 (f_L_law_15 L (sX dI) (dI 100 1) n) C hr hlocks ih v1 v3 r136.2 ls h (lv_sub hl [1, 2, 4] rfl)
            · have h := hx_pos c138 h
              refine hx_iconst (v := 1) C dL_law_131 (by decide) ?_
              refine hx_goto (tgt := 136) C dL_law_132 (by decide) ?_
              exact w_L_law_136 (f_L_law_15 L (sX dI) (dI 100 1) n) C hr hlocks ih v1 v3 1 r136.2 ls h (lv_sub hl [1, 2, 4] rfl)
def f_L_law_8 (L : hL) (xs : Nat → Int32) (Ln : Nat) (v1 : Nat) (X : hX) : Option Int32 :=
  (f_L_holds L X v1).bind fun r139 =>
  f_L_law_15 L xs Ln u_fuel v1 r139.1 0 r139.2
set_option maxRecDepth 100000 in
set_option maxHeartbeats 8000000 in
theorem w_L_law_8 {p : Program} {l : Launch} {e : Env} {s : State} {m : MethodId} {below : List Frame} {meth : Method} {c : Code} {dC : Nat → ClassId} {dI : Nat → Nat → Nat} {cy : Nat → ClassId} {ad : Nat → Nat} {L : hL} (C : hC p s m #[Value.ref (dI 100 0)] meth c dC dI cy ad L (fun q => s.heap.size ≤ q) code 11 wsL_law RL) (hr : meth.sig.returnType = ret) (hlocks : meth.locks = false) : ∀ (v1 : Nat) (X : hX) (ls : Array Slot), f_L_law_8 L (sX dI) (dI 100 1) v1 X = some 1 → lv_has ls 11 [(0, .ref (dI 100 0)), (1, .ref (ad v1))] → hG p l e room_1 s m #[Value.ref (dI 100 0)] below meth c dC dI cy ad L (fun q => s.heap.size ≤ q) 470 2617 (lw_Z below #[Value.ref (dI 100 0)] s) X 8 ls [] := by
  intro v1 X ls h hl
  unfold f_L_law_8 at h
  refine hx_aload_n C dL_law_8 rfl (lv_at hl 1 rfl) ?_
  obtain ⟨r139, e140, h⟩ := hx_bind h
  refine hx_callS (As := [.ref (ad v1)]) (rest := []) (n := 1) C (c_L_holds e140) gL_law_L_holds (by decide +kernel) ⟨Nat.le_of_ble_eq_true rfl, Nat.le_of_ble_eq_true rfl⟩ rfl rfl rfl ⟨Nat.le_of_ble_eq_true rfl, Nat.le_of_ble_eq_true rfl⟩ hl.1 rfl rfl (Nat.le_of_ble_eq_true rfl) dL_law_9 ?_
  refine hx_istore_n (lv' := [(2, .int r139.1), (0, .ref (dI 100 0)), (1, .ref (ad v1))]) C dL_law_12 rfl hl (by decide) rfl (fun ls hl => ?_)
  refine hx_iconst (v := 0) C dL_law_13 (by decide) ?_
  refine hx_istore_n (lv' := [(3, .int 0), (2, .int r139.1), (0, .ref (dI 100 0)), (1, .ref (ad v1))]) C dL_law_14 rfl hl (by decide) rfl (fun ls hl => ?_)
  exact w_L_law_15 C hr hlocks u_fuel v1 r139.1 0 r139.2 ls h (lv_sub hl [2, 3, 1, 0] rfl)
