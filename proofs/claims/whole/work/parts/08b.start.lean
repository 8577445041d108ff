theorem ar_p {args : Array Value} {s : State} {ty : FieldType} (h : (Cond.arrayClass ty).before args s = true) : ∃ c, ArrOfT s c ty ∧ s.vm.findClass ("[" ++ ty.toString) = some c := by
  obtain ⟨c, k, comp, h1, h2, h3⟩ := Cond.arrayClass_spec h
  exact ⟨c, fun n z => ⟨fun k h => (by cases h), k, h2, comp, h3⟩, h1⟩
theorem ar_o {args : Array Value} {s : State} {n : String} (h : (Cond.arrayOver (.object n)).before args s = true) : ∃ c, ArrOfT s c (.object n) ∧ va_RA s c (.object n) := by
  obtain ⟨comp, c, k, h1, h2, h3, h4, h5⟩ := Cond.arrayOver_spec h
  exact ⟨c, fun n z => ⟨fun k h => (by cases h), k, h3, comp, h4⟩, k, comp, h3, h4, h1, h5⟩
def L_0 : hL := (0, fun _ => 0, fun _ => 0)
def X_0 : hX := (fun _ _ => 0, fun _ _ => none)
/-- what is to be shown of the functions alone -/
def law_run (xs : Nat → Int32) (Ln : Nat) : Prop := ∃ (L2 : hL) (X2 : hX) (L4 : hL) (X4 : hX), f_X9_init (newL L_0 9 0) (newX X_0 0) 0 = some (L2, X2) ∧ f_X10_init (newL L2 10 0) (newX X2 L2.1) L2.1 = some (L4, X4) ∧ f_L_law_18 L4 xs Ln u_fuel 0 L2.1 0 X4 = some 1
def st_ix (i : Nat) : Nat := (hSk.getD i (0, "")).1
theorem st_nest : ∀ q ∈ hNl, Cond.methodLinkNest q.1 q.2.1 q.2.2.1 q.2.2.2 ∈ lw_tbl := by decide +kernel
set_option maxHeartbeats 4000000 in
set_option maxRecDepth 100000 in
/-- what the Statement gives of the tables, the String constants and the statics -/
theorem st_C {p : Program} {s : State} {m : MethodId} {meth : Method} {c : Code} {b Ln : Nat} {xs : Nat → Int32} (C0 : lw_At p s m meth c b Ln xs) : ∃ (dC : Nat → ClassId) (dI : Nat → Nat → Nat) (cy : Nat → ClassId), hC p s m #[Value.ref b] meth c dC dI cy (fun _ => 0) L_0 (fun q => s.heap.size ≤ q) code 4 wsL_law RL := by
    obtain ⟨hx, hb, hr, hml, hown, hts, hX, hbl, hlocks, hgv⟩ := C0
    have hfl := flat_of_before _ hgv
    have hA0 : ∀ a : Nat, a < s.heap.size → ¬ (fun q : Nat => s.heap.size ≤ q) a := fun a h1 h2 => by have h2 : s.heap.size ≤ a := h2; omega
    obtain ⟨c0, i0, kn0⟩ := u_known (C := RX0) (T := TX0) (N := 9) (n := 9) hts inX0 (hts (.instantiable RX0 9) (by decide +kernel))
    obtain ⟨c1, i1, kn1⟩ := u_known (C := RX1) (T := TX1) (N := 6) (n := 6) hts inX1 (hts (.instantiable RX1 6) (by decide +kernel))
    obtain ⟨c2, i2, kn2⟩ := u_known (C := RX2) (T := TX2) (N := 4) (n := 4) hts inX2 (hts (.instantiable RX2 4) (by decide +kernel))
    obtain ⟨c3, i3, kn3⟩ := u_known (C := RX3) (T := TX3) (N := 4) (n := 4) hts inX3 (hts (.instantiable RX3 4) (by decide +kernel))
    obtain ⟨c4, i4, kn4⟩ := u_known (C := RX4) (T := TX4) (N := 2) (n := 2) hts inX4 (hts (.instantiable RX4 2) (by decide +kernel))
    obtain ⟨c5, i5, kn5⟩ := u_known (C := RX5) (T := TX5) (N := 7) (n := 7) hts inX5 (hts (.instantiable RX5 7) (by decide +kernel))
    obtain ⟨c6, i6, kn6⟩ := u_known (C := RX6) (T := TX6) (N := 6) (n := 6) hts inX6 (hts (.instantiable RX6 6) (by decide +kernel))
    obtain ⟨c7, i7, kn7⟩ := u_known (C := RX7) (T := TX7) (N := 3) (n := 3) hts inX7 (hts (.instantiable RX7 3) (by decide +kernel))
    obtain ⟨c8, i8, kn8⟩ := u_known (C := RX8) (T := TX8) (N := 3) (n := 3) hts inX8 (hts (.instantiable RX8 3) (by decide +kernel))
    obtain ⟨c9, i9, kn9⟩ := u_known (C := RX9) (T := TX9) (N := 3) (n := 3) hts inX9 (hts (.instantiable RX9 3) (by decide +kernel))
    obtain ⟨c10, i10, kn10⟩ := u_known (C := RX10) (T := TX10) (N := 15) (n := 15) hts inX10 (hts (.instantiable RX10 15) (by decide +kernel))
    obtain ⟨y11, ya11, yb11⟩ := ar_p (hts (.arrayClass .char) (by decide +kernel))
    obtain ⟨y12, ya12, yb12⟩ := ar_p (hts (.arrayClass .int) (by decide +kernel))
    obtain ⟨y13, ya13, yb13⟩ := ar_p (hts (.arrayClass .boolean) (by decide +kernel))
    obtain ⟨y14, ya14, yb14⟩ := ar_o (hts (.arrayOver (.object "TicketScales$Counter")) (by decide +kernel))
    obtain ⟨y15, ya15, yb15⟩ := ar_o (hts (.arrayOver (.object "TicketScales$Customer")) (by decide +kernel))
    obtain ⟨y16, ya16, yb16⟩ := ar_o (hts (.arrayOver (.object "TicketScales$Kind")) (by decide +kernel))
    obtain ⟨y17, ya17, yb17⟩ := ar_o (hts (.arrayOver (.object "TicketScales$Prize")) (by decide +kernel))
    obtain ⟨y18, ya18, yb18⟩ := ar_o (hts (.arrayOver (.object "TicketScales$State")) (by decide +kernel))
    obtain ⟨adK, adV, hvS, hvE⟩ := vk_Sof (args := #[Value.ref b]) (s := s) (N := 8) (tm := fun i => .string RX6 (st_ix i)) (len := hSl) (byt := hSb) (A := fun q => s.heap.size ≤ q) (by decide) (fun i hi => hfl _ ((by decide +kernel : ∀ i, i < 8 → Cond.exactly (.string RX6 (st_ix i)) "java/lang/String" ∈ (flatC (Jvm.Cond.and given_1 narrow_1))) i hi)) (fun i hi => hfl _ ((by decide +kernel : ∀ i, i < 8 → Cond.eq (.field (.string RX6 (st_ix i)) "java/lang/String" "coder" "B") (.int 0) ∈ (flatC (Jvm.Cond.and given_1 narrow_1))) i hi)) (fun i hi => hfl _ ((by decide +kernel : ∀ i, i < 8 → Cond.arrayOf (.field (.string RX6 (st_ix i)) "java/lang/String" "value" "[B") .byte ∈ (flatC (Jvm.Cond.and given_1 narrow_1))) i hi)) (fun i hi => hfl _ ((by decide +kernel : ∀ i, i < 8 → Cond.eq (.length (.field (.string RX6 (st_ix i)) "java/lang/String" "value" "[B")) (.int (Int32.ofNat (hSl.getD i 0))) ∈ (flatC (Jvm.Cond.and given_1 narrow_1))) i hi)) (fun i hi j hj => hfl _ ((by decide +kernel : ∀ i, i < 8 → ∀ j, j < hSl.getD i 0 → Cond.eq (.elem (.field (.string RX6 (st_ix i)) "java/lang/String" "value" "[B") (.int (Int32.ofNat j))) (.int ((hSb.getD i []).getD j 0)) ∈ (flatC (Jvm.Cond.and given_1 narrow_1))) i hi j hj)) (fun i j hi hj hij => by
        rcases (by decide +kernel : ∀ i, i < 8 → ∀ j, j < 8 → i ≠ j → Cond.not (Cond.eq (.string RX6 (st_ix i)) (.string RX6 (st_ix j))) ∈ (flatC (Jvm.Cond.and given_1 narrow_1)) ∨ Cond.not (Cond.eq (.string RX6 (st_ix j)) (.string RX6 (st_ix i))) ∈ (flatC (Jvm.Cond.and given_1 narrow_1))) i hi j hj hij with h | h
        · exact Or.inl (hfl _ h)
        · exact Or.inr (hfl _ h)) hA0
    refine ⟨(fun k => if k = 0 then c0 else if k = 1 then c1 else if k = 2 then c2 else if k = 3 then c3 else if k = 4 then c4 else if k = 5 then c5 else if k = 6 then c6 else if k = 7 then c7 else if k = 8 then c8 else if k = 9 then c9 else c10), (fun k => if k = 100 then adK else if k = 101 then adV else if k = 0 then i0 else if k = 1 then i1 else if k = 2 then i2 else if k = 3 then i3 else if k = 4 then i4 else if k = 5 then i5 else if k = 6 then i6 else if k = 7 then i7 else if k = 8 then i8 else if k = 9 then i9 else i10), (fun k => if k = 11 then y11 else if k = 12 then y12 else if k = 13 then y13 else if k = 14 then y14 else if k = 15 then y15 else if k = 16 then y16 else if k = 17 then y17 else y18), hx, hb, hml, hown, fun w h => hts w (wsL_law_in w h), ⟨fun k q hq => ?_, fun k q hq => ?_⟩, fun q hq => va_Nw.of rfl (hts _ (st_nest q hq)), hlocks, ⟨fun i j hi => absurd hi (Nat.not_lt_zero i), fun k hk => absurd hk (Nat.not_lt_zero k)⟩, fun q h => h, hvS, va_Zof (hts (.laysStatic "java/lang/String" "COMPACT_STRINGS" "Z") (by decide +kernel)) (hts (.initialized "java/lang/String") (by decide +kernel)) (va_eqt (hfl _ (by decide +kernel))) hA0, va_Zqof (hts (.laysStatic "jdk/internal/util/Preconditions" "SIOOBE_FORMATTER" "Ljava/util/function/BiFunction;") (by decide +kernel)) (hts (.initialized "jdk/internal/util/Preconditions") (by decide +kernel)) (hfl _ (by decide +kernel)) hA0, fun i q hq => ?_, fun Cn hq => va_AO.of (hts _ ((by decide +kernel : ∀ Cn ∈ hAOl, Cond.arrayOver (.object Cn) ∈ lw_tbl) Cn hq))⟩
    · match k, hq with
      | 0, hq => cases hq; exact kn0
      | 1, hq => cases hq; exact kn1
      | 2, hq => cases hq; exact kn2
      | 3, hq => cases hq; exact kn3
      | 4, hq => cases hq; exact kn4
      | 5, hq => cases hq; exact kn5
      | 6, hq => cases hq; exact kn6
      | 7, hq => cases hq; exact kn7
      | 8, hq => cases hq; exact kn8
      | 9, hq => cases hq; exact kn9
      | 10, hq => cases hq; exact kn10
      | k + 11, hq => simp [vwCl] at hq
    · match k, hq with
      | 0, hq => cases hq; exact ⟨ya11, yb11⟩
      | 1, hq => cases hq; exact ⟨ya12, yb12⟩
      | 2, hq => cases hq; exact ⟨ya13, yb13⟩
      | 3, hq => cases hq; exact ⟨ya14, yb14⟩
      | 4, hq => cases hq; exact ⟨ya15, yb15⟩
      | 5, hq => cases hq; exact ⟨ya16, yb16⟩
      | 6, hq => cases hq; exact ⟨ya17, yb17⟩
      | 7, hq => cases hq; exact ⟨ya18, yb18⟩
      | k + 8, hq => simp [hT] at hq
    · have hi : i < 8 := (List.getElem?_eq_some_iff.mp hq).1
      have e1 : hSk.getD i (0, "") = q := by rw [List.getD_eq_getElem?_getD, hq]; rfl
      refine vk_R.of (hts _ ((by decide +kernel : ∀ q ∈ hSk, Cond.stringRef RX6 q.1 q.2 ∈ lw_tbl) q (List.mem_of_getElem? hq))) ?_
      have h2 := hvE i hi
      have e2 : st_ix i = q.1 := by unfold st_ix; rw [e1]
      rw [e2] at h2
      exact h2
set_option maxHeartbeats 4000000 in
set_option maxRecDepth 100000 in
theorem whole_of (pure : ∀ (xs : Nat → Int32) (Ln : Nat), Ln ≤ 3072 → law_run xs Ln) {p : Program} {e : Env} {s : State} {m : MethodId} {below : List Frame} {meth : Method} {c : Code} (l : Launch) (hflags : l.flags = flags0) {b Ln : Nat} {xs : Nat → Int32} (hL : Ln ≤ 3072) (C0 : lw_At p s m meth c b Ln xs) : W p l e room_1 s m #[Value.ref b] below meth c s.heap [] 0 0 (lw_Z below #[Value.ref b] s) (entryFrame m ([Value.ref b] : List Value).toArray 4) := by
  obtain ⟨L2, X2, L4, X4, e1, e2, e3⟩ := pure xs Ln hL
  obtain ⟨dC, dI, cy, C⟩ := st_C C0
  obtain ⟨hx, hb, hr, hml, hown, hts, hX, hbl, hlocks, hgv⟩ := C0
  have hbA : ¬ (fun q : Nat => s.heap.size ≤ q) b := Nat.not_le.mpr hbl
  have hl := lv_entry ([.ref b] : List Value) (n := 4) (Nat.le_of_ble_eq_true rfl)
  rw [lg_entry_eq]
  generalize (lg_sl ([.ref b] : List Value) ++ List.replicate (4 - (lg_sl ([.ref b] : List Value)).length) Slot.unset).toArray = ls at hl ⊢
  have hl : lv_has ls 4 [(0, .ref b)] := hl
  have hrs0 : hRS L_0 X_0 := fun k j b hk => absurd hk (Nat.not_lt_zero k)
  suffices hh : hG p l e room_1 s m #[Value.ref b] below meth c dC dI cy (fun _ => 0) L_0 (fun q => s.heap.size ≤ q) 0 0 (lw_Z below #[Value.ref b] s) X_0 0 ls [] by
    exact hh s.heap [] (fun k q h => by simp [hW, L_0] at h) va_S.rf
  obtain ⟨L1, eL1⟩ : ∃ z, z = newL L_0 9 0 := ⟨_, rfl⟩
  obtain ⟨X1, eX1⟩ : ∃ z, z = newX X_0 L_0.1 := ⟨_, rfl⟩
  have hrs1 := hRS.new hrs0 eL1 eX1
  have e1 : f_X9_init L1 X1 0 = some (L2, X2) := by rw [eL1, eX1]; exact e1
  refine hx_new C hrs0 eL1 eX1 inlX9 tyX9 tyX9_ok (by decide +kernel) (by decide +kernel) (by decide +kernel) (by decide) rfl hf0_9 (Nat.le_of_ble_eq_true rfl) (Nat.le_of_ble_eq_true rfl) dL_law_0 (fun ad1 hag1 C => ?_)
  refine hx_dup C dL_law_3 rfl ?_
  have z2 := rs_X9_init e1 hrs1
  refine hx_initA (b := 0) C (c_X9_init e1 hrs1) gL_law_X9_init (by decide +kernel) rfl (by decide +kernel) (by decide +kernel) (by decide +kernel) ⟨Nat.le_of_ble_eq_true rfl, Nat.le_of_ble_eq_true rfl⟩ rfl rfl rfl ⟨Nat.le_of_ble_eq_true rfl, Nat.le_of_ble_eq_true rfl⟩ hl.1 (Nat.le_of_ble_eq_true rfl) dL_law_4 (fun ad2 hag2 C => ?_)
  have h01 : 0 < L1.1 := by rw [eL1]; exact Nat.lt_succ_self _
  rw [show ad1 L_0.1 = ad2 0 from (hag2 0 h01).symm]
  have h02 : 0 < L2.1 := Nat.lt_of_lt_of_le h01 z2.2
  refine hx_astore_n (lv' := [(1, .ref (ad2 0)), (0, .ref b)]) C dL_law_7 rfl hl (by decide) rfl (fun ls hl => ?_)
  obtain ⟨L3, eL3⟩ : ∃ z, z = newL L2 10 0 := ⟨_, rfl⟩
  obtain ⟨X3, eX3⟩ : ∃ z, z = newX X2 L2.1 := ⟨_, rfl⟩
  have hrs3 := hRS.new z2.1 eL3 eX3
  have e2 : f_X10_init L3 X3 L2.1 = some (L4, X4) := by rw [eL3, eX3]; exact e2
  refine hx_new C z2.1 eL3 eX3 inlX10 tyX10 tyX10_ok (by decide +kernel) (by decide +kernel) (by decide +kernel) (by decide) rfl hf0_10 (Nat.le_of_ble_eq_true rfl) (Nat.le_of_ble_eq_true rfl) dL_law_8 (fun ad3 hag3 C => ?_)
  rw [← hag3 0 h02] at hl
  refine hx_dup C dL_law_11 rfl ?_
  have z4 := rs_X10_init e2 hrs3
  refine hx_initA (b := L2.1) C (c_X10_init e2 hrs3) gL_law_X10_init (by decide +kernel) rfl (by decide +kernel) (by decide +kernel) (by decide +kernel) ⟨Nat.le_of_ble_eq_true rfl, Nat.le_of_ble_eq_true rfl⟩ rfl rfl rfl ⟨Nat.le_of_ble_eq_true rfl, Nat.le_of_ble_eq_true rfl⟩ hl.1 (Nat.le_of_ble_eq_true rfl) dL_law_12 (fun ad4 hag4 C => ?_)
  have h23 : L2.1 < L3.1 := by rw [eL3]; exact Nat.lt_succ_self _
  rw [← hag4 L2.1 h23]
  rw [← hag4 0 (Nat.lt_trans h02 h23)] at hl
  refine hx_astore_n (lv' := [(2, .ref (ad4 L2.1)), (1, .ref (ad4 0)), (0, .ref b)]) C dL_law_15 rfl hl (by decide) rfl (fun ls hl => ?_)
  refine hx_iconst (v := 0) C dL_law_16 (by decide) ?_
  refine hx_istore_n (lv' := [(3, .int 0), (2, .ref (ad4 L2.1)), (1, .ref (ad4 0)), (0, .ref b)]) C dL_law_17 rfl hl (by decide) rfl (fun ls hl => ?_)
  exact w_L_law_18 C hr hlocks hX hbl hbA u_fuel 0 L2.1 0 X4 ls e3 (lv_sub hl [3, 2, 1, 0] rfl)
