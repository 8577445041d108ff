theorem ar_p {args : Array Value} {s : State} {ty : FieldType} (h : (Cond.arrayClass ty).before args s = true) : ∃ c, ArrOfT s c ty ∧ s.vm.findClass ("[" ++ ty.toString) = some c := by
  obtain ⟨c, k, comp, h1, h2, h3⟩ := Cond.arrayClass_spec h
  exact ⟨c, fun n z => ⟨fun k h => (by cases h), k, h2, comp, h3⟩, h1⟩
theorem ar_o {args : Array Value} {s : State} {n : String} (h : (Cond.arrayOver (.object n)).before args s = true) : ∃ c, ArrOfT s c (.object n) ∧ va_RA s c (.object n) := by
  obtain ⟨comp, c, k, h1, h2, h3, h4, h5⟩ := Cond.arrayOver_spec h
  exact ⟨c, fun n z => ⟨fun k h => (by cases h), k, h3, comp, h4⟩, k, comp, h3, h4, h1, h5⟩
def L_0 : hL := (0, fun _ => 0, fun _ => 0)
def X_0 : hX := (fun _ _ => 0, fun _ _ => none)
/-- what is to be shown of the functions alone -/
def law_run (xs : Nat → Int32) (Ln : Nat) : Prop := ∃ (L2 : hL) (X2 : hX), f_X9_init (newL L_0 9 0) (newX X_0 0) 0 = some (L2, X2) ∧ f_L_law_8 L2 xs Ln 0 X2 = some 1
theorem st_nest : ∀ q ∈ hNl, Cond.methodLinkNest q.1 q.2.1 q.2.2.1 q.2.2.2 ∈ lw_tbl := by decide +kernel
theorem st_sx (xs : Nat → Int32) : (fun k => Int32.ofNat ((xs k).toUInt32.toNat)) = xs := by
  funext k
  show (⟨⟨BitVec.ofNat 32 ((xs k).toUInt32.toBitVec.toNat)⟩⟩ : Int32) = xs k
  rw [BitVec.ofNat_toNat, BitVec.setWidth_eq]
set_option maxHeartbeats 4000000 in
set_option maxRecDepth 100000 in
/-- what the Statement gives of the tables and of the script -/
theorem st_C {p : Program} {s : State} {m : MethodId} {meth : Method} {c : Code} {b Ln : Nat} {xs : Nat → Int32} (C0 : lw_At p s m meth c b Ln xs) : ∃ (dC : Nat → ClassId) (dI : Nat → Nat → Nat) (cy : Nat → ClassId), dI 100 0 = b ∧ dI 100 1 = Ln ∧ sX dI = xs ∧ hC p s m #[Value.ref b] meth c dC dI cy (fun _ => 0) L_0 (fun q => s.heap.size ≤ q) code 11 wsL_law RL := by
    obtain ⟨hx, hb, hr, hml, hown, hts, hX, hbl, hlocks, hgv⟩ := C0
    obtain ⟨c0, i0, kn0⟩ := u_known (C := RX0) (T := TX0) (N := 9) (n := 9) hts inX0 (hts (.instantiable RX0 9) (by decide +kernel))
    obtain ⟨c1, i1, kn1⟩ := u_known (C := RX1) (T := TX1) (N := 6) (n := 6) hts inX1 (hts (.instantiable RX1 6) (by decide +kernel))
    obtain ⟨c2, i2, kn2⟩ := u_known (C := RX2) (T := TX2) (N := 4) (n := 4) hts inX2 (hts (.instantiable RX2 4) (by decide +kernel))
    obtain ⟨c3, i3, kn3⟩ := u_known (C := RX3) (T := TX3) (N := 4) (n := 4) hts inX3 (hts (.instantiable RX3 4) (by decide +kernel))
    obtain ⟨c4, i4, kn4⟩ := u_known (C := RX4) (T := TX4) (N := 2) (n := 2) hts inX4 (hts (.instantiable RX4 2) (by decide +kernel))
    obtain ⟨c5, i5, kn5⟩ := u_known (C := RX5) (T := TX5) (N := 7) (n := 7) hts inX5 (hts (.instantiable RX5 7) (by decide +kernel))
    obtain ⟨c6, i6, kn6⟩ := u_known (C := RX6) (T := TX6) (N := 6) (n := 6) hts inX6 (hts (.instantiable RX6 6) (by decide +kernel))
    obtain ⟨c7, i7, kn7⟩ := u_known (C := RX7) (T := TX7) (N := 3) (n := 3) hts inX7 (hts (.instantiable RX7 3) (by decide +kernel))
    obtain ⟨c8, i8, kn8⟩ := u_known (C := RX8) (T := TX8) (N := 3) (n := 3) hts inX8 (hts (.instantiable RX8 3) (by decide +kernel))
    obtain ⟨c9, i9, kn9⟩ := u_known (C := RX9) (T := TX9) (N := 3) (n := 3) hts inX9 (hts (.instantiable RX9 3) (by decide +kernel))
    obtain ⟨y11, ya11, yb11⟩ := ar_p (hts (.arrayClass .char) (by decide +kernel))
    obtain ⟨y12, ya12, yb12⟩ := ar_p (hts (.arrayClass .int) (by decide +kernel))
    obtain ⟨y13, ya13, yb13⟩ := ar_p (hts (.arrayClass .boolean) (by decide +kernel))
    obtain ⟨y14, ya14, yb14⟩ := ar_o (hts (.arrayOver (.object "TicketScales$Counter")) (by decide +kernel))
    obtain ⟨y15, ya15, yb15⟩ := ar_o (hts (.arrayOver (.object "TicketScales$Customer")) (by decide +kernel))
    obtain ⟨y16, ya16, yb16⟩ := ar_o (hts (.arrayOver (.object "TicketScales$Kind")) (by decide +kernel))
    obtain ⟨y17, ya17, yb17⟩ := ar_o (hts (.arrayOver (.object "TicketScales$Prize")) (by decide +kernel))
    obtain ⟨y18, ya18, yb18⟩ := ar_o (hts (.arrayOver (.object "TicketScales$State")) (by decide +kernel))
    have hsx := st_sx xs
    have hX2 : va_X b Ln (fun k => Int32.ofNat ((xs k).toUInt32.toNat)) s s.heap := by rw [hsx]; exact hX
    refine ⟨(fun k => if k = 0 then c0 else if k = 1 then c1 else if k = 2 then c2 else if k = 3 then c3 else if k = 4 then c4 else if k = 5 then c5 else if k = 6 then c6 else if k = 7 then c7 else if k = 8 then c8 else c9), (fun k => if k = 100 then (fun j => if j = 0 then b else Ln) else if k = 101 then (fun j => (xs j).toUInt32.toNat) else if k = 0 then i0 else if k = 1 then i1 else if k = 2 then i2 else if k = 3 then i3 else if k = 4 then i4 else if k = 5 then i5 else if k = 6 then i6 else if k = 7 then i7 else if k = 8 then i8 else i9), (fun k => if k = 11 then y11 else if k = 12 then y12 else if k = 13 then y13 else if k = 14 then y14 else if k = 15 then y15 else if k = 16 then y16 else if k = 17 then y17 else y18), rfl, rfl, hsx, hx, hb, hml, hown, fun w h => hts w (wsL_law_in w h), ⟨fun k q hq => ?_, fun k q hq => ?_⟩, fun q hq => va_Nw.of rfl (hts _ (st_nest q hq)), hlocks, ⟨fun i j hi => absurd hi (Nat.not_lt_zero i), fun k hk => absurd hk (Nat.not_lt_zero k)⟩, fun q h => h, ⟨hX2, hbl, Nat.not_le.mpr hbl⟩, fun Cn hq => va_AO.of (hts _ ((by decide +kernel : ∀ Cn ∈ hAOl, Cond.arrayOver (.object Cn) ∈ lw_tbl) Cn hq))⟩
    · match k, hq with
      | 0, hq => cases hq; exact kn0
      | 1, hq => cases hq; exact kn1
      | 2, hq => cases hq; exact kn2
      | 3, hq => cases hq; exact kn3
      | 4, hq => cases hq; exact kn4
      | 5, hq => cases hq; exact kn5
      | 6, hq => cases hq; exact kn6
      | 7, hq => cases hq; exact kn7
      | 8, hq => cases hq; exact kn8
      | 9, hq => cases hq; exact kn9
      | k + 10, hq => simp [vwCl] at hq
    · match k, hq with
      | 0, hq => cases hq; exact ⟨ya11, yb11⟩
      | 1, hq => cases hq; exact ⟨ya12, yb12⟩
      | 2, hq => cases hq; exact ⟨ya13, yb13⟩
      | 3, hq => cases hq; exact ⟨ya14, yb14⟩
      | 4, hq => cases hq; exact ⟨ya15, yb15⟩
      | 5, hq => cases hq; exact ⟨ya16, yb16⟩
      | 6, hq => cases hq; exact ⟨ya17, yb17⟩
      | 7, hq => cases hq; exact ⟨ya18, yb18⟩
      | k + 8, hq => simp [hT] at hq
set_option maxHeartbeats 4000000 in
set_option maxRecDepth 100000 in
theorem whole_of (pure : ∀ (xs : Nat → Int32) (Ln : Nat), Ln ≤ 260 → law_run xs Ln) {p : Program} {e : Env} {s : State} {m : MethodId} {below : List Frame} {meth : Method} {c : Code} (l : Launch) (hflags : l.flags = flags0) {b Ln : Nat} {xs : Nat → Int32} (hL : Ln ≤ 260) (C0 : lw_At p s m meth c b Ln xs) : W p l e room_1 s m #[Value.ref b] below meth c s.heap [] 0 0 (lw_Z below #[Value.ref b] s) (entryFrame m ([Value.ref b] : List Value).toArray 11) := by
  obtain ⟨L2, X2, e1, e3⟩ := pure xs Ln hL
  obtain ⟨dC, dI, cy, rfl, rfl, rfl, C⟩ := st_C C0
  obtain ⟨hx, hb, hr, hml, hown, hts, hX, hbl, hlocks, hgv⟩ := C0
  have hl := lv_entry ([.ref (dI 100 0)] : List Value) (n := 11) (Nat.le_of_ble_eq_true rfl)
  rw [lg_entry_eq]
  generalize (lg_sl ([.ref (dI 100 0)] : List Value) ++ List.replicate (11 - (lg_sl ([.ref (dI 100 0)] : List Value)).length) Slot.unset).toArray = ls at hl ⊢
  have hl : lv_has ls 11 [(0, .ref (dI 100 0))] := hl
  have hrs0 : hRS L_0 X_0 := fun k j b hk => absurd hk (Nat.not_lt_zero k)
  suffices hh : hG p l e room_1 s m #[Value.ref (dI 100 0)] below meth c dC dI cy (fun _ => 0) L_0 (fun q => s.heap.size ≤ q) 0 0 (lw_Z below #[Value.ref (dI 100 0)] s) X_0 0 ls [] by
    exact hh s.heap [] (fun k q h => by simp [hW, L_0] at h) va_S.rf
  obtain ⟨L1, eL1⟩ : ∃ z, z = newL L_0 9 0 := ⟨_, rfl⟩
  obtain ⟨X1, eX1⟩ : ∃ z, z = newX X_0 L_0.1 := ⟨_, rfl⟩
  have hrs1 := hRS.new hrs0 eL1 eX1
  have e1 : f_X9_init L1 X1 0 = some (L2, X2) := by rw [eL1, eX1]; exact e1
  refine hx_new C hrs0 eL1 eX1 inlX9 tyX9 tyX9_ok (by decide +kernel) (by decide +kernel) (by decide +kernel) (by decide) rfl hf0_9 (Nat.le_of_ble_eq_true rfl) (Nat.le_of_ble_eq_true rfl) dL_law_0 (fun ad1 hag1 C => ?_)
  refine hx_dup C dL_law_3 rfl ?_
  have z2 := rs_X9_init e1 hrs1
  refine hx_initA (b := 0) C (c_X9_init e1 hrs1) gL_law_X9_init (by decide +kernel) rfl (by decide +kernel) (by decide +kernel) (by decide +kernel) ⟨Nat.le_of_ble_eq_true rfl, Nat.le_of_ble_eq_true rfl⟩ rfl rfl rfl ⟨Nat.le_of_ble_eq_true rfl, Nat.le_of_ble_eq_true rfl⟩ hl.1 (Nat.le_of_ble_eq_true rfl) dL_law_4 (fun ad2 hag2 C => ?_)
  have h01 : 0 < L1.1 := by rw [eL1]; exact Nat.lt_succ_self _
  rw [show ad1 L_0.1 = ad2 0 from (hag2 0 h01).symm]
  refine hx_astore_n (lv' := [(1, .ref (ad2 0)), (0, .ref (dI 100 0))]) C dL_law_7 rfl hl (by decide) rfl (fun ls hl => ?_)
  exact w_L_law_8 C hr hlocks 0 X2 ls e3 (lv_sub hl [1, 0] rfl)
