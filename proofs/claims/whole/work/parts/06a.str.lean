def hSn (i : Nat) : Int32 := Int32.ofNat (hSl.getD i 0) >>> ((0 : Int32) &&& 31)
def hSc (i j : Nat) : Int32 := (Int32.toUInt32 (((hSb.getD i []).getD j 0) &&& 255) % 65536).toInt32
section HXS
variable {p : Program} {l : Launch} {e : Env} {R : Room} {s : State} {m : MethodId} {args : Array Value} {below : List Frame} {meth : Method} {c : Code} {Q : State → Prop} {dC : Nat → ClassId} {dI : Nat → Nat → Nat} {cy : Nat → ClassId} {ad : Nat → Nat} {L : hL} {A : Nat → Prop} {cc : ByteArray} {nL : Nat} {Ts : List Cond} {own : String} {X : hX} {pc : Nat} {ls : Array Slot} {st : List Value} {cells slots : Nat}
theorem hx_ldcS (C : hC p s m args meth c dC dI cy ad L A cc nL Ts own) {index i : Nat} {tx : String} (ho : own = RX6) (hi : hSk[i]? = some (index, tx)) (hdg : decode cc pc = .ok (.ldc index, 2)) (k : hG p l e R s m args below meth c dC dI cy ad L A cells slots Q X (pc + 2) ls (.ref (dI 100 i) :: st)) : hG p l e R s m args below meth c dC dI cy ad L A cells slots Q X pc ls st := fun H locs hP hS => by
  subst ho
  exact va_ldcS C.1 C.2.1 C.2.2.2.1 (C.2.2.2.2.2.2.2.2.2.2.2.2.2.1 i _ hi) hdg (k H locs hP hS)
theorem hx_svalue (C : hC p s m args meth c dC dI cy ad L A cc nL Ts own) {index i : Nat} (hi : i < 8) (hlk : Cond.fieldLink own index "java/lang/String" "value" "[B" ∈ Ts) (hdg : decode cc pc = .ok (.getfield index, 3)) (k : hG p l e R s m args below meth c dC dI cy ad L A cells slots Q X (pc + 3) ls (.ref (dI 101 i) :: st)) : hG p l e R s m args below meth c dC dI cy ad L A cells slots Q X pc ls (.ref (dI 100 i) :: st) := fun H locs hP hS => vk_getf C.1 C.2.1 ((C.2.2.2.2.2.2.2.2.2.2.1.1 i hi).2.2.1) hS C.2.2.2.1 (C.2.2.2.2.1 _ hlk) (fun _ h9 => h9) hdg (k H locs hP hS)
theorem hx_scoder (C : hC p s m args meth c dC dI cy ad L A cc nL Ts own) {index i : Nat} (hi : i < 8) (hlk : Cond.fieldLink own index "java/lang/String" "coder" "B" ∈ Ts) (hdg : decode cc pc = .ok (.getfield index, 3)) (k : hG p l e R s m args below meth c dC dI cy ad L A cells slots Q X (pc + 3) ls (.int 0 :: st)) : hG p l e R s m args below meth c dC dI cy ad L A cells slots Q X pc ls (.ref (dI 100 i) :: st) := fun H locs hP hS => vk_getf C.1 C.2.1 ((C.2.2.2.2.2.2.2.2.2.2.1.1 i hi).2.1) hS C.2.2.2.1 (C.2.2.2.2.1 _ hlk) (fun _ h9 => h9) hdg (k H locs hP hS)
theorem hx_salen (C : hC p s m args meth c dC dI cy ad L A cc nL Ts own) {i : Nat} (hi : i < 8) (hdg : decode cc pc = .ok (.arraylength, 1)) (k : hG p l e R s m args below meth c dC dI cy ad L A cells slots Q X (pc + 1) ls (.int (Int32.ofNat (hSl.getD i 0)) :: st)) : hG p l e R s m args below meth c dC dI cy ad L A cells slots Q X pc ls (.ref (dI 101 i) :: st) := fun H locs hP hS => va_tlen C.1 C.2.1 ((C.2.2.2.2.2.2.2.2.2.2.1.1 i hi).2.2.2) hS rfl hdg (k H locs hP hS)
theorem hx_sbald (C : hC p s m args meth c dC dI cy ad L A cc nL Ts own) {i : Nat} {j : Int32} (hi : i < 8) (hj : hin j (hSl.getD i 0)) (hdg : decode cc pc = .ok (.baload, 1)) (k : hG p l e R s m args below meth c dC dI cy ad L A cells slots Q X (pc + 1) ls (.int ((hSb.getD i []).getD j.toNatClampNeg 0) :: st)) : hG p l e R s m args below meth c dC dI cy ad L A cells slots Q X pc ls (.int j :: .ref (dI 101 i) :: st) := fun H locs hP hS => va_tb C.1 C.2.1 ((C.2.2.2.2.2.2.2.2.2.2.1.1 i hi).2.2.2) hS (hin_vp hj) rfl hdg (k H locs hP hS)
theorem hx_gcomp (C : hC p s m args meth c dC dI cy ad L A cc nL Ts own) {index : Nat} (hlk : Cond.fieldLink own index "java/lang/String" "COMPACT_STRINGS" "Z" ∈ Ts) (hdg : decode cc pc = .ok (.getstatic index, 3)) (k : hG p l e R s m args below meth c dC dI cy ad L A cells slots Q X (pc + 3) ls (.int 1 :: st)) : hG p l e R s m args below meth c dC dI cy ad L A cells slots Q X pc ls st := fun H locs hP hS => va_gets C.1 C.2.1 (C.2.2.2.2.2.2.2.2.2.2.2.1) hS C.2.2.2.1 (C.2.2.2.2.1 _ hlk) (fun _ h9 => h9) hdg (k H locs hP hS)
theorem hx_gform (C : hC p s m args meth c dC dI cy ad L A cc nL Ts own) {index : Nat} (hlk : Cond.fieldLink own index "jdk/internal/util/Preconditions" "SIOOBE_FORMATTER" "Ljava/util/function/BiFunction;" ∈ Ts) (hdg : decode cc pc = .ok (.getstatic index, 3)) (k : ∀ v : Value, (v = .null ∨ ∃ t, v = .ref t) → hG p l e R s m args below meth c dC dI cy ad L A cells slots Q X (pc + 3) ls (v :: st)) : hG p l e R s m args below meth c dC dI cy ad L A cells slots Q X pc ls st := fun H locs hP hS => by
  rcases C.2.2.2.2.2.2.2.2.2.2.2.2.1 with h | ⟨t, h⟩
  · exact va_gets C.1 C.2.1 h hS C.2.2.2.1 (C.2.2.2.2.1 _ hlk) (fun _ h9 => h9) hdg (k _ (Or.inl rfl) H locs hP hS)
  · exact va_gets C.1 C.2.1 h hS C.2.2.2.1 (C.2.2.2.2.1 _ hlk) (fun _ h9 => h9) hdg (k _ (Or.inr ⟨t, rfl⟩) H locs hP hS)
theorem hx_ishr (C : hC p s m args meth c dC dI cy ad L A cc nL Ts own) {x y : Int32} (hdg : decode cc pc = .ok (.ishr, 1)) (k : hG p l e R s m args below meth c dC dI cy ad L A cells slots Q X (pc + 1) ls (.int (x >>> (y &&& 31)) :: st)) : hG p l e R s m args below meth c dC dI cy ad L A cells slots Q X pc ls (.int y :: .int x :: st) := fun H locs hP hS => lv_ishr C.1 C.2.1 hdg (k H locs hP hS)
theorem hx_callVs (C : hC p s m args meth c dC dI cy ad L A cc nL Ts own) {y : MethodName} {ws ws' : List Cond} {rm : Room} {As rest : List Value} {bytes : ByteArray} {maxL n index i : Nat} {ret : Option FieldType} {ov : Option Value} {X' : hX}  (hM : hMet l dC dI cy ad L y ws rm (.ref (dI 100 i) :: As) X ov X') (hg : GoodIn Ts (wsV own index "java/lang/String" y ws)) (hi : i < 8) (hd : y.cls = "java/lang/String" ∧ y.cls ≠ "java/lang/invoke/MethodHandle" ∧ y.cls ≠ "java/lang/invoke/VarHandle" ∧ (parseMethodDescriptor y.desc).map (fun d => d.parameters.length) = some n) (hR : rm.frames + 1 ≤ R.frames ∧ 8 + (maxL + 11) + rm.locals ≤ R.locals) (hw : ws = Cond.code y bytes maxL ret :: ws') (hrc : rm.cells = 0) (hrs : rm.slots = 0) (hcs : cells + 0 ≤ R.cells ∧ slots + 0 ≤ R.slots) (hsz : ls.size = nL) (hn : As.length = n) (hst : st = As.reverse ++ .ref (dI 100 i) :: rest) (hcat : (rest.map fun v => v.category).sum ≤ 8) (hdg : decode cc pc = .ok (.invokevirtual index, 3)) (k : hG p l e R s m args below meth c dC dI cy ad L A cells slots Q X' (pc + 3) ls (ov.toList ++ rest)) : hG p l e R s m args below meth c dC dI cy ad L A cells slots Q X pc ls st := fun H locs hP hS => by
  subst hst
  exact hx_after C (va_runV ⟨C.1, C.2.1, C.2.2.1, C.2.2.2.1, C.2.2.2.2.1⟩ (hM C.dd H.size) (cwV n C.2.2.2.2.1 hg hw hrc hrs hd hR) ⟨hx_blind, vk_recv C.2.2.2.2.2.2.2.2.2.2.1 hi hS, fun U hU hW => ⟨rfl, by rw [hU], by rw [hU]; exact hP, va_K.moved hW.alike C.2.2.2.2.2.1, C.2.2.2.2.2.2.1.warm hW, by rw [hU]; exact C.2.2.2.2.2.2.2.2.2.2.go hS hW (hC.sub C hS)⟩⟩ rfl hn hsz rfl (lv_room hcat) hdg hcs) hS k
end HXS
set_option maxRecDepth 100000 in
set_option maxHeartbeats 4000000 in
theorem c_J0_coder_7d493 {l : Launch} {dC : Nat → ClassId} {dI : Nat → Nat → Nat} {cy : Nat → ClassId} {ad : Nat → Nat} {L : hL} {X : hX} {i : Nat} (hi : i < 8) : hMet l dC dI cy ad L yJ0_coder_7d493 wsJ0_coder_7d493 ({ frames := 0, cells := 0, slots := 0, locals := 0 } : Room) [.ref (dI 100 i)] X (some (.int 0)) X := by
  refine hx_enter RJ0 (by decide +kernel) rfl rfl (Nat.le_of_ble_eq_true rfl) (fun p e s m args below meth c C hr hnm ls hl => ?_)
  have hl : lv_has ls 1 [(0, .ref (dI 100 i))] := hl
  refine hx_gcomp C (by decide +kernel) dJ0_coder_7d493_0 ?_
  refine hx_if_eq (tgt := 13) C dJ0_coder_7d493_3 (by decide) (fun c1 => absurd c1 (by decide)) (fun c1 => ?_)
  refine hx_aload_n C dJ0_coder_7d493_6 rfl (lv_at hl 0 rfl) ?_
  refine hx_scoder C hi (by decide +kernel) dJ0_coder_7d493_7 ?_
  refine hx_goto (tgt := 14) C dJ0_coder_7d493_10 (by decide) ?_
  exact hx_zret C hr rfl dJ0_coder_7d493_14
set_option maxRecDepth 100000 in
set_option maxHeartbeats 4000000 in
theorem c_J0_isLatin1_aae02 {l : Launch} {dC : Nat → ClassId} {dI : Nat → Nat → Nat} {cy : Nat → ClassId} {ad : Nat → Nat} {L : hL} {X : hX} {i : Nat} (hi : i < 8) : hMet l dC dI cy ad L yJ0_isLatin1_aae02 wsJ0_isLatin1_aae02 ({ frames := 0, cells := 0, slots := 0, locals := 0 } : Room) [.ref (dI 100 i)] X (some (.int 1)) X := by
  refine hx_enter RJ0 (by decide +kernel) rfl rfl (Nat.le_of_ble_eq_true rfl) (fun p e s m args below meth c C hr hnm ls hl => ?_)
  have hl : lv_has ls 1 [(0, .ref (dI 100 i))] := hl
  refine hx_gcomp C (by decide +kernel) dJ0_isLatin1_aae02_0 ?_
  refine hx_if_eq (tgt := 17) C dJ0_isLatin1_aae02_3 (by decide) (fun c1 => absurd c1 (by decide)) (fun c1 => ?_)
  refine hx_aload_n C dJ0_isLatin1_aae02_6 rfl (lv_at hl 0 rfl) ?_
  refine hx_scoder C hi (by decide +kernel) dJ0_isLatin1_aae02_7 ?_
  refine hx_if_ne (tgt := 17) C dJ0_isLatin1_aae02_10 (by decide) (fun c1 => absurd rfl c1) (fun c1 => ?_)
  refine hx_iconst (v := 1) C dJ0_isLatin1_aae02_13 (by decide) ?_
  refine hx_goto (tgt := 18) C dJ0_isLatin1_aae02_14 (by decide) ?_
  exact hx_zret C hr rfl dJ0_isLatin1_aae02_18
set_option maxRecDepth 100000 in
set_option maxHeartbeats 4000000 in
theorem c_J0_length_8abf5 {l : Launch} {dC : Nat → ClassId} {dI : Nat → Nat → Nat} {cy : Nat → ClassId} {ad : Nat → Nat} {L : hL} {X : hX} {i : Nat} (hi : i < 8) : hMet l dC dI cy ad L yJ0_length_8abf5 wsJ0_length_8abf5 ({ frames := 1, cells := 0, slots := 0, locals := 20 } : Room) [.ref (dI 100 i)] X (some (.int (hSn i))) X := by
  refine hx_enter RJ0 (by decide +kernel) rfl rfl (Nat.le_of_ble_eq_true rfl) (fun p e s m args below meth c C hr hnm ls hl => ?_)
  have hl : lv_has ls 1 [(0, .ref (dI 100 i))] := hl
  refine hx_aload_n C dJ0_length_8abf5_0 rfl (lv_at hl 0 rfl) ?_
  refine hx_svalue C hi (by decide +kernel) dJ0_length_8abf5_1 ?_
  refine hx_salen C hi dJ0_length_8abf5_4 ?_
  refine hx_aload_n C dJ0_length_8abf5_5 rfl (lv_at hl 0 rfl) ?_
  refine hx_callVs (As := []) (rest := [.int (Int32.ofNat (hSl.getD i 0))]) (n := 0) C (c_J0_coder_7d493 hi) gJ0_length_8abf5_J0_coder_7d493 hi (by decide +kernel) ⟨Nat.le_of_ble_eq_true rfl, Nat.le_of_ble_eq_true rfl⟩ rfl rfl rfl ⟨Nat.zero_le _, Nat.zero_le _⟩ hl.1 rfl rfl (Nat.le_of_ble_eq_true rfl) dJ0_length_8abf5_6 ?_
  refine hx_ishr C dJ0_length_8abf5_9 ?_
  exact hx_iret C hr dJ0_length_8abf5_10
set_option maxRecDepth 100000 in
set_option maxHeartbeats 4000000 in
theorem c_J3_checkIndex_8e157 {l : Launch} {dC : Nat → ClassId} {dI : Nat → Nat → Nat} {cy : Nat → ClassId} {ad : Nat → Nat} {L : hL} {X : hX} {a b : Int32} {v : Value} (hv : v = .null ∨ ∃ t, v = .ref t) (h0 : ¬ a < 0) (h1 : a < b) : hMet l dC dI cy ad L yJ3_checkIndex_8e157 wsJ3_checkIndex_8e157 ({ frames := 1, cells := 0, slots := 0, locals := 24 } : Room) [.int a, .int b, v] X (some (.int a)) X := by
  have hg : (lg_sl [.int a, .int b, v]).length ≤ 3 := by
    rcases hv with rfl | ⟨t, rfl⟩ <;> exact Nat.le_of_ble_eq_true rfl
  refine hx_enter RJ3 (by decide +kernel) rfl rfl hg (fun p e s m args below meth c C hr hnm ls hl => ?_)
  have hl : lv_has ls 3 [(0, .int a), (1, .int b)] := ⟨hl.1, hl.2.1, fun q hq => hl.2.2 q (by
    rcases hv with rfl | ⟨t, rfl⟩
    · simp only [List.mem_cons, List.not_mem_nil, or_false] at hq
      rcases hq with rfl | rfl
      · exact List.mem_cons_self
      · exact List.mem_cons_of_mem _ List.mem_cons_self
    · simp only [List.mem_cons, List.not_mem_nil, or_false] at hq
      rcases hq with rfl | rfl
      · exact List.mem_cons_self
      · exact List.mem_cons_of_mem _ List.mem_cons_self)⟩
  refine hx_iload_n C dJ3_checkIndex_8e157_0 rfl (lv_at hl 0 rfl) ?_
  refine hx_if_lt (tgt := 9) C dJ3_checkIndex_8e157_1 (by decide) (fun c1 => absurd c1 h0) (fun c1 => ?_)
  refine hx_iload_n C dJ3_checkIndex_8e157_4 rfl (lv_at hl 0 rfl) ?_
  refine hx_iload_n C dJ3_checkIndex_8e157_5 rfl (lv_at hl 1 rfl) ?_
  refine hx_icmp_lt (tgt := 16) C dJ3_checkIndex_8e157_6 (by decide) (fun c1 => ?_) (fun c1 => absurd h1 c1)
  refine hx_iload_n C dJ3_checkIndex_8e157_16 rfl (lv_at hl 0 rfl) ?_
  exact hx_iret C hr dJ3_checkIndex_8e157_17
set_option maxRecDepth 100000 in
set_option maxHeartbeats 4000000 in
theorem c_J0_checkIndex_df160 {l : Launch} {dC : Nat → ClassId} {dI : Nat → Nat → Nat} {cy : Nat → ClassId} {ad : Nat → Nat} {L : hL} {X : hX} {a b : Int32} (h0 : ¬ a < 0) (h1 : a < b) : hMet l dC dI cy ad L yJ0_checkIndex_df160 wsJ0_checkIndex_df160 ({ frames := 2, cells := 0, slots := 0, locals := 46 } : Room) [.int a, .int b] X none X := by
  refine hx_enter RJ0 (by decide +kernel) rfl rfl (Nat.le_of_ble_eq_true rfl) (fun p e s m args below meth c C hr hnm ls hl => ?_)
  have hl : lv_has ls 2 [(0, .int a), (1, .int b)] := hl
  refine hx_iload_n C dJ0_checkIndex_df160_0 rfl (lv_at hl 0 rfl) ?_
  refine hx_iload_n C dJ0_checkIndex_df160_1 rfl (lv_at hl 1 rfl) ?_
  refine hx_gform C (by decide +kernel) dJ0_checkIndex_df160_2 (fun v hv => ?_)
  refine hx_callS (As := [.int a, .int b, v]) (rest := []) (n := 3) C (c_J3_checkIndex_8e157 hv h0 h1) gJ0_checkIndex_df160_J3_checkIndex_8e157 (by decide +kernel) ⟨Nat.le_of_ble_eq_true rfl, Nat.le_of_ble_eq_true rfl⟩ rfl rfl rfl ⟨Nat.zero_le _, Nat.zero_le _⟩ hl.1 rfl rfl (Nat.le_of_ble_eq_true rfl) dJ0_checkIndex_df160_5 ?_
  refine hx_pop C dJ0_checkIndex_df160_8 rfl ?_
  exact hx_vret C hr dJ0_checkIndex_df160_9
set_option maxRecDepth 100000 in
set_option maxHeartbeats 4000000 in
theorem c_J1_charAt_3b067 {l : Launch} {dC : Nat → ClassId} {dI : Nat → Nat → Nat} {cy : Nat → ClassId} {ad : Nat → Nat} {L : hL} {X : hX} {i : Nat} {j : Int32} (hi : i < 8) (hj : hin j (hSl.getD i 0)) (h0 : ¬ j < 0) (h1 : j < Int32.ofNat (hSl.getD i 0)) : hMet l dC dI cy ad L yJ1_charAt_3b067 wsJ1_charAt_3b067 ({ frames := 3, cells := 0, slots := 0, locals := 67 } : Room) [.ref (dI 101 i), .int j] X (some (.int (hSc i j.toNatClampNeg))) X := by
  refine hx_enter RJ1 (by decide +kernel) rfl rfl (Nat.le_of_ble_eq_true rfl) (fun p e s m args below meth c C hr hnm ls hl => ?_)
  have hl : lv_has ls 2 [(0, .ref (dI 101 i)), (1, .int j)] := hl
  refine hx_iload_n C dJ1_charAt_3b067_0 rfl (lv_at hl 1 rfl) ?_
  refine hx_aload_n C dJ1_charAt_3b067_1 rfl (lv_at hl 0 rfl) ?_
  refine hx_salen C hi dJ1_charAt_3b067_2 ?_
  refine hx_callS (As := [.int j, .int (Int32.ofNat (hSl.getD i 0))]) (rest := []) (n := 2) C (c_J0_checkIndex_df160 h0 h1) gJ1_charAt_3b067_J0_checkIndex_df160 (by decide +kernel) ⟨Nat.le_of_ble_eq_true rfl, Nat.le_of_ble_eq_true rfl⟩ rfl rfl rfl ⟨Nat.zero_le _, Nat.zero_le _⟩ hl.1 rfl rfl (Nat.le_of_ble_eq_true rfl) dJ1_charAt_3b067_3 ?_
  refine hx_aload_n C dJ1_charAt_3b067_6 rfl (lv_at hl 0 rfl) ?_
  refine hx_iload_n C dJ1_charAt_3b067_7 rfl (lv_at hl 1 rfl) ?_
  refine hx_sbald C hi hj dJ1_charAt_3b067_8 ?_
  refine hx_sipush (v := 255) C dJ1_charAt_3b067_9 (by decide) ?_
  refine hx_iand C dJ1_charAt_3b067_12 ?_
  refine hx_i2c C dJ1_charAt_3b067_13 ?_
  exact hx_zret C hr (pk_nc _) dJ1_charAt_3b067_14
set_option maxRecDepth 100000 in
set_option maxHeartbeats 4000000 in
theorem c_J0_charAt_5068e {l : Launch} {dC : Nat → ClassId} {dI : Nat → Nat → Nat} {cy : Nat → ClassId} {ad : Nat → Nat} {L : hL} {X : hX} {i : Nat} {j : Int32} (hi : i < 8) (hj : hin j (hSl.getD i 0)) (h0 : ¬ j < 0) (h1 : j < Int32.ofNat (hSl.getD i 0)) : hMet l dC dI cy ad L yJ0_charAt_5068e wsJ0_charAt_5068e ({ frames := 5, cells := 0, slots := 0, locals := 109 } : Room) [.ref (dI 100 i), .int j] X (some (.int (hSc i j.toNatClampNeg))) X := by
  refine hx_enter RJ0 (by decide +kernel) rfl rfl (Nat.le_of_ble_eq_true rfl) (fun p e s m args below meth c C hr hnm ls hl => ?_)
  have hl : lv_has ls 2 [(0, .ref (dI 100 i)), (1, .int j)] := hl
  refine hx_aload_n C dJ0_charAt_5068e_0 rfl (lv_at hl 0 rfl) ?_
  refine hx_callVs (As := []) (rest := []) (n := 0) C (c_J0_isLatin1_aae02 hi) gJ0_charAt_5068e_J0_isLatin1_aae02 hi (by decide +kernel) ⟨Nat.le_of_ble_eq_true rfl, Nat.le_of_ble_eq_true rfl⟩ rfl rfl rfl ⟨Nat.zero_le _, Nat.zero_le _⟩ hl.1 rfl rfl (Nat.le_of_ble_eq_true rfl) dJ0_charAt_5068e_1 ?_
  refine hx_if_eq (tgt := 16) C dJ0_charAt_5068e_4 (by decide) (fun c1 => absurd c1 (by decide)) (fun c1 => ?_)
  refine hx_aload_n C dJ0_charAt_5068e_7 rfl (lv_at hl 0 rfl) ?_
  refine hx_svalue C hi (by decide +kernel) dJ0_charAt_5068e_8 ?_
  refine hx_iload_n C dJ0_charAt_5068e_11 rfl (lv_at hl 1 rfl) ?_
  refine hx_callS (As := [.ref (dI 101 i), .int j]) (rest := []) (n := 2) C (c_J1_charAt_3b067 hi hj h0 h1) gJ0_charAt_5068e_J1_charAt_3b067 (by decide +kernel) ⟨Nat.le_of_ble_eq_true rfl, Nat.le_of_ble_eq_true rfl⟩ rfl rfl rfl ⟨Nat.zero_le _, Nat.zero_le _⟩ hl.1 rfl rfl (Nat.le_of_ble_eq_true rfl) dJ0_charAt_5068e_12 ?_
  exact hx_zret C hr (pk_nc _) dJ0_charAt_5068e_15
