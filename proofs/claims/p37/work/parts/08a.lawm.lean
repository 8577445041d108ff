def f_L_cell (L : hL) (xs : Nat → Int32) (Ln : Nat) (X : hX) (a2 : Int32) : Option (Int32) :=
  if (Int32.ofNat Ln) ≤ a2 then
    some (((15485959 * a2) + 109) &&& 2147483647)
  else
    if hin a2 Ln then
    some ((xs (Int32.toNatClampNeg a2)) &&& 2147483647)
    else none
set_option maxRecDepth 100000 in
set_option maxHeartbeats 4000000 in
theorem c_L_cell {l : Launch} {dC : Nat → ClassId} {dI : Nat → Nat → Nat} {cy : Nat → ClassId} {ad : Nat → Nat} {L : hL} {X : hX} {a2 : Int32} {r : Int32} (h : f_L_cell L (sX dI) (dI 100 1) X a2 = some r) : hMet l dC dI cy ad L yL_cell wsL_cell ({ frames := 0, cells := 0, slots := 0, locals := 0 } : Room) [.ref (dI 100 0), .int a2] X (some (.int r)) X := by
  unfold f_L_cell at h
  refine hx_enter RL (plainFor_of_name (by decide)) rfl rfl (Nat.le_of_ble_eq_true rfl) (fun p e s m args below meth c C hr hnm ls hl => ?_)
  have hl : lv_has ls 2 [(0, .ref (dI 100 0)), (1, .int a2)] := hl
  refine hx_iload_n C dL_cell_0 rfl (lv_at hl 1 rfl) ?_
  refine hx_aload_n C dL_cell_1 rfl (lv_at hl 0 rfl) ?_
  refine hx_slen C dL_cell_2 ?_
  refine hx_icmp_ge (tgt := 12) C dL_cell_3 (by decide) (fun c1 => ?_) (fun c1 => ?_)
  · have h := hx_pos c1 h
    refine hx_ldc (v := 15485959) C (by decide +kernel) dL_cell_12 ?_
    refine hx_iload_n C dL_cell_14 rfl (lv_at hl 1 rfl) ?_
    refine hx_imul C dL_cell_15 ?_
    refine hx_bipush (v := 109) C dL_cell_16 (by decide) ?_
    refine hx_iadd C dL_cell_18 ?_
    refine hx_ldc (v := 2147483647) C (by decide +kernel) dL_cell_19 ?_
    refine hx_iand C dL_cell_21 ?_
    obtain rfl := hx_some1 h
    exact hx_iret C hr dL_cell_22
  · have h := hx_neg c1 h
    refine hx_aload_n C dL_cell_6 rfl (lv_at hl 0 rfl) ?_
    refine hx_iload_n C dL_cell_7 rfl (lv_at hl 1 rfl) ?_
    obtain ⟨g2, h⟩ := hx_gd h
    refine hx_sld (n := (Int32.toNatClampNeg a2)) C g2 rfl dL_cell_8 ?_
    refine hx_goto (tgt := 19) C dL_cell_9 (by decide) ?_
    refine hx_ldc (v := 2147483647) C (by decide +kernel) dL_cell_19 ?_
    refine hx_iand C dL_cell_21 ?_
    obtain rfl := hx_some1 h
    exact hx_iret C hr dL_cell_22
