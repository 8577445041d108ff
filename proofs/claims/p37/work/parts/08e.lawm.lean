def f_L_weighs (L : hL) (X : hX) (a1 : Nat) (a2 : Int32) (a3 : Int32) : Option (Int32 × hX) :=
  (f_X9_kind L X a1 (a3 - a3 / 4 * 4) 1).bind fun r1 =>
  if tk L a1 9 then
  (f_X9_customer L X a1 a2 0).bind fun r4 =>
  (f_X9_count L X a1 8).bind fun r6 =>
  if ¬ ((2 * ((1 + ((a3 / 4) - (a3 / 4) / 80 * 80)) * r1)) + 1) = 0 then
  (f_X9_weigh L X a1 a2 (a3 - a3 / 4 * 4) (1 + ((a3 / 4) - (a3 / 4) / 80 * 80)) (((a3 / 512) - (a3 / 512) / ((2 * ((1 + ((a3 / 4) - (a3 / 4) / 80 * 80)) * r1)) + 1) * ((2 * ((1 + ((a3 / 4) - (a3 / 4) / 80 * 80)) * r1)) + 1)) - ((1 + ((a3 / 4) - (a3 / 4) / 80 * 80)) * r1))).bind fun r9 =>
  (f_X9_customer L r9.2 a1 a2 3).bind fun r11 =>
  if r9.1 < 0 then
    some (0, r9.2)
  else
    (f_X9_customer L r9.2 a1 a2 0).bind fun r14 =>
    if r14 = (r4 + r9.1) then
      (f_X9_count L r9.2 a1 8).bind fun r17 =>
      if r17 = ((r6 + r9.1) - (1 + ((a3 / 4) - (a3 / 4) / 80 * 80))) then
        (f_X9_customer L r9.2 a1 a2 4).bind fun r20 =>
        if r20 = r9.1 then
          (f_X9_customer L r9.2 a1 a2 2).bind fun r23 =>
          if r23 = (1 + ((a3 / 4) - (a3 / 4) / 80 * 80)) then
            (f_X9_allowed L r9.2 a1 r11 (a3 - a3 / 4 * 4) 0).bind fun r26 =>
            if (1 + ((a3 / 4) - (a3 / 4) / 80 * 80)) < r26 then
              some (0, r9.2)
            else
              (f_X9_allowed L r9.2 a1 r11 (a3 - a3 / 4 * 4) 1).bind fun r29 =>
              if r29 < (1 + ((a3 / 4) - (a3 / 4) / 80 * 80)) then
                some (0, r9.2)
              else
                (f_X9_count L r9.2 a1 3).bind fun r32 =>
                (f_X9_guess L r9.2 a1 r11 (a3 - a3 / 4 * 4) r32).bind fun r34 =>
                if r34 = r9.1 then
                  some (1, r9.2)
                else
                  some (0, r9.2)
          else
            some (0, r9.2)
        else
          some (0, r9.2)
      else
        some (0, r9.2)
    else
      some (0, r9.2)
  else none
  else none
set_option maxRecDepth 100000 in
set_option maxHeartbeats 4000000 in
theorem c_L_weighs {l : Launch} {dC : Nat → ClassId} {dI : Nat → Nat → Nat} {cy : Nat → ClassId} {ad : Nat → Nat} {L : hL} {X : hX} {a1 : Nat} {a2 : Int32} {a3 : Int32} {r : Int32} {X' : hX} (h : f_L_weighs L X a1 a2 a3 = some (r, X')) : hMet l dC dI cy ad L yL_weighs wsL_weighs ({ frames := 6, cells := 0, slots := 0, locals := 145 } : Room) [.ref (ad a1), .int a2, .int a3] X (some (.int r)) X' := by
  unfold f_L_weighs at h
  refine hx_enter RL (plainFor_of_name (by decide)) rfl rfl (Nat.le_of_ble_eq_true rfl) (fun p e s m args below meth c C hr hnm ls hl => ?_)
  have hl : lv_has ls 10 [(0, .ref (ad a1)), (1, .int a2), (2, .int a3)] := hl
  refine hx_iload_n C dL_weighs_0 rfl (lv_at hl 2 rfl) ?_
  refine hx_iconst (v := 4) C dL_weighs_1 (by decide) ?_
  refine hx_irem C dL_weighs_2 (by decide) ?_
  refine hx_istore_n (lv' := [(3, .int (a3 - a3 / 4 * 4)), (0, .ref (ad a1)), (1, .int a2), (2, .int a3)]) C dL_weighs_3 rfl hl (by decide) rfl (fun ls hl => ?_)
  refine hx_iconst (v := 1) C dL_weighs_4 (by decide) ?_
  refine hx_iload_n C dL_weighs_5 rfl (lv_at hl 3 rfl) ?_
  refine hx_iconst (v := 4) C dL_weighs_6 (by decide) ?_
  refine hx_idiv C dL_weighs_7 (by decide) ?_
  refine hx_bipush (v := 80) C dL_weighs_8 (by decide) ?_
  refine hx_irem C dL_weighs_10 (by decide) ?_
  refine hx_iadd C dL_weighs_11 ?_
  refine hx_istore (lv' := [(4, .int (1 + ((a3 / 4) - (a3 / 4) / 80 * 80))), (3, .int (a3 - a3 / 4 * 4)), (0, .ref (ad a1)), (1, .int a2), (2, .int a3)]) C dL_weighs_12 hl (by decide) rfl (fun ls hl => ?_)
  refine hx_iload C dL_weighs_14 (lv_at hl 0 rfl) ?_
  refine hx_aload_n C dL_weighs_16 rfl (lv_at hl 2 rfl) ?_
  refine hx_iload_n C dL_weighs_17 rfl (lv_at hl 1 rfl) ?_
  refine hx_iconst (v := 1) C dL_weighs_18 (by decide) ?_
  obtain ⟨r1, e2, h⟩ := hx_bind h
  obtain ⟨g3, h⟩ := hx_gd h
  refine hx_callV (As := [.int (a3 - a3 / 4 * 4), .int 1]) (rest := [.int (1 + ((a3 / 4) - (a3 / 4) / 80 * 80))]) (n := 2) (Cn := RX9) C (c_X9_kind e2) gL_weighs_X9_kind g3 (by decide) rfl (by decide +kernel) ⟨Nat.le_of_ble_eq_true rfl, Nat.le_of_ble_eq_true rfl⟩ rfl rfl rfl ⟨Nat.zero_le _, Nat.zero_le _⟩ hl.1 rfl rfl (Nat.le_of_ble_eq_true rfl) dL_weighs_19 ?_
  refine hx_imul C dL_weighs_22 ?_
  refine hx_istore (lv' := [(5, .int ((1 + ((a3 / 4) - (a3 / 4) / 80 * 80)) * r1)), (4, .int (1 + ((a3 / 4) - (a3 / 4) / 80 * 80))), (3, .int (a3 - a3 / 4 * 4)), (0, .ref (ad a1)), (1, .int a2), (2, .int a3)]) C dL_weighs_23 hl (by decide) rfl (fun ls hl => ?_)
  refine hx_aload_n C dL_weighs_25 rfl (lv_at hl 3 rfl) ?_
  refine hx_iload_n C dL_weighs_26 rfl (lv_at hl 4 rfl) ?_
  refine hx_iconst (v := 0) C dL_weighs_27 (by decide) ?_
  obtain ⟨r4, e5, h⟩ := hx_bind h
  refine hx_callV (As := [.int a2, .int 0]) (rest := []) (n := 2) (Cn := RX9) C (c_X9_customer e5) gL_weighs_X9_customer g3 (by decide) rfl (by decide +kernel) ⟨Nat.le_of_ble_eq_true rfl, Nat.le_of_ble_eq_true rfl⟩ rfl rfl rfl ⟨Nat.zero_le _, Nat.zero_le _⟩ hl.1 rfl rfl (Nat.le_of_ble_eq_true rfl) dL_weighs_28 ?_
  refine hx_istore (lv' := [(6, .int r4), (5, .int ((1 + ((a3 / 4) - (a3 / 4) / 80 * 80)) * r1)), (4, .int (1 + ((a3 / 4) - (a3 / 4) / 80 * 80))), (3, .int (a3 - a3 / 4 * 4)), (0, .ref (ad a1)), (1, .int a2), (2, .int a3)]) C dL_weighs_31 hl (by decide) rfl (fun ls hl => ?_)
  refine hx_aload_n C dL_weighs_33 rfl (lv_at hl 4 rfl) ?_
  refine hx_bipush (v := 8) C dL_weighs_34 (by decide) ?_
  obtain ⟨r6, e7, h⟩ := hx_bind h
  refine hx_callV (As := [.int 8]) (rest := []) (n := 1) (Cn := RX9) C (c_X9_count e7) gL_weighs_X9_count g3 (by decide) rfl (by decide +kernel) ⟨Nat.le_of_ble_eq_true rfl, Nat.le_of_ble_eq_true rfl⟩ rfl rfl rfl ⟨Nat.zero_le _, Nat.zero_le _⟩ hl.1 rfl rfl (Nat.le_of_ble_eq_true rfl) dL_weighs_36 ?_
  refine hx_istore (lv' := [(7, .int r6), (6, .int r4), (5, .int ((1 + ((a3 / 4) - (a3 / 4) / 80 * 80)) * r1)), (4, .int (1 + ((a3 / 4) - (a3 / 4) / 80 * 80))), (3, .int (a3 - a3 / 4 * 4)), (0, .ref (ad a1)), (1, .int a2), (2, .int a3)]) C dL_weighs_39 hl (by decide) rfl (fun ls hl => ?_)
  refine hx_aload_n C dL_weighs_41 rfl (lv_at hl 5 rfl) ?_
  refine hx_iload_n C dL_weighs_42 rfl (lv_at hl 6 rfl) ?_
  refine hx_iload_n C dL_weighs_43 rfl (lv_at hl 4 rfl) ?_
  refine hx_iload C dL_weighs_44 (lv_at hl 3 rfl) ?_
  refine hx_iload_n C dL_weighs_46 rfl (lv_at hl 7 rfl) ?_
  refine hx_sipush (v := 512) C dL_weighs_47 (by decide) ?_
  refine hx_idiv C dL_weighs_50 (by decide) ?_
  refine hx_iconst (v := 2) C dL_weighs_51 (by decide) ?_
  refine hx_iload C dL_weighs_52 (lv_at hl 2 rfl) ?_
  refine hx_imul C dL_weighs_54 ?_
  refine hx_iconst (v := 1) C dL_weighs_55 (by decide) ?_
  refine hx_iadd C dL_weighs_56 ?_
  obtain ⟨g8, h⟩ := hx_gd h
  refine hx_irem C dL_weighs_57 g8 ?_
  refine hx_iload C dL_weighs_58 (lv_at hl 2 rfl) ?_
  refine hx_isub C dL_weighs_60 ?_
  obtain ⟨r9, e10, h⟩ := hx_bind h
  refine hx_callV (As := [.int a2, .int (a3 - a3 / 4 * 4), .int (1 + ((a3 / 4) - (a3 / 4) / 80 * 80)), .int (((a3 / 512) - (a3 / 512) / ((2 * ((1 + ((a3 / 4) - (a3 / 4) / 80 * 80)) * r1)) + 1) * ((2 * ((1 + ((a3 / 4) - (a3 / 4) / 80 * 80)) * r1)) + 1)) - ((1 + ((a3 / 4) - (a3 / 4) / 80 * 80)) * r1))]) (rest := []) (n := 4) (Cn := RX9) C (c_X9_weigh e10) gL_weighs_X9_weigh g3 (by decide) rfl (by decide +kernel) ⟨Nat.le_of_ble_eq_true rfl, Nat.le_of_ble_eq_true rfl⟩ rfl rfl rfl ⟨Nat.zero_le _, Nat.zero_le _⟩ hl.1 rfl rfl (Nat.le_of_ble_eq_true rfl) dL_weighs_61 ?_
  refine hx_istore (lv' := [(8, .int r9.1), (7, .int r6), (6, .int r4), (5, .int ((1 + ((a3 / 4) - (a3 / 4) / 80 * 80)) * r1)), (4, .int (1 + ((a3 / 4) - (a3 / 4) / 80 * 80))), (3, .int (a3 - a3 / 4 * 4)), (0, .ref (ad a1)), (1, .int a2), (2, .int a3)]) C dL_weighs_64 hl (by decide) rfl (fun ls hl => ?_)
  refine hx_aload_n C dL_weighs_66 rfl (lv_at hl 6 rfl) ?_
  refine hx_iload_n C dL_weighs_67 rfl (lv_at hl 7 rfl) ?_
  refine hx_iconst (v := 3) C dL_weighs_68 (by decide) ?_
  obtain ⟨r11, e12, h⟩ := hx_bind h
  refine hx_callV (As := [.int a2, .int 3]) (rest := []) (n := 2) (Cn := RX9) C (c_X9_customer e12) gL_weighs_X9_customer g3 (by decide) rfl (by decide +kernel) ⟨Nat.le_of_ble_eq_true rfl, Nat.le_of_ble_eq_true rfl⟩ rfl rfl rfl ⟨Nat.zero_le _, Nat.zero_le _⟩ hl.1 rfl rfl (Nat.le_of_ble_eq_true rfl) dL_weighs_69 ?_
  refine hx_istore (lv' := [(9, .int r11), (8, .int r9.1), (7, .int r6), (6, .int r4), (5, .int ((1 + ((a3 / 4) - (a3 / 4) / 80 * 80)) * r1)), (4, .int (1 + ((a3 / 4) - (a3 / 4) / 80 * 80))), (3, .int (a3 - a3 / 4 * 4)), (0, .ref (ad a1)), (1, .int a2), (2, .int a3)]) C dL_weighs_72 hl (by decide) rfl (fun ls hl => ?_)
  refine hx_iload C dL_weighs_74 (lv_at hl 1 rfl) ?_
  refine hx_if_lt (tgt := 179) C dL_weighs_76 (by decide) (fun c13 => ?_) (fun c13 => ?_)
  · have h := hx_pos c13 h
    refine hx_iconst (v := 0) C dL_weighs_179 (by decide) ?_
    obtain ⟨rfl, rfl⟩ := hx_some2 h
    exact hx_zret C hr rfl dL_weighs_180
  · have h := hx_neg c13 h
    refine hx_aload_n C dL_weighs_79 rfl (lv_at hl 7 rfl) ?_
    refine hx_iload_n C dL_weighs_80 rfl (lv_at hl 8 rfl) ?_
    refine hx_iconst (v := 0) C dL_weighs_81 (by decide) ?_
    obtain ⟨r14, e15, h⟩ := hx_bind h
    refine hx_callV (As := [.int a2, .int 0]) (rest := []) (n := 2) (Cn := RX9) C (c_X9_customer e15) gL_weighs_X9_customer g3 (by decide) rfl (by decide +kernel) ⟨Nat.le_of_ble_eq_true rfl, Nat.le_of_ble_eq_true rfl⟩ rfl rfl rfl ⟨Nat.zero_le _, Nat.zero_le _⟩ hl.1 rfl rfl (Nat.le_of_ble_eq_true rfl) dL_weighs_82 ?_
    refine hx_iload C dL_weighs_85 (lv_at hl 3 rfl) ?_
    refine hx_iload C dL_weighs_87 (lv_at hl 1 rfl) ?_
    refine hx_iadd C dL_weighs_89 ?_
    refine hx_icmp_ne (tgt := 179) C dL_weighs_90 (by decide) (fun c16 => ?_) (fun c16 => ?_)
    · have h := hx_neg c16 h
      refine hx_iconst (v := 0) C dL_weighs_179 (by decide) ?_
      obtain ⟨rfl, rfl⟩ := hx_some2 h
      exact hx_zret C hr rfl dL_weighs_180
    · have h := hx_pos c16 h
      refine hx_aload_n C dL_weighs_93 rfl (lv_at hl 7 rfl) ?_
      refine hx_bipush (v := 8) C dL_weighs_94 (by decide) ?_
      obtain ⟨r17, e18, h⟩ := hx_bind h
      refine hx_callV (As := [.int 8]) (rest := []) (n := 1) (Cn := RX9) C (c_X9_count e18) gL_weighs_X9_count g3 (by decide) rfl (by decide +kernel) ⟨Nat.le_of_ble_eq_true rfl, Nat.le_of_ble_eq_true rfl⟩ rfl rfl rfl ⟨Nat.zero_le _, Nat.zero_le _⟩ hl.1 rfl rfl (Nat.le_of_ble_eq_true rfl) dL_weighs_96 ?_
      refine hx_iload C dL_weighs_99 (lv_at hl 2 rfl) ?_
      refine hx_iload C dL_weighs_101 (lv_at hl 1 rfl) ?_
      refine hx_iadd C dL_weighs_103 ?_
      refine hx_iload C dL_weighs_104 (lv_at hl 5 rfl) ?_
      refine hx_isub C dL_weighs_106 ?_
      refine hx_icmp_ne (tgt := 179) C dL_weighs_107 (by decide) (fun c19 => ?_) (fun c19 => ?_)
      · have h := hx_neg c19 h
        refine hx_iconst (v := 0) C dL_weighs_179 (by decide) ?_
        obtain ⟨rfl, rfl⟩ := hx_some2 h
        exact hx_zret C hr rfl dL_weighs_180
      · have h := hx_pos c19 h
        refine hx_aload_n C dL_weighs_110 rfl (lv_at hl 7 rfl) ?_
        refine hx_iload_n C dL_weighs_111 rfl (lv_at hl 8 rfl) ?_
        refine hx_iconst (v := 4) C dL_weighs_112 (by decide) ?_
        obtain ⟨r20, e21, h⟩ := hx_bind h
        refine hx_callV (As := [.int a2, .int 4]) (rest := []) (n := 2) (Cn := RX9) C (c_X9_customer e21) gL_weighs_X9_customer g3 (by decide) rfl (by decide +kernel) ⟨Nat.le_of_ble_eq_true rfl, Nat.le_of_ble_eq_true rfl⟩ rfl rfl rfl ⟨Nat.zero_le _, Nat.zero_le _⟩ hl.1 rfl rfl (Nat.le_of_ble_eq_true rfl) dL_weighs_113 ?_
        refine hx_iload C dL_weighs_116 (lv_at hl 1 rfl) ?_
        refine hx_icmp_ne (tgt := 179) C dL_weighs_118 (by decide) (fun c22 => ?_) (fun c22 => ?_)
        · have h := hx_neg c22 h
          refine hx_iconst (v := 0) C dL_weighs_179 (by decide) ?_
          obtain ⟨rfl, rfl⟩ := hx_some2 h
          exact hx_zret C hr rfl dL_weighs_180
        · have h := hx_pos c22 h
          refine hx_aload_n C dL_weighs_121 rfl (lv_at hl 7 rfl) ?_
          refine hx_iload_n C dL_weighs_122 rfl (lv_at hl 8 rfl) ?_
          refine hx_iconst (v := 2) C dL_weighs_123 (by decide) ?_
          obtain ⟨r23, e24, h⟩ := hx_bind h
          refine hx_callV (As := [.int a2, .int 2]) (rest := []) (n := 2) (Cn := RX9) C (c_X9_customer e24) gL_weighs_X9_customer g3 (by decide) rfl (by decide +kernel) ⟨Nat.le_of_ble_eq_true rfl, Nat.le_of_ble_eq_true rfl⟩ rfl rfl rfl ⟨Nat.zero_le _, Nat.zero_le _⟩ hl.1 rfl rfl (Nat.le_of_ble_eq_true rfl) dL_weighs_124 ?_
          refine hx_iload C dL_weighs_127 (lv_at hl 5 rfl) ?_
          refine hx_icmp_ne (tgt := 179) C dL_weighs_129 (by decide) (fun c25 => ?_) (fun c25 => ?_)
          · have h := hx_neg c25 h
            refine hx_iconst (v := 0) C dL_weighs_179 (by decide) ?_
            obtain ⟨rfl, rfl⟩ := hx_some2 h
            exact hx_zret C hr rfl dL_weighs_180
          · have h := hx_pos c25 h
            refine hx_aload_n C dL_weighs_132 rfl (lv_at hl 7 rfl) ?_
            refine hx_iload C dL_weighs_133 (lv_at hl 0 rfl) ?_
            refine hx_iload_n C dL_weighs_135 rfl (lv_at hl 6 rfl) ?_
            refine hx_iconst (v := 0) C dL_weighs_136 (by decide) ?_
            obtain ⟨r26, e27, h⟩ := hx_bind h
            refine hx_callV (As := [.int r11, .int (a3 - a3 / 4 * 4), .int 0]) (rest := []) (n := 3) (Cn := RX9) C (c_X9_allowed e27) gL_weighs_X9_allowed g3 (by decide) rfl (by decide +kernel) ⟨Nat.le_of_ble_eq_true rfl, Nat.le_of_ble_eq_true rfl⟩ rfl rfl rfl ⟨Nat.zero_le _, Nat.zero_le _⟩ hl.1 rfl rfl (Nat.le_of_ble_eq_true rfl) dL_weighs_137 ?_
            refine hx_iload C dL_weighs_140 (lv_at hl 5 rfl) ?_
            refine hx_icmp_gt (tgt := 179) C dL_weighs_142 (by decide) (fun c28 => ?_) (fun c28 => ?_)
            · have h := hx_pos c28 h
              refine hx_iconst (v := 0) C dL_weighs_179 (by decide) ?_
              obtain ⟨rfl, rfl⟩ := hx_some2 h
              exact hx_zret C hr rfl dL_weighs_180
            · have h := hx_neg c28 h
              refine hx_iload C dL_weighs_145 (lv_at hl 5 rfl) ?_
              refine hx_aload_n C dL_weighs_147 rfl (lv_at hl 7 rfl) ?_
              refine hx_iload C dL_weighs_148 (lv_at hl 0 rfl) ?_
              refine hx_iload_n C dL_weighs_150 rfl (lv_at hl 6 rfl) ?_
              refine hx_iconst (v := 1) C dL_weighs_151 (by decide) ?_
              obtain ⟨r29, e30, h⟩ := hx_bind h
              refine hx_callV (As := [.int r11, .int (a3 - a3 / 4 * 4), .int 1]) (rest := [.int (1 + ((a3 / 4) - (a3 / 4) / 80 * 80))]) (n := 3) (Cn := RX9) C (c_X9_allowed e30) gL_weighs_X9_allowed g3 (by decide) rfl (by decide +kernel) ⟨Nat.le_of_ble_eq_true rfl, Nat.le_of_ble_eq_true rfl⟩ rfl rfl rfl ⟨Nat.zero_le _, Nat.zero_le _⟩ hl.1 rfl rfl (Nat.le_of_ble_eq_true rfl) dL_weighs_152 ?_
              refine hx_icmp_gt (tgt := 179) C dL_weighs_155 (by decide) (fun c31 => ?_) (fun c31 => ?_)
              · have h := hx_pos c31 h
                refine hx_iconst (v := 0) C dL_weighs_179 (by decide) ?_
                obtain ⟨rfl, rfl⟩ := hx_some2 h
                exact hx_zret C hr rfl dL_weighs_180
              · have h := hx_neg c31 h
                refine hx_aload_n C dL_weighs_158 rfl (lv_at hl 7 rfl) ?_
                refine hx_iload C dL_weighs_159 (lv_at hl 0 rfl) ?_
                refine hx_iload_n C dL_weighs_161 rfl (lv_at hl 6 rfl) ?_
                refine hx_aload_n C dL_weighs_162 rfl (lv_at hl 7 rfl) ?_
                refine hx_iconst (v := 3) C dL_weighs_163 (by decide) ?_
                obtain ⟨r32, e33, h⟩ := hx_bind h
                refine hx_callV (As := [.int 3]) (rest := [.int (a3 - a3 / 4 * 4), .int r11, .ref (ad a1)]) (n := 1) (Cn := RX9) C (c_X9_count e33) gL_weighs_X9_count g3 (by decide) rfl (by decide +kernel) ⟨Nat.le_of_ble_eq_true rfl, Nat.le_of_ble_eq_true rfl⟩ rfl rfl rfl ⟨Nat.zero_le _, Nat.zero_le _⟩ hl.1 rfl rfl (Nat.le_of_ble_eq_true rfl) dL_weighs_164 ?_
                obtain ⟨r34, e35, h⟩ := hx_bind h
                refine hx_callV (As := [.int r11, .int (a3 - a3 / 4 * 4), .int r32]) (rest := []) (n := 3) (Cn := RX9) C (c_X9_guess e35) gL_weighs_X9_guess g3 (by decide) rfl (by decide +kernel) ⟨Nat.le_of_ble_eq_true rfl, Nat.le_of_ble_eq_true rfl⟩ rfl rfl rfl ⟨Nat.zero_le _, Nat.zero_le _⟩ hl.1 rfl rfl (Nat.le_of_ble_eq_true rfl) dL_weighs_167 ?_
                refine hx_iload C dL_weighs_170 (lv_at hl 1 rfl) ?_
                refine hx_icmp_ne (tgt := 179) C dL_weighs_172 (by decide) (fun c36 => ?_) (fun c36 => ?_)
                · have h := hx_neg c36 h
                  refine hx_iconst (v := 0) C dL_weighs_179 (by decide) ?_
                  obtain ⟨rfl, rfl⟩ := hx_some2 h
                  exact hx_zret C hr rfl dL_weighs_180
                · have h := hx_pos c36 h
                  refine hx_iconst (v := 1) C dL_weighs_175 (by decide) ?_
                  refine hx_goto (tgt := 180) C dL_weighs_176 (by decide) ?_
                  obtain ⟨rfl, rfl⟩ := hx_some2 h
                  exact hx_zret C hr rfl dL_weighs_180
