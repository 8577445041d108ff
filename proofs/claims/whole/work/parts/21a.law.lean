/-! the law's loop -/
theorem J.mono {B B' : Int} {L : hL} {X : hX} (h : J B L X) (hB : B ≤ B') : J B' L X := by
  obtain ⟨E, V, n, l, h1, ⟨h2, h3⟩, h4⟩ := h
  exact ⟨E, V, n, l, h1, ⟨h2.mono hB, fun r hr => (h3 r hr).mono hB⟩, h4⟩
theorem J.t0 {B : Int} {L : hL} {X : hX} (h : J B L X) : tk L 0 9 ∧ tk L 470 10 := by
  obtain ⟨E, V, n, l, h⟩ := h
  exact ⟨h.1.1.1.1.1.1, h.1.2.1.1.1⟩
section LR
variable {B : Int} {L : hL} {X : hX} {xs : Nat → Int32} {Ln t : Nat} {k18 : Nat → Nat → Int32 → hX → Option Int32}
theorem lb_0 (h : J B L X) (hB : 9999 ≤ B) (hB2 : B ≤ 300000000) (hi : ∀ j : Nat, 1 ≤ j ∧ j ≤ 5 → hin (nI (6 * t) + nI j) Ln) (nx : ∀ X', J (B + 224000) L X' → f_L_law_1186 L xs Ln k18 0 470 (nI (6 * t)) X' = some 1) : f_L_law_184 L xs Ln k18 0 470 (nI (6 * t)) X = some 1 := by
  obtain ⟨t0, t1⟩ := h.t0
  obtain ⟨r, X3, X4, e1, e2, h2⟩ := j_setKind h hB (by omega) (xs (Int32.toNatClampNeg (nI (6 * t) + 1))) (xs (Int32.toNatClampNeg (nI (6 * t) + 2))) (xs (Int32.toNatClampNeg (nI (6 * t) + 3)))
  unfold f_L_law_184
  rw [if_pos (show hin (nI (6 * t) + 1) Ln from hi 1 (by omega)), if_pos (show hin (nI (6 * t) + 2) Ln from hi 2 (by omega)), if_pos (show hin (nI (6 * t) + 3) Ln from hi 3 (by omega)), e1, Option.bind_some, if_pos t0, e2, Option.bind_some, if_pos t1, if_pos rfl]
  exact nx _ (h2.mono (by omega))
theorem lb_1 (h : J B L X) (hB : 9999 ≤ B) (hB2 : B ≤ 300000000) (hi : ∀ j : Nat, 1 ≤ j ∧ j ≤ 5 → hin (nI (6 * t) + nI j) Ln) (nx : ∀ X', J (B + 224000) L X' → f_L_law_1186 L xs Ln k18 0 470 (nI (6 * t)) X' = some 1) : f_L_law_227 L xs Ln k18 0 470 (nI (6 * t)) X = some 1 := by
  obtain ⟨t0, t1⟩ := h.t0
  obtain ⟨r, X3, X4, e1, e2, h2⟩ := j_setScale h hB (by omega) (xs (Int32.toNatClampNeg (nI (6 * t) + 1))) (xs (Int32.toNatClampNeg (nI (6 * t) + 2)))
  unfold f_L_law_227
  rw [if_pos (show hin (nI (6 * t) + 1) Ln from hi 1 (by omega)), if_pos (show hin (nI (6 * t) + 2) Ln from hi 2 (by omega)), e1, Option.bind_some, if_pos t0, e2, Option.bind_some, if_pos t1, if_pos rfl]
  exact nx _ (h2.mono (by omega))
theorem lb_2 (h : J B L X) (hB : 9999 ≤ B) (hB2 : B ≤ 300000000) (hi : ∀ j : Nat, 1 ≤ j ∧ j ≤ 5 → hin (nI (6 * t) + nI j) Ln) (nx : ∀ X', J (B + 224000) L X' → f_L_law_1186 L xs Ln k18 0 470 (nI (6 * t)) X' = some 1) : f_L_law_260 L xs Ln k18 0 470 (nI (6 * t)) X = some 1 := by
  obtain ⟨t0, t1⟩ := h.t0
  obtain ⟨r, X3, X4, e1, e2, h2⟩ := j_setBias h hB (by omega) (xs (Int32.toNatClampNeg (nI (6 * t) + 1)))
  unfold f_L_law_260
  rw [if_pos (show hin (nI (6 * t) + 1) Ln from hi 1 (by omega)), e1, Option.bind_some, if_pos t0, e2, Option.bind_some, if_pos t1, if_pos rfl]
  exact nx _ (h2.mono (by omega))
theorem lb_3 (h : J B L X) (hB : 9999 ≤ B) (hB2 : B ≤ 300000000) (hi : ∀ j : Nat, 1 ≤ j ∧ j ≤ 5 → hin (nI (6 * t) + nI j) Ln) (nx : ∀ X', J (B + 224000) L X' → f_L_law_1186 L xs Ln k18 0 470 (nI (6 * t)) X' = some 1) : f_L_law_283 L xs Ln k18 0 470 (nI (6 * t)) X = some 1 := by
  obtain ⟨t0, t1⟩ := h.t0
  obtain ⟨r, X3, X4, e1, e2, h2⟩ := j_setRule h hB (by omega) (xs (Int32.toNatClampNeg (nI (6 * t) + 1)))
  unfold f_L_law_283
  rw [if_pos (show hin (nI (6 * t) + 1) Ln from hi 1 (by omega)), e1, Option.bind_some, if_pos t0, e2, Option.bind_some, if_pos t1, if_pos rfl]
  exact nx _ (h2.mono (by omega))
theorem lb_4 (h : J B L X) (hB : 9999 ≤ B) (hB2 : B ≤ 300000000) (hi : ∀ j : Nat, 1 ≤ j ∧ j ≤ 5 → hin (nI (6 * t) + nI j) Ln) (nx : ∀ X', J (B + 224000) L X' → f_L_law_1186 L xs Ln k18 0 470 (nI (6 * t)) X' = some 1) : f_L_law_306 L xs Ln k18 0 470 (nI (6 * t)) X = some 1 := by
  obtain ⟨t0, t1⟩ := h.t0
  obtain ⟨r, X3, X4, e1, e2, h2⟩ := j_setFee h hB (by omega) (xs (Int32.toNatClampNeg (nI (6 * t) + 1)))
  unfold f_L_law_306
  rw [if_pos (show hin (nI (6 * t) + 1) Ln from hi 1 (by omega)), e1, Option.bind_some, if_pos t0, e2, Option.bind_some, if_pos t1, if_pos rfl]
  exact nx _ (h2.mono (by omega))
theorem lb_5 (h : J B L X) (hB : 9999 ≤ B) (hB2 : B ≤ 300000000) (hi : ∀ j : Nat, 1 ≤ j ∧ j ≤ 5 → hin (nI (6 * t) + nI j) Ln) (nx : ∀ X', J (B + 224000) L X' → f_L_law_1186 L xs Ln k18 0 470 (nI (6 * t)) X' = some 1) : f_L_law_329 L xs Ln k18 0 470 (nI (6 * t)) X = some 1 := by
  obtain ⟨t0, t1⟩ := h.t0
  obtain ⟨r, X3, X4, e1, e2, h2⟩ := j_come h hB (by omega) (xs (Int32.toNatClampNeg (nI (6 * t) + 1)))
  unfold f_L_law_329
  rw [if_pos (show hin (nI (6 * t) + 1) Ln from hi 1 (by omega)), e1, Option.bind_some, if_pos t0, e2, Option.bind_some, if_pos t1, if_pos rfl]
  exact nx _ (h2.mono (by omega))
theorem lb_6 (h : J B L X) (hB : 9999 ≤ B) (hB2 : B ≤ 300000000) (hi : ∀ j : Nat, 1 ≤ j ∧ j ≤ 5 → hin (nI (6 * t) + nI j) Ln) (nx : ∀ X', J (B + 224000) L X' → f_L_law_1186 L xs Ln k18 0 470 (nI (6 * t)) X' = some 1) : f_L_law_352 L xs Ln k18 0 470 (nI (6 * t)) X = some 1 := by
  obtain ⟨t0, t1⟩ := h.t0
  obtain ⟨r, X3, X4, e1, e2, h2⟩ := j_leave h hB (by omega) (xs (Int32.toNatClampNeg (nI (6 * t) + 1)))
  unfold f_L_law_352
  rw [if_pos (show hin (nI (6 * t) + 1) Ln from hi 1 (by omega)), e1, Option.bind_some, if_pos t0, e2, Option.bind_some, if_pos t1, if_pos rfl]
  exact nx _ (h2.mono (by omega))
theorem lb_7 (h : J B L X) (hB : 9999 ≤ B) (hB2 : B ≤ 300000000) (hi : ∀ j : Nat, 1 ≤ j ∧ j ≤ 5 → hin (nI (6 * t) + nI j) Ln) (nx : ∀ X', J (B + 224000) L X' → f_L_law_1186 L xs Ln k18 0 470 (nI (6 * t)) X' = some 1) : f_L_law_375 L xs Ln k18 0 470 (nI (6 * t)) X = some 1 := by
  obtain ⟨t0, t1⟩ := h.t0
  obtain ⟨r, X3, X4, e1, e2, h2⟩ := j_weigh h hB (by omega) (xs (Int32.toNatClampNeg (nI (6 * t) + 1))) (xs (Int32.toNatClampNeg (nI (6 * t) + 2))) (xs (Int32.toNatClampNeg (nI (6 * t) + 3))) (xs (Int32.toNatClampNeg (nI (6 * t) + 4)))
  unfold f_L_law_375
  rw [if_pos (show hin (nI (6 * t) + 1) Ln from hi 1 (by omega)), if_pos (show hin (nI (6 * t) + 2) Ln from hi 2 (by omega)), if_pos (show hin (nI (6 * t) + 3) Ln from hi 3 (by omega)), if_pos (show hin (nI (6 * t) + 4) Ln from hi 4 (by omega)), e1, Option.bind_some, if_pos t0, e2, Option.bind_some, if_pos t1, if_pos rfl]
  exact nx _ (h2.mono (by omega))
theorem lb_8 (h : J B L X) (hB : 9999 ≤ B) (hB2 : B ≤ 300000000) (hi : ∀ j : Nat, 1 ≤ j ∧ j ≤ 5 → hin (nI (6 * t) + nI j) Ln) (nx : ∀ X', J (B + 224000) L X' → f_L_law_1186 L xs Ln k18 0 470 (nI (6 * t)) X' = some 1) : f_L_law_428 L xs Ln k18 0 470 (nI (6 * t)) X = some 1 := by
  obtain ⟨t0, t1⟩ := h.t0
  obtain ⟨r, X3, X4, e1, e2, h2⟩ := j_claim h hB (by omega) (xs (Int32.toNatClampNeg (nI (6 * t) + 1))) (xs (Int32.toNatClampNeg (nI (6 * t) + 2)))
  unfold f_L_law_428
  rw [if_pos (show hin (nI (6 * t) + 1) Ln from hi 1 (by omega)), if_pos (show hin (nI (6 * t) + 2) Ln from hi 2 (by omega)), e1, Option.bind_some, if_pos t0, e2, Option.bind_some, if_pos t1, if_pos rfl]
  exact nx _ (h2.mono (by omega))
theorem lb_9 (h : J B L X) (hB : 9999 ≤ B) (hB2 : B ≤ 300000000) (hi : ∀ j : Nat, 1 ≤ j ∧ j ≤ 5 → hin (nI (6 * t) + nI j) Ln) (nx : ∀ X', J (B + 224000) L X' → f_L_law_1186 L xs Ln k18 0 470 (nI (6 * t)) X' = some 1) : f_L_law_461 L xs Ln k18 0 470 (nI (6 * t)) X = some 1 := by
  obtain ⟨t0, t1⟩ := h.t0
  obtain ⟨r, X3, X4, e1, e2, h2⟩ := j_addPrize h hB (by omega) (xs (Int32.toNatClampNeg (nI (6 * t) + 1))) (xs (Int32.toNatClampNeg (nI (6 * t) + 2))) (xs (Int32.toNatClampNeg (nI (6 * t) + 3))) (xs (Int32.toNatClampNeg (nI (6 * t) + 4))) (xs (Int32.toNatClampNeg (nI (6 * t) + 5)))
  unfold f_L_law_461
  rw [if_pos (show hin (nI (6 * t) + 1) Ln from hi 1 (by omega)), if_pos (show hin (nI (6 * t) + 2) Ln from hi 2 (by omega)), if_pos (show hin (nI (6 * t) + 3) Ln from hi 3 (by omega)), if_pos (show hin (nI (6 * t) + 4) Ln from hi 4 (by omega)), if_pos (show hin (nI (6 * t) + 5) Ln from hi 5 (by omega)), e1, Option.bind_some, if_pos t0, e2, Option.bind_some, if_pos t1, if_pos rfl]
  exact nx _ (h2.mono (by omega))
theorem lb_10 (h : J B L X) (hB : 9999 ≤ B) (hB2 : B ≤ 300000000) (hi : ∀ j : Nat, 1 ≤ j ∧ j ≤ 5 → hin (nI (6 * t) + nI j) Ln) (nx : ∀ X', J (B + 224000) L X' → f_L_law_1186 L xs Ln k18 0 470 (nI (6 * t)) X' = some 1) : f_L_law_524 L xs Ln k18 0 470 (nI (6 * t)) X = some 1 := by
  obtain ⟨t0, t1⟩ := h.t0
  obtain ⟨r, X3, X4, e1, e2, h2⟩ := j_removePrize h hB (by omega) (xs (Int32.toNatClampNeg (nI (6 * t) + 1)))
  unfold f_L_law_524
  rw [if_pos (show hin (nI (6 * t) + 1) Ln from hi 1 (by omega)), e1, Option.bind_some, if_pos t0, e2, Option.bind_some, if_pos t1, if_pos rfl]
  exact nx _ (h2.mono (by omega))
theorem lb_11 (h : J B L X) (hB : 9999 ≤ B) (hB2 : B ≤ 300000000) (hi : ∀ j : Nat, 1 ≤ j ∧ j ≤ 5 → hin (nI (6 * t) + nI j) Ln) (nx : ∀ X', J (B + 224000) L X' → f_L_law_1186 L xs Ln k18 0 470 (nI (6 * t)) X' = some 1) : f_L_law_547 L xs Ln k18 0 470 (nI (6 * t)) X = some 1 := by
  obtain ⟨t0, t1⟩ := h.t0
  obtain ⟨r, X3, X4, e1, e2, h2⟩ := j_setPrice h hB (by omega) (xs (Int32.toNatClampNeg (nI (6 * t) + 1))) (xs (Int32.toNatClampNeg (nI (6 * t) + 2)))
  unfold f_L_law_547
  rw [if_pos (show hin (nI (6 * t) + 1) Ln from hi 1 (by omega)), if_pos (show hin (nI (6 * t) + 2) Ln from hi 2 (by omega)), e1, Option.bind_some, if_pos t0, e2, Option.bind_some, if_pos t1, if_pos rfl]
  exact nx _ (h2.mono (by omega))
theorem lb_12 (h : J B L X) (hB : 9999 ≤ B) (hB2 : B ≤ 300000000) (hi : ∀ j : Nat, 1 ≤ j ∧ j ≤ 5 → hin (nI (6 * t) + nI j) Ln) (nx : ∀ X', J (B + 224000) L X' → f_L_law_1186 L xs Ln k18 0 470 (nI (6 * t)) X' = some 1) : f_L_law_580 L xs Ln k18 0 470 (nI (6 * t)) X = some 1 := by
  obtain ⟨t0, t1⟩ := h.t0
  obtain ⟨r, X3, X4, e1, e2, h2⟩ := j_buy h hB (by omega) (xs (Int32.toNatClampNeg (nI (6 * t) + 1))) (xs (Int32.toNatClampNeg (nI (6 * t) + 2))) (xs (Int32.toNatClampNeg (nI (6 * t) + 3)))
  unfold f_L_law_580
  rw [if_pos (show hin (nI (6 * t) + 1) Ln from hi 1 (by omega)), if_pos (show hin (nI (6 * t) + 2) Ln from hi 2 (by omega)), if_pos (show hin (nI (6 * t) + 3) Ln from hi 3 (by omega)), e1, Option.bind_some, if_pos t0, e2, Option.bind_some, if_pos t1, if_pos rfl]
  exact nx _ (h2.mono (by omega))
theorem lb_13 (h : J B L X) (hB : 9999 ≤ B) (hB2 : B ≤ 300000000) (hi : ∀ j : Nat, 1 ≤ j ∧ j ≤ 5 → hin (nI (6 * t) + nI j) Ln) (nx : ∀ X', J (B + 224000) L X' → f_L_law_1186 L xs Ln k18 0 470 (nI (6 * t)) X' = some 1) : f_L_law_623 L xs Ln k18 0 470 (nI (6 * t)) X = some 1 := by
  obtain ⟨t0, t1⟩ := h.t0
  obtain ⟨r, X3, X4, e1, e2, h2⟩ := j_take h hB hB2 (xs (Int32.toNatClampNeg (nI (6 * t) + 1)))
  unfold f_L_law_623
  rw [if_pos (show hin (nI (6 * t) + 1) Ln from hi 1 (by omega)), e1, Option.bind_some, if_pos t0, e2, Option.bind_some, if_pos t1, if_pos rfl]
  exact nx _ (h2.mono (by omega))
theorem lb_14 (h : J B L X) (hB : 9999 ≤ B) (hB2 : B ≤ 300000000) (hi : ∀ j : Nat, 1 ≤ j ∧ j ≤ 5 → hin (nI (6 * t) + nI j) Ln) (nx : ∀ X', J (B + 224000) L X' → f_L_law_1186 L xs Ln k18 0 470 (nI (6 * t)) X' = some 1) : f_L_law_646 L xs Ln k18 0 470 (nI (6 * t)) X = some 1 := by
  obtain ⟨t0, t1⟩ := h.t0
  obtain ⟨r, X3, X4, e1, e2, h2⟩ := j_restore h hB hB2 (xs (Int32.toNatClampNeg (nI (6 * t) + 1)))
  unfold f_L_law_646
  rw [if_pos (show hin (nI (6 * t) + 1) Ln from hi 1 (by omega)), e1, Option.bind_some, if_pos t0, e2, Option.bind_some, if_pos t1, if_pos rfl]
  exact nx _ (h2.mono (by omega))
theorem lb_15 (h : J B L X) (hB : 9999 ≤ B) (hB2 : B ≤ 300000000) (hi : ∀ j : Nat, 1 ≤ j ∧ j ≤ 5 → hin (nI (6 * t) + nI j) Ln) (nx : ∀ X', J (B + 224000) L X' → f_L_law_1186 L xs Ln k18 0 470 (nI (6 * t)) X' = some 1) : f_L_law_669 L xs Ln k18 0 470 (nI (6 * t)) X = some 1 := by
  obtain ⟨t0, t1⟩ := h.t0
  obtain ⟨r, X3, X4, e1, e2, h2⟩ := j_undo h
  unfold f_L_law_669
  rw [e1, Option.bind_some, if_pos t0, e2, Option.bind_some, if_pos t1, if_pos rfl]
  exact nx _ (h2.mono (by omega))
theorem lb_16 (h : J B L X) (hB : 9999 ≤ B) (hB2 : B ≤ 300000000) (hi : ∀ j : Nat, 1 ≤ j ∧ j ≤ 5 → hin (nI (6 * t) + nI j) Ln) (nx : ∀ X', J (B + 224000) L X' → f_L_law_1186 L xs Ln k18 0 470 (nI (6 * t)) X' = some 1) : f_L_law_682 L xs Ln k18 0 470 (nI (6 * t)) X = some 1 := by
  obtain ⟨t0, t1⟩ := h.t0
  obtain ⟨r, X3, X4, e1, e2, h2⟩ := j_append h (xs (Int32.toNatClampNeg (nI (6 * t) + 1)))
  unfold f_L_law_682
  rw [if_pos (show hin (nI (6 * t) + 1) Ln from hi 1 (by omega)), e1, Option.bind_some, if_pos t0, e2, Option.bind_some, if_pos t1, if_pos rfl]
  exact nx _ (h2.mono (by omega))
theorem lb_17 (h : J B L X) (hB : 9999 ≤ B) (hB2 : B ≤ 300000000) (hi : ∀ j : Nat, 1 ≤ j ∧ j ≤ 5 → hin (nI (6 * t) + nI j) Ln) (nx : ∀ X', J (B + 224000) L X' → f_L_law_1186 L xs Ln k18 0 470 (nI (6 * t)) X' = some 1) : f_L_law_705 L xs Ln k18 0 470 (nI (6 * t)) X = some 1 := by
  obtain ⟨t0, t1⟩ := h.t0
  obtain ⟨r, X3, X4, e1, e2, h2⟩ := j_clearText h
  unfold f_L_law_705
  rw [e1, Option.bind_some, if_pos t0, e2, Option.bind_some, if_pos t1, if_pos rfl]
  exact nx _ (h2.mono (by omega))
theorem lb_18 (h : J B L X) (hB : 9999 ≤ B) (hB2 : B ≤ 300000000) (hi : ∀ j : Nat, 1 ≤ j ∧ j ≤ 5 → hin (nI (6 * t) + nI j) Ln) (nx : ∀ X', J (B + 224000) L X' → f_L_law_1186 L xs Ln k18 0 470 (nI (6 * t)) X' = some 1) : f_L_law_718 L xs Ln k18 0 470 (nI (6 * t)) X = some 1 := by
  obtain ⟨t0, t1⟩ := h.t0
  obtain ⟨r, X3, X4, e1, e2, h2⟩ := j_run h hB (by omega)
  unfold f_L_law_718
  rw [e1, Option.bind_some, if_pos t0, e2, Option.bind_some, if_pos t1, if_pos rfl]
  exact nx _ h2
theorem lb_19 (h : J B L X) (hB : 9999 ≤ B) (hB2 : B ≤ 300000000) (hi : ∀ j : Nat, 1 ≤ j ∧ j ≤ 5 → hin (nI (6 * t) + nI j) Ln) (nx : ∀ X', J (B + 224000) L X' → f_L_law_1186 L xs Ln k18 0 470 (nI (6 * t)) X' = some 1) : f_L_law_731 L xs Ln k18 0 470 (nI (6 * t)) X = some 1 := by
  obtain ⟨t0, t1⟩ := h.t0
  obtain ⟨r, e1, e2⟩ := j_failure h (xs (Int32.toNatClampNeg (nI (6 * t) + 1)))
  unfold f_L_law_731
  rw [if_pos (show hin (nI (6 * t) + 1) Ln from hi 1 (by omega)), e1, Option.bind_some, if_pos t0, e2, Option.bind_some, if_pos t1, if_pos rfl]
  exact nx _ (h.mono (by omega))
theorem lb_20 (h : J B L X) (hB : 9999 ≤ B) (hB2 : B ≤ 300000000) (hi : ∀ j : Nat, 1 ≤ j ∧ j ≤ 5 → hin (nI (6 * t) + nI j) Ln) (nx : ∀ X', J (B + 224000) L X' → f_L_law_1186 L xs Ln k18 0 470 (nI (6 * t)) X' = some 1) : f_L_law_754 L xs Ln k18 0 470 (nI (6 * t)) X = some 1 := by
  obtain ⟨t0, t1⟩ := h.t0
  obtain ⟨r, e1, e2⟩ := j_count h (xs (Int32.toNatClampNeg (nI (6 * t) + 1)))
  unfold f_L_law_754
  rw [if_pos (show hin (nI (6 * t) + 1) Ln from hi 1 (by omega)), e1, Option.bind_some, if_pos t0, e2, Option.bind_some, if_pos t1, if_pos rfl]
  exact nx _ (h.mono (by omega))
theorem lb_21 (h : J B L X) (hB : 9999 ≤ B) (hB2 : B ≤ 300000000) (hi : ∀ j : Nat, 1 ≤ j ∧ j ≤ 5 → hin (nI (6 * t) + nI j) Ln) (nx : ∀ X', J (B + 224000) L X' → f_L_law_1186 L xs Ln k18 0 470 (nI (6 * t)) X' = some 1) : f_L_law_777 L xs Ln k18 0 470 (nI (6 * t)) X = some 1 := by
  obtain ⟨t0, t1⟩ := h.t0
  obtain ⟨r, e1, e2⟩ := j_kind h (xs (Int32.toNatClampNeg (nI (6 * t) + 1))) (xs (Int32.toNatClampNeg (nI (6 * t) + 2)))
  unfold f_L_law_777
  rw [if_pos (show hin (nI (6 * t) + 1) Ln from hi 1 (by omega)), if_pos (show hin (nI (6 * t) + 2) Ln from hi 2 (by omega)), e1, Option.bind_some, if_pos t0, e2, Option.bind_some, if_pos t1, if_pos rfl]
  exact nx _ (h.mono (by omega))
theorem lb_22 (h : J B L X) (hB : 9999 ≤ B) (hB2 : B ≤ 300000000) (hi : ∀ j : Nat, 1 ≤ j ∧ j ≤ 5 → hin (nI (6 * t) + nI j) Ln) (nx : ∀ X', J (B + 224000) L X' → f_L_law_1186 L xs Ln k18 0 470 (nI (6 * t)) X' = some 1) : f_L_law_810 L xs Ln k18 0 470 (nI (6 * t)) X = some 1 := by
  obtain ⟨t0, t1⟩ := h.t0
  obtain ⟨r, e1, e2⟩ := j_customer h (xs (Int32.toNatClampNeg (nI (6 * t) + 1))) (xs (Int32.toNatClampNeg (nI (6 * t) + 2)))
  unfold f_L_law_810
  rw [if_pos (show hin (nI (6 * t) + 1) Ln from hi 1 (by omega)), if_pos (show hin (nI (6 * t) + 2) Ln from hi 2 (by omega)), e1, Option.bind_some, if_pos t0, e2, Option.bind_some, if_pos t1, if_pos rfl]
  exact nx _ (h.mono (by omega))
theorem lb_23 (h : J B L X) (hB : 9999 ≤ B) (hB2 : B ≤ 300000000) (hi : ∀ j : Nat, 1 ≤ j ∧ j ≤ 5 → hin (nI (6 * t) + nI j) Ln) (nx : ∀ X', J (B + 224000) L X' → f_L_law_1186 L xs Ln k18 0 470 (nI (6 * t)) X' = some 1) : f_L_law_843 L xs Ln k18 0 470 (nI (6 * t)) X = some 1 := by
  obtain ⟨t0, t1⟩ := h.t0
  obtain ⟨r, e1, e2⟩ := j_prize h (xs (Int32.toNatClampNeg (nI (6 * t) + 1))) (xs (Int32.toNatClampNeg (nI (6 * t) + 2)))
  unfold f_L_law_843
  rw [if_pos (show hin (nI (6 * t) + 1) Ln from hi 1 (by omega)), if_pos (show hin (nI (6 * t) + 2) Ln from hi 2 (by omega)), e1, Option.bind_some, if_pos t0, e2, Option.bind_some, if_pos t1, if_pos rfl]
  exact nx _ (h.mono (by omega))
theorem lb_24 (h : J B L X) (hB : 9999 ≤ B) (hB2 : B ≤ 300000000) (hi : ∀ j : Nat, 1 ≤ j ∧ j ≤ 5 → hin (nI (6 * t) + nI j) Ln) (nx : ∀ X', J (B + 224000) L X' → f_L_law_1186 L xs Ln k18 0 470 (nI (6 * t)) X' = some 1) : f_L_law_876 L xs Ln k18 0 470 (nI (6 * t)) X = some 1 := by
  obtain ⟨t0, t1⟩ := h.t0
  obtain ⟨r, e1, e2⟩ := j_read h (xs (Int32.toNatClampNeg (nI (6 * t) + 1)))
  unfold f_L_law_876
  rw [if_pos (show hin (nI (6 * t) + 1) Ln from hi 1 (by omega)), e1, Option.bind_some, if_pos t0, e2, Option.bind_some, if_pos t1, if_pos rfl]
  exact nx _ (h.mono (by omega))
theorem lb_25 (h : J B L X) (hB : 9999 ≤ B) (hB2 : B ≤ 300000000) (hi : ∀ j : Nat, 1 ≤ j ∧ j ≤ 5 → hin (nI (6 * t) + nI j) Ln) (nx : ∀ X', J (B + 224000) L X' → f_L_law_1186 L xs Ln k18 0 470 (nI (6 * t)) X' = some 1) : f_L_law_899 L xs Ln k18 0 470 (nI (6 * t)) X = some 1 := by
  obtain ⟨t0, t1⟩ := h.t0
  obtain ⟨r, X4, e1, e2, h2⟩ := j_allowed h (xs (Int32.toNatClampNeg (nI (6 * t) + 1))) (xs (Int32.toNatClampNeg (nI (6 * t) + 2))) (xs (Int32.toNatClampNeg (nI (6 * t) + 3)))
  unfold f_L_law_899
  rw [if_pos (show hin (nI (6 * t) + 1) Ln from hi 1 (by omega)), if_pos (show hin (nI (6 * t) + 2) Ln from hi 2 (by omega)), if_pos (show hin (nI (6 * t) + 3) Ln from hi 3 (by omega)), e1, Option.bind_some, if_pos t0, e2, Option.bind_some, if_pos t1, if_pos rfl]
  exact nx _ (h2.mono (by omega))
theorem lb_26 (h : J B L X) (hB : 9999 ≤ B) (hB2 : B ≤ 300000000) (hi : ∀ j : Nat, 1 ≤ j ∧ j ≤ 5 → hin (nI (6 * t) + nI j) Ln) (nx : ∀ X', J (B + 224000) L X' → f_L_law_1186 L xs Ln k18 0 470 (nI (6 * t)) X' = some 1) : f_L_law_942 L xs Ln k18 0 470 (nI (6 * t)) X = some 1 := by
  obtain ⟨t0, t1⟩ := h.t0
  obtain ⟨r, X4, e1, e2, h2⟩ := j_guess h (xs (Int32.toNatClampNeg (nI (6 * t) + 1))) (xs (Int32.toNatClampNeg (nI (6 * t) + 2))) (xs (Int32.toNatClampNeg (nI (6 * t) + 3)))
  unfold f_L_law_942
  rw [if_pos (show hin (nI (6 * t) + 1) Ln from hi 1 (by omega)), if_pos (show hin (nI (6 * t) + 2) Ln from hi 2 (by omega)), if_pos (show hin (nI (6 * t) + 3) Ln from hi 3 (by omega)), e1, Option.bind_some, if_pos t0, e2, Option.bind_some, if_pos t1, if_pos rfl]
  exact nx _ (h2.mono (by omega))
theorem lb_27 (h : J B L X) (hB : 9999 ≤ B) (hB2 : B ≤ 300000000) (hi : ∀ j : Nat, 1 ≤ j ∧ j ≤ 5 → hin (nI (6 * t) + nI j) Ln) (nx : ∀ X', J (B + 224000) L X' → f_L_law_1186 L xs Ln k18 0 470 (nI (6 * t)) X' = some 1) : f_L_law_985 L xs Ln k18 0 470 (nI (6 * t)) X = some 1 := by
  obtain ⟨t0, t1⟩ := h.t0
  obtain ⟨r, e1, e2⟩ := j_apartUpTo h (xs (Int32.toNatClampNeg (nI (6 * t) + 1)))
  unfold f_L_law_985
  rw [if_pos (show hin (nI (6 * t) + 1) Ln from hi 1 (by omega)), e1, Option.bind_some, if_pos t0, e2, Option.bind_some, if_pos t1, if_pos rfl]
  exact nx _ (h.mono (by omega))
theorem lb_28 (h : J B L X) (hB : 9999 ≤ B) (hB2 : B ≤ 300000000) (hi : ∀ j : Nat, 1 ≤ j ∧ j ≤ 5 → hin (nI (6 * t) + nI j) Ln) (nx : ∀ X', J (B + 224000) L X' → f_L_law_1186 L xs Ln k18 0 470 (nI (6 * t)) X' = some 1) : f_L_law_1008 L xs Ln k18 0 470 (nI (6 * t)) X = some 1 := by
  obtain ⟨t0, t1⟩ := h.t0
  obtain ⟨r, e1, e2⟩ := j_bestStep h (xs (Int32.toNatClampNeg (nI (6 * t) + 1))) (xs (Int32.toNatClampNeg (nI (6 * t) + 2)))
  unfold f_L_law_1008
  rw [if_pos (show hin (nI (6 * t) + 1) Ln from hi 1 (by omega)), if_pos (show hin (nI (6 * t) + 2) Ln from hi 2 (by omega)), e1, Option.bind_some, if_pos t0, e2, Option.bind_some, if_pos t1, if_pos rfl]
  exact nx _ (h.mono (by omega))
theorem lb_29 (h : J B L X) (hB : 9999 ≤ B) (hB2 : B ≤ 300000000) (hi : ∀ j : Nat, 1 ≤ j ∧ j ≤ 5 → hin (nI (6 * t) + nI j) Ln) (nx : ∀ X', J (B + 224000) L X' → f_L_law_1186 L xs Ln k18 0 470 (nI (6 * t)) X' = some 1) : f_L_law_1041 L xs Ln k18 0 470 (nI (6 * t)) X = some 1 := by
  obtain ⟨t0, t1⟩ := h.t0
  obtain ⟨r, e1, e2⟩ := j_mixed h (xs (Int32.toNatClampNeg (nI (6 * t) + 1))) (xs (Int32.toNatClampNeg (nI (6 * t) + 2))) (xs (Int32.toNatClampNeg (nI (6 * t) + 3))) (xs (Int32.toNatClampNeg (nI (6 * t) + 4)))
  unfold f_L_law_1041
  rw [if_pos (show hin (nI (6 * t) + 1) Ln from hi 1 (by omega)), if_pos (show hin (nI (6 * t) + 2) Ln from hi 2 (by omega)), if_pos (show hin (nI (6 * t) + 3) Ln from hi 3 (by omega)), if_pos (show hin (nI (6 * t) + 4) Ln from hi 4 (by omega)), e1, Option.bind_some, if_pos t0, e2, Option.bind_some, if_pos t1, if_pos rfl]
  exact nx _ (h.mono (by omega))
theorem lb_30 (h : J B L X) (hB : 9999 ≤ B) (hB2 : B ≤ 300000000) (hi : ∀ j : Nat, 1 ≤ j ∧ j ≤ 5 → hin (nI (6 * t) + nI j) Ln) (nx : ∀ X', J (B + 224000) L X' → f_L_law_1186 L xs Ln k18 0 470 (nI (6 * t)) X' = some 1) : f_L_law_1094 L xs Ln k18 0 470 (nI (6 * t)) X = some 1 := by
  obtain ⟨t0, t1⟩ := h.t0
  obtain ⟨r, X4, e1, e2, h2⟩ := j_would h (xs (Int32.toNatClampNeg (nI (6 * t) + 1)))
  unfold f_L_law_1094
  rw [if_pos (show hin (nI (6 * t) + 1) Ln from hi 1 (by omega)), e1, Option.bind_some, if_pos t0, e2, Option.bind_some, if_pos t1, if_pos rfl]
  exact nx _ (h2.mono (by omega))
theorem lb_31 (h : J B L X) (hB : 9999 ≤ B) (hB2 : B ≤ 300000000) (hi : ∀ j : Nat, 1 ≤ j ∧ j ≤ 5 → hin (nI (6 * t) + nI j) Ln) (nx : ∀ X', J (B + 224000) L X' → f_L_law_1186 L xs Ln k18 0 470 (nI (6 * t)) X' = some 1) : f_L_law_1117 L xs Ln k18 0 470 (nI (6 * t)) X = some 1 := by
  obtain ⟨t0, t1⟩ := h.t0
  obtain ⟨r, X4, e1, e2, h2⟩ := j_fairest h
  unfold f_L_law_1117
  rw [e1, Option.bind_some, if_pos t0, e2, Option.bind_some, if_pos t1, if_pos rfl]
  exact nx _ (h2.mono (by omega))
theorem lb_32 (h : J B L X) (hB : 9999 ≤ B) (hB2 : B ≤ 300000000) (hi : ∀ j : Nat, 1 ≤ j ∧ j ≤ 5 → hin (nI (6 * t) + nI j) Ln) (nx : ∀ X', J (B + 224000) L X' → f_L_law_1186 L xs Ln k18 0 470 (nI (6 * t)) X' = some 1) : f_L_law_1130 L xs Ln k18 0 470 (nI (6 * t)) X = some 1 := by
  obtain ⟨t0, t1⟩ := h.t0
  obtain ⟨r, X3, e1, e2, h2⟩ := j_soldOut h (xs (Int32.toNatClampNeg (nI (6 * t) + 1)))
  unfold f_L_law_1130
  rw [if_pos (show hin (nI (6 * t) + 1) Ln from hi 1 (by omega)), e1, Option.bind_some, if_pos t0, e2, Option.bind_some, if_pos t1, if_pos rfl]
  exact nx _ (h2.mono (by omega))
theorem lb_33 (h : J B L X) (hB : 9999 ≤ B) (hB2 : B ≤ 300000000) (hi : ∀ j : Nat, 1 ≤ j ∧ j ≤ 5 → hin (nI (6 * t) + nI j) Ln) (nx : ∀ X', J (B + 224000) L X' → f_L_law_1186 L xs Ln k18 0 470 (nI (6 * t)) X' = some 1) : f_L_law_1153 L xs Ln k18 0 470 (nI (6 * t)) X = some 1 := by
  obtain ⟨t0, t1⟩ := h.t0
  obtain ⟨r, e1, e2⟩ := j_shop h (xs (Int32.toNatClampNeg (nI (6 * t) + 1))) (xs (Int32.toNatClampNeg (nI (6 * t) + 2)))
  unfold f_L_law_1153
  rw [if_pos (show hin (nI (6 * t) + 1) Ln from hi 1 (by omega)), if_pos (show hin (nI (6 * t) + 2) Ln from hi 2 (by omega)), e1, Option.bind_some, if_pos t0, e2, Option.bind_some, if_pos t1, if_pos rfl]
  exact nx _ (h.mono (by omega))
end LR
theorem law_ex {Ln t : Nat} (hLn : Ln ≤ 3072) (h : 6 * t ≤ Ln) (h2 : Ln < 6 * t + 6) : (Int32.ofNat Ln) - 6 < nI (6 * t) := by
  have e : (Int32.ofNat Ln).toInt = (Ln : Int) := nI_toInt (n := Ln) (by omega)
  have e6 : (6 : Int32).toInt = 6 := by decide
  rw [i_lt, nI_toInt (by omega), i_sub (by rw [e, e6]; omega) (by rw [e, e6]; omega), e, e6]
  omega
theorem law_nx {Ln t : Nat} (hLn : Ln ≤ 3072) (h : 6 * t ≤ Ln) (h2 : ¬ Ln < 6 * t + 6) : ¬ (Int32.ofNat Ln) - 6 < nI (6 * t) := by
  have e : (Int32.ofNat Ln).toInt = (Ln : Int) := nI_toInt (n := Ln) (by omega)
  have e6 : (6 : Int32).toInt = 6 := by decide
  rw [i_lt, nI_toInt (by omega), i_sub (by rw [e, e6]; omega) (by rw [e, e6]; omega), e, e6]
  omega
theorem law_l {L : hL} {xs : Nat → Int32} {Ln : Nat} (hLn : Ln ≤ 3072) : ∀ (d t n : Nat) (X : hX), Ln < 6 * (t + d) + 6 → 6 * t ≤ Ln → d < n → J (9999 + 224000 * (t : Int)) L X → f_L_law_18 L xs Ln n 0 470 (nI (6 * t)) X = some 1 := by
  intro d
  induction d with
  | zero =>
    intro t n X h1 h2 hn hJ
    obtain ⟨n, rfl⟩ : ∃ z, n = z + 1 := ⟨n - 1, by omega⟩
    rw [f_L_law_18, if_pos (law_ex hLn h2 (by omega))]
  | succ d ih =>
    intro t n X h1 h2 hn hJ
    obtain ⟨n, rfl⟩ : ∃ z, n = z + 1 := ⟨n - 1, by omega⟩
    by_cases hx : Ln < 6 * t + 6
    · rw [f_L_law_18, if_pos (law_ex hLn h2 hx)]
    · have nx : ∀ X', J (9999 + 224000 * (t : Int) + 224000) L X' → f_L_law_1186 L xs Ln (f_L_law_18 L xs Ln n) 0 470 (nI (6 * t)) X' = some 1 := fun X' h' => by
        unfold f_L_law_1186
        rw [nk6, show 6 * t + 6 = 6 * (t + 1) by omega]
        exact ih (t + 1) n X' (by omega) (by omega) (by omega) (h'.mono (by omega))
      have hi : ∀ j : Nat, 1 ≤ j ∧ j ≤ 5 → hin (nI (6 * t) + nI j) Ln := fun j hj => by
        rw [nI_add]
        exact hin_nI (by omega) (by omega)
      have hB : (9999 : Int) ≤ 9999 + 224000 * (t : Int) := by omega
      have hB2 : 9999 + 224000 * (t : Int) ≤ 300000000 := by omega
      rw [f_L_law_18, if_neg (law_nx hLn h2 hx), if_pos (hin_nI (by omega) (by omega))]
      generalize (xs (Int32.toNatClampNeg (nI (6 * t)))) &&& 63 = w
      by_cases q0 : w = 0
      · rw [if_pos q0]
        exact lb_0 hJ hB hB2 hi nx
      rw [if_neg q0]
      by_cases q1 : w = 1
      · rw [if_pos q1]
        exact lb_1 hJ hB hB2 hi nx
      rw [if_neg q1]
      by_cases q2 : w = 2
      · rw [if_pos q2]
        exact lb_2 hJ hB hB2 hi nx
      rw [if_neg q2]
      by_cases q3 : w = 3
      · rw [if_pos q3]
        exact lb_3 hJ hB hB2 hi nx
      rw [if_neg q3]
      by_cases q4 : w = 4
      · rw [if_pos q4]
        exact lb_4 hJ hB hB2 hi nx
      rw [if_neg q4]
      by_cases q5 : w = 5
      · rw [if_pos q5]
        exact lb_5 hJ hB hB2 hi nx
      rw [if_neg q5]
      by_cases q6 : w = 6
      · rw [if_pos q6]
        exact lb_6 hJ hB hB2 hi nx
      rw [if_neg q6]
      by_cases q7 : w = 7
      · rw [if_pos q7]
        exact lb_7 hJ hB hB2 hi nx
      rw [if_neg q7]
      by_cases q8 : w = 8
      · rw [if_pos q8]
        exact lb_8 hJ hB hB2 hi nx
      rw [if_neg q8]
      by_cases q9 : w = 9
      · rw [if_pos q9]
        exact lb_9 hJ hB hB2 hi nx
      rw [if_neg q9]
      by_cases q10 : w = 10
      · rw [if_pos q10]
        exact lb_10 hJ hB hB2 hi nx
      rw [if_neg q10]
      by_cases q11 : w = 11
      · rw [if_pos q11]
        exact lb_11 hJ hB hB2 hi nx
      rw [if_neg q11]
      by_cases q12 : w = 12
      · rw [if_pos q12]
        exact lb_12 hJ hB hB2 hi nx
      rw [if_neg q12]
      by_cases q13 : w = 13
      · rw [if_pos q13]
        exact lb_13 hJ hB hB2 hi nx
      rw [if_neg q13]
      by_cases q14 : w = 14
      · rw [if_pos q14]
        exact lb_14 hJ hB hB2 hi nx
      rw [if_neg q14]
      by_cases q15 : w = 15
      · rw [if_pos q15]
        exact lb_15 hJ hB hB2 hi nx
      rw [if_neg q15]
      by_cases q16 : w = 16
      · rw [if_pos q16]
        exact lb_16 hJ hB hB2 hi nx
      rw [if_neg q16]
      by_cases q17 : w = 17
      · rw [if_pos q17]
        exact lb_17 hJ hB hB2 hi nx
      rw [if_neg q17]
      by_cases q18 : w = 18
      · rw [if_pos q18]
        exact lb_18 hJ hB hB2 hi nx
      rw [if_neg q18]
      by_cases q19 : w = 19
      · rw [if_pos q19]
        exact lb_19 hJ hB hB2 hi nx
      rw [if_neg q19]
      by_cases q20 : w = 20
      · rw [if_pos q20]
        exact lb_20 hJ hB hB2 hi nx
      rw [if_neg q20]
      by_cases q21 : w = 21
      · rw [if_pos q21]
        exact lb_21 hJ hB hB2 hi nx
      rw [if_neg q21]
      by_cases q22 : w = 22
      · rw [if_pos q22]
        exact lb_22 hJ hB hB2 hi nx
      rw [if_neg q22]
      by_cases q23 : w = 23
      · rw [if_pos q23]
        exact lb_23 hJ hB hB2 hi nx
      rw [if_neg q23]
      by_cases q24 : w = 24
      · rw [if_pos q24]
        exact lb_24 hJ hB hB2 hi nx
      rw [if_neg q24]
      by_cases q25 : w = 25
      · rw [if_pos q25]
        exact lb_25 hJ hB hB2 hi nx
      rw [if_neg q25]
      by_cases q26 : w = 26
      · rw [if_pos q26]
        exact lb_26 hJ hB hB2 hi nx
      rw [if_neg q26]
      by_cases q27 : w = 27
      · rw [if_pos q27]
        exact lb_27 hJ hB hB2 hi nx
      rw [if_neg q27]
      by_cases q28 : w = 28
      · rw [if_pos q28]
        exact lb_28 hJ hB hB2 hi nx
      rw [if_neg q28]
      by_cases q29 : w = 29
      · rw [if_pos q29]
        exact lb_29 hJ hB hB2 hi nx
      rw [if_neg q29]
      by_cases q30 : w = 30
      · rw [if_pos q30]
        exact lb_30 hJ hB hB2 hi nx
      rw [if_neg q30]
      by_cases q31 : w = 31
      · rw [if_pos q31]
        exact lb_31 hJ hB hB2 hi nx
      rw [if_neg q31]
      by_cases q32 : w = 32
      · rw [if_pos q32]
        exact lb_32 hJ hB hB2 hi nx
      rw [if_neg q32]
      by_cases q33 : w = 33
      · rw [if_pos q33]
        exact lb_33 hJ hB hB2 hi nx
      rw [if_neg q33]
      exact nx X (hJ.mono (by omega))
