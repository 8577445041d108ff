/-! the reference: rows that go, snapshots, undo -/
theorem SC.srow {X Y : hX} {g : Nat → Int32} (h : SC X Y) : SC X (srow Y 471 g) := ⟨h.1, fun k j a d e => by show (if k = 471 then g j else Y.1 k j) = _; rw [if_neg a]; exact h.2 k j a d e⟩
def rg_leave (d : Nat → Int32) (c m k : Nat) : Int32 := if 16 + 6 * c ≤ k ∧ k < 16 + 6 * m then d (k + 6) else d k
def rg_remove (d : Nat → Int32) (c m k : Nat) : Int32 := if 52 + 7 * c ≤ k ∧ k < 52 + 7 * m then d (k + 7) else d k
def rop_leave (d : Nat → Int32) (cc : Nat) (c : Int32) : Int32 × (Nat → Int32) := if isR c cc then (d (16 + 6 * c.toNatClampNeg), rg_leave (upd d 14 (d 14 - 1)) c.toNatClampNeg (cc - 1)) else (-100001, d)
def rop_remove (d : Nat → Int32) (pc : Nat) (c : Int32) : Int32 × (Nat → Int32) := if isR c pc then (d (52 + 7 * c.toNatClampNeg + 2), rg_remove (upd d 15 (d 15 - 1)) c.toNatClampNeg (pc - 1)) else (-100001, d)
theorem n6 (c : Nat) : (6 : Int32) * nI c = nI (6 * c) := by rw [show (6 : Int32) = nI 6 from rfl, pk_mul]
theorem n7 (c : Nat) : (7 : Int32) * nI c = nI (7 * c) := by rw [show (7 : Int32) = nI 7 from rfl, pk_mul]
theorem n16' (j : Nat) : (16 : Int32) + nI j = nI (16 + j) := nI_add 16 j
theorem n52' (j : Nat) : (52 : Int32) + nI j = nI (52 + j) := nI_add 52 j
theorem nk7 (c : Nat) : nI c + 7 = nI (c + 7) := nI_add c 7
theorem nm1s {c : Nat} (h : 0 < c) : nI c - 1 = nI (c - 1) := by
  have := nm1' (c - 1)
  rwa [show c - 1 + 1 = c by omega] at this
section MR
variable {L : hL}
theorem m_leave_l (had : Int32) {m : Nat} (hm : m ≤ 6) : ∀ (d i n : Nat) (X : hX), MOK L X → X.1 471 14 = nI m → i + d = 6 * m → d < n → f_X10_leave_38 L n 470 had (nI i) X = (f_X10_acted L (srow X 471 (fun k => if 16 + i ≤ k ∧ k < 16 + 6 * m then X.1 471 (k + 6) else X.1 471 k)) 470 had).bind fun r => some (r.1, r.2) := by
  intro d
  induction d with
  | zero =>
    intro i n X hM h14 hi hn
    obtain ⟨q, rfl⟩ : ∃ q, n = q + 1 := ⟨n - 1, by omega⟩
    have : (fun k => if 16 + i ≤ k ∧ k < 16 + 6 * m then X.1 471 (k + 6) else X.1 471 k) = X.1 471 := by
      funext k
      rw [if_neg (by omega)]
    rw [this, srow_id]
    unfold f_X10_leave_38
    simp only [if_pos hM.1.1, hM.2.2.1, Option.bind_some, if_pos hM.1.2.1, hM.2.1.1, show (14 < 284) = True from by decide, if_true, h14, n6]
    rw [if_pos ((nle (by omega) (by omega)).mpr (by omega))]
  | succ d ih =>
    intro i n X hM h14 hi hn
    obtain ⟨q, rfl⟩ : ∃ q, n = q + 1 := ⟨n - 1, by omega⟩
    unfold f_X10_leave_38
    simp only [if_pos hM.1.1, hM.2.2.1, Option.bind_some, if_pos hM.1.2.1, hM.2.1.1, show (14 < 284) = True from by decide, if_true, h14, n6, if_neg (nge (i := i) (n := 6 * m) (by omega) (by omega) (by omega)), n16', nk6, n1, if_pos (hin_nI (n := 284) (show 16 + i < 284 by omega) (by omega)), if_pos (hin_nI (n := 284) (show 16 + i + 6 < 284 by omega) (by omega)), nI_clamp (show 16 + i < 2 ^ 31 by omega), nI_clamp (show 16 + i + 6 < 2 ^ 31 by omega)]
    rw [ih (i + 1) q (smi X 471 (16 + i) (X.1 471 (16 + i + 6))) hM.smi (by rw [smi_d, pk_un (by omega)]; exact h14) (by omega) (by omega), smi_row, srow_srow, srow_s]
    refine congrArg (fun g => (f_X10_acted L (srow X 471 g) 470 had).bind fun r => some (r.1, r.2)) ?_
    funext k
    simp only [upd]
    by_cases e : k = 16 + i
    · subst e
      rw [if_neg (by omega), if_pos rfl, if_pos (by omega)]
    · rw [if_neg e]
      by_cases c2 : 16 + i ≤ k ∧ k < 16 + 6 * m
      · rw [if_pos c2, if_pos (by omega), if_neg (by omega)]
      · rw [if_neg c2, if_neg (by omega)]
theorem m_remove_l (had : Int32) {m : Nat} (hm : m ≤ 6) : ∀ (d i n : Nat) (X : hX), MOK L X → X.1 471 15 = nI m → i + d = 7 * m → d < n → f_X10_removePrize_38 L n 470 had (nI i) X = (f_X10_acted L (srow X 471 (fun k => if 52 + i ≤ k ∧ k < 52 + 7 * m then X.1 471 (k + 7) else X.1 471 k)) 470 had).bind fun r => some (r.1, r.2) := by
  intro d
  induction d with
  | zero =>
    intro i n X hM h14 hi hn
    obtain ⟨q, rfl⟩ : ∃ q, n = q + 1 := ⟨n - 1, by omega⟩
    have : (fun k => if 52 + i ≤ k ∧ k < 52 + 7 * m then X.1 471 (k + 7) else X.1 471 k) = X.1 471 := by
      funext k
      rw [if_neg (by omega)]
    rw [this, srow_id]
    unfold f_X10_removePrize_38
    simp only [if_pos hM.1.1, hM.2.2.1, Option.bind_some, if_pos hM.1.2.1, hM.2.1.1, show (15 < 284) = True from by decide, if_true, h14, n7]
    rw [if_pos ((nle (by omega) (by omega)).mpr (by omega))]
  | succ d ih =>
    intro i n X hM h14 hi hn
    obtain ⟨q, rfl⟩ : ∃ q, n = q + 1 := ⟨n - 1, by omega⟩
    unfold f_X10_removePrize_38
    simp only [if_pos hM.1.1, hM.2.2.1, Option.bind_some, if_pos hM.1.2.1, hM.2.1.1, show (15 < 284) = True from by decide, if_true, h14, n7, if_neg (nge (i := i) (n := 7 * m) (by omega) (by omega) (by omega)), n52', nk7, n1, if_pos (hin_nI (n := 284) (show 52 + i < 284 by omega) (by omega)), if_pos (hin_nI (n := 284) (show 52 + i + 7 < 284 by omega) (by omega)), nI_clamp (show 52 + i < 2 ^ 31 by omega), nI_clamp (show 52 + i + 7 < 2 ^ 31 by omega)]
    rw [ih (i + 1) q (smi X 471 (52 + i) (X.1 471 (52 + i + 7))) hM.smi (by rw [smi_d, pk_un (by omega)]; exact h14) (by omega) (by omega), smi_row, srow_srow, srow_s]
    refine congrArg (fun g => (f_X10_acted L (srow X 471 g) 470 had).bind fun r => some (r.1, r.2)) ?_
    funext k
    simp only [upd]
    by_cases e : k = 52 + i
    · subst e
      rw [if_neg (by omega), if_pos rfl, if_pos (by omega)]
    · rw [if_neg e]
      by_cases c2 : 52 + i ≤ k ∧ k < 52 + 7 * m
      · rw [if_pos c2, if_pos (by omega), if_neg (by omega)]
      · rw [if_neg c2, if_neg (by omega)]
variable {X : hX} {n : Nat}
theorem r_leave (hM : MOK L X) (hn : n ≤ 5) (hn4 : X.1 470 4 = nI n) {cc : Nat} (hc : cc ≤ 6) (e : X.1 471 14 = nI cc) (a1 : Int32) : ∃ X', f_X10_leave L X 470 a1 = some ((rop_leave (X.1 471) cc a1).1, X') ∧ MA X X' n (rop_leave (X.1 471) cc a1).2 (¬ (rop_leave (X.1 471) cc a1).1 ≤ -100001) := by
  unfold f_X10_leave rop_leave
  simp only [s_isCustomer hM, e, isR_m1 hc, Option.bind_some, if_pos hM.1.1]
  by_cases h : isR a1 cc
  · obtain ⟨p, hpp, rfl⟩ := isR_of (by omega) h
    have ep := nI_clamp (show p < 2 ^ 31 by omega)
    have ho : f_X10_of L (KX X) 470 (nI p) 0 = some (X.1 471 (16 + 6 * p)) := by rw [← KX_d (X := X)]; exact s_of (X := KX X) hM (by omega) (show 0 < 6 by omega)
    have r0 : (KX X).2 470 0 = some 471 := hM.2.2.1
    have hkk : f_X10_keeps L X 470 = some (KX X) := m_keeps hM
    have e14 : (KX X).1 471 14 = nI cc := by rw [KX_d]; exact e
    have h14 : (smi (KX X) 471 14 (nI (cc - 1))).1 471 14 = nI (cc - 1) := by rw [smi_d, pk_us]
    simp only [if_pos h, i10, if_false, hkk, Option.bind_some, ho, r0, if_pos hM.1.2.1, hM.2.1.1, show (14 < 284) = True from by decide, if_true, e14, nm1s (show 0 < cc by omega), n6, ep]
    rw [m_leave_l (X.1 471 (16 + 6 * p)) (m := cc - 1) (by omega) (6 * (cc - 1) - 6 * p) (6 * p) u_fuel (smi (KX X) 471 14 (nI (cc - 1))) (KXM hM).smi h14 (by omega) (by unfold u_fuel; omega)]
    have hs : SC (KX X) (srow (smi (KX X) 471 14 (nI (cc - 1))) 471 (fun k => if 16 + 6 * p ≤ k ∧ k < 16 + 6 * (cc - 1) then (smi (KX X) 471 14 (nI (cc - 1))).1 471 (k + 6) else (smi (KX X) 471 14 (nI (cc - 1))).1 471 k)) := SC.rf.d.srow
    obtain ⟨X', g1, g2⟩ := m_acted hM hn hn4 hs (X.1 471 (16 + 6 * p))
    rw [g1, Option.bind_some]
    rw [srow_s, smi_d, KX_d] at g2
    exact ⟨X', rfl, g2⟩
  · simp only [if_neg h, i01, if_true]
    exact ⟨X, rfl, MA.no hn4 (fun q => q (by show (-100001 : Int32) ≤ -100001; decide))⟩
theorem r_removePrize (hM : MOK L X) (hn : n ≤ 5) (hn4 : X.1 470 4 = nI n) {cc : Nat} (hc : cc ≤ 6) (e : X.1 471 15 = nI cc) (a1 : Int32) : ∃ X', f_X10_removePrize L X 470 a1 = some ((rop_remove (X.1 471) cc a1).1, X') ∧ MA X X' n (rop_remove (X.1 471) cc a1).2 (¬ (rop_remove (X.1 471) cc a1).1 ≤ -100001) := by
  unfold f_X10_removePrize rop_remove
  simp only [s_isPrize hM, e, isR_m1 hc, Option.bind_some, if_pos hM.1.1]
  by_cases h : isR a1 cc
  · obtain ⟨p, hpp, rfl⟩ := isR_of (by omega) h
    have ep := nI_clamp (show p < 2 ^ 31 by omega)
    have ho : f_X10_priced L (KX X) 470 (nI p) 2 = some (X.1 471 (52 + 7 * p + 2)) := by rw [← KX_d (X := X)]; exact s_priced (X := KX X) hM (by omega) (show 2 < 7 by omega)
    have r0 : (KX X).2 470 0 = some 471 := hM.2.2.1
    have hkk : f_X10_keeps L X 470 = some (KX X) := m_keeps hM
    have e14 : (KX X).1 471 15 = nI cc := by rw [KX_d]; exact e
    have h14 : (smi (KX X) 471 15 (nI (cc - 1))).1 471 15 = nI (cc - 1) := by rw [smi_d, pk_us]
    simp only [if_pos h, i10, if_false, hkk, Option.bind_some, ho, r0, if_pos hM.1.2.1, hM.2.1.1, show (15 < 284) = True from by decide, if_true, e14, nm1s (show 0 < cc by omega), n7, ep]
    rw [m_remove_l (X.1 471 (52 + 7 * p + 2)) (m := cc - 1) (by omega) (7 * (cc - 1) - 7 * p) (7 * p) u_fuel (smi (KX X) 471 15 (nI (cc - 1))) (KXM hM).smi h14 (by omega) (by unfold u_fuel; omega)]
    have hs : SC (KX X) (srow (smi (KX X) 471 15 (nI (cc - 1))) 471 (fun k => if 52 + 7 * p ≤ k ∧ k < 52 + 7 * (cc - 1) then (smi (KX X) 471 15 (nI (cc - 1))).1 471 (k + 7) else (smi (KX X) 471 15 (nI (cc - 1))).1 471 k)) := SC.rf.d.srow
    obtain ⟨X', g1, g2⟩ := m_acted hM hn hn4 hs (X.1 471 (52 + 7 * p + 2))
    rw [g1, Option.bind_some]
    rw [srow_s, smi_d, KX_d] at g2
    exact ⟨X', rfl, g2⟩
  · simp only [if_neg h, i01, if_true]
    exact ⟨X, rfl, MA.no hn4 (fun q => q (by show (-100001 : Int32) ≤ -100001; decide))⟩
theorem n94 (i : Nat) : (94 : Int32) + 95 * nI i = nI (94 + 95 * i) := by rw [show (95 : Int32) = nI 95 from rfl, pk_mul]; exact nI_add 94 _
/-- the finish of take and restore -/
def fin_ (L : hL) (Y : hX) : Option (Int32 × hX) := (f_X10_pointsOfAll L Y 470).bind fun r2 => (f_X10_acted L Y 470 r2).bind fun r5 => some (r5.1, r5.2)
theorem m_take_l {i : Nat} (hi2 : i < 2) : ∀ (d k n : Nat) (X : hX), MOK L X → k + d = 94 → d < n → f_X10_take_33 L n 470 (nI (94 + 95 * i)) (nI k) X = fin_ L (srow X 471 (fun j => if 95 + 95 * i + k ≤ j ∧ j < 95 + 95 * i + 94 then X.1 471 (j - (95 + 95 * i)) else X.1 471 j)) := by
  intro d
  induction d with
  | zero =>
    intro k n X hM hk hn
    obtain rfl : k = 94 := by omega
    obtain ⟨q, rfl⟩ : ∃ q, n = q + 1 := ⟨n - 1, by omega⟩
    have : (fun j => if 95 + 95 * i + 94 ≤ j ∧ j < 95 + 95 * i + 94 then X.1 471 (j - (95 + 95 * i)) else X.1 471 j) = X.1 471 := by
      funext j
      rw [if_neg (by omega)]
    rw [this, srow_id]
    unfold f_X10_take_33 fin_
    rw [if_pos (show (94 : Int32) ≤ nI 94 by decide)]
    simp only [if_pos hM.1.1]
  | succ d ih =>
    intro k n X hM hk hn
    obtain ⟨q, rfl⟩ : ∃ q, n = q + 1 := ⟨n - 1, by omega⟩
    unfold f_X10_take_33
    simp only [if_neg (show ¬ (94 : Int32) ≤ nI k from nge (n := 94) (by omega) (by omega) (by omega)), if_pos hM.1.1, hM.2.2.1, Option.bind_some, if_pos hM.1.2.1, hM.2.1.1, n1, nI_add, if_pos (hin_nI (n := 284) (show k < 284 by omega) (by omega)), if_pos (hin_nI (n := 284) (show 94 + 95 * i + 1 + k < 284 by omega) (by omega)), nI_clamp (show k < 2 ^ 31 by omega), nI_clamp (show 94 + 95 * i + 1 + k < 2 ^ 31 by omega)]
    rw [ih (k + 1) q _ hM.smi (by omega) (by omega), smi_row, srow_srow, srow_s]
    refine congrArg (fun g => fin_ L (srow X 471 g)) ?_
    funext j
    simp only [upd]
    by_cases e : j = 94 + 95 * i + 1 + k
    · subst e
      rw [if_neg (by omega), if_pos rfl, if_pos (by omega), show 94 + 95 * i + 1 + k - (95 + 95 * i) = k by omega]
    · rw [if_neg e]
      by_cases c2 : 95 + 95 * i + k ≤ j ∧ j < 95 + 95 * i + 94
      · rw [if_pos c2, if_pos (by omega), if_neg (by omega)]
      · rw [if_neg c2, if_neg (by omega)]
theorem m_restore_l {i : Nat} (hi2 : i < 2) : ∀ (d k n : Nat) (X : hX), MOK L X → k + d = 94 → d < n → f_X10_restore_38 L n 470 (nI (94 + 95 * i)) (nI k) X = fin_ L (srow X 471 (fun j => if k ≤ j ∧ j < 94 then X.1 471 (95 + 95 * i + j) else X.1 471 j)) := by
  intro d
  induction d with
  | zero =>
    intro k n X hM hk hn
    obtain rfl : k = 94 := by omega
    obtain ⟨q, rfl⟩ : ∃ q, n = q + 1 := ⟨n - 1, by omega⟩
    have : (fun j => if 94 ≤ j ∧ j < 94 then X.1 471 (95 + 95 * i + j) else X.1 471 j) = X.1 471 := by
      funext j
      rw [if_neg (by omega)]
    rw [this, srow_id]
    unfold f_X10_restore_38 fin_
    rw [if_pos (show (94 : Int32) ≤ nI 94 by decide)]
    simp only [if_pos hM.1.1]
  | succ d ih =>
    intro k n X hM hk hn
    obtain ⟨q, rfl⟩ : ∃ q, n = q + 1 := ⟨n - 1, by omega⟩
    unfold f_X10_restore_38
    simp only [if_neg (show ¬ (94 : Int32) ≤ nI k from nge (n := 94) (by omega) (by omega) (by omega)), if_pos hM.1.1, hM.2.2.1, Option.bind_some, if_pos hM.1.2.1, hM.2.1.1, n1, nI_add, if_pos (hin_nI (n := 284) (show k < 284 by omega) (by omega)), if_pos (hin_nI (n := 284) (show 94 + 95 * i + 1 + k < 284 by omega) (by omega)), nI_clamp (show k < 2 ^ 31 by omega), nI_clamp (show 94 + 95 * i + 1 + k < 2 ^ 31 by omega)]
    rw [ih (k + 1) q _ hM.smi (by omega) (by omega), smi_row, srow_srow, srow_s]
    refine congrArg (fun g => fin_ L (srow X 471 g)) ?_
    funext j
    simp only [upd]
    by_cases e : j = k
    · subst e
      rw [if_neg (by omega), if_pos rfl, if_pos (by omega), show 94 + 95 * i + 1 + j = 95 + 95 * i + j by omega]
    · rw [if_neg e]
      by_cases c2 : k ≤ j ∧ j < 94
      · rw [if_pos c2, if_pos (by omega), if_neg (by omega)]
      · rw [if_neg c2, if_neg (by omega)]
def rg_take (d : Nat → Int32) (i j : Nat) : Int32 := if 95 + 95 * i + 0 ≤ j ∧ j < 95 + 95 * i + 94 then upd d (94 + 95 * i) 1 (j - (95 + 95 * i)) else upd d (94 + 95 * i) 1 j
def rg_rest (d : Nat → Int32) (i j : Nat) : Int32 := if 0 ≤ j ∧ j < 94 then d (95 + 95 * i + j) else d j
theorem fin_s (hM : MOK L X) (hn : n ≤ 5) (hn4 : X.1 470 4 = nI n) {Y : hX} (hs : SC (KX X) Y) {cc : Nat} (hc : cc ≤ 6) (e : Y.1 471 14 = nI cc) : ∃ X', fin_ L Y = some (smx (fun c => Y.1 471 (16 + 6 * c)) cc, X') ∧ MA X X' n (Y.1 471) (¬ smx (fun c => Y.1 471 (16 + 6 * c)) cc ≤ -100001) := by
  have hMY : MOK L Y := MOK.sc (X := KX X) hM hs
  obtain ⟨X', g1, g2⟩ := m_acted hM hn hn4 hs (smx (fun c => Y.1 471 (16 + 6 * c)) cc)
  unfold fin_
  rw [m_pts hMY hc e, Option.bind_some, g1, Option.bind_some]
  exact ⟨X', rfl, g2⟩
def rop_take (d : Nat → Int32) (cc : Nat) (a : Int32) : Int32 × (Nat → Int32) := if 0 ≤ a ∧ a ≤ 1 then (smx (fun c => d (16 + 6 * c)) cc, rg_take d a.toNatClampNeg) else (-100001, d)
theorem r_take (hM : MOK L X) (hn : n ≤ 5) (hn4 : X.1 470 4 = nI n) {cc : Nat} (hc : cc ≤ 6) (e : X.1 471 14 = nI cc) (a1 : Int32) : ∃ X', f_X10_take L X 470 a1 = some ((rop_take (X.1 471) cc a1).1, X') ∧ MA X X' n (rop_take (X.1 471) cc a1).2 (¬ (rop_take (X.1 471) cc a1).1 ≤ -100001) := by
  unfold f_X10_take rop_take
  rw [s_in]
  by_cases h : 0 ≤ a1 ∧ a1 ≤ 1
  · obtain ⟨i, hi2, rfl⟩ := slot_of h
    have ei := nI_clamp (show i < 2 ^ 31 by omega)
    have r0 : (KX X).2 470 0 = some 471 := hM.2.2.1
    have hkk : f_X10_keeps L X 470 = some (KX X) := m_keeps hM
    simp only [if_pos h, Option.bind_some, i10, if_false, hkk, if_pos hM.1.1, r0, if_pos hM.1.2.1, hM.2.1.1, n94, if_pos (hin_nI (n := 284) (show 94 + 95 * i < 284 by omega) (by omega)), nI_clamp (show 94 + 95 * i < 2 ^ 31 by omega), ei]
    have e3 := m_take_l (L := L) hi2 94 0 u_fuel (smi (KX X) 471 (94 + 95 * i) 1) (KXM hM).smi rfl (by unfold u_fuel; omega)
    have e3 : f_X10_take_33 L u_fuel 470 (nI (94 + 95 * i)) 0 (smi (KX X) 471 (94 + 95 * i) 1) = _ := e3
    have eg : (fun j => if 95 + 95 * i + 0 ≤ j ∧ j < 95 + 95 * i + 94 then (smi (KX X) 471 (94 + 95 * i) 1).1 471 (j - (95 + 95 * i)) else (smi (KX X) 471 (94 + 95 * i) 1).1 471 j) = rg_take (X.1 471) i := by
      rw [smi_d, KX_d]
      rfl
    rw [eg] at e3
    rw [e3]
    obtain ⟨X', g1, g2⟩ := fin_s hM hn hn4 (Y := srow (smi (KX X) 471 (94 + 95 * i) 1) 471 (rg_take (X.1 471) i)) SC.rf.d.srow hc (by
      rw [srow_s]
      unfold rg_take
      rw [if_neg (by omega), pk_un (by omega)]
      exact e)
    have es : smx (fun c => (srow (smi (KX X) 471 (94 + 95 * i) 1) 471 (rg_take (X.1 471) i)).1 471 (16 + 6 * c)) cc = smx (fun c => X.1 471 (16 + 6 * c)) cc := smx_ext cc (fun c hcc => by
      rw [srow_s]
      unfold rg_take
      rw [if_neg (by omega), pk_un (by omega)])
    rw [es] at g1 g2
    rw [srow_s] at g2
    exact ⟨X', g1, g2⟩
  · rw [if_neg h, if_neg h, Option.bind_some, if_pos rfl]
    exact ⟨X, rfl, MA.no hn4 (fun q => q (by show (-100001 : Int32) ≤ -100001; decide))⟩
def rop_restore (d : Nat → Int32) (cs : Nat → Nat) (a : Int32) : Int32 × (Nat → Int32) := if 0 ≤ a ∧ a ≤ 1 then (if d (94 + 95 * a.toNatClampNeg) = 0 then (-100002, d) else (smx (fun c => d (95 + 95 * a.toNatClampNeg + (16 + 6 * c))) (cs a.toNatClampNeg), rg_rest d a.toNatClampNeg)) else (-100001, d)
theorem r_restore (hM : MOK L X) (hn : n ≤ 5) (hn4 : X.1 470 4 = nI n) {cs : Nat → Nat} (hc : ∀ i, i < 2 → X.1 471 (94 + 95 * i) ≠ 0 → cs i ≤ 6 ∧ X.1 471 (95 + 95 * i + 14) = nI (cs i)) (a1 : Int32) : ∃ X', f_X10_restore L X 470 a1 = some ((rop_restore (X.1 471) cs a1).1, X') ∧ MA X X' n (rop_restore (X.1 471) cs a1).2 (¬ (rop_restore (X.1 471) cs a1).1 ≤ -100001) := by
  unfold f_X10_restore rop_restore
  rw [s_in]
  by_cases h : 0 ≤ a1 ∧ a1 ≤ 1
  · obtain ⟨i, hi2, rfl⟩ := slot_of h
    have ei := nI_clamp (show i < 2 ^ 31 by omega)
    have hkk : f_X10_keeps L X 470 = some (KX X) := m_keeps hM
    simp only [if_pos h, Option.bind_some, i10, if_false, hkk, if_pos hM.1.1, hM.2.2.1, if_pos hM.1.2.1, hM.2.1.1, n94, if_pos (hin_nI (n := 284) (show 94 + 95 * i < 284 by omega) (by omega)), nI_clamp (show 94 + 95 * i < 2 ^ 31 by omega), ei]
    by_cases hf : X.1 471 (94 + 95 * i) = 0
    · rw [if_pos hf, if_pos hf]
      exact ⟨X, rfl, MA.no hn4 (fun q => q (by show (-100002 : Int32) ≤ -100001; decide))⟩
    · obtain ⟨c6, e14⟩ := hc i hi2 hf
      rw [if_neg hf, if_neg hf]
      have e3 := m_restore_l (L := L) hi2 94 0 u_fuel (KX X) (KXM hM) rfl (by unfold u_fuel; omega)
      have e3 : f_X10_restore_38 L u_fuel 470 (nI (94 + 95 * i)) 0 (KX X) = _ := e3
      have eg : (fun j => if 0 ≤ j ∧ j < 94 then (KX X).1 471 (95 + 95 * i + j) else (KX X).1 471 j) = rg_rest (X.1 471) i := by
        rw [KX_d]
        rfl
      rw [eg] at e3
      rw [e3]
      obtain ⟨X', g1, g2⟩ := fin_s hM hn hn4 (Y := srow (KX X) 471 (rg_rest (X.1 471) i)) SC.rf.srow c6 (by
        rw [srow_s]
        unfold rg_rest
        rw [if_pos (by omega)]
        exact e14)
      have es : smx (fun c => (srow (KX X) 471 (rg_rest (X.1 471) i)).1 471 (16 + 6 * c)) (cs i) = smx (fun c => X.1 471 (95 + 95 * i + (16 + 6 * c))) (cs i) := smx_ext (cs i) (fun c hcc => by
        rw [srow_s]
        unfold rg_rest
        rw [if_pos (by omega)])
      rw [es] at g1 g2
      rw [srow_s] at g2
      exact ⟨X', g1, g2⟩
  · rw [if_neg h, if_neg h, Option.bind_some, if_pos rfl]
    exact ⟨X, rfl, MA.no hn4 (fun q => q (by show (-100001 : Int32) ≤ -100001; decide))⟩
theorem m_undo_l : ∀ (d i n : Nat) (X : hX) (c : Nat), MOK L X → c < 5 → X.1 470 4 = nI c → i + d = 284 → d < n → f_X10_undo_22 L n 470 (nI i) X = some (nI c, srow X 471 (fun k => if i ≤ k ∧ k < 284 then X.1 474 (284 * c + k) else X.1 471 k)) := by
  intro d
  induction d with
  | zero =>
    intro i n X c hM hc hn4 hi hn
    obtain rfl : i = 284 := by omega
    obtain ⟨m, rfl⟩ : ∃ m, n = m + 1 := ⟨n - 1, by omega⟩
    unfold f_X10_undo_22
    rw [if_pos (show (284 : Int32) ≤ nI 284 by decide), if_pos hM.1.1, hn4]
    have : (fun k => if 284 ≤ k ∧ k < 284 then X.1 474 (284 * c + k) else X.1 471 k) = X.1 471 := by
      funext k
      rw [if_neg (by omega)]
    rw [this, srow_id]
  | succ d ih =>
    intro i n X c hM hc hn4 hi hn
    obtain ⟨m, rfl⟩ : ∃ m, n = m + 1 := ⟨n - 1, by omega⟩
    obtain ⟨⟨t0, t1, t2, t3, t4, -⟩, ⟨l1, l2, l3, l4, -⟩, ⟨r0, r1, r2, r3, -⟩⟩ := id hM
    have h4 : (smi X 471 i (X.1 474 (284 * c + i))).1 470 4 = nI c := by rw [smi_o (by decide)]; exact hn4
    unfold f_X10_undo_22
    simp only [if_neg (show ¬ (284 : Int32) ≤ nI i from nge (n := 284) (by omega) (by omega) (by omega)), if_pos t0, r0, r3, Option.bind_some, if_pos t1, l1, if_pos t4, l4, hn4, n284, if_pos (hin_nI (n := 284) (show i < 284 by omega) (by omega)), if_pos (hin_nI (n := 1420) (show 284 * c + i < 1420 by omega) (by omega)), nI_clamp (show i < 2 ^ 31 by omega), nI_clamp (show 284 * c + i < 2 ^ 31 by omega), n1]
    rw [ih (i + 1) m _ c hM.smi hc h4 (by omega) (by omega), smi_row, srow_srow, srow_s, srow_o (by decide)]
    refine congrArg (fun g => some (nI c, srow X 471 g)) ?_
    funext k
    simp only [upd]
    by_cases e : k = i
    · subst e
      rw [if_neg (by omega), if_pos rfl, if_pos (by omega)]
    · rw [if_neg e]
      by_cases c2 : i ≤ k ∧ k < 284
      · rw [if_pos c2, if_pos (by omega)]
      · rw [if_neg c2, if_neg (by omega)]
theorem r_undo0 (hM : MOK L X) (hn4 : X.1 470 4 = nI 0) : f_X10_undo L X 470 = some (-100002, X) := by
  unfold f_X10_undo
  rw [if_pos hM.1.1, hn4, if_pos (by decide)]
theorem r_undo {c : Nat} (hM : MOK L X) (hc : c < 5) (hn4 : X.1 470 4 = nI (c + 1)) : f_X10_undo L X 470 = some (nI c, srow (smi X 470 4 (nI c)) 471 (fun k => if 0 ≤ k ∧ k < 284 then X.1 474 (284 * c + k) else X.1 471 k)) := by
  unfold f_X10_undo
  rw [if_pos hM.1.1, hn4, if_neg (show ¬ nI (c + 1) = 0 from fun z => absurd ((nI_eq (b := 0) (by omega) (by omega)).mp z) (by omega)), nm1']
  have e := m_undo_l (L := L) 284 0 u_fuel (smi X 470 4 (nI c)) c hM.smi hc (by rw [smi_d, pk_us]) rfl (by unfold u_fuel; omega)
  exact e
end MR
