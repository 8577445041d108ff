/-! the reference's rows of states -/
def srow (X : hX) (a : Nat) (g : Nat → Int32) : hX := (fun k j => if k = a then g j else X.1 k j, X.2)
theorem srow_s {X : hX} {a : Nat} {g : Nat → Int32} : (srow X a g).1 a = g := by
  funext j
  exact if_pos rfl
theorem srow_o {X : hX} {a b : Nat} {g : Nat → Int32} (h : b ≠ a) : (srow X a g).1 b = X.1 b := by
  funext j
  exact if_neg h
theorem smi_row {X : hX} {a i : Nat} {v : Int32} : smi X a i v = srow X a (upd (X.1 a) i v) := by
  refine Prod.ext ?_ rfl
  funext k j
  show (if k = a ∧ j = i then v else X.1 k j) = (if k = a then (if j = i then v else X.1 a j) else X.1 k j)
  by_cases h : k = a
  · subst h
    by_cases h2 : j = i
    · rw [if_pos ⟨rfl, h2⟩, if_pos rfl, if_pos h2]
    · rw [if_neg (fun q => h2 q.2), if_pos rfl, if_neg h2]
  · rw [if_neg (fun q => h q.1), if_neg h]
theorem srow_srow {X : hX} {a : Nat} {g g' : Nat → Int32} : srow (srow X a g) a g' = srow X a g' := by
  refine Prod.ext ?_ rfl
  funext k j
  show (if k = a then g' j else (if k = a then g j else X.1 k j)) = (if k = a then g' j else X.1 k j)
  by_cases h : k = a
  · rw [if_pos h, if_pos h]
  · rw [if_neg h, if_neg h, if_neg h]
theorem srow_id {X : hX} {a : Nat} : srow X a (X.1 a) = X := by
  refine Prod.ext ?_ rfl
  funext k j
  show (if k = a then X.1 a j else X.1 k j) = X.1 k j
  by_cases h : k = a
  · rw [if_pos h, h]
  · rw [if_neg h]
theorem MOK.row {L : hL} {X : hX} (h : MOK L X) {a : Nat} {g : Nat → Int32} : MOK L (srow X a g) := h
theorem nge {i n : Nat} (hi : i < 2147483648) (hn : n < 2147483648) (h : i < n) : ¬ nI n ≤ nI i := fun z => absurd ((nle hi hn).mp z) (by omega)
section KP
variable {L : hL}
theorem m_keeps_l : ∀ (d i n : Nat) (X : hX), MOK L X → i + d = 284 → d < n → f_X10_keeps_2 L n 470 (nI i) X = some (srow X 472 (fun k => if i ≤ k ∧ k < 284 then X.1 471 k else X.1 472 k)) := by
  intro d
  induction d with
  | zero =>
    intro i n X hM hi hn
    obtain rfl : i = 284 := by omega
    obtain ⟨m, rfl⟩ : ∃ m, n = m + 1 := ⟨n - 1, by omega⟩
    unfold f_X10_keeps_2
    rw [if_pos (show (284 : Int32) ≤ nI 284 by decide)]
    have : (fun k => if 284 ≤ k ∧ k < 284 then X.1 471 k else X.1 472 k) = X.1 472 := by
      funext k
      rw [if_neg (by omega)]
    rw [this, srow_id]
  | succ d ih =>
    intro i n X hM hi hn
    obtain ⟨m, rfl⟩ : ∃ m, n = m + 1 := ⟨n - 1, by omega⟩
    obtain ⟨⟨t0, t1, t2, -⟩, ⟨l1, l2, -⟩, ⟨r0, r1, -⟩⟩ := id hM
    unfold f_X10_keeps_2
    simp only [if_neg (show ¬ (284 : Int32) ≤ nI i from nge (n := 284) (by omega) (by omega) (by omega)), if_pos t0, r0, r1, Option.bind_some, if_pos t1, l1, if_pos t2, l2, if_pos (hin_nI (n := 284) (show i < 284 by omega) (by omega)), nI_clamp (show i < 2 ^ 31 by omega), n1]
    rw [ih (i + 1) m _ hM.smi (by omega) (by omega), smi_row, srow_srow, srow_s, srow_o (by decide)]
    refine congrArg (fun g => some (srow X 472 g)) ?_
    funext k
    simp only [upd]
    by_cases c : k = i
    · subst c
      rw [if_neg (by omega), if_pos rfl, if_pos (by omega)]
    · rw [if_neg c]
      by_cases c2 : i ≤ k ∧ k < 284
      · rw [if_pos c2, if_pos (by omega)]
      · rw [if_neg c2, if_neg (by omega)]
theorem m_keeps {X : hX} (hM : MOK L X) : f_X10_keeps L X 470 = some (srow X 472 (fun k => if 0 ≤ k ∧ k < 284 then X.1 471 k else X.1 472 k)) := m_keeps_l 284 0 u_fuel X hM rfl (by unfold u_fuel; omega)
/-- the row of earlier states with one more -/
def pw (w : Nat → Int32) (n : Nat) (src : Nat → Int32) (k : Nat) : Int32 := if 284 * n ≤ k ∧ k < 284 * n + 284 then src (k - 284 * n) else w k
theorem n284 (c i : Nat) : (284 : Int32) * nI c + nI i = nI (284 * c + i) := by rw [show (284 : Int32) = nI 284 from rfl, pk_mul, nI_add]
theorem m_push_l {q : Nat} (hq : q = 472 ∨ q = 473) : ∀ (d i n : Nat) (X : hX) (c : Nat), MOK L X → c < 5 → X.1 470 4 = nI c → i + d = 284 → d < n → f_X10_pushes_51 L n 470 q (nI i) X = some (smi (srow X 474 (fun k => if 284 * c + i ≤ k ∧ k < 284 * c + 284 then X.1 q (k - 284 * c) else X.1 474 k)) 470 4 (nI (c + 1))) := by
  intro d
  induction d with
  | zero =>
    intro i n X c hM hc hn4 hi hn
    obtain rfl : i = 284 := by omega
    obtain ⟨m, rfl⟩ : ∃ m, n = m + 1 := ⟨n - 1, by omega⟩
    unfold f_X10_pushes_51
    rw [if_pos (show (284 : Int32) ≤ nI 284 by decide), if_pos hM.1.1, hn4, n1]
    have : (fun k => if 284 * c + 284 ≤ k ∧ k < 284 * c + 284 then X.1 q (k - 284 * c) else X.1 474 k) = X.1 474 := by
      funext k
      rw [if_neg (by omega)]
    rw [this, srow_id]
  | succ d ih =>
    intro i n X c hM hc hn4 hi hn
    obtain ⟨m, rfl⟩ : ∃ m, n = m + 1 := ⟨n - 1, by omega⟩
    obtain ⟨⟨t0, t1, t2, t3, t4, -⟩, ⟨l1, l2, l3, l4, -⟩, ⟨r0, r1, r2, r3, -⟩⟩ := id hM
    have tq : tk L q 12 := by
      rcases hq with rfl | rfl
      · exact t2
      · exact t3
    have lq : L.2.2 q = 284 := by
      rcases hq with rfl | rfl
      · exact l2
      · exact l3
    have h4 : (smi X 474 (284 * c + i) (X.1 q i)).1 470 4 = nI c := by rw [smi_o (by decide)]; exact hn4
    unfold f_X10_pushes_51
    simp only [if_neg (show ¬ (284 : Int32) ≤ nI i from nge (n := 284) (by omega) (by omega) (by omega)), if_pos t0, r3, Option.bind_some, if_pos tq, lq, if_pos t4, l4, hn4, n284, if_pos (hin_nI (n := 284) (show i < 284 by omega) (by omega)), if_pos (hin_nI (n := 1420) (show 284 * c + i < 1420 by omega) (by omega)), nI_clamp (show i < 2 ^ 31 by omega), nI_clamp (show 284 * c + i < 2 ^ 31 by omega), n1]
    rw [ih (i + 1) m _ c hM.smi hc h4 (by omega) (by omega)]
    rw [smi_row (a := 474), srow_srow, srow_s, srow_o (by omega)]
    refine congrArg (fun g => some (smi (srow X 474 g) 470 4 (nI (c + 1)))) ?_
    funext k
    simp only [upd]
    by_cases e : k = 284 * c + i
    · subst e
      rw [if_neg (by omega), if_pos rfl, if_pos (by omega), show 284 * c + i - 284 * c = i by omega]
    · rw [if_neg e]
      by_cases c2 : 284 * c + i ≤ k ∧ k < 284 * c + 284
      · rw [if_pos c2, if_pos (by omega)]
      · rw [if_neg c2, if_neg (by omega)]
theorem m_shift_l {q : Nat} (hq : q = 472 ∨ q = 473) : ∀ (d i n : Nat) (X : hX), MOK L X → X.1 470 4 = nI 5 → i + d = 1136 → d < n → f_X10_pushes_10 L n 470 q (nI i) X = f_X10_pushes_49 L 470 q (smi (srow X 474 (fun k => if i ≤ k ∧ k < 1136 then X.1 474 (k + 284) else X.1 474 k)) 470 4 (nI 4)) := by
  intro d
  induction d with
  | zero =>
    intro i n X hM hn4 hi hn
    obtain rfl : i = 1136 := by omega
    obtain ⟨m, rfl⟩ : ∃ m, n = m + 1 := ⟨n - 1, by omega⟩
    unfold f_X10_pushes_10
    rw [if_pos (show (1136 : Int32) ≤ nI 1136 by decide), if_pos hM.1.1, hn4]
    have : (fun k => if 1136 ≤ k ∧ k < 1136 then X.1 474 (k + 284) else X.1 474 k) = X.1 474 := by
      funext k
      rw [if_neg (by omega)]
    rw [this, srow_id]
    rfl
  | succ d ih =>
    intro i n X hM hn4 hi hn
    obtain ⟨m, rfl⟩ : ∃ m, n = m + 1 := ⟨n - 1, by omega⟩
    obtain ⟨⟨t0, t1, t2, t3, t4, -⟩, ⟨l1, l2, l3, l4, -⟩, ⟨r0, r1, r2, r3, -⟩⟩ := id hM
    have e284 : nI i + 284 = nI (i + 284) := nI_add i 284
    have h4 : (smi X 474 i (X.1 474 (i + 284))).1 470 4 = nI 5 := by rw [smi_o (by decide)]; exact hn4
    unfold f_X10_pushes_10
    simp only [if_neg (show ¬ (1136 : Int32) ≤ nI i from nge (n := 1136) (by omega) (by omega) (by omega)), if_pos t0, r3, Option.bind_some, if_pos t4, l4, e284, if_pos (hin_nI (n := 1420) (show i < 1420 by omega) (by omega)), if_pos (hin_nI (n := 1420) (show i + 284 < 1420 by omega) (by omega)), nI_clamp (show i < 2 ^ 31 by omega), nI_clamp (show i + 284 < 2 ^ 31 by omega), n1]
    rw [ih (i + 1) m _ hM.smi h4 (by omega) (by omega)]
    rw [smi_row (a := 474), srow_srow, srow_s]
    refine congrArg (fun g => f_X10_pushes_49 L 470 q (smi (srow X 474 g) 470 4 (nI 4))) ?_
    funext k
    simp only [upd]
    by_cases e : k = i
    · subst e
      rw [if_neg (by omega), if_pos rfl, if_pos (by omega)]
    · rw [if_neg e]
      by_cases c2 : i ≤ k ∧ k < 1136
      · rw [if_pos c2, if_pos (by omega), if_neg (by omega)]
      · rw [if_neg c2, if_neg (by omega)]
/-- what was pushed -/
def PU (X X' : hX) (n : Nat) (src : Nat → Int32) : Prop := X'.2 = X.2 ∧ (∀ a, a ≠ 470 → a ≠ 474 → X'.1 a = X.1 a) ∧ (∀ j, j ≠ 4 → X'.1 470 j = X.1 470 j) ∧ (n < 5 → X'.1 470 4 = nI (n + 1) ∧ ∀ k, X'.1 474 k = pw (X.1 474) n src k) ∧ (n = 5 → X'.1 470 4 = nI 5 ∧ ∀ k, k < 1420 → X'.1 474 k = if k < 1136 then X.1 474 (k + 284) else src (k - 1136))
theorem m_pushes {X : hX} {q n : Nat} (hq : q = 472 ∨ q = 473) (hM : MOK L X) (hn : n ≤ 5) (hn4 : X.1 470 4 = nI n) : ∃ X', f_X10_pushes L X 470 q = some X' ∧ PU X X' n (X.1 q) := by
  unfold f_X10_pushes
  rw [if_pos hM.1.1, hn4]
  by_cases h5 : n = 5
  · subst h5
    have e := m_shift_l hq 1136 0 u_fuel X hM hn4 rfl (by unfold u_fuel; omega)
    have e2 := m_push_l hq 284 0 u_fuel (smi (srow X 474 (fun k => if 0 ≤ k ∧ k < 1136 then X.1 474 (k + 284) else X.1 474 k)) 470 4 (nI 4)) 4 hM (by omega) (by rw [smi_d, pk_us]) rfl (by unfold u_fuel; omega)
    refine ⟨_, (if_pos rfl).trans (e.trans e2), rfl, fun a h1 h2 => ?_, fun j hj => ?_, fun h => absurd h (by omega), fun _ => ⟨?_, fun k hk => ?_⟩⟩
    · rw [smi_o h1, srow_o h2, smi_o h1, srow_o h2]
    · rw [smi_d, pk_un hj, srow_o (by decide), smi_d, pk_un hj, srow_o (by decide)]
    · rw [smi_d, pk_us]
    · rw [smi_o (by decide), srow_s]
      have hq4 : q ≠ 470 := by omega
      have hq7 : q ≠ 474 := by omega
      rw [smi_o hq4, srow_o hq7, smi_o (by decide), srow_s]
      by_cases c : k < 1136
      · rw [if_pos c, if_neg (by omega), if_pos (by omega)]
      · rw [if_neg c, if_pos (by omega)]
  · have e2 := m_push_l hq 284 0 u_fuel X n hM (by omega) hn4 rfl (by unfold u_fuel; omega)
    have hne : ¬ nI n = 5 := fun z => h5 ((nI_eq (b := 5) (by omega) (by omega)).mp z)
    refine ⟨_, (if_neg hne).trans e2, rfl, fun a h1 h2 => ?_, fun j hj => ?_, fun h => ⟨?_, fun k => ?_⟩, fun h => absurd h h5⟩
    · rw [smi_o h1, srow_o h2]
    · rw [smi_d, pk_un hj, srow_o (by decide)]
    · rw [smi_d, pk_us]
    · rw [smi_o (by decide), srow_s]
      unfold pw
      rw [Nat.add_zero]
end KP
