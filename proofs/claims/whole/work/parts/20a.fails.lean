/-! the beginning and the failing of a run in the reference -/
section FA
variable {L : hL}
theorem m_run2_l : ∀ (d i n : Nat) (X : hX), MOK L X → i + d = 284 → d < n → f_X10_run_2 L n 470 (nI i) X = (f_X10_reads L (smi (srow X 473 (fun k => if i ≤ k ∧ k < 284 then X.1 471 k else X.1 473 k)) 470 10 0) 470).bind fun r34 => f_X10_run_38 L u_fuel 470 0 r34 := by
  intro d
  induction d with
  | zero =>
    intro i n X hM hi hn
    obtain rfl : i = 284 := by omega
    obtain ⟨m, rfl⟩ : ∃ m, n = m + 1 := ⟨n - 1, by omega⟩
    have : (fun k => if 284 ≤ k ∧ k < 284 then X.1 471 k else X.1 473 k) = X.1 473 := by
      funext k
      rw [if_neg (by omega)]
    rw [f_X10_run_2, if_pos (show (284 : Int32) ≤ nI 284 by decide), if_pos hM.1.1, this, srow_id]
  | succ d ih =>
    intro i n X hM hi hn
    obtain ⟨m, rfl⟩ : ∃ m, n = m + 1 := ⟨n - 1, by omega⟩
    obtain ⟨⟨t0, t1, t2, t3, -⟩, ⟨l1, l2, l3, -⟩, ⟨r0, r1, r2, -⟩⟩ := id hM
    rw [f_X10_run_2, if_neg (show ¬ (284 : Int32) ≤ nI i from nge (n := 284) (by omega) (by omega) (by omega)), if_pos t0, r2, Option.bind_some, r0, Option.bind_some, if_pos t1, l1, if_pos (hin_nI (n := 284) (show i < 284 by omega) (by omega)), if_pos t3, l3, if_pos (hin_nI (n := 284) (show i < 284 by omega) (by omega)), nI_clamp (show i < 2 ^ 31 by omega), n1]
    rw [ih (i + 1) m _ hM.smi (by omega) (by omega), smi_row (a := 473), srow_srow, srow_s, srow_o (b := 471) (by decide)]
    refine congrArg (fun g => (f_X10_reads L (smi (srow X 473 g) 470 10 0) 470).bind fun r34 => f_X10_run_38 L u_fuel 470 0 r34) ?_
    funext k
    simp only [upd]
    by_cases c : k = i
    · subst c
      rw [if_neg (by omega), if_pos rfl, if_pos (by omega)]
    · rw [if_neg c]
      by_cases c2 : i ≤ k ∧ k < 284
      · rw [if_pos c2, if_pos (by omega)]
      · rw [if_neg c2, if_neg (by omega)]
def F5 (X : hX) (kd pl code cnt : Int32) : hX := smi (smi (smi (smi (smi (smi X 470 8 1) 476 0 kd) 476 1 pl) 476 2 (if kd = 1 then 1 else 2)) 476 3 code) 476 4 cnt
theorem m_fails_l {kd pl code cnt : Int32} : ∀ (d i n : Nat) (X : hX), MOK L X → i + d = 284 → d < n → f_X10_fails_3 L n 470 kd pl code cnt (nI i) X = some (-1000 - pl, F5 (srow X 471 (fun k => if i ≤ k ∧ k < 284 then X.1 473 k else X.1 471 k)) kd pl code cnt) := by
  intro d
  induction d with
  | zero =>
    intro i n X hM hi hn
    obtain rfl : i = 284 := by omega
    obtain ⟨m, rfl⟩ : ∃ m, n = m + 1 := ⟨n - 1, by omega⟩
    have : (fun k => if 284 ≤ k ∧ k < 284 then X.1 473 k else X.1 471 k) = X.1 471 := by
      funext k
      rw [if_neg (by omega)]
    have r7 := hM.2.2.2.2.2.2.2.1
    have t7 := hM.1.2.2.2.2.2.2.1
    have l7 := hM.2.1.2.2.2.2.2.1
    have h2 : hin (2 : Int32) 5 := hin_nI (k := 2) (by decide) (by decide)
    have c2 : Int32.toNatClampNeg (2 : Int32) = 2 := nI_clamp (n := 2) (by decide)
    have e65 : ∀ (s0 : Int32) (Y : hX), Y.2 = X.2 → f_X10_fails_65 L 470 pl code cnt s0 2 476 Y = some (-1000 - pl, smi (smi (smi Y 476 2 s0) 476 3 code) 476 4 cnt) := fun s0 Y e => by
      unfold f_X10_fails_65
      have r7' : Y.2 470 7 = some 476 := by rw [e]; exact r7
      rw [if_pos t7, l7, if_pos h2, if_pos hM.1.1, r7', Option.bind_some, if_pos t7, l7, if_pos (show (3 : Nat) < 5 by decide), if_pos (show (4 : Nat) < 5 by decide), c2]
    rw [f_X10_fails_3, if_pos (show (284 : Int32) ≤ nI 284 by decide), if_pos hM.1.1, r7, Option.bind_some, if_pos t7, l7, if_pos (show (0 : Nat) < 5 by decide), if_pos (show (1 : Nat) < 5 by decide), this, srow_id]
    unfold F5
    by_cases c : kd = 1
    · rw [if_pos c, if_pos c]
      exact e65 1 (smi (smi (smi X 470 8 1) 476 0 kd) 476 1 pl) rfl
    · rw [if_neg c, if_neg c]
      exact e65 2 (smi (smi (smi X 470 8 1) 476 0 kd) 476 1 pl) rfl
  | succ d ih =>
    intro i n X hM hi hn
    obtain ⟨m, rfl⟩ : ∃ m, n = m + 1 := ⟨n - 1, by omega⟩
    obtain ⟨⟨t0, t1, t2, t3, -⟩, ⟨l1, l2, l3, -⟩, ⟨r0, r1, r2, -⟩⟩ := id hM
    rw [f_X10_fails_3, if_neg (show ¬ (284 : Int32) ≤ nI i from nge (n := 284) (by omega) (by omega) (by omega)), if_pos t0, r0, Option.bind_some, r2, Option.bind_some, if_pos t3, l3, if_pos (hin_nI (n := 284) (show i < 284 by omega) (by omega)), if_pos t1, l1, if_pos (hin_nI (n := 284) (show i < 284 by omega) (by omega)), nI_clamp (show i < 2 ^ 31 by omega), n1]
    rw [ih (i + 1) m _ hM.smi (by omega) (by omega), smi_row, srow_srow, srow_s, srow_o (b := 473) (by decide)]
    refine congrArg (fun g => some (-1000 - pl, F5 (srow X 471 g) kd pl code cnt)) ?_
    funext k
    simp only [upd]
    by_cases c : k = i
    · subst c
      rw [if_neg (by omega), if_pos rfl, if_pos (by omega)]
    · rw [if_neg c]
      by_cases c2 : i ≤ k ∧ k < 284
      · rw [if_pos c2, if_pos (by omega)]
      · rw [if_neg c2, if_neg (by omega)]
theorem m_fails {X : hX} (hM : MOK L X) (kd pl code cnt : Int32) : f_X10_fails L X 470 kd pl code cnt = some (-1000 - pl, F5 (srow X 471 (fun k => if 0 ≤ k ∧ k < 284 then X.1 473 k else X.1 471 k)) kd pl code cnt) := m_fails_l 284 0 u_fuel X hM rfl (by unfold u_fuel; omega)
theorem F5_2 {X : hX} {kd pl code cnt : Int32} : (F5 X kd pl code cnt).2 = X.2 := rfl
theorem F5_o {X : hX} {kd pl code cnt : Int32} {k : Nat} (h1 : k ≠ 470) (h2 : k ≠ 476) : (F5 X kd pl code cnt).1 k = X.1 k := by
  unfold F5
  rw [smi_o h2, smi_o h2, smi_o h2, smi_o h2, smi_o h2, smi_o h1]
theorem F5_f {X : hX} {kd pl code cnt : Int32} {j : Nat} (h : j ≠ 8) : (F5 X kd pl code cnt).1 470 j = X.1 470 j := by
  unfold F5
  rw [smi_o (by decide), smi_o (by decide), smi_o (by decide), smi_o (by decide), smi_o (by decide), smi_d, pk_un h]
theorem F5_8 {X : hX} {kd pl code cnt : Int32} : (F5 X kd pl code cnt).1 470 8 = 1 := by
  unfold F5
  rw [smi_o (by decide), smi_o (by decide), smi_o (by decide), smi_o (by decide), smi_o (by decide), smi_d, pk_us]
theorem F5_v {X : hX} {kd pl code cnt : Int32} : (F5 X kd pl code cnt).1 476 0 = kd ∧ (F5 X kd pl code cnt).1 476 1 = pl ∧ (F5 X kd pl code cnt).1 476 2 = (if kd = 1 then 1 else 2) ∧ (F5 X kd pl code cnt).1 476 3 = code ∧ (F5 X kd pl code cnt).1 476 4 = cnt := by
  unfold F5
  refine ⟨?_, ?_, ?_, ?_, ?_⟩
  · simp (disch := omega) only [smi_d, pk_us, pk_un]
  · simp (disch := omega) only [smi_d, pk_us, pk_un]
  · simp (disch := omega) only [smi_d, pk_us, pk_un]
  · simp (disch := omega) only [smi_d, pk_us, pk_un]
  · simp (disch := omega) only [smi_d, pk_us, pk_un]
/-- the reference's run begins -/
theorem m_begins {X : hX} {l : Nat} (hM : MOK L X) (hT : TM X l) : ∃ Y, f_X10_run L X 470 = f_X10_run_38 L u_fuel 470 0 Y ∧ PM L Y l 0 (X.1 475) (X.1 471) ∧ Y.2 = X.2 ∧ (∀ k, k ≠ 470 → k ≠ 473 → Y.1 k = X.1 k) ∧ (∀ k, k < 284 → Y.1 473 k = X.1 471 k) ∧ (∀ j, ¬ (j = 9 ∨ j = 10 ∨ j = 11 ∨ j = 13 ∨ j = 14) → Y.1 470 j = X.1 470 j) := by
  obtain ⟨Z, eZ⟩ : ∃ Z, Z = smi (srow X 473 (fun k => if 0 ≤ k ∧ k < 284 then X.1 471 k else X.1 473 k)) 470 10 0 := ⟨_, rfl⟩
  have e1 : f_X10_run L X 470 = (f_X10_reads L Z 470).bind fun r34 => f_X10_run_38 L u_fuel 470 0 r34 := by
    rw [eZ]
    exact m_run2_l 284 0 u_fuel X hM rfl (by unfold u_fuel; omega)
  have z2 : Z.2 = X.2 := by rw [eZ]; rfl
  have zo : ∀ k, k ≠ 470 → k ≠ 473 → Z.1 k = X.1 k := fun k h1 h2 => by rw [eZ, smi_o h1, srow_o h2]
  have zf : ∀ j, j ≠ 10 → Z.1 470 j = X.1 470 j := fun j hj => by rw [eZ, smi_d, pk_un hj, srow_o (by decide)]
  have z10 : Z.1 470 10 = nI 0 := by rw [eZ, smi_d, pk_us]; rfl
  have zb : ∀ k, k < 284 → Z.1 473 k = X.1 471 k := fun k hk => by rw [eZ, smi_o (by decide), srow_s, if_pos ⟨Nat.zero_le _, hk⟩]
  have hMZ : MOK L Z := hM.mv (by rw [z2])
  have hTZ : TM Z l := ⟨hT.1, by rw [zf 6 (by decide)]; exact hT.2⟩
  have rd := m_reads hMZ hTZ (Nat.zero_le l) z10
  rw [zo 475 (by decide) (by decide)] at rd
  refine ⟨_, by rw [e1, rd, Option.bind_some], ⟨hMZ.scr SC_RR, hTZ.sc SC_RR, by rw [RR_r (by decide)]; exact zo 475 (by decide) (by decide), by rw [RR_r (by decide)]; exact zo 471 (by decide) (by decide), RR_9, RR_10, RR_11⟩, z2, fun k h1 h2 => by rw [RR_r h1]; exact zo k h1 h2, fun k hk => by rw [RR_r (by decide)]; exact zb k hk, fun j hj => ?_⟩
  rw [RR_o (fun q => hj (Or.inl q)) (fun q => hj (Or.inr (Or.inl q))) (fun q => hj (Or.inr (Or.inr (Or.inl q))))]
  exact zf j (fun q => hj (Or.inr (Or.inl q)))
end FA
