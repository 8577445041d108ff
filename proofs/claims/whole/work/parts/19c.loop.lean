/-! a program's run, on both sides -/
def N4 (X : hX) (p c q kd : Int32) : hX := smi (smi (smi (smi X 468 1 p) 468 2 c) 468 3 q) 468 0 kd
/-- what a program's run may change in the component -/
def CFR (b : Nat) (X Y : hX) : Prop := (∀ k, ¬ (b ≤ k ∧ k < b + 21) → Y.2 k = X.2 k ∧ (k ≠ 465 → k ≠ 467 → Y.1 k = X.1 k)) ∧ Y.1 465 3 = X.1 465 3
theorem CFR.rf {b : Nat} {X : hX} : CFR b X X := ⟨fun _ _ => ⟨rfl, fun _ _ => rfl⟩, rfl⟩
theorem CFR.tr {b : Nat} {X Y Z : hX} (h1 : CFR b X Y) (h2 : CFR b Y Z) : CFR b X Z := ⟨fun k hk => ⟨(h2.1 k hk).1.trans (h1.1 k hk).1, fun a c => ((h2.1 k hk).2 a c).trans ((h1.1 k hk).2 a c)⟩, h2.2.trans h1.2⟩
theorem CRR.cfr {b : Nat} {X Y : hX} (h : CRR X Y) : CFR b X Y := ⟨fun k _ => ⟨by rw [h.1], h.2.1 k⟩, h.2.2⟩
theorem FR.cfr {b : Nat} {X Y : hX} (h : FR (fun k => b ≤ k ∧ k < b + 21) X Y) (hb : b + 21 ≤ 465) : CFR b X Y := ⟨fun k hk => ⟨funext (fun j => (h.2 k hk j).2), fun _ _ => funext (fun j => (h.2 k hk j).1)⟩, (h.2 465 (by omega) 3).1⟩
theorem neg_pl : ∀ p, p < 141 → ¬ (0 : Int32) ≤ -1000 - nI p := by decide +kernel
theorem nI_n1 : ∀ i, i < 8 → ¬ nI i = (-1 : Int32) := by decide +kernel
theorem bind_eta {f : Option (Int32 × hX)} : (f.bind fun r => some (r.1, r.2)) = f := by
  cases f with
  | none => rfl
  | some r => rfl
section RL
variable {L : hL} {l b : Nat} {T U : Nat → Int32}
/-- the component ahead of a command at a -/
def PS (L : hL) (X : hX) (l b a : Nat) (T v : Nat → Int32) : Prop := TC L X l ∧ (X.2 465 1 = some 467 ∧ X.2 465 2 = some 468) ∧ X.1 466 = T ∧ X.1 465 5 = nI a ∧ CXe L X b v ∧ Cl (fun k => b ≤ k ∧ k < b + 21) X
/-- the reference ahead of a command at a, its word read -/
def PM (L : hL) (Y : hX) (l a : Nat) (U w : Nat → Int32) : Prop := MOK L Y ∧ TM Y l ∧ Y.1 475 = U ∧ Y.1 471 = w ∧ Y.1 470 9 = nI (tst U l a) ∧ Y.1 470 10 = nI (ten U l (tst U l a)) ∧ Y.1 470 11 = nI (tso U l (tst U l a))
def RL1 (L : hL) (l b a k d : Nat) (U w : Nat → Int32) (B : Int) (X : hX) (r : Int32) (X' : hX) : Prop := ∃ kk v' w', kk ≤ 140 ∧ r = nI kk ∧ CXe L X' b v' ∧ X'.1 468 = X.1 468 ∧ (∃ p q, RV B v' w' p q) ∧ (∀ j, 94 ≤ j → w' j = w j) ∧ ∀ n Y, d ≤ n → PM L Y l a U w → ∃ Y', SCR Y Y' ∧ Y'.1 471 = w' ∧ f_X10_run_38 L n 470 (nI k) Y = (f_X10_pushes L Y' 470 473).bind fun r27 => some (nI kk, smi r27 470 6 0)
def RL2 (L : hL) (l b a k d : Nat) (U w : Nat → Int32) (r : Int32) (X' : hX) : Prop := ∃ kd p code cnt v', p ≤ 140 ∧ r = -1000 - nI p ∧ (kd = 1 ∨ kd = 2 ∨ kd = 3) ∧ CXe L X' b v' ∧ (X'.1 468 0 = kd ∧ X'.1 468 1 = nI p ∧ X'.1 468 2 = code ∧ X'.1 468 3 = cnt) ∧ ∀ n Y, d ≤ n → PM L Y l a U w → ∃ Y', SCR Y Y' ∧ f_X10_run_38 L n 470 (nI k) Y = f_X10_fails L Y' 470 kd (nI p) code cnt
theorem CXe.frz {X Y : hX} {v : Nat → Int32} (h : CXe L X b v) (hb : b + 21 ≤ 465) (e : ∀ k, k < 465 → Y.1 k = X.1 k ∧ Y.2 k = X.2 k) : CXe L Y b v := h.move (fun k _ _ => e k (by omega))
theorem CRR.lo {X Y : hX} (h : CRR X Y) : ∀ k, k < 465 → Y.1 k = X.1 k ∧ Y.2 k = X.2 k := fun k hk => ⟨h.2.1 k (by omega) (by omega), by rw [h.1]⟩
theorem N4_2 {X : hX} {p c q kd : Int32} : (N4 X p c q kd).2 = X.2 := rfl
theorem N4_o {X : hX} {p c q kd : Int32} {k : Nat} (h : k ≠ 468) : (N4 X p c q kd).1 k = X.1 k := by unfold N4; rw [smi_o h, smi_o h, smi_o h, smi_o h]
theorem N4_v {X : hX} {p c q kd : Int32} : (N4 X p c q kd).1 468 0 = kd ∧ (N4 X p c q kd).1 468 1 = p ∧ (N4 X p c q kd).1 468 2 = c ∧ (N4 X p c q kd).1 468 3 = q := by
  unfold N4
  refine ⟨?_, ?_, ?_, ?_⟩
  · simp (disch := omega) only [smi_d, pk_us, pk_un]
  · simp (disch := omega) only [smi_d, pk_us, pk_un]
  · simp (disch := omega) only [smi_d, pk_us, pk_un]
  · simp (disch := omega) only [smi_d, pk_us, pk_un]
theorem c_note (t8 : tk L 468 2) {X : hX} {p c q : Int32} : f_X2_note L X 468 p c q = some (N4 X p c q (if c = -100009 then 1 else if c = -100001 then 2 else 3)) := by
  unfold f_X2_note N4
  rw [if_pos t8]
  by_cases h1 : c = -100009
  · rw [if_pos h1, if_pos h1]
  · rw [if_neg h1, if_neg h1]
    by_cases h2 : c = -100001
    · rw [if_pos h2, if_pos h2]
    · rw [if_neg h2, if_neg h2]
theorem c_run67 (t6 : tk L 465 6) (t8 : tk L 468 2) {X : hX} {p : Nat} {q : Int32} (h2 : X.2 465 2 = some 468) (h4 : X.1 465 4 = nI p) : f_X6_runOn_67 L 465 q X = some (-1000 - nI p, N4 X (nI p) (-100009) q 1) := by
  unfold f_X6_runOn_67
  rw [if_pos t6, h2, Option.bind_some, h4, c_note t8, Option.bind_some, if_pos t8, N4_o (by decide), h4, if_pos rfl]
theorem m_run85 {Y : hX} (hM : MOK L Y) {p : Nat} {q : Int32} (h9 : Y.1 470 9 = nI p) : f_X10_run_85 L 470 q Y = f_X10_fails L Y 470 1 (nI p) (-100009) q := by
  unfold f_X10_run_85
  rw [if_pos hM.1.1, h9, bind_eta]
theorem tso_nz {l s : Nat} (h : s < l) : tso U l s = 1 ∨ tso U l s = 2 ∨ tso U l s = 3 := by
  unfold tso
  rw [if_pos h]
  by_cases c1 : isL (U s) = true
  · rw [if_pos c1]; exact Or.inl rfl
  · rw [if_neg c1]
    by_cases c2 : isD (U s) = true
    · rw [if_pos c2]; exact Or.inr (Or.inl rfl)
    · rw [if_neg c2]; exact Or.inr (Or.inr rfl)
/-- a token is there: the reference's word of it -/
theorem m_38s {Y : hX} {w : Nat → Int32} {a n : Nat} {q : Int32} (h : PM L Y l a U w) (ha : a ≤ l) (hs : tst U l a < l) : f_X10_run_38 L (n + 1) 470 q Y = f_X10_run_66 L (f_X10_run_38 L n) 470 q (nI (tst U l a)) (wv U l (tst U l a) (ten U l (tst U l a))) Y := by
  obtain ⟨hM, hT, h75, h71, h9, h10, h11⟩ := h
  have hl := hT.1
  have hg := ten_gt (T := U) hs
  have hr := ten_r (T := U) (l := l) (s := tst U l a) (by omega)
  have hw := m_word hM (by omega) hg h9 h10
  rw [h75] at hw
  have e0 : f_X10_run_38 L (n + 1) 470 q Y = if tk L 470 10 then (if (Y.1 470 11) = 0 then (Y.2 470 2).bind fun q25 => (f_X10_pushes L Y 470 q25).bind fun r27 => some (q, smi r27 470 6 0) else if (Y.1 470 11) = 1 then (f_X10_word L Y 470).bind fun r30 => f_X10_run_66 L (f_X10_run_38 L n) 470 q (Y.1 470 9) r30 Y else f_X10_run_66 L (f_X10_run_38 L n) 470 q (Y.1 470 9) 0 Y) else none := by rw [f_X10_run_38]
  rw [e0, if_pos hM.1.1, h11, h9, hw, Option.bind_some]
  unfold wv
  rcases tso_nz (U := U) hs with c | c | c
  · rw [c, if_neg (show ¬ nI 1 = 0 by decide), if_pos (show nI 1 = 1 from rfl), if_pos rfl]
  · rw [c, if_neg (show ¬ nI 2 = 0 by decide), if_neg (show ¬ nI 2 = 1 by decide), if_neg (show ¬ 2 = 1 by decide)]
  · rw [c, if_neg (show ¬ nI 3 = 0 by decide), if_neg (show ¬ nI 3 = 1 by decide), if_neg (show ¬ 3 = 1 by decide)]
theorem m_66 {k38 : Nat → Int32 → hX → Option (Int32 × hX)} {q v2 w : Int32} {Y : hX} : f_X10_run_66 L k38 470 q v2 w Y = if num w < 0 then f_X10_run_85 L 470 q Y else (f_X10_readsNumbers L Y 470 (num w)).bind fun r9 => if tk L 470 10 then (if r9.1 = 0 then f_X10_run_85 L 470 q r9.2 else (f_X10_does L r9.2 470 w).bind fun r13 => if (-100001) < r13.1 then (f_X10_reads L r13.2 470).bind fun r16 => k38 470 (q + 1) r16 else if r13.1 = (-100001) then (f_X10_fails L r13.2 470 2 v2 r13.1 q).bind fun r21 => some (r21.1, r21.2) else (f_X10_fails L r13.2 470 3 v2 r13.1 q).bind fun r19 => some (r19.1, r19.2)) else none := by
  unfold f_X10_run_66
  simp only [m_numbers, Option.bind_some]
end RL
