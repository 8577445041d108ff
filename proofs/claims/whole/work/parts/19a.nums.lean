/-! the numbers of a command, on both sides -/
def pa (T : Nat → Int32) (l a : Nat) : Nat → Nat
  | 0 => a
  | i + 1 => ten T l (tst T l (pa T l a i))
def tsn (T : Nat → Int32) (l a i : Nat) : Nat := tst T l (pa T l a i)
def okN (T : Nat → Int32) (l a i : Nat) : Bool := isN T l (tsn T l a i) (pa T l a (i + 1))
def nv (T : Nat → Int32) (l a i : Nat) : Int32 := vl T (pa T l a (i + 1) - tsn T l a i) (tsn T l a i) 0
def bd (T : Nat → Int32) (l a d i : Nat) : Nat := fs (fun q => !(okN T l a q)) d i
def okE (T : Nat → Int32) (l a m : Nat) : Bool := decide (tsn T l a m < l ∧ T (tsn T l a m) = 59)
theorem pa_r {T : Nat → Int32} {l a : Nat} (h : a ≤ l) : ∀ i, a ≤ pa T l a i ∧ pa T l a i ≤ l := by
  intro i
  induction i with
  | zero => exact ⟨Nat.le_refl _, h⟩
  | succ i ih =>
    have h1 := tst_r (T := T) ih.2
    have h2 := ten_r (T := T) h1.2
    show a ≤ ten T l (tst T l (pa T l a i)) ∧ ten T l (tst T l (pa T l a i)) ≤ l
    omega
theorem tsn_r {T : Nat → Int32} {l a : Nat} (h : a ≤ l) (i : Nat) : pa T l a i ≤ tsn T l a i ∧ tsn T l a i ≤ pa T l a (i + 1) ∧ pa T l a (i + 1) ≤ l := by
  have h0 := pa_r (T := T) h i
  have h1 := tst_r (T := T) h0.2
  have h2 := ten_r (T := T) h1.2
  exact ⟨h1.1, h2.1, h2.2⟩
section NC
variable {T U : Nat → Int32} {l a : Nat}
theorem pa_cong (e : ∀ k, k < l → T k = U k) : ∀ i, pa T l a i = pa U l a i := by
  intro i
  induction i with
  | zero => rfl
  | succ i ih =>
    show ten T l (tst T l (pa T l a i)) = ten U l (tst U l (pa U l a i))
    rw [ih, tst_cong e, ten_cong e]
theorem tsn_cong (e : ∀ k, k < l → T k = U k) (i : Nat) : tsn T l a i = tsn U l a i := by
  unfold tsn
  rw [pa_cong e, tst_cong e]
theorem okN_cong (e : ∀ k, k < l → T k = U k) (i : Nat) : okN T l a i = okN U l a i := by
  unfold okN
  rw [tsn_cong e, pa_cong e, isN_cong e]
theorem nv_cong (h : a ≤ l) (e : ∀ k, k < l → T k = U k) (i : Nat) : nv T l a i = nv U l a i := by
  have h2 := tsn_r (T := T) h i
  have h3 := vl_cong e (pa T l a (i + 1) - tsn T l a i) (tsn T l a i) 0 (by omega)
  unfold nv
  rw [h3, tsn_cong e, pa_cong e]
theorem bd_cong (e : ∀ k, k < l → T k = U k) (d i : Nat) : bd T l a d i = bd U l a d i := by
  unfold bd
  exact fs_ext _ _ (fun x _ _ => by rw [okN_cong e])
theorem okE_cong (e : ∀ k, k < l → T k = U k) (m : Nat) : okE T l a m = okE U l a m := by
  unfold okE
  rw [tsn_cong e]
  by_cases c : tsn U l a m < l
  · rw [e _ c]
  · rw [decide_eq_false (fun q => c q.1), decide_eq_false (fun q => c q.1)]
end NC
theorem TC.nn {L : hL} {X : hX} {l : Nat} (h : TC L X l) {j : Nat} {x : Int32} : TC L (smi X 467 j x) l := ⟨h.1, h.2.1, by rw [smi_o (by decide)]; exact h.2.2.1, by rw [smi_o (by decide)]; exact h.2.2.2⟩
/-- what the component's reading changes: scratch alone -/
def CRR (X Y : hX) : Prop := Y.2 = X.2 ∧ (∀ k, k ≠ 465 → k ≠ 467 → Y.1 k = X.1 k) ∧ Y.1 465 3 = X.1 465 3
theorem CRR.rf {X : hX} : CRR X X := ⟨rfl, fun _ _ _ => rfl, rfl⟩
theorem CRR.tr {X Y Z : hX} (h1 : CRR X Y) (h2 : CRR Y Z) : CRR X Z := ⟨h2.1.trans h1.1, fun k a b => (h2.2.1 k a b).trans (h1.2.1 k a b), h2.2.2.trans h1.2.2⟩
theorem CRR.p {X : hX} {s e : Nat} : CRR X (P5 (P4 X s) e) := ⟨rfl, fun k a _ => by rw [P5_r a, P4_r a], by rw [P5_o (by decide), P4_o (by decide)]⟩
theorem CRR.n {X : hX} {j : Nat} {x : Int32} : CRR X (smi X 467 j x) := ⟨rfl, fun k _ b => smi_o b, by rw [smi_o (by decide)]⟩
theorem TC.crr {L : hL} {X Y : hX} {l : Nat} (h : TC L X l) (hc : CRR X Y) : TC L Y l := ⟨⟨h.1.1, h.1.2.1, h.1.2.2.1, by rw [hc.1]; exact h.1.2.2.2⟩, h.2.1, by rw [hc.2.2]; exact h.2.2.1, by rw [hc.2.1 466 (by decide) (by decide)]; exact h.2.2.2⟩
section RN
variable {L : hL} {l a m : Nat} {T : Nat → Int32}
theorem c_rn (n5 : tk L 467 12 ∧ L.2.2 467 = 5) (ha : a ≤ l) (hm : m ≤ 5) : ∀ (d i n : Nat) (X : hX), i + d = m → d < n → TC L X l → X.2 465 1 = some 467 → X.1 466 = T → X.1 465 5 = nI (pa T l a i) → (∀ j, j < i → X.1 467 j = nv T l a j) → ∃ X', f_X6_readNumbers_2 L n 465 (nI m) (nI i) X = some (if bd T l a d i = m then 1 else 0, X') ∧ CRR X X' ∧ (bd T l a d i = m → X'.1 465 5 = nI (pa T l a m) ∧ ∀ j, j < m → X'.1 467 j = nv T l a j) ∧ (¬ bd T l a d i = m → X'.1 465 4 = nI (tsn T l a (bd T l a d i))) := by
  intro d
  induction d with
  | zero =>
    intro i n X hi hn hT h1 h6 h5 hv
    obtain ⟨k, rfl⟩ : ∃ k, n = k + 1 := ⟨n - 1, by omega⟩
    have e : i = m := by omega
    subst e
    have eb : bd T l a 0 i = i := rfl
    unfold f_X6_readNumbers_2
    rw [eb, if_pos rfl]
    refine ⟨X, ?_, CRR.rf, fun _ => ⟨h5, hv⟩, fun q => absurd rfl q⟩
    by_cases c : (5 : Int32) ≤ nI i
    · rw [if_pos c]
    · rw [if_neg c, if_pos ((nle (i := i) (n := i) (by omega) (by omega)).mpr (Nat.le_refl _))]
  | succ d ih =>
    intro i n X hi hn hT h1 h6 h5 hv
    obtain ⟨k, rfl⟩ : ∃ k, n = k + 1 := ⟨n - 1, by omega⟩
    have hp := pa_r (T := T) ha i
    have hts := tsn_r (T := T) ha i
    have hl := hT.2.1
    have c5 : ¬ (5 : Int32) ≤ nI i := nge (i := i) (n := 5) (by omega) (by omega) (by omega)
    have rd := c_readToken hT hp.2 h5
    rw [h6] at rd
    have rd : f_X6_readToken L X 465 = some (P5 (P4 X (tsn T l a i)) (pa T l a (i + 1))) := rd
    have hT2 : TC L (P5 (P4 X (tsn T l a i)) (pa T l a (i + 1))) l := hT.crr CRR.p
    have h42 : (P5 (P4 X (tsn T l a i)) (pa T l a (i + 1))).1 465 4 = nI (tsn T l a i) := by rw [P5_o (by decide), P4_4]
    have h62 : (P5 (P4 X (tsn T l a i)) (pa T l a (i + 1))).1 466 = T := by rw [P5_r (by decide), P4_r (by decide)]; exact h6
    have nn := c_isNumber hT2 hts.2.1 hts.2.2 h42 P5_5
    have vv := c_value hT2 hts.2.1 hts.2.2 h42 P5_5
    rw [h62] at nn vv
    have nn : f_X6_isNumber L (P5 (P4 X (tsn T l a i)) (pa T l a (i + 1))) 465 = some (if okN T l a i = true then 1 else 0) := nn
    have vv : f_X6_value L (P5 (P4 X (tsn T l a i)) (pa T l a (i + 1))) 465 = some (nv T l a i) := vv
    have r2 : (P5 (P4 X (tsn T l a i)) (pa T l a (i + 1))).2 465 1 = some 467 := h1
    unfold f_X6_readNumbers_2
    rw [if_neg c5, if_neg (nge (i := i) (n := m) (by omega) (by omega) (by omega)), rd, Option.bind_some, if_pos hT.1.1, nn, Option.bind_some]
    cases c : okN T l a i with
    | false =>
      have eb : bd T l a (d + 1) i = i := by
        unfold bd fs
        rw [if_pos (show (!(okN T l a i)) = true by rw [c]; rfl)]
      rw [eb, if_neg Bool.false_ne_true, if_pos rfl, if_neg (show ¬ i = m by omega)]
      refine ⟨_, rfl, CRR.p, fun q => absurd q (by omega), fun _ => h42⟩
    | true =>
      have eb : bd T l a (d + 1) i = bd T l a d (i + 1) := by
        unfold bd
        rw [fs, if_neg (show ¬ (!(okN T l a i)) = true by rw [c]; decide)]
      rw [eb, if_pos rfl, if_neg (show ¬ (1 : Int32) = 0 by decide), r2, Option.bind_some, vv, Option.bind_some, if_pos n5.1, n5.2, if_pos (hin_nI (n := 5) (show i < 5 by omega) (by omega)), nI_clamp (show i < 2 ^ 31 by omega), n1]
      have hc : CRR X (smi (P5 (P4 X (tsn T l a i)) (pa T l a (i + 1))) 467 i (nv T l a i)) := CRR.p.tr CRR.n
      obtain ⟨X', q1, q2, q3, q4⟩ := ih (i + 1) k (smi (P5 (P4 X (tsn T l a i)) (pa T l a (i + 1))) 467 i (nv T l a i)) (by omega) (by omega) (hT.crr hc) r2 (by rw [smi_o (by decide)]; exact h62) (by rw [smi_o (by decide)]; exact P5_5) (fun j hj => by
        rw [smi_d]
        by_cases z : j = i
        · subst z; rw [pk_us]
        · rw [pk_un z, P5_r (by decide), P4_r (by decide)]; exact hv j (by omega))
      exact ⟨X', q1, hc.tr q2, q3, q4⟩
theorem c_readEnd {X : hX} (hT : TC L X l) (ha : a ≤ l) (h6 : X.1 466 = T) (h5 : X.1 465 5 = nI (pa T l a m)) : f_X6_readEnd L X 465 = some (if okE T l a m = true then 1 else 0, P5 (P4 X (tsn T l a m)) (pa T l a (m + 1))) := by
  have hp := pa_r (T := T) ha m
  have hts := tsn_r (T := T) ha m
  have hl := hT.2.1
  have rd := c_readToken hT hp.2 h5
  rw [h6] at rd
  have rd : f_X6_readToken L X 465 = some (P5 (P4 X (tsn T l a m)) (pa T l a (m + 1))) := rd
  have hT2 : TC L (P5 (P4 X (tsn T l a m)) (pa T l a (m + 1))) l := hT.crr CRR.p
  have h42 : (P5 (P4 X (tsn T l a m)) (pa T l a (m + 1))).1 465 4 = nI (tsn T l a m) := by rw [P5_o (by decide), P4_4]
  have h62 : (P5 (P4 X (tsn T l a m)) (pa T l a (m + 1))).1 466 = T := by rw [P5_r (by decide), P4_r (by decide)]; exact h6
  unfold f_X6_readEnd
  rw [rd, Option.bind_some, if_pos hT.1.1, h42, c_signAt hT2 (by omega), Option.bind_some, h62]
  unfold okE
  simp only [decide_eq_true_eq]
  by_cases c : tsn T l a m < l
  · rw [if_pos c]
    by_cases c2 : T (tsn T l a m) = 59
    · rw [if_pos c2, if_pos ⟨c, c2⟩]
    · rw [if_neg c2, if_neg (fun q => c2 q.2)]
  · rw [if_neg c, if_neg (show ¬ (0 : Int32) = 59 by decide), if_neg (fun q => c q.1)]
/-- the same up to d and to what is only scratch, the reader's cells too -/
def SCR (X Y : hX) : Prop := Y.2 = X.2 ∧ ∀ k j, k ≠ 471 → k ≠ 477 → ¬ (k = 470 ∧ (j = 9 ∨ j = 10 ∨ j = 11 ∨ j = 13 ∨ j = 14)) → Y.1 k j = X.1 k j
theorem SCR.rf {X : hX} : SCR X X := ⟨rfl, fun _ _ _ _ _ => rfl⟩
theorem SCR.tr {X Y Z : hX} (h1 : SCR X Y) (h2 : SCR Y Z) : SCR X Z := ⟨h2.1.trans h1.1, fun k j a d e => (h2.2 k j a d e).trans (h1.2 k j a d e)⟩
theorem SC.r {X Y : hX} (h : SC X Y) : SCR X Y := ⟨h.1, fun k j a d e => h.2 k j a d (fun q => e ⟨q.1, q.2.elim (fun z => Or.inr (Or.inr (Or.inr (Or.inl z)))) (fun z => Or.inr (Or.inr (Or.inr (Or.inr z))))⟩)⟩
theorem SCR.g {X Y : hX} {i : Nat} {v : Int32} (h : SCR X Y) : SCR X (smi Y 477 i v) := ⟨h.1, fun k j a d e => by rw [smi_1, if_neg (fun (q : k = 477 ∧ j = i) => d q.1)]; exact h.2 k j a d e⟩
theorem SCR.row {X Y : hX} (h : SCR X Y) {k : Nat} (h1 : k ≠ 471) (h2 : k ≠ 477) (h3 : k ≠ 470) : Y.1 k = X.1 k := funext (fun j => h.2 k j h1 h2 (fun q => h3 q.1))
theorem SCR.fld {X Y : hX} (h : SCR X Y) {j : Nat} (hj : ¬ (j = 9 ∨ j = 10 ∨ j = 11 ∨ j = 13 ∨ j = 14)) : Y.1 470 j = X.1 470 j := h.2 470 j (by decide) (by decide) (fun q => hj q.2)
theorem MOK.scr {L : hL} {X Y : hX} (h : MOK L X) (hs : SCR X Y) : MOK L Y := ⟨h.1, h.2.1, by rw [hs.1]; exact h.2.2⟩
theorem SC_RR {X : hX} {s e t : Nat} : SCR X (RR X s e t) := by
  refine ⟨rfl, fun k j h1 h2 h3 => ?_⟩
  by_cases c : k = 470
  · subst c
    rw [RR_o (fun q => h3 ⟨rfl, Or.inl q⟩) (fun q => h3 ⟨rfl, Or.inr (Or.inl q)⟩) (fun q => h3 ⟨rfl, Or.inr (Or.inr (Or.inl q))⟩)]
  · rw [RR_r c]
theorem TM.sc {X Y : hX} (h : TM X l) (hs : SCR X Y) : TM Y l := ⟨h.1, by rw [hs.fld (by decide)]; exact h.2⟩
theorem m_rn {a : Nat} (ha : a ≤ l) (hm : m ≤ 5) : ∀ (d i n : Nat) (X : hX), i + d = m → d < n → MOK L X → TM X l → X.1 475 = T → X.1 470 10 = nI (pa T l a i) → (∀ j, j < i → X.1 477 j = nv T l a j) → ∃ X', f_X10_readsNumbers_2 L n 470 (nI m) (nI i) X = some (if bd T l a d i = m ∧ okE T l a m = true then 1 else 0, X') ∧ SCR X X' ∧ X'.1 471 = X.1 471 ∧ X'.1 470 9 = nI (tsn T l a (bd T l a d i)) ∧ (bd T l a d i = m → X'.1 470 10 = nI (pa T l a (m + 1)) ∧ ∀ j, j < m → X'.1 477 j = nv T l a j) := by
  intro d
  induction d with
  | zero =>
    intro i n X hi hn hM hT h6 h5 hv
    obtain ⟨k, rfl⟩ : ∃ k, n = k + 1 := ⟨n - 1, by omega⟩
    have e : i = m := by omega
    subst e
    have hp := pa_r (T := T) ha i
    have hts := tsn_r (T := T) ha i
    have hl := hT.1
    have eb : bd T l a 0 i = i := rfl
    have rd := m_reads hM hT hp.2 h5
    rw [h6] at rd
    have rd : f_X10_reads L X 470 = some (RR X (tsn T l a i) (pa T l a (i + 1)) (tso T l (tsn T l a i))) := rd
    have r5 : (RR X (tsn T l a i) (pa T l a (i + 1)) (tso T l (tsn T l a i))).2 470 5 = some 475 := hM.2.2.2.2.2.2.1
    have e75 : (RR X (tsn T l a i) (pa T l a (i + 1)) (tso T l (tsn T l a i))).1 475 = T := by rw [RR_r (by decide)]; exact h6
    unfold f_X10_readsNumbers_2
    rw [if_pos ((nle (i := i) (n := i) (by omega) (by omega)).mpr (Nat.le_refl _)), rd, Option.bind_some, if_pos hM.1.1, RR_11, RR_9, r5, Option.bind_some, if_pos hM.1.2.2.2.2.2.1, hM.2.1.2.2.2.2.1, e75, eb]
    refine ⟨RR X (tsn T l a i) (pa T l a (i + 1)) (tso T l (tsn T l a i)), ?_, SC_RR, RR_r (by decide), RR_9, fun _ => ⟨RR_10, fun j hj => by rw [RR_r (by decide)]; exact hv j hj⟩⟩
    unfold okE
    simp only [decide_eq_true_eq, true_and]
    by_cases c : tsn T l a i < l
    · rw [if_pos (hin_nI (n := 140) (show tsn T l a i < 140 by omega) (by omega)), nI_clamp (show tsn T l a i < 2 ^ 31 by omega)]
      by_cases c2 : T (tsn T l a i) = 59
      · have e3 : tso T l (tsn T l a i) = 3 := by
          unfold tso
          rw [if_pos c, c2, if_neg (by decide), if_neg (by decide)]
        rw [e3, if_pos (show nI 3 = 3 from rfl), if_pos c2, if_pos ⟨c, c2⟩]
      · rw [if_neg c2, if_neg (fun (q : tsn T l a i < l ∧ T (tsn T l a i) = 59) => c2 q.2), ite_self]
    · have e3 : tso T l (tsn T l a i) = 0 := by
        unfold tso
        rw [if_neg c]
      rw [e3, if_neg (show ¬ nI 0 = 3 by decide), if_neg (fun (q : tsn T l a i < l ∧ T (tsn T l a i) = 59) => c q.1)]
  | succ d ih =>
    intro i n X hi hn hM hT h6 h5 hv
    obtain ⟨k, rfl⟩ : ∃ k, n = k + 1 := ⟨n - 1, by omega⟩
    have hp := pa_r (T := T) ha i
    have hts := tsn_r (T := T) ha i
    have hl := hT.1
    have rd := m_reads hM hT hp.2 h5
    rw [h6] at rd
    have rd : f_X10_reads L X 470 = some (RR X (tsn T l a i) (pa T l a (i + 1)) (tso T l (tsn T l a i))) := rd
    have hs : SCR X (RR X (tsn T l a i) (pa T l a (i + 1)) (tso T l (tsn T l a i))) := SC_RR
    have hM2 := hM.scr hs
    have e75 : (RR X (tsn T l a i) (pa T l a (i + 1)) (tso T l (tsn T l a i))).1 475 = T := by rw [RR_r (by decide)]; exact h6
    have nn := m_isNumber hM2 hl hts.2.1 hts.2.2 RR_9 RR_10 (by rw [e75]; exact RR_11)
    have vv := m_value hM2 hts.2.1 (by omega) RR_9 RR_10
    rw [e75] at nn vv
    have nn : f_X10_isNumber L (RR X (tsn T l a i) (pa T l a (i + 1)) (tso T l (tsn T l a i))) 470 = some (if okN T l a i = true then 1 else 0) := nn
    have vv : f_X10_value L (RR X (tsn T l a i) (pa T l a (i + 1)) (tso T l (tsn T l a i))) 470 = some (nv T l a i) := vv
    have r12 : (RR X (tsn T l a i) (pa T l a (i + 1)) (tso T l (tsn T l a i))).2 470 12 = some 477 := hM.2.2.2.2.2.2.2.2
    unfold f_X10_readsNumbers_2
    rw [if_neg (nge (i := i) (n := m) (by omega) (by omega) (by omega)), rd, Option.bind_some, if_pos hM.1.1, nn, Option.bind_some]
    cases c : okN T l a i with
    | false =>
      have eb : bd T l a (d + 1) i = i := by
        unfold bd fs
        rw [if_pos (show (!(okN T l a i)) = true by rw [c]; rfl)]
      rw [eb, if_neg Bool.false_ne_true, if_pos rfl, if_neg (fun q => absurd q.1 (by omega))]
      exact ⟨_, rfl, hs, RR_r (by decide), RR_9, fun q => absurd q (by omega)⟩
    | true =>
      have eb : bd T l a (d + 1) i = bd T l a d (i + 1) := by
        unfold bd
        rw [fs, if_neg (show ¬ (!(okN T l a i)) = true by rw [c]; decide)]
      rw [eb, if_pos rfl, if_neg (show ¬ (1 : Int32) = 0 by decide), r12, Option.bind_some, vv, Option.bind_some, if_pos hM.1.2.2.2.2.2.2.2, hM.2.1.2.2.2.2.2.2, if_pos (hin_nI (n := 5) (show i < 5 by omega) (by omega)), nI_clamp (show i < 2 ^ 31 by omega), n1]
      have hc := hs.g (i := i) (v := nv T l a i)
      obtain ⟨X', q1, q2, q3, q4, q5⟩ := ih (i + 1) k (smi (RR X (tsn T l a i) (pa T l a (i + 1)) (tso T l (tsn T l a i))) 477 i (nv T l a i)) (by omega) (by omega) (hM.scr hc) (hT.sc hc) (by rw [smi_o (by decide)]; exact e75) (by rw [smi_o (by decide)]; exact RR_10) (fun j hj => by
        rw [smi_d]
        by_cases z : j = i
        · subst z; rw [pk_us]
        · rw [pk_un z, RR_r (by decide)]; exact hv j (by omega))
      refine ⟨X', q1, hc.tr q2, ?_, q4, q5⟩
      rw [q3, smi_o (by decide), RR_r (by decide)]
end RN
