/-! the fifth check of the law: a quarrel -/
section CL5
variable {B : Int} {L : hL} {X : hX} {nn : Nat} {v : Nat → Int32}
/-- the numbers behind a claim: which row has gone, what has changed -/
theorem op_vC (v : Nat → Int32) {c : Nat} (hc : c < 4) (n : Int32) (hn : 0 ≤ n.toInt ∧ n.toInt ≤ 9999) : (op_claims v 4 (nI c) n = (-100002, v) ∧ (v (16 + 6 * c + 1) = 0 ∨ n = v (16 + 6 * c + 5))) ∨ (¬ v (16 + 6 * c + 1) = 0 ∧ ¬ n = v (16 + 6 * c + 5) ∧ ((op_claims v 4 (nI c) n).1 = 0 ∨ (op_claims v 4 (nI c) n).1 = 1 ∨ (op_claims v 4 (nI c) n).1 = 2) ∧ (∀ k, k < 16 → k ≠ 13 → (op_claims v 4 (nI c) n).2 k = v k) ∧ (∀ d i, d ≠ c → i < 6 → (op_claims v 4 (nI c) n).2 (16 + 6 * d + i) = v (16 + 6 * d + i)) ∧ (op_claims v 4 (nI c) n).2 (16 + 6 * c + 1) = 0 ∧ (op_claims v 4 (nI c) n).2 13 = (if (op_claims v 4 (nI c) n).1 = 0 then v 13 else v 13 + v (16 + 6 * c + 3) - v (16 + 6 * c + 5))) := by
  have hcond : isR (nI c) 4 ∧ 0 ≤ n ∧ n ≤ 9999 := ⟨(nR (by omega) (by omega)).mpr hc, i_0le.mpr hn.1, by rw [i_le, show (9999 : Int32).toInt = 9999 by decide]; exact hn.2⟩
  unfold op_claims
  rw [if_pos hcond]
  simp only [nI_clamp (show c < 2 ^ 31 by omega)]
  by_cases h1 : v (16 + 6 * c + 1) = 0 ∨ n = v (16 + 6 * c + 5)
  · rw [if_pos h1]
    exact Or.inl ⟨rfl, h1⟩
  · refine Or.inr ⟨fun q => h1 (Or.inl q), fun q => h1 (Or.inr q), ?_⟩
    rw [if_neg h1]
    by_cases h2 : gl (upd v (16 + 6 * c + 1) 0) (v (16 + 6 * c + 4)) (v (16 + 6 * c + 2)).toNatClampNeg ≤ n ∧ n ≤ gg (upd v (16 + 6 * c + 1) 0) (v (16 + 6 * c + 4)) (v (16 + 6 * c + 2)).toNatClampNeg
    · rw [if_pos h2]
      by_cases h3 : ab0 (v (16 + 6 * c + 5) - v (16 + 6 * c + 3)) ≤ ab0 (n - v (16 + 6 * c + 3))
      · rw [if_pos h3]
        refine ⟨Or.inr (Or.inr rfl), fun k h4 h5 => ?_, fun d i h4 h5 => ?_, ?_, ?_⟩
        · simp (disch := omega) only [pk_un, pk_us]
        · simp (disch := omega) only [pk_un, pk_us]
        · simp (disch := omega) only [pk_un, pk_us]
        · simp (disch := omega) only [pk_un, pk_us]
          rw [if_neg (show ¬ (2 : Int32) = 0 by decide), i32_as]
      · rw [if_neg h3]
        refine ⟨Or.inr (Or.inl rfl), fun k h4 h5 => ?_, fun d i h4 h5 => ?_, ?_, ?_⟩
        · simp (disch := omega) only [pk_un, pk_us]
        · simp (disch := omega) only [pk_un, pk_us]
        · simp (disch := omega) only [pk_un, pk_us]
        · simp (disch := omega) only [pk_un, pk_us]
          rw [if_neg (show ¬ (1 : Int32) = 0 by decide), i32_as]
    · rw [if_neg h2]
      refine ⟨Or.inl rfl, fun k h4 h5 => ?_, fun d i h4 h5 => ?_, ?_, ?_⟩
      · simp (disch := omega) only [pk_un, pk_us]
      · simp (disch := omega) only [pk_un, pk_us]
      · simp (disch := omega) only [pk_un, pk_us]
      · simp (disch := omega) only [pk_un, pk_us]
        rw [if_true]
theorem cl_55 (hK : KS L X nn v) (hI : LI B v) (hB0 : 9999 ≤ B) (hB : B ≤ 1000000000) {c : Nat} (hc : c < 4) {n t g : Int32} (hn : 0 ≤ n.toInt ∧ n.toInt ≤ 9999) (h0 : v (16 + 6 * c + 1) = 0 → t < 0) (h1 : ¬ v (16 + 6 * c + 1) = 0 → ¬ t < 0 ∧ t = v (16 + 6 * c + 3) ∧ g = v (16 + 6 * c + 5)) : ∃ X' n' v', f_L_claims_55 L 0 (nI c) (v 13) t g n X = some (1, X') ∧ KS L X' n' v' ∧ LI (B + 1600) v' := by
  have hI0 := hI
  obtain ⟨hv, hw, h4⟩ := hI
  obtain ⟨X', n', s1, s2⟩ := kb_claim hK hv hB0 hB (nI c) n
  have hrv := (rv_claims hv hB0 hB (nI c) n).2.2
  rcases op_vC v hc n hn with ⟨e, h⟩ | ⟨q1, q2, q3, q4, q5, q6, q7⟩
  · rw [e] at s1 s2
    have s2 : KS L X' n' v := s2
    have e78 : f_L_claims_78 L 0 (v 13) (-100002) X' = some (1, X') := by
      unfold f_L_claims_78
      rw [if_pos rfl, k_c8 s2, Option.bind_some, if_pos s2.tk9, if_pos rfl]
    refine ⟨X', n', v, ?_, s2, hI0.mono (by omega)⟩
    unfold f_L_claims_55
    rw [s1, Option.bind_some, if_pos hK.tk9]
    show (if t < 0 then f_L_claims_78 L 0 (v 13) (-100002) X' else if n = g then f_L_claims_78 L 0 (v 13) (-100002) X' else _) = _
    by_cases ht : t < 0
    · rw [if_pos ht, e78]
    · rw [if_neg ht]
      have hk : ¬ v (16 + 6 * c + 1) = 0 := fun q => ht (h0 q)
      rcases h with h | h
      · exact absurd h hk
      · rw [if_pos (h.trans (h1 hk).2.2.symm), e78]
  · obtain ⟨t1, t2, t3⟩ := h1 q1
    generalize op_claims v 4 (nI c) n = o at *
    obtain ⟨res, u⟩ := o
    have s2 : KS L X' n' u := s2
    have q3 : res = 0 ∨ res = 1 ∨ res = 2 := q3
    have q4 : ∀ k, k < 16 → k ≠ 13 → u k = v k := q4
    have q5 : ∀ d i, d ≠ c → i < 6 → u (16 + 6 * d + i) = v (16 + 6 * d + i) := q5
    have q6 : u (16 + 6 * c + 1) = 0 := q6
    have q7 : u 13 = (if res = 0 then v 13 else v 13 + v (16 + 6 * c + 3) - v (16 + 6 * c + 5)) := q7
    have hI' : LI (B + 1600) u := by
      refine LI.of hrv (fun i hi => ?_) ?_ ?_ (fun d hd6 hne => ?_)
      · rw [q4 i (by omega) (by omega)]; exact hw i hi
      · rw [q4 14 (by omega) (by omega)]; exact hv.1.2.2.2.1
      · rw [q4 15 (by omega) (by omega)]; exact hv.1.2.2.2.2.1
      · by_cases cd : d = c
        · subst cd
          exact absurd q6 hne
        · rw [q5 d 1 cd (by omega)] at hne
          rw [q5 d 4 cd (by omega)]
          exact h4 d hd6 hne
    refine ⟨X', n', u, ?_, s2, hI'⟩
    have c1 : f_X9_customer L X' 0 (nI c) 1 = some (-100009) := by rw [k_cu1 s2 hI'.1 hc, if_pos q6]
    have hng : ¬ n = g := fun q => q2 (q.trans t3)
    have e145 : ∀ s : Int32, f_L_claims_145 L g n res s s X' = some (1, X') := fun s => by
      unfold f_L_claims_145
      rw [if_pos rfl]
      by_cases r1 : res = 1
      · rw [if_pos r1, if_neg hng]
      · rw [if_neg r1]
    have n0 : ¬ res < 0 := by rcases q3 with rfl | rfl | rfl <;> decide
    have n2 : ¬ 2 < res := by rcases q3 with rfl | rfl | rfl <;> decide
    unfold f_L_claims_55
    rw [s1, Option.bind_some, if_pos hK.tk9, if_neg t1, if_neg hng]
    show (if res < 0 then _ else if 2 < res then _ else (f_X9_customer L X' 0 (nI c) 1).bind fun r16 => if r16 = (-100009) then (f_X9_count L X' 0 8).bind fun r19 => if res = 0 then f_L_claims_145 L g n res (v 13) r19 X' else f_L_claims_145 L g n res ((v 13 + t) - g) r19 X' else _) = _
    rw [if_neg n0, if_neg n2, c1, Option.bind_some, if_pos rfl, k_c8 s2, Option.bind_some, q7]
    by_cases r0 : res = 0
    · rw [if_pos r0, if_pos r0]
      exact e145 _
    · rw [if_neg r0, if_neg r0, t2, t3]
      rw [t3] at e145
      exact e145 _
theorem q_claims (hK : KS L X nn v) (hI : LI B v) (hB0 : 9999 ≤ B) (hB : B ≤ 1000000000) {c : Nat} (hc : c < 4) {z : Int32} (hz : 0 ≤ z.toInt) : ∃ X' n' v', f_L_claims L X 0 (nI c) z = some (1, X') ∧ KS L X' n' v' ∧ LI (B + 1600) v' := by
  have hv := hI.1
  have hC := (hv.C c hc).2
  unfold f_L_claims
  rw [k_c8 hK, Option.bind_some, if_pos hK.tk9, k_cu2 hK hv hc, Option.bind_some, k_cu4 hK hv hc, Option.bind_some]
  by_cases hk : v (16 + 6 * c + 1) = 0
  · rw [if_pos hk, if_pos hk, if_neg (show ¬ (0 : Int32) ≤ -100009 by decide)]
    obtain ⟨q, hq, eq⟩ := mod_of (a := z) (b := 9) (k := 9) hz (by omega) (by omega) (by decide)
    rw [eq]
    exact cl_55 hK hI hB0 hB hc (by rw [nI_toInt (by omega)]; omega) (fun _ => by decide) (fun q => absurd hk q)
  · obtain h | ⟨-, -, hn, hr, hg⟩ := hC
    · exact absurd h hk
    · rw [if_neg hk, if_neg hk, if_pos (by rw [i_0le]; omega)]
      have nt : ¬ v (16 + 6 * c + 3) < 0 := fun q => by rw [i_lt0] at q; omega
      by_cases h2 : z - z / 2 * 2 = 0
      · rw [if_pos h2]
        exact cl_55 hK hI hB0 hB hc (by omega) (fun q => absurd q hk) (fun _ => ⟨nt, rfl, rfl⟩)
      · rw [if_neg h2]
        obtain ⟨-, z2⟩ := i_mod (a := z) (b := 2) hz (by rw [z2i]; omega)
        rw [z2i] at z2
        obtain ⟨q, hq, eq⟩ := mod_of (a := z / 2) (b := 7) (k := 7) (by rw [z2]; omega) (by omega) (by omega) (by decide)
        rw [eq]
        have e : (v (16 + 6 * c + 5) + nI q).toInt = (v (16 + 6 * c + 5)).toInt + (q : Int) := by rw [i_add (by rw [nI_toInt (by omega)]; omega) (by rw [nI_toInt (by omega)]; omega), nI_toInt (by omega)]
        exact cl_55 hK hI hB0 hB hc (by omega) (fun q => absurd q hk) (fun _ => ⟨nt, rfl, rfl⟩)
end CL5
/-! the sixth: a purchase -/
section BU
variable {B : Int} {L : hL} {X : hX} {nn : Nat} {v : Nat → Int32}
theorem op_vB (v : Nat → Int32) {c p : Nat} (hc : c < 4) (hp : p < 4) (n : Int32) (hn : 1 ≤ n.toInt ∧ n.toInt ≤ 99) : op_buys v 4 4 (nI c) (nI p) n = (-100002, v) ∨ op_buys v 4 4 (nI c) (nI p) n = (-100003, v) ∨ ((op_buys v 4 4 (nI c) (nI p) n).1 = v (16 + 6 * c) - n * v (52 + 7 * p) ∧ (∀ k, k < 16 → (op_buys v 4 4 (nI c) (nI p) n).2 k = v k) ∧ (∀ d i, d < 6 → 1 ≤ i → i < 6 → (op_buys v 4 4 (nI c) (nI p) n).2 (16 + 6 * d + i) = v (16 + 6 * d + i)) ∧ (op_buys v 4 4 (nI c) (nI p) n).2 (16 + 6 * c) = v (16 + 6 * c) - n * v (52 + 7 * p) ∧ (op_buys v 4 4 (nI c) (nI p) n).2 (52 + 7 * p) = v (52 + 7 * p)) := by
  have hcond : isR (nI c) 4 ∧ isR (nI p) 4 ∧ 1 ≤ n ∧ n ≤ 99 := ⟨(nR (by omega) (by omega)).mpr hc, (nR (by omega) (by omega)).mpr hp, by rw [i_le, z1i]; exact hn.1, by rw [i_le, show (99 : Int32).toInt = 99 by decide]; exact hn.2⟩
  unfold op_buys
  rw [if_pos hcond]
  simp only [nI_clamp (show c < 2 ^ 31 by omega), nI_clamp (show p < 2 ^ 31 by omega)]
  by_cases h1 : n * v (52 + 7 * p) ≤ v (16 + 6 * c)
  · rw [if_pos h1]
    by_cases h2 : n ≤ v (52 + 7 * p + 2)
    · rw [if_pos h2]
      refine Or.inr (Or.inr ⟨rfl, fun k h4 => ?_, fun d i h4 h5 h6 => ?_, ?_, ?_⟩)
      · simp (disch := omega) only [pk_un, pk_us]
      · simp (disch := omega) only [pk_un, pk_us]
      · simp (disch := omega) only [pk_un, pk_us]
      · simp (disch := omega) only [pk_un, pk_us]
    · rw [if_neg h2]
      exact Or.inr (Or.inl rfl)
  · rw [if_neg h1]
    exact Or.inl rfl
end BU
/-! bundles of two kinds: the least is no more than the greatest -/
theorem mxs_i {P : Nat → Nat → Bool} : ∀ s, s ≤ 61 → (mxs P s).1 ≤ s * 61 ∧ ((mxs P s).1 = 0 ∧ (mxs P s).2.1 = -100009 ∧ (mxs P s).2.2 = -100009 ∨ (mxs P s).1 ≠ 0 ∧ ∃ a b, a ≤ b ∧ b < s ∧ (mxs P s).2.1 = nI a ∧ (mxs P s).2.2 = nI b) := by
  intro s
  induction s with
  | zero => intro _; exact ⟨by show 0 ≤ 0 * 61; omega, Or.inl ⟨rfl, rfl, rfl⟩⟩
  | succ s ih =>
    intro hs
    obtain ⟨h1, h2⟩ := ih (by omega)
    have hc := cn_le (p := P s) (s + 1)
    have e : mxs P (s + 1) = ((mxs P s).1 + cn (P s) (s + 1), if cn (P s) (s + 1) = 0 then (mxs P s).2.1 else if (mxs P s).2.1 = -100009 then nI s else (mxs P s).2.1, if cn (P s) (s + 1) = 0 then (mxs P s).2.2 else nI s) := rfl
    rw [e]
    generalize cn (P s) (s + 1) = k at *
    generalize (mxs P s).1 = t at *
    generalize (mxs P s).2.1 = a0 at *
    generalize (mxs P s).2.2 = b0 at *
    show t + k ≤ (s + 1) * 61 ∧ (t + k = 0 ∧ (if k = 0 then a0 else if a0 = -100009 then nI s else a0) = -100009 ∧ (if k = 0 then b0 else nI s) = -100009 ∨ t + k ≠ 0 ∧ ∃ a b, a ≤ b ∧ b < s + 1 ∧ (if k = 0 then a0 else if a0 = -100009 then nI s else a0) = nI a ∧ (if k = 0 then b0 else nI s) = nI b)
    refine ⟨by omega, ?_⟩
    by_cases c : k = 0
    · rw [if_pos c, if_pos c]
      rcases h2 with ⟨q1, q2, q3⟩ | ⟨q1, a, b, q2, q3, q4, q5⟩
      · exact Or.inl ⟨by omega, q2, q3⟩
      · exact Or.inr ⟨by omega, a, b, q2, by omega, q4, q5⟩
    · rw [if_neg c, if_neg c]
      rcases h2 with ⟨q1, q2, q3⟩ | ⟨q1, a, b, q2, q3, q4, q5⟩
      · rw [if_pos q2]
        exact Or.inr ⟨by omega, s, s, Nat.le_refl _, by omega, rfl, rfl⟩
      · rw [if_neg (by rw [q4]; exact nIne60 a (by omega))]
        exact Or.inr ⟨by omega, a, s, by omega, by omega, q4, rfl⟩
