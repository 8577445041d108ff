/-! a round of the law: one of seven things is done, then all is looked at -/
section AR
variable {B : Int} {L : hL} {X : hX} {nn : Nat} {v : Nat → Int32} {xs : Nat → Int32} {Ln : Nat}
theorem b_595 (hK : KS L X nn v) (hI : LI B v) (k : Nat → Int32 → Int32 → hX → Option Int32) (i : Int32) {z : Int32} (hz : 0 ≤ z.toInt) : ∃ X', f_L_law_595 L xs Ln k 0 1 i z X = k 0 1 (i + 1) X' ∧ KS L X' nn v := by
  obtain ⟨hv, hw, h4⟩ := hI
  obtain ⟨X1, e1, hK1⟩ := lq_holds hK hv h4 (by omega)
  have i4 : (4 : Int32).toInt = 4 := by decide
  have i5k : (5000 : Int32).toInt = 5000 := by decide
  have i49 : (4900 : Int32).toInt = 4900 := by decide
  have ihk : (100000 : Int32).toInt = 100000 := by decide
  obtain ⟨m1, -⟩ := i_mod (a := z) (b := 100000) hz (by rw [ihk]; omega)
  obtain ⟨m2, -⟩ := i_mod (a := z) (b := 5000) hz (by rw [i5k]; omega)
  obtain ⟨-, z4⟩ := i_mod (a := z) (b := 4) hz (by rw [i4]; omega)
  rw [ihk] at m1
  rw [i5k] at m2
  rw [i4] at z4
  obtain ⟨j1, hj1, ej1⟩ := mod_of (a := z) (b := 4) (k := 4) hz (by omega) (by omega) i4
  obtain ⟨j2, hj2, ej2⟩ := mod_of (a := z / 4) (b := 4) (k := 4) (by rw [z4]; omega) (by omega) (by omega) i4
  have s2 : ((z - z / 5000 * 5000) - 4900).toInt = z.toInt % 5000 - 4900 := by rw [i_sub (by rw [m2, i49]; omega) (by rw [m2, i49]; omega), m2, i49]
  have r1 := q_reading hK1 hv.S (x := z - z / 100000 * 100000) (by rw [m1]; omega) hj1
  have r2 := q_reading hK1 hv.S (x := (z - z / 5000 * 5000) - 4900) (by rw [s2]; omega) hj2
  refine ⟨X1, ?_, hK1⟩
  unfold f_L_law_595
  simp only [if_neg (show ¬ (1 : Int32) = 0 by decide), e1, Option.bind_some, ej1, ej2, r1, r2]
  rfl
theorem q_268 (hK : KS L X nn v) (hI : LI B v) (k : Nat → Int32 → Int32 → hX → Option Int32) (i : Int32) {z : Int32} (hz : 0 ≤ z.toInt) : ∃ X' n' v', f_L_law_268 L xs Ln k 0 i z X = k 0 1 (i + 1) X' ∧ KS L X' n' v' ∧ LI (B + 1600) v' := by
  obtain ⟨hv, hw, h4⟩ := id hI
  obtain ⟨q, hq, eq⟩ := mod_of (a := z) (b := 4) (k := 4) hz (by omega) (by omega) (by decide)
  obtain ⟨X1, n1, s1, s2⟩ := kb_setRule hK hv (nI q)
  have hrv := (rv_rule hv (nI q)).2.2
  have hop : op_sets v 11 (nI q) 0 3 = (v 11, upd v 11 (nI q)) := by
    unfold op_sets
    rw [if_pos (le3 hq)]
  rw [hop] at s1 s2 hrv
  have s2 : KS L X1 n1 (upd v 11 (nI q)) := s2
  have hI1 : LI B (upd v 11 (nI q)) := by
    refine LI.of hrv (fun j hj => ?_) ?_ ?_ (fun d hd hne => ?_)
    · show (upd v 11 (nI q) j).toInt ≤ 1599
      rw [pk_un (by omega)]; exact hw j hj
    · show upd v 11 (nI q) 14 = _
      rw [pk_un (by omega)]; exact hv.1.2.2.2.1
    · show upd v 11 (nI q) 15 = _
      rw [pk_un (by omega)]; exact hv.1.2.2.2.2.1
    · have hne : upd v 11 (nI q) (16 + 6 * d + 1) ≠ 0 := hne
      show (upd v 11 (nI q) (16 + 6 * d + 4)).toInt ≤ 400000
      rw [pk_un (by omega)] at hne ⊢
      exact h4 d hd hne
  obtain ⟨X2, e2, hK2⟩ := b_595 (xs := xs) (Ln := Ln) s2 hI1 k i hz
  refine ⟨X2, n1, _, ?_, hK2, hI1.mono (by omega)⟩
  unfold f_L_law_268
  rw [eq, s1, Option.bind_some, if_pos hK.tk9]
  show (if v 11 < 0 then _ else (f_X9_count L X1 0 3).bind fun r15 => if r15 = nI q then f_L_law_595 L xs Ln k 0 1 i z X1 else _) = _
  rw [if_neg (fun y => by rw [i_lt0] at y; have := hv.S.2.2.2.1.1; omega), k_c3 s2, Option.bind_some, if_pos pk_us, e2]
theorem q_300 (hK : KS L X nn v) (hI : LI B v) (k : Nat → Int32 → Int32 → hX → Option Int32) (i : Int32) {z : Int32} (hz : 0 ≤ z.toInt) : ∃ X' n' v', f_L_law_300 L xs Ln k 0 i z X = k 0 1 (i + 1) X' ∧ KS L X' n' v' ∧ LI (B + 1600) v' := by
  obtain ⟨hv, hw, h4⟩ := id hI
  have i4 : (4 : Int32).toInt = 4 := by decide
  obtain ⟨-, z4⟩ := i_mod (a := z) (b := 4) hz (by rw [i4]; omega)
  rw [i4] at z4
  obtain ⟨j, hj, ej⟩ := mod_of (a := z) (b := 4) (k := 4) hz (by omega) (by omega) i4
  obtain ⟨X1, n1, e1, hK1⟩ := q_apart hK hv hw hj (y := z / 4) (by rw [z4]; omega)
  obtain ⟨X2, e2, hK2⟩ := b_595 (xs := xs) (Ln := Ln) hK1 hI k i hz
  refine ⟨X2, n1, v, ?_, hK2, hI.mono (by omega)⟩
  unfold f_L_law_300
  rw [ej, e1, Option.bind_some]
  exact e2
theorem q_316 (hK : KS L X nn v) (hI : LI B v) (k : Nat → Int32 → Int32 → hX → Option Int32) (i : Int32) {z : Int32} (hz : 0 ≤ z.toInt) : ∃ X' n' v', f_L_law_316 L xs Ln k 0 i z X = k 0 1 (i + 1) X' ∧ KS L X' n' v' ∧ LI (B + 1600) v' := by
  obtain ⟨hv, hw, h4⟩ := id hI
  have h9 := hv.S.2.1
  have h10 := hv.S.2.2.1
  have e2 : (2 * v 9).toInt = 2 * (v 9).toInt := by rw [i_mul (by rw [z2i]; omega) (by rw [z2i]; omega), z2i]
  have e3 : (2 * v 9 + 1).toInt = 2 * (v 9).toInt + 1 := by rw [i_add (by rw [z1i]; omega) (by rw [z1i]; omega), z1i, e2]
  obtain ⟨m1, -⟩ := i_mod (a := z) (b := 2 * v 9 + 1) hz (by omega)
  have m2 := Int.emod_nonneg z.toInt (show (2 * v 9 + 1).toInt ≠ 0 by omega)
  have m3 := Int.emod_lt_of_pos z.toInt (show 0 < (2 * v 9 + 1).toInt by omega)
  have m4 : ((z - z / (2 * v 9 + 1) * (2 * v 9 + 1)) - v 9).toInt = z.toInt % (2 * v 9 + 1).toInt - (v 9).toInt := by rw [i_sub (by rw [m1]; omega) (by rw [m1]; omega), m1]
  generalize hx : (z - z / (2 * v 9 + 1) * (2 * v 9 + 1)) - v 9 = x at m4
  obtain ⟨X1, n1, s1, s2⟩ := kb_setBias hK hv x
  have hrv := (rv_bias hv x).2.2
  have hop : op_sets v 10 x (-(v 9)) (v 9) = (v 10, upd v 10 x) := by
    unfold op_sets
    rw [if_pos ⟨by rw [i_le, i_neg (by omega)]; omega, by rw [i_le]; omega⟩]
  rw [hop] at s1 s2 hrv
  have s2 : KS L X1 n1 (upd v 10 x) := s2
  have hI1 : LI B (upd v 10 x) := by
    refine LI.of hrv (fun j hj => ?_) ?_ ?_ (fun d hd hne => ?_)
    · show (upd v 10 x j).toInt ≤ 1599
      rw [pk_un (by omega)]; exact hw j hj
    · show upd v 10 x 14 = _
      rw [pk_un (by omega)]; exact hv.1.2.2.2.1
    · show upd v 10 x 15 = _
      rw [pk_un (by omega)]; exact hv.1.2.2.2.2.1
    · have hne : upd v 10 x (16 + 6 * d + 1) ≠ 0 := hne
      show (upd v 10 x (16 + 6 * d + 4)).toInt ≤ 400000
      rw [pk_un (by omega)] at hne ⊢
      exact h4 d hd hne
  obtain ⟨X2, e5, hK2⟩ := b_595 (xs := xs) (Ln := Ln) s2 hI1 k i hz
  refine ⟨X2, n1, _, ?_, hK2, hI1.mono (by omega)⟩
  unfold f_L_law_316
  rw [k_c1 hK, Option.bind_some, if_pos hK.tk9, if_pos (i_nz (by omega)), hx, s1, Option.bind_some]
  show (if v 10 < -v 9 then _ else (f_X9_count L X1 0 2).bind fun r27 => if r27 = x then f_L_law_595 L xs Ln k 0 1 i z X1 else _) = _
  rw [if_neg (fun y => by rw [i_lt, i_neg (by omega)] at y; omega), k_c2 s2, Option.bind_some, if_pos pk_us, e5]
theorem q_374 (hK : KS L X nn v) (hI : LI B v) (hB0 : 9999 ≤ B) (hB : B ≤ 1000000000) (k : Nat → Int32 → Int32 → hX → Option Int32) (i : Int32) {z : Int32} (hz : 0 ≤ z.toInt) {c : Nat} (hc : c < 4) : ∃ X' n' v', f_L_law_374 L xs Ln k 0 i z (nI c) X = k 0 1 (i + 1) X' ∧ KS L X' n' v' ∧ LI (B + 1600) v' := by
  have i8 : (8 : Int32).toInt = 8 := by decide
  obtain ⟨-, z8⟩ := i_mod (a := z) (b := 8) hz (by rw [i8]; omega)
  rw [i8] at z8
  obtain ⟨X1, n1, v1, e1, hK1, hI1⟩ := q_claims hK hI hB0 hB hc (z := z / 8) (by rw [z8]; omega)
  obtain ⟨X2, e2, hK2⟩ := b_595 (xs := xs) (Ln := Ln) hK1 hI1 k i hz
  refine ⟨X2, n1, v1, ?_, hK2, hI1⟩
  unfold f_L_law_374
  rw [e1, Option.bind_some]
  exact e2
theorem q_583 (hK : KS L X nn v) (hI : LI B v) (hB : B ≤ 1000000000) (k : Nat → Int32 → Int32 → hX → Option Int32) (i : Int32) {z : Int32} (hz : 0 ≤ z.toInt) {c : Nat} (hc : c < 4) : ∃ X' n' v', f_L_law_583 L xs Ln k 0 i z (nI c) X = k 0 1 (i + 1) X' ∧ KS L X' n' v' ∧ LI (B + 1600) v' := by
  have i8 : (8 : Int32).toInt = 8 := by decide
  obtain ⟨-, z8⟩ := i_mod (a := z) (b := 8) hz (by rw [i8]; omega)
  rw [i8] at z8
  obtain ⟨X1, n1, v1, e1, hK1, hI1⟩ := q_weighs hK hI hB hc (z := z / 8) (by rw [z8]; omega)
  obtain ⟨X2, e2, hK2⟩ := b_595 (xs := xs) (Ln := Ln) hK1 hI1 k i hz
  refine ⟨X2, n1, v1, ?_, hK2, hI1⟩
  unfold f_L_law_583
  rw [e1, Option.bind_some]
  exact e2
theorem q_389 (hK : KS L X nn v) (hI : LI B v) (hB0 : 0 ≤ B) (k : Nat → Int32 → Int32 → hX → Option Int32) (i : Int32) {z : Int32} (hz : 0 ≤ z.toInt) {c : Nat} (hc : c < 4) : ∃ X' n' v', f_L_law_389 L xs Ln k 0 i z (nI c) X = k 0 1 (i + 1) X' ∧ KS L X' n' v' ∧ LI (B + 1600) v' := by
  obtain ⟨hv, hw, h4⟩ := id hI
  have i8 : (8 : Int32).toInt = 8 := by decide
  have i64 : (64 : Int32).toInt = 64 := by decide
  obtain ⟨-, z8⟩ := i_mod (a := z) (b := 8) hz (by rw [i8]; omega)
  obtain ⟨-, z64⟩ := i_mod (a := z) (b := 64) hz (by rw [i64]; omega)
  rw [i8] at z8
  rw [i64] at z64
  obtain ⟨p, hp, ep⟩ := mod_of (a := z / 8) (b := nI 4) (k := 4) (by rw [z8]; omega) (by omega) (by omega) (by decide)
  obtain ⟨m, hm, em⟩ := mod_of (a := z / 64) (b := 5) (k := 5) (by rw [z64]; omega) (by omega) (by omega) (by decide)
  have nN : (1 + nI m).toInt = 1 + (m : Int) := by rw [i_add (by rw [z1i, nI_toInt (by omega)]; omega) (by rw [z1i, nI_toInt (by omega)]; omega), z1i, nI_toInt (by omega)]
  obtain ⟨X1, n1, s1, s2⟩ := kb_buy hK hv hB0 (nI c) (nI p) (1 + nI m)
  have hrv := (rv_buys hv hB0 (nI c) (nI p) (1 + nI m)).2.2
  have h595 : ∀ {u : Nat → Int32}, KS L X1 n1 u → LI B u → ∃ X' n' v', f_L_law_595 L xs Ln k 0 1 i z X1 = k 0 1 (i + 1) X' ∧ KS L X' n' v' ∧ LI (B + 1600) v' := fun hK1 hI1 => by
    obtain ⟨X2, e2, hK2⟩ := b_595 (xs := xs) (Ln := Ln) hK1 hI1 k i hz
    exact ⟨X2, n1, _, e2, hK2, hI1.mono (by omega)⟩
  have hcnt : f_X9_count L X 0 6 = some (nI 4) := by rw [k_c6 hK, hv.1.2.2.2.2.1]
  unfold f_L_law_389
  rw [hcnt, Option.bind_some, if_pos hK.tk9, if_pos (show ¬ nI 4 = 0 by decide), k_cu0 hK hv hc, Option.bind_some, ep, em, s1, Option.bind_some]
  rcases op_vB v hc hp (1 + nI m) (by omega) with e | e | ⟨q1, q2, q3, q4, q5⟩
  · rw [e] at s2 ⊢
    rw [if_pos rfl]
    exact h595 s2 hI
  · rw [e] at s2 ⊢
    rw [if_neg (show ¬ (-100003 : Int32) = -100002 by decide), if_pos rfl]
    exact h595 s2 hI
  · generalize op_buys v 4 4 (nI c) (nI p) (1 + nI m) = o at *
    obtain ⟨res, u⟩ := o
    have s2 : KS L X1 n1 u := s2
    have q1 : res = v (16 + 6 * c) - (1 + nI m) * v (52 + 7 * p) := q1
    have q2 : ∀ k, k < 16 → u k = v k := q2
    have q3 : ∀ d i, d < 6 → 1 ≤ i → i < 6 → u (16 + 6 * d + i) = v (16 + 6 * d + i) := q3
    have q4 : u (16 + 6 * c) = v (16 + 6 * c) - (1 + nI m) * v (52 + 7 * p) := q4
    have q5 : u (52 + 7 * p) = v (52 + 7 * p) := q5
    have hI1 : LI B u := by
      refine LI.of hrv (fun j hj => ?_) ?_ ?_ (fun d hd hne => ?_)
      · rw [q2 j (by omega)]; exact hw j hj
      · rw [q2 14 (by omega)]; exact hv.1.2.2.2.1
      · rw [q2 15 (by omega)]; exact hv.1.2.2.2.2.1
      · rw [q3 d 1 hd (by omega) (by omega)] at hne
        rw [q3 d 4 hd (by omega) (by omega)]
        exact h4 d hd hne
    show ∃ X' n' v', (if res = -100002 then f_L_law_595 L xs Ln k 0 1 i z X1 else if res = -100003 then f_L_law_595 L xs Ln k 0 1 i z X1 else (f_X9_prize L X1 0 (nI p) 0).bind fun r42 => if res = v (16 + 6 * c) - (1 + nI m) * r42 then (f_X9_customer L X1 0 (nI c) 0).bind fun r45 => if res = r45 then f_L_law_595 L xs Ln k 0 1 i z X1 else _ else _) = _ ∧ _
    by_cases r2 : res = -100002
    · rw [if_pos r2]
      exact h595 s2 hI1
    · rw [if_neg r2]
      by_cases r3 : res = -100003
      · rw [if_pos r3]
        exact h595 s2 hI1
      · rw [if_neg r3, k_pr0 s2 hI1.1 hp, Option.bind_some, q5, if_pos q1, k_cu0 s2 hI1.1 hc, Option.bind_some, q4, if_pos q1]
        exact h595 s2 hI1
theorem mxr_0 (t : Nat × Int32 × Int32) : mxr t 0 = nI t.1 := if_pos rfl
theorem mxr_1 (t : Nat × Int32 × Int32) : mxr t 1 = t.2.1 := by
  unfold mxr
  rw [if_neg (by decide), if_pos rfl]
theorem mxr_2 (t : Nat × Int32 × Int32) : mxr t 2 = t.2.2 := by
  unfold mxr
  rw [if_neg (by decide), if_neg (by decide)]
theorem q_491 (hK : KS L X nn v) (hI : LI B v) (k : Nat → Int32 → Int32 → hX → Option Int32) (i : Int32) {z : Int32} (hz : 0 ≤ z.toInt) : ∃ X' n' v', f_L_law_491 L xs Ln k 0 i z X = k 0 1 (i + 1) X' ∧ KS L X' n' v' ∧ LI (B + 1600) v' := by
  obtain ⟨hv, hw, h4⟩ := id hI
  have h8 := hv.S.1
  have i4k : (40000 : Int32).toInt = 40000 := by decide
  obtain ⟨m1, -⟩ := i_mod (a := z) (b := 40000) hz (by rw [i4k]; omega)
  rw [i4k] at m1
  generalize hx : z - z / 40000 * 40000 = x at m1
  have rd := k_read hK hv.S (x := x) ⟨by rw [i_le, show (-5000 : Int32).toInt = -5000 by decide]; omega, by rw [i_le, show (3000000 : Int32).toInt = 3000000 by decide]; omega⟩
  obtain ⟨f1, -, -, f4⟩ := rb_f (S := v 8) (x := x) h8 (by omega)
  have hr : rdg (rb (v 8) x) := ⟨f1, by omega⟩
  have a0 : f_X9_mixed L X 0 0 1 (rb (v 8) x) 0 = some (nI (mxs (mxP v 0 1 (rb (v 8) x)) 61).1) := by rw [k_mixed hK hv.S hr (by decide), mxr_0]
  have a1 : f_X9_mixed L X 0 0 1 (rb (v 8) x) 1 = some (mxs (mxP v 0 1 (rb (v 8) x)) 61).2.1 := by rw [k_mixed hK hv.S hr (by decide), mxr_1]
  have a2 : f_X9_mixed L X 0 0 1 (rb (v 8) x) 2 = some (mxs (mxP v 0 1 (rb (v 8) x)) 61).2.2 := by rw [k_mixed hK hv.S hr (by decide), mxr_2]
  obtain ⟨t1, t2⟩ := mxs_i (P := mxP v 0 1 (rb (v 8) x)) 61 (by omega)
  obtain ⟨X2, e2, hK2⟩ := b_595 (xs := xs) (Ln := Ln) hK hI k i hz
  refine ⟨X2, nn, v, ?_, hK2, hI.mono (by omega)⟩
  have e579 : f_L_law_579 L xs Ln k 0 i z 1 X = k 0 1 (i + 1) X2 := e2
  unfold f_L_law_491
  rw [hx]
  simp only [rd, Option.bind_some, if_pos hK.tk9, a0, a1, a2]
  rcases t2 with ⟨c1, c2, c3⟩ | ⟨c1, a, b, c2, c3, c4, c5⟩
  · rw [if_pos (by rw [c1]; rfl), if_pos c2, e579]
  · rw [if_neg (show ¬ nI (mxs (mxP v 0 1 (rb (v 8) x)) 61).1 = 0 from fun y => c1 ((nI_eq (b := 0) (by omega) (by omega)).mp y)), if_neg (fun y => by rw [c4, c5, i_lt, nI_toInt (by omega), nI_toInt (by omega)] at y; omega), e579]
end AR
