/-! the law from its place 8 to its end -/
theorem and_nn (a : Int32) : 0 ≤ (a &&& 2147483647).toInt := by
  have h1 : (a &&& 2147483647).toBitVec.msb = (a.toBitVec.msb && (2147483647 : Int32).toBitVec.msb) := by
    rw [Int32.toBitVec_and, BitVec.msb_and]
  rw [show (2147483647 : Int32).toBitVec.msb = false by decide, Bool.and_false, BitVec.msb_eq_toInt, Int32.toInt_toBitVec] at h1
  have := of_decide_eq_false h1
  omega
theorem n6p (j : Nat) : (6 : Int32) + nI j = nI (6 + j) := nI_add 6 j
/-- the numbers behind a new prize -/
theorem op_vA (v : Nat → Int32) {k : Nat} (hk : k < 6) (e15 : v 15 = nI k) {a1 a2 a3 a4 a5 : Int32} (hc : (1 ≤ a1 ∧ a1 ≤ 5000) ∧ (1 ≤ a2 ∧ a2 ≤ 20000) ∧ (0 ≤ a3 ∧ a3 ≤ 99) ∧ (1 ≤ a4 ∧ a4 ≤ 100000) ∧ 1 ≤ a5 ∧ a5 ≤ 100000) : ∃ u, op_adds v k a1 a2 a3 a4 a5 = (nI k, u) ∧ u 15 = nI (k + 1) ∧ ∀ i, i < 52 → i ≠ 15 → u i = v i := by
  unfold op_adds
  rw [if_pos hc, if_neg (by omega), e15, n1, nm1']
  exact ⟨_, rfl, pk_us, fun i hi h => by simp (disch := omega) only [pk_un]⟩
section LW
variable {B : Int} {L : hL} {X : hX} {nn : Nat} {v : Nat → Int32} {xs : Nat → Int32} {Ln : Nat}
theorem cell_ok (hL : Ln ≤ 260) {k : Nat} (hk : k < 1000) : ∃ r, f_L_cell L xs Ln X (nI k) = some r ∧ 0 ≤ r.toInt := by
  unfold f_L_cell
  by_cases c : Int32.ofNat Ln ≤ nI k
  · rw [if_pos c]
    exact ⟨_, rfl, and_nn _⟩
  · have hlt : k < Ln := by
      have : ¬ Ln ≤ k := fun q => c ((nle (i := k) (n := Ln) (by omega) (by omega)).mpr q)
      omega
    rw [if_neg c, if_pos (hin_nI hlt (by omega))]
    exact ⟨_, rfl, and_nn _⟩
theorem l_657 (hK : KS L X nn v) (hI : LI B v) : f_L_law_657 L xs Ln 0 1 X = some 1 := by
  obtain ⟨hv, hw, h4⟩ := hI
  have hn5 := hK.n5
  have hop : op_drop v 4 0 = (v (16 + 6 * 0), (op_drop v 4 0).2) := by
    unfold op_drop
    rw [if_pos (show isR 0 4 by decide)]
    rfl
  obtain ⟨X1, s1, -, s3⟩ := ka_leave hK hv 0
  have hp := (hv.C 0 (by omega)).1
  rw [hop] at s1 s3
  have hP : KP L X1 (if nn < 5 then nn + 1 else 5) (op_drop v 4 0).2 v := s3 (fun q => by
    have q : v (16 + 6 * 0) ≤ -100001 := q
    rw [i_le, show (-100001 : Int32).toInt = -100001 by decide] at q
    omega)
  obtain ⟨X2, u1, u2⟩ := k_undo hP
  obtain ⟨X3, h1, h2⟩ := lq_holds u2 hv h4 (by omega)
  have e746 : f_L_law_746 L xs Ln 0 1 X2 = some 1 := by
    unfold f_L_law_746
    rw [if_neg (show ¬ (1 : Int32) = 0 by decide), h1, Option.bind_some]
    rfl
  have c5 : f_X9_count L X2 0 5 = some 4 := by rw [k_c5 u2, hv.1.2.2.2.1]; rfl
  have e708 : ∀ s : Int32, f_L_law_708 L xs Ln 0 (smx (fun c => v (16 + 6 * c)) 6) (v 13) s s X2 = some 1 := fun s => by
    unfold f_L_law_708
    rw [if_pos rfl, k_c9 u2, Option.bind_some, if_pos u2.tk9, if_pos rfl, k_c8 u2, Option.bind_some, if_pos rfl, c5, Option.bind_some, if_pos rfl, e746]
  unfold f_L_law_657
  rw [k_c9 hK, Option.bind_some, if_pos hK.tk9, k_c8 hK, Option.bind_some, k_c12 hK, Option.bind_some, if_neg (show ¬ (1 : Int32) = 0 by decide), s1, Option.bind_some]
  show (if v (16 + 6 * 0) < 0 then _ else (f_X9_undo L X1 0).bind fun r96 => if 5 ≤ nI nn then f_L_law_708 L xs Ln 0 (smx (fun c => v (16 + 6 * c)) 6) (v 13) 4 r96.1 r96.2 else f_L_law_708 L xs Ln 0 (smx (fun c => v (16 + 6 * c)) 6) (v 13) (nI nn) r96.1 r96.2) = _
  rw [if_neg (fun q => by rw [i_lt0] at q; omega), u1, Option.bind_some]
  by_cases c : nn < 5
  · rw [if_neg (show ¬ (5 : Int32) ≤ nI nn from nge (n := 5) (by omega) (by omega) c)]
    show f_L_law_708 L xs Ln 0 _ (v 13) (nI nn) (nI ((if nn < 5 then nn + 1 else 5) - 1)) X2 = some 1
    rw [if_pos c, show nn + 1 - 1 = nn from rfl]
    exact e708 _
  · obtain rfl : nn = 5 := by omega
    rw [if_pos (show (5 : Int32) ≤ nI 5 by decide)]
    exact e708 4
theorem l_189 (hL : Ln ≤ 260) : ∀ (d i m nn : Nat) (X : hX) (v : Nat → Int32), i + d = 24 → d < m → KS L X nn v → LI (9999 + 1600 * (i : Int)) v → f_L_law_189 L xs Ln m 0 1 (nI i) X = some 1 := by
  intro d
  induction d with
  | zero =>
    intro i m nn X v hi hm hK hI
    obtain rfl : i = 24 := by omega
    obtain ⟨m, rfl⟩ : ∃ z, m = z + 1 := ⟨m - 1, by omega⟩
    unfold f_L_law_189
    rw [if_pos (show (24 : Int32) ≤ nI 24 by decide)]
    exact l_657 hK hI
  | succ d ih =>
    intro i m nn X v hi hm hK hI
    obtain ⟨m, rfl⟩ : ∃ z, m = z + 1 := ⟨m - 1, by omega⟩
    obtain ⟨y, ey, hy⟩ := cell_ok (L := L) (X := X) (xs := xs) hL (k := 6 + i) (by omega)
    have i8 : (8 : Int32).toInt = 8 := by decide
    obtain ⟨-, y8⟩ := i_mod (a := y) (b := 8) hy (by rw [i8]; omega)
    rw [i8] at y8
    have hz : 0 ≤ (y / 8).toInt := by rw [y8]; omega
    obtain ⟨c, hc, ec⟩ := mod_of (a := y / 8) (b := nI 4) (k := 4) hz (by omega) (by omega) (by decide)
    have hcnt : f_X9_count L X 0 5 = some (nI 4) := by rw [k_c5 hK, hI.1.1.2.2.2.1]
    have go : ∀ {o : Option Int32}, (∃ X' n' v', o = f_L_law_189 L xs Ln m 0 1 (nI i + 1) X' ∧ KS L X' n' v' ∧ LI (9999 + 1600 * (i : Int) + 1600) v') → o = some 1 := fun ⟨X', n', v', e, hK', hI'⟩ => by
      rw [e, n1]
      exact ih (i + 1) m n' X' v' (by omega) (by omega) hK' (hI'.mono (by omega))
    unfold f_L_law_189
    rw [if_neg (show ¬ (24 : Int32) ≤ nI i from nge (n := 24) (by omega) (by omega) (by omega)), if_neg (show ¬ (1 : Int32) = 0 by decide), n6p, ey, Option.bind_some, hcnt, Option.bind_some, if_pos hK.tk9, if_pos (show ¬ nI 4 = 0 by decide), ec]
    by_cases t0 : y - y / 8 * 8 = 0
    · rw [if_pos t0]
      exact go (q_268 hK hI _ _ hz)
    · rw [if_neg t0]
      by_cases t1 : y - y / 8 * 8 = 1
      · rw [if_pos t1]
        exact go (q_300 hK hI _ _ hz)
      · rw [if_neg t1]
        by_cases t2 : y - y / 8 * 8 = 2
        · rw [if_pos t2]
          exact go (q_316 hK hI _ _ hz)
        · rw [if_neg t2]
          by_cases t3 : y - y / 8 * 8 = 3
          · rw [if_pos t3]
            exact go (q_374 hK hI (by omega) (by omega) _ _ hz hc)
          · rw [if_neg t3]
            by_cases t4 : y - y / 8 * 8 = 4
            · rw [if_pos t4]
              exact go (q_389 hK hI (by omega) _ _ hz hc)
            · rw [if_neg t4]
              by_cases t5 : y - y / 8 * 8 = 5
              · rw [if_pos t5]
                exact go (q_491 hK hI _ _ hz)
              · rw [if_neg t5]
                exact go (q_583 hK hI (by omega) _ _ hz hc)
/-- the numbers while the first four rows are made -/
def LJ (k : Nat) (v : Nat → Int32) : Prop := RV 9999 v v k k ∧ (∀ j, j < 4 → (v j).toInt ≤ 1599) ∧ (∀ j, k ≤ j → j < 4 → v j = 1000) ∧ v 10 = 0 ∧ ∀ c, c < 6 → v (16 + 6 * c + 1) = 0
theorem LJ.r4 {k : Nat} (h : LJ k v) : RL4 v := fun c hc q => absurd (h.2.2.2.2 c hc) q
theorem l_143 (hL : Ln ≤ 260) (hK : KS L X nn v) (hJ : LJ 4 v) : f_L_law_143 L xs Ln 0 1 X = some 1 := by
  obtain ⟨hv, hw, -, h10, hz⟩ := hJ
  obtain ⟨y4, e4, hy4⟩ := cell_ok (L := L) (X := X) (xs := xs) hL (k := 4) (by omega)
  obtain ⟨y5, e5, hy5⟩ := cell_ok (L := L) (X := X) (xs := xs) hL (k := 5) (by omega)
  have e4 : f_L_cell L xs Ln X 4 = some y4 := e4
  have e5 : f_L_cell L xs Ln X 5 = some y5 := e5
  obtain ⟨a, ha, ea⟩ := mod_of (a := y4) (b := 600) (k := 600) hy4 (by omega) (by omega) (by decide)
  obtain ⟨b, hb, eb⟩ := mod_of (a := y5) (b := 400) (k := 400) hy5 (by omega) (by omega) (by decide)
  have nA : (1 + nI a).toInt = 1 + (a : Int) := by rw [i_add (by rw [z1i, nI_toInt (by omega)]; omega) (by rw [z1i, nI_toInt (by omega)]; omega), z1i, nI_toInt (by omega)]
  have hop : op_scales v (1 + nI a) (nI b) = (0, upd (upd (upd v 8 (1 + nI a)) 9 (nI b)) 10 0) := by
    have ec : clampB (v 10) (nI b) = 0 := by
      unfold clampB
      rw [h10, if_pos (nI_pos' (by omega)), if_pos (by rw [i_le, i_neg (by rw [nI_toInt (by omega)]; omega), nI_toInt (by omega), z0i]; omega)]
    unfold op_scales
    rw [if_pos ⟨⟨by rw [i_le, z1i, nA]; omega, by rw [i_le, nA, show (1000 : Int32).toInt = 1000 by decide]; omega⟩, nI_pos' (by omega), by rw [i_le, nI_toInt (by omega), show (2000 : Int32).toInt = 2000 by decide]; omega⟩, ec]
  obtain ⟨X1, n1, s1, s2⟩ := kb_setScale hK hv (1 + nI a) (nI b)
  have hrv := (rv_scales hv (1 + nI a) (nI b)).2.2
  rw [hop] at s1 s2 hrv
  have s2 : KS L X1 n1 (upd (upd (upd v 8 (1 + nI a)) 9 (nI b)) 10 0) := s2
  have hI : LI 9999 (upd (upd (upd v 8 (1 + nI a)) 9 (nI b)) 10 0) := by
    refine LI.of hrv (fun j hj => ?_) ?_ ?_ (fun d hd hne => ?_)
    · show (upd (upd (upd v 8 (1 + nI a)) 9 (nI b)) 10 0 j).toInt ≤ 1599
      simp (disch := omega) only [pk_un]; exact hw j hj
    · show upd (upd (upd v 8 (1 + nI a)) 9 (nI b)) 10 0 14 = _
      simp (disch := omega) only [pk_un]; exact hv.1.2.2.2.1
    · show upd (upd (upd v 8 (1 + nI a)) 9 (nI b)) 10 0 15 = _
      simp (disch := omega) only [pk_un]; exact hv.1.2.2.2.2.1
    · have hne : upd (upd (upd v 8 (1 + nI a)) 9 (nI b)) 10 0 (16 + 6 * d + 1) ≠ 0 := hne
      simp (disch := omega) only [pk_un] at hne
      exact absurd (hz d hd) hne
  obtain ⟨X2, h1, h2⟩ := lq_holds s2 hI.1 hI.2.2 (by omega)
  unfold f_L_law_143
  rw [if_neg (show ¬ (1 : Int32) = 0 by decide), e4, Option.bind_some, e5, Option.bind_some, ea, eb, s1, Option.bind_some, if_pos hK.tk9]
  show (if (0 : Int32) = 0 then (f_L_holds L X1 0).bind fun r122 => if r122.1 = 0 then _ else f_L_law_189 L xs Ln u_fuel 0 1 (nI 0) r122.2 else _) = some 1
  rw [if_pos rfl, h1, Option.bind_some]
  show f_L_law_189 L xs Ln u_fuel 0 1 (nI 0) X2 = some 1
  exact l_189 hL 24 0 u_fuel n1 X2 _ (by omega) (by unfold u_fuel; omega) h2 (hI.mono (by omega))
theorem l_15 (hL : Ln ≤ 260) : ∀ (d k m nn : Nat) (X : hX) (v : Nat → Int32), k + d = 4 → d < m → KS L X nn v → LJ k v → f_L_law_15 L xs Ln m 0 1 (nI k) X = some 1 := by
  intro d
  induction d with
  | zero =>
    intro k m nn X v hk hm hK hJ
    obtain rfl : k = 4 := by omega
    obtain ⟨m, rfl⟩ : ∃ z, m = z + 1 := ⟨m - 1, by omega⟩
    unfold f_L_law_15
    rw [if_pos (show (4 : Int32) ≤ nI 4 by decide)]
    exact l_143 hL hK hJ
  | succ d ih =>
    intro k m nn X v hk hm hK hJ
    obtain ⟨m, rfl⟩ : ∃ z, m = z + 1 := ⟨m - 1, by omega⟩
    obtain ⟨hv, hw, h1k, h10, hz⟩ := hJ
    have hk4 : k < 4 := by omega
    obtain ⟨y, ey, hy⟩ := cell_ok (L := L) (X := X) (xs := xs) hL (k := k) (by omega)
    have dv : ∀ q : Int32, 0 < q.toInt → 0 ≤ (y / q).toInt := fun q hq => by
      rw [(i_mod (a := y) (b := q) hy hq).2]
      exact Int.ediv_nonneg hy (by omega)
    obtain ⟨a1, g1, r1⟩ := mod_of (a := y) (b := 1500) (k := 1500) hy (by omega) (by omega) (by decide)
    obtain ⟨a2, g2, r2⟩ := mod_of (a := y / 2048) (b := 51) (k := 51) (dv _ (by decide)) (by omega) (by omega) (by decide)
    obtain ⟨a3, g3, r3⟩ := mod_of (a := y) (b := 5000) (k := 5000) hy (by omega) (by omega) (by decide)
    obtain ⟨a4, g4, r4⟩ := mod_of (a := y) (b := 90) (k := 90) hy (by omega) (by omega) (by decide)
    obtain ⟨a5, g5, r5⟩ := mod_of (a := y / 128) (b := 500) (k := 500) (dv _ (by decide)) (by omega) (by omega) (by decide)
    obtain ⟨a6, g6, r6⟩ := mod_of (a := y / 65536) (b := 60) (k := 60) (dv _ (by decide)) (by omega) (by omega) (by decide)
    obtain ⟨a7, g7, r7⟩ := mod_of (a := y / 64) (b := 3000) (k := 3000) (dv _ (by decide)) (by omega) (by omega) (by decide)
    obtain ⟨a8, g8, r8⟩ := mod_of (a := y / 16) (b := 5000) (k := 5000) (dv _ (by decide)) (by omega) (by omega) (by decide)
    have p1 : ∀ q : Nat, q < 100000 → (1 + nI q).toInt = 1 + (q : Int) := fun q hq => by rw [i_add (by rw [z1i, nI_toInt (by omega)]; omega) (by rw [z1i, nI_toInt (by omega)]; omega), z1i, nI_toInt (by omega)]
    have p100 : (100 + nI a1).toInt = 100 + (a1 : Int) := by rw [i_add (by rw [show (100 : Int32).toInt = 100 by decide, nI_toInt (by omega)]; omega) (by rw [show (100 : Int32).toInt = 100 by decide, nI_toInt (by omega)]; omega), show (100 : Int32).toInt = 100 by decide, nI_toInt (by omega)]
    have e14 := hv.1.2.2.2.1
    have e15 := hv.1.2.2.2.2.1
    -- the kind
    have o1 : op_kinds v (nI k) (100 + nI a1) (nI a2) = (v k, upd (upd v k (100 + nI a1)) (4 + k) (nI a2)) := by
      unfold op_kinds
      rw [nI_clamp (show k < 2 ^ 31 by omega), if_pos ⟨le3 hk4, ⟨by rw [i_le, p100, show (100 : Int32).toInt = 100 by decide]; omega, by rw [i_le, p100, show (5000 : Int32).toInt = 5000 by decide]; omega⟩, nI_pos' (by omega), by rw [i_le, nI_toInt (by omega), show (50 : Int32).toInt = 50 by decide]; omega⟩]
    obtain ⟨X1, n1, s1, t1⟩ := kb_setKind hK hv (nI k) (100 + nI a1) (nI a2)
    have hr1 := (rv_kinds hv (nI k) (100 + nI a1) (nI a2)).2.2
    rw [o1] at s1 t1 hr1
    obtain ⟨v1, ev1⟩ : ∃ z, z = upd (upd v k (100 + nI a1)) (4 + k) (nI a2) := ⟨_, rfl⟩
    have t1 : KS L X1 n1 v1 := by rw [ev1]; exact t1
    have hr1 : ∃ n m, RV 9999 v1 v1 n m := by rw [ev1]; exact hr1
    have w14 : v1 14 = nI k := by rw [ev1, pk_un (by omega), pk_un (by omega), e14]
    have w15 : v1 15 = nI k := by rw [ev1, pk_un (by omega), pk_un (by omega), e15]
    have hv1 := RV.fix hr1 (n := k) (m := k) (by omega) (by omega) w14 w15
    -- the customer
    have o2 : op_comes v1 k (nI a3) = (nI k, upd (upd (upd v1 (16 + 6 * k) (nI a3)) (16 + 6 * k + 1) 0) 14 (nI (k + 1))) := by
      unfold op_comes
      rw [if_pos ⟨nI_pos' (by omega), by rw [i_le, nI_toInt (by omega), show (9999 : Int32).toInt = 9999 by decide]; omega⟩, if_neg (by omega), w14, nk1, nm1']
    obtain ⟨X2, n2, s2, t2⟩ := kb_come t1 hv1 (by omega) (nI a3)
    have hr2 := (rv_comes hv1 (by omega) (nI a3)).2.2
    rw [o2] at s2 t2 hr2
    obtain ⟨v2, ev2⟩ : ∃ z, z = upd (upd (upd v1 (16 + 6 * k) (nI a3)) (16 + 6 * k + 1) 0) 14 (nI (k + 1)) := ⟨_, rfl⟩
    have t2 : KS L X2 n2 v2 := by rw [ev2]; exact t2
    have hr2 : ∃ n m, RV 9999 v2 v2 n m := by rw [ev2]; exact hr2
    have u14 : v2 14 = nI (k + 1) := by rw [ev2, pk_us]
    have u15 : v2 15 = nI k := by rw [ev2, pk_un (by omega), pk_un (by omega), pk_un (by omega), w15]
    have hv2 := RV.fix hr2 (n := k + 1) (m := k) (by omega) (by omega) u14 u15
    -- the prize
    obtain ⟨v3, o3, z15, z52⟩ := op_vA v2 (k := k) (by omega) u15 (a1 := 1 + nI a4) (a2 := 1 + nI a5) (a3 := nI a6) (a4 := 1 + nI a7) (a5 := 1 + nI a8) (by
      refine ⟨⟨?_, ?_⟩, ⟨?_, ?_⟩, ⟨nI_pos' (by omega), ?_⟩, ⟨?_, ?_⟩, ?_, ?_⟩
      · rw [i_le, z1i, p1 _ (by omega)]; omega
      · rw [i_le, p1 _ (by omega), show (5000 : Int32).toInt = 5000 by decide]; omega
      · rw [i_le, z1i, p1 _ (by omega)]; omega
      · rw [i_le, p1 _ (by omega), show (20000 : Int32).toInt = 20000 by decide]; omega
      · rw [i_le, nI_toInt (by omega), show (99 : Int32).toInt = 99 by decide]; omega
      · rw [i_le, z1i, p1 _ (by omega)]; omega
      · rw [i_le, p1 _ (by omega), show (100000 : Int32).toInt = 100000 by decide]; omega
      · rw [i_le, z1i, p1 _ (by omega)]; omega
      · rw [i_le, p1 _ (by omega), show (100000 : Int32).toInt = 100000 by decide]; omega)
    obtain ⟨X3, n3, s3, t3⟩ := kb_addPrize t2 hv2 (1 + nI a4) (1 + nI a5) (nI a6) (1 + nI a7) (1 + nI a8)
    have hr3 := (rv_adds hv2 (1 + nI a4) (1 + nI a5) (nI a6) (1 + nI a7) (1 + nI a8)).2.2
    rw [o3] at s3 t3 hr3
    have t3 : KS L X3 n3 v3 := t3
    have hr3 : ∃ n m, RV 9999 v3 v3 n m := hr3
    have s1 : f_X9_setKind L X 0 (nI k) (100 + nI a1) (nI a2) = some (v k, X1) := s1
    have s2 : f_X9_come L X1 0 (nI a3) = some (nI k, X2) := s2
    have s3 : f_X9_addPrize L X2 0 (1 + nI a4) (1 + nI a5) (nI a6) (1 + nI a7) (1 + nI a8) = some (nI k, X3) := s3
    have hJ3 : LJ (k + 1) v3 := by
      have lo : ∀ j, j < 14 → v3 j = v1 j := fun j hj => by
        rw [z52 j (by omega) (by omega), ev2, pk_un (by omega), pk_un (by omega), pk_un (by omega)]
      refine ⟨RV.fix hr3 (by omega) (by omega) (by rw [z52 14 (by omega) (by omega), u14]) z15, fun j hj => ?_, fun j hj hj4 => ?_, ?_, fun c hc => ?_⟩
      · rw [lo j (by omega), ev1, pk_un (by omega)]
        by_cases cj : j = k
        · subst cj
          rw [pk_us, p100]
          omega
        · rw [pk_un cj]
          exact hw j hj
      · rw [lo j (by omega), ev1, pk_un (by omega), pk_un (by omega)]
        exact h1k j (by omega) hj4
      · rw [lo 10 (by omega), ev1, pk_un (by omega), pk_un (by omega)]
        exact h10
      · rw [z52 (16 + 6 * c + 1) (by omega) (by omega), ev2, pk_un (by omega)]
        by_cases ck : c = k
        · subst ck
          rw [pk_us]
        · rw [pk_un (by omega), pk_un (by omega), ev1, pk_un (by omega), pk_un (by omega)]
          exact hz c hc
    unfold f_L_law_15
    rw [if_neg (show ¬ (4 : Int32) ≤ nI k from nge (n := 4) (by omega) (by omega) hk4), if_neg (show ¬ (1 : Int32) = 0 by decide), ey, Option.bind_some, r1, r2, s1, Option.bind_some, if_pos hK.tk9, if_pos (h1k k (Nat.le_refl _) hk4), r3, s2, Option.bind_some, if_pos rfl, r4, r5, r6, r7, r8, s3, Option.bind_some, if_pos rfl]
    show f_L_law_15 L xs Ln m 0 1 (nI k + 1) X3 = some 1
    rw [nk1]
    exact ih (k + 1) m n3 X3 v3 (by omega) (by omega) t3 hJ3
/-- from the object as it is made -/
theorem l_8 (hL : Ln ≤ 260) (hK : KS L X nn v) (hJ : LJ 0 v) : f_L_law_8 L xs Ln 0 X = some 1 := by
  obtain ⟨X1, e1, hK1⟩ := lq_holds hK hJ.1 hJ.r4 (by omega)
  unfold f_L_law_8
  rw [e1, Option.bind_some]
  exact l_15 hL 4 0 u_fuel nn X1 v rfl (by unfold u_fuel; omega) hK1 hJ
end LW
