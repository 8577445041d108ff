/-! the first check of the law: customers, prizes and what is added up of them -/
section HO
variable {B : Int} {L : hL} {X : hX} {nn cc pc : Nat} {v : Nat → Int32}
abbrev fP (v : Nat → Int32) : Nat → Int32 := fun c => v (16 + 6 * c)
abbrev fK (v : Nat → Int32) : Nat → Int32 := fun c => v (52 + 7 * c + 2)
theorem h_53 (hK : KS L X nn v) (hv : RV B v v cc pc) {c : Nat} (hc : c < cc) (k12 : Nat → Int32 → Int32 → Int32 → Int32 → Int32 → hX → Option (Int32 × hX)) (p st s0 s1 : Int32) : f_L_holds_53 L k12 0 p st (nI c) s0 s1 X = k12 0 p st (s1 + s0) 1 (nI c + 1) X := by
  have hp0 := (hv.C c hc).1
  have hm := hv.1.2.1
  obtain ⟨⟨t1, t2⟩, ⟨t3, t4⟩, t5, t6⟩ := sst_i hm hv.P hp0.1 pc (Nat.le_refl _)
  have s_0 : f_X9_shop L X 0 (nI c) 0 = some (sst v pc (v (16 + 6 * c)) pc).2.1 := k_shop hK hv hc (by decide)
  have s_1 : f_X9_shop L X 0 (nI c) 1 = some (sst v pc (v (16 + 6 * c)) pc).1 := k_shop hK hv hc (by decide)
  have s_2 : f_X9_shop L X 0 (nI c) 2 = some (sst v pc (v (16 + 6 * c)) pc).2.2 := k_shop hK hv hc (by decide)
  have n1 : ¬ v (16 + 6 * c) < 0 := fun q => by rw [i_lt0] at q; omega
  have n2 : ¬ (sst v pc (v (16 + 6 * c)) pc).1 < 0 := fun q => by rw [i_lt0] at q; omega
  have n3 : ¬ v (16 + 6 * c) < (sst v pc (v (16 + 6 * c)) pc).1 := fun q => by rw [i_lt] at q; omega
  have iff0 : (sst v pc (v (16 + 6 * c)) pc).2.1 = 0 ↔ (sst v pc (v (16 + 6 * c)) pc).2.2 = 0 := by
    rw [i_eq, i_eq, z0i]
    omega
  unfold f_L_holds_53
  simp only [k_cu0 hK hv hc, s_0, s_1, Option.bind_some, if_pos hK.tk9, if_neg n1, if_neg n2, if_neg n3]
  by_cases q : (sst v pc (v (16 + 6 * c)) pc).2.1 = 0
  · have q2 := iff0.mp q
    rw [if_pos q]
    unfold f_L_holds_107
    rw [s_2, Option.bind_some, if_pos hK.tk9, if_pos q2]
    unfold f_L_holds_122
    rw [if_pos rfl]
    rfl
  · have q2 : ¬ (sst v pc (v (16 + 6 * c)) pc).2.2 = 0 := fun z => q (iff0.mpr z)
    rw [if_neg q]
    unfold f_L_holds_107
    rw [s_2, Option.bind_some, if_pos hK.tk9, if_neg q2]
    unfold f_L_holds_122
    rw [if_pos rfl]
    rfl
theorem h_12 (hK : KS L X nn v) (hv : RV B v v cc pc) : ∀ (d c m : Nat), c + d = cc → d < m → f_L_holds_12 L m 0 (smx (fP v) c) 0 (smx (kp v) c) 1 (nI c) X = f_L_holds_138 L 0 (smx (fP v) cc) 0 (smx (kp v) cc) 1 X := by
  have hcc := hv.1.1
  have e14 := hv.1.2.2.2.1
  intro d
  induction d with
  | zero =>
    intro c m hc hm
    obtain rfl : c = cc := by omega
    obtain ⟨m, rfl⟩ : ∃ z, m = z + 1 := ⟨m - 1, by omega⟩
    unfold f_L_holds_12
    rw [k_c5 hK, Option.bind_some, if_pos hK.tk9, e14, if_pos ((nle (by omega) (by omega)).mpr (Nat.le_refl _))]
  | succ d ih =>
    intro c m hc hm
    obtain ⟨m, rfl⟩ : ∃ z, m = z + 1 := ⟨m - 1, by omega⟩
    have hlt : c < cc := by omega
    unfold f_L_holds_12
    rw [k_c5 hK, Option.bind_some, if_pos hK.tk9, e14, if_neg (nge (by omega) (by omega) hlt), if_neg (show ¬ (1 : Int32) = 0 by decide), k_cu0 hK hv hlt, Option.bind_some, k_cu1 hK hv hlt, Option.bind_some]
    by_cases q : v (16 + 6 * c + 1) = 0
    · rw [if_pos q, if_neg (show ¬ (0 : Int32) ≤ -100009 by decide), h_53 hK hv hlt, n1]
      have e : smx (kp v) c + 0 = smx (kp v) (c + 1) := by
        show _ = smx (kp v) c + kp v c
        unfold kp
        rw [if_pos q]
      rw [e]
      exact ih (c + 1) m (by omega) (by omega)
    · obtain ⟨-, q' | ⟨-, ⟨j, hj, ek⟩, -⟩⟩ := hv.C c hlt
      · exact absurd q' q
      · rw [if_neg q, ek, if_pos (nI_pos' (by omega)), h_53 hK hv hlt, n1]
        have e : smx (kp v) c + 1 = smx (kp v) (c + 1) := by
          show _ = smx (kp v) c + kp v c
          unfold kp
          rw [if_neg q]
        rw [e]
        exact ih (c + 1) m (by omega) (by omega)
theorem h_141 (hv : RV B v v cc pc) (P K : Int32) : ∀ (d p m : Nat) (X : hX), KS L X nn v → p + d = pc → d < m → ∃ X', KS L X' nn v ∧ f_L_holds_141 L m 0 P (smx (fK v) p) K 1 (nI p) X = f_L_holds_240 L 0 P (smx (fK v) pc) K 1 X' := by
  have hpc := hv.1.2.1
  have e15 := hv.1.2.2.2.2.1
  intro d
  induction d with
  | zero =>
    intro p m X hK hp hm
    obtain rfl : p = pc := by omega
    obtain ⟨m, rfl⟩ : ∃ z, m = z + 1 := ⟨m - 1, by omega⟩
    refine ⟨X, hK, ?_⟩
    unfold f_L_holds_141
    rw [k_c6 hK, Option.bind_some, if_pos hK.tk9, e15, if_pos ((nle (by omega) (by omega)).mpr (Nat.le_refl _))]
  | succ d ih =>
    intro p m X hK hp hm
    obtain ⟨m, rfl⟩ : ∃ z, m = z + 1 := ⟨m - 1, by omega⟩
    have hlt : p < pc := by omega
    obtain ⟨X1, x1, hK1⟩ := k_sold hK hv hlt
    obtain ⟨X', hK', e'⟩ := ih (p + 1) m X1 hK1 (by omega) (by omega)
    refine ⟨X', hK', ?_⟩
    have hR := hv.P p hlt
    have n1' : ¬ v (52 + 7 * p + 2) < 0 := fun q => by rw [i_lt0] at q; have := hR.2.2.1.1; omega
    have n2 : ¬ 99 < v (52 + 7 * p + 2) := fun q => by rw [i_lt, show (99 : Int32).toInt = 99 by decide] at q; have := hR.2.2.1.2; omega
    have n3 : ¬ v (52 + 7 * p + 3) ≤ v (52 + 7 * p + 5) := fun q => by rw [i_le] at q; have := hR.2.2.2.2.2.2; omega
    have go : ∀ s : Int32, f_L_holds_224 L (f_L_holds_141 L m) 0 P (smx (fK v) p + v (52 + 7 * p + 2)) K (nI p) s s X1 = f_L_holds_240 L 0 P (smx (fK v) pc) K 1 X' := fun s => by
      unfold f_L_holds_224
      rw [if_pos rfl]
      show f_L_holds_141 L m 0 P (smx (fK v) p + v (52 + 7 * p + 2)) K 1 (nI p + 1) X1 = _
      rw [n1]
      exact e'
    unfold f_L_holds_141
    rw [k_c6 hK, Option.bind_some, if_pos hK.tk9, e15, if_neg (nge (by omega) (by omega) hlt), if_neg (show ¬ (1 : Int32) = 0 by decide), k_pr2 hK hv hlt, Option.bind_some, if_neg n1', if_neg n2, k_pr5 hK hv hlt, Option.bind_some, k_pr3 hK hv hlt, Option.bind_some, if_neg n3, x1, Option.bind_some]
    by_cases q : v (52 + 7 * p + 2) = 0
    · rw [if_pos ((soL_0 _ _).mpr q)]
      unfold f_L_holds_214
      rw [if_pos q]
      exact go 1
    · rw [if_neg (fun z => q ((soL_0 _ _).mp z))]
      unfold f_L_holds_214
      rw [if_neg q]
      exact go 0
/-- what the law knows of the sums of rules -/
theorem gv_6 (hv : RV B v v cc pc) (u : Int32) : gvs v u 6 = gvs v u cc := by
  have hcc := hv.1.1
  have e := gvs_z (v := v) (u := u) (cc := cc) hv.zk (6 - cc) (by omega)
  rwa [show cc + (6 - cc) = 6 by omega] at e
theorem gv_bb (hv : RV B v v cc pc) (h4 : RL4 v) (hc4 : cc ≤ 4) {u s : Int32} (h : gvs v u 6 = some s) : -40000 ≤ s.toInt ∧ s.toInt ≤ 40000 := by
  rw [gv_6 hv] at h
  have := gvs_bb hv.S h4 cc hc4 hv.C s h
  omega
theorem gv_ne (hv : RV B v v cc pc) {u s : Int32} (h : gvs v u 6 = some s) : ¬ gvr (gvs v u 6) = -100009 := by
  have h' := h
  rw [gv_6 hv] at h'
  rw [h]
  exact (gvr_ne hv.S hv.1.1 hv.C h').1
theorem h_358 (hK : KS L X nn v) (hv : RV B v v cc pc) (s0 : Int32) (h0 : s0 = 0 ↔ gvs v 1 6 = none) (h1 : s0 = 0 ∨ s0 = 1) : f_L_holds_358 L 0 s0 X = some (1, X) := by
  unfold f_L_holds_358
  rw [k_would hK hv (by decide), Option.bind_some, if_pos hK.tk9]
  cases hg : gvs v 1 6 with
  | none =>
    rw [if_pos (show gvr none = -100009 from rfl), if_pos (h0.mpr hg)]
  | some s =>
    have hne := gv_ne hv hg
    rw [hg] at hne
    rw [if_neg hne]
    rcases h1 with h1 | h1
    · rw [h0.mp h1] at hg; cases hg
    · rw [if_pos h1]
theorem h_313 (hK : KS L X nn v) (hv : RV B v v cc pc) (best : Int32) (hb : best < 0 ↔ gvs v 1 6 = none) : f_L_holds_313 L 0 (smx (fP v) cc) (smx (fK v) pc) (smx (kp v) cc) 1 best X = some (1, X) := by
  have hcc := hv.1.1
  have e9 : smx (fP v) 6 = smx (fP v) cc := hv.pts
  have e10 : smx (fK v) 6 = smx (fK v) pc := hv.stks
  have e7 : smx (kp v) 6 = smx (kp v) cc := by
    have := smx_cut (f := kp v) (g := kp v) (n := cc) (fun i hi => rfl) (6 - cc) (fun i h1 h2 => by unfold kp; rw [if_pos (hv.zk i h1 (by omega))])
    rwa [show cc + (6 - cc) = 6 by omega] at this
  unfold f_L_holds_313
  rw [if_neg (show ¬ (1 : Int32) = 0 by decide), k_c9 hK, Option.bind_some, if_pos hK.tk9, if_pos e9.symm, k_c10 hK, Option.bind_some, if_pos e10.symm, k_c7 hK, Option.bind_some, if_pos e7.symm]
  by_cases q : best < 0
  · rw [if_pos q]
    exact h_358 hK hv 0 ⟨fun _ => hb.mp q, fun _ => rfl⟩ (Or.inl rfl)
  · rw [if_neg q]
    exact h_358 hK hv 1 ⟨fun z => absurd z (by decide), fun z => absurd (hb.mpr z) q⟩ (Or.inr rfl)
theorem h_249 (hK : KS L X nn v) (hv : RV B v v cc pc) (h4 : RL4 v) (hc4 : cc ≤ 4) (P S K : Int32) {b : Nat} {t : Int32} (hb : b < 4) (ht : gvs v (nI b) 6 = some t) (hq : ∀ q, q < 4 → ∃ s, gvs v (nI q) 6 = some s ∧ (ab0 t).toInt ≤ (ab0 s).toInt) : ∀ (d k m : Nat), k + d = 4 → d < m → f_L_holds_249 L m 0 P S K 1 (nI b) (nI k) X = f_L_holds_313 L 0 P S K 1 (nI b) X := by
  intro d
  induction d with
  | zero =>
    intro k m hk hm
    obtain rfl : k = 4 := by omega
    obtain ⟨m, rfl⟩ : ∃ z, m = z + 1 := ⟨m - 1, by omega⟩
    unfold f_L_holds_249
    rw [if_pos (show (4 : Int32) ≤ nI 4 by decide)]
  | succ d ih =>
    intro k m hk hm
    obtain ⟨m, rfl⟩ : ∃ z, m = z + 1 := ⟨m - 1, by omega⟩
    obtain ⟨s, s1, s2⟩ := hq k (by omega)
    have a := gv_bb hv h4 hc4 ht
    have c := gv_bb hv h4 hc4 s1
    unfold f_L_holds_249
    rw [if_neg (show ¬ (4 : Int32) ≤ nI k from nge (n := 4) (by omega) (by omega) (by omega)), if_neg (show ¬ (1 : Int32) = 0 by decide), if_neg (fun q => by rw [i_lt0, nI_toInt (by omega)] at q; omega), k_would hK hv (le3 hb), Option.bind_some, if_pos hK.tk9, k_would hK hv (le3 (show k < 4 by omega)), Option.bind_some, ht, s1]
    show (if (100000 + s - 100000) * (100000 + s - 100000) < (100000 + t - 100000) * (100000 + t - 100000) then _ else _) = _
    rw [hun, hun, if_neg (sq_le a c s2)]
    show f_L_holds_249 L m 0 P S K 1 (nI b) (nI k + 1) X = _
    rw [n1]
    exact ih (k + 1) m (by omega) (by omega)
theorem h_240 (hK : KS L X nn v) (hv : RV B v v cc pc) (h4 : RL4 v) (hc4 : cc ≤ 4) : f_L_holds_240 L 0 (smx (fP v) cc) (smx (fK v) pc) (smx (kp v) cc) 1 X = some (1, X) := by
  unfold f_L_holds_240
  rw [k_fairest hK hv, Option.bind_some, if_pos hK.tk9]
  rcases fz_sp (G := fun u => gvs v u 6) 4 0 (-100009) rfl (Or.inl ⟨rfl, rfl⟩) with ⟨e, q, q1, q2⟩ | ⟨b, t, b1, b2, b3, b4⟩
  · rw [e]
    have hn : gvs v 1 6 = none := by
      have q2 : gvs v (nI q) 6 = none := q2
      rw [gv_6 hv] at q2 ⊢
      exact gvs_ni hv.S _ _ cc hv.C q2
    have e0 : f_L_holds_249 L u_fuel 0 (smx (fP v) cc) (smx (fK v) pc) (smx (kp v) cc) 1 (-100009) 0 X = f_L_holds_313 L 0 (smx (fP v) cc) (smx (fK v) pc) (smx (kp v) cc) 1 (-100009) X := by
      show f_L_holds_249 L (2999 + 1) 0 _ _ _ 1 (-100009) 0 X = _
      unfold f_L_holds_249
      rw [if_neg (show ¬ (4 : Int32) ≤ 0 by decide), if_neg (show ¬ (1 : Int32) = 0 by decide), if_pos (show (-100009 : Int32) < 0 by decide)]
    rw [e0]
    exact h_313 hK hv _ ⟨fun _ => hn, fun _ => by decide⟩
  · rw [b2]
    have e0 := h_249 hK hv h4 hc4 (smx (fP v) cc) (smx (fK v) pc) (smx (kp v) cc) b1 b3 b4 4 0 u_fuel rfl (by unfold u_fuel; omega)
    have e1 : f_L_holds_249 L u_fuel 0 (smx (fP v) cc) (smx (fK v) pc) (smx (kp v) cc) 1 (nI b) 0 X = _ := e0
    rw [e1]
    obtain ⟨s, s1, -⟩ := b4 1 (by omega)
    have s1 : gvs v 1 6 = some s := s1
    exact h_313 hK hv _ ⟨fun q => by rw [i_lt0, nI_toInt (by omega)] at q; omega, fun q => by rw [s1] at q; cases q⟩
theorem lq_holds (hK : KS L X nn v) (hv : RV B v v cc pc) (h4 : RL4 v) (hc4 : cc ≤ 4) : ∃ X', f_L_holds L X 0 = some (1, X') ∧ KS L X' nn v := by
  have hcc := hv.1.1
  have hpc := hv.1.2.1
  unfold f_L_holds
  have e := h_12 hK hv cc 0 u_fuel (by omega) (by unfold u_fuel; omega)
  have e : f_L_holds_12 L u_fuel 0 0 0 0 1 0 X = f_L_holds_138 L 0 (smx (fP v) cc) 0 (smx (kp v) cc) 1 X := e
  rw [e]
  obtain ⟨X', hK', e'⟩ := h_141 hv (smx (fP v) cc) (smx (kp v) cc) pc 0 u_fuel X hK (by omega) (by unfold u_fuel; omega)
  have e' : f_L_holds_138 L 0 (smx (fP v) cc) 0 (smx (kp v) cc) 1 X = f_L_holds_240 L 0 (smx (fP v) cc) (smx (fK v) pc) (smx (kp v) cc) 1 X' := e'
  rw [e', h_240 hK' hv h4 hc4]
  exact ⟨X', rfl, hK'⟩
end HO
