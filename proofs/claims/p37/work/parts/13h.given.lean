/-! what a rule would have given, and the fairest rule -/
def gvs (v : Nat → Int32) (u : Int32) : Nat → Option Int32
  | 0 => some 0
  | c + 1 => (gvs v u c).bind fun s => if v (16 + 6 * c + 1) = 0 then some s else if gs v (v (16 + 6 * c + 4)) (v (16 + 6 * c + 2)).toNatClampNeg u = -100009 then none else some (s + (gs v (v (16 + 6 * c + 4)) (v (16 + 6 * c + 2)).toNatClampNeg u - v (16 + 6 * c + 3)))
theorem gvs_none {v : Nat → Int32} {u : Int32} {i : Nat} (h : gvs v u i = none) : ∀ d, gvs v u (i + d) = none := by
  intro d
  induction d with
  | zero => exact h
  | succ d ih =>
    show (gvs v u (i + d)).bind _ = none
    rw [ih]
    rfl
theorem gs_r {v : Nat → Int32} {r : Int32} {j : Nat} (h : RgS v) (hr : rdg r) (hj : j < 4) (u : Int32) (hn : gs v r j u ≠ -100009) : 0 ≤ (gs v r j u).toInt ∧ (gs v r j u).toInt ≤ 100000 := by
  have a := gl_0 h hr hj
  have b := gg_0 h hr hj
  by_cases hl : gl v r j ≤ gg v r j
  · have c := i_le.mp hl
    unfold gs
    rw [if_pos hl]
    by_cases u1 : u = 1
    · rw [if_pos u1]; omega
    · rw [if_neg u1]
      by_cases u2 : u = 2
      · rw [if_pos u2]; omega
      · rw [if_neg u2]
        by_cases u3 : u = 3
        · have e := i_add (a := gl v r j) (b := gg v r j) (by omega) (by omega)
          rw [if_pos u3, fl_div (by omega) (by rw [z2i]; omega), fl_i (by rw [z2i]; omega), z2i, e]
          omega
        · rw [if_neg u3]
          by_cases d1 : gn v r j < gg v r j
          · have d1' := i_lt.mp d1
            rw [if_pos d1]
            by_cases d2 : gl v r j < gn v r j
            · have d2' := i_lt.mp d2
              rw [if_pos d2]; omega
            · rw [if_neg d2]; omega
          · rw [if_neg d1]
            by_cases d2 : gl v r j < gg v r j
            · rw [if_pos d2]; omega
            · rw [if_neg d2]; omega
  · exact absurd (by unfold gs; rw [if_neg hl]) hn
theorem gvs_b {v : Nat → Int32} {u : Int32} {B : Int} (hS : RgS v) : ∀ (n : Nat), n ≤ 6 → (∀ c, c < n → RgC B v c) → ∀ s, gvs v u n = some s → -(n * 500 : Int) ≤ s.toInt ∧ s.toInt ≤ n * 100000 := by
  intro n
  induction n with
  | zero =>
    intro _ _ s hs
    obtain rfl := Option.some.inj hs
    rw [z0i]; omega
  | succ n ih =>
    intro hn hC s hs
    have hs : (gvs v u n).bind _ = some s := hs
    obtain ⟨t, ht, hs⟩ := hx_bind hs
    have hb := ih (by omega) (fun c hc => hC c (by omega)) t ht
    by_cases hk : v (16 + 6 * n + 1) = 0
    · rw [if_pos hk] at hs
      obtain rfl := Option.some.inj hs
      omega
    · rw [if_neg hk] at hs
      obtain ⟨-, hk' | ⟨-, ⟨j, hj, ek⟩, hct, hrd, -⟩⟩ := hC n (by omega)
      · exact absurd hk' hk
      · rw [ek, nI_clamp (show j < 2 ^ 31 by omega)] at hs
        by_cases hg : gs v (v (16 + 6 * n + 4)) j u = -100009
        · rw [if_pos hg] at hs; cases hs
        · rw [if_neg hg] at hs
          have hr := gs_r hS hrd hj u hg
          obtain rfl := Option.some.inj hs
          have e1 := i_sub (a := gs v (v (16 + 6 * n + 4)) j u) (b := v (16 + 6 * n + 3)) (by omega) (by omega)
          rw [i_add (by omega) (by omega), e1]
          omega
def gvr (o : Option Int32) : Int32 := o.elim (-100009) (fun s => 100000 + s)
def gvm (o : Option Int32) : Int32 := o.elim (-100009) id
section GV
variable {L : hL} {X : hX} {b : Nat} {π ρ : Nat → Nat} {v : Nat → Int32}
theorem c_given_l (h : CX L X b π ρ v) (hS : RgS v) {B : Int} {cc : Nat} (hcc : cc ≤ 6) (hC : ∀ c, c < cc → RgC B v c) (hZ : ∀ c, cc ≤ c → c < 6 → v (16 + 6 * c + 1) = 0) (u : Int32) : ∀ (d i n : Nat) (s : Int32), i + d = 6 → d < n → gvs v u i = some s → f_X0_given_15 L n b u (100000 + s) (b + 3) (nI 6) (nI i) X = some (gvr (gvs v u 6)) := by
  intro d
  induction d with
  | zero =>
    intro i n s hi hn hs
    obtain rfl : i = 6 := by omega
    obtain ⟨m, rfl⟩ : ∃ m, n = m + 1 := ⟨n - 1, by omega⟩
    unfold f_X0_given_15
    rw [if_pos ((nle (by omega) (by omega)).mpr (by omega)), hs]
    rfl
  | succ d ih =>
    intro i n s hi hn hs
    obtain ⟨m, rfl⟩ : ∃ m, n = m + 1 := ⟨n - 1, by omega⟩
    have e := fun j hj => h.cu (c := i) (j := j) (by omega) hj
    have es : gvs v u (i + 1) = (gvs v u i).bind _ := rfl
    rw [hs, Option.bind_some] at es
    unfold f_X0_given_15 f_X0_given_95 f_X0_given_72
    simp only [if_neg (fun q => absurd ((nle (i := i) (n := 6) (by omega) (by omega)).mp q) (by omega)), if_pos h.1.1.2.2.2.2.1, h.1.1.2.2.2.2.2.1, if_pos (hin_nI (n := 6) (show i < 6 by omega) (by omega)), nI_clamp (show i < 2 ^ 31 by omega), h.2.1.2.2.1 i (by omega), Option.bind_some, if_pos (ct h (show i < 6 by omega)), e 1 (by omega), e 2 (by omega), e 3 (by omega), e 4 (by omega), n1, if_pos h.1.1.1, h.2.1.1.2.1, if_pos h.1.1.2.2.2.1, c_kindAt h]
    by_cases hk : v (16 + 6 * i + 1) = 0
    · rw [if_pos hk] at es
      rw [if_pos hk]
      exact ih (i + 1) m s (by omega) (by omega) es
    · rw [if_neg hk] at es
      rw [if_neg hk]
      have hic : i < cc := by
        by_cases q : i < cc
        · exact q
        · exact absurd (hZ i (by omega) (by omega)) hk
      obtain ⟨-, hk' | ⟨-, ⟨j, hj, ek⟩, hct, hrd, -⟩⟩ := hC i hic
      · exact absurd hk' hk
      · rw [ek, nI_clamp (show j < 2 ^ 31 by omega)] at es
        rw [ek, if_pos (show 0 ≤ nI j ∧ nI j ≤ 3 from ⟨nI_pos' (by omega), by rw [i_le, nI_toInt (by omega), show (3 : Int32).toInt = 3 by decide]; omega⟩), nI_clamp (show j < 2 ^ 31 by omega)]
        simp only [Option.elim_some, c_guessFrom h hS hj, Option.bind_some]
        by_cases hg : gs v (v (16 + 6 * i + 4)) j u = -100009
        · rw [if_pos hg] at es
          rw [if_pos hg, show gvs v u 6 = none from by have := gvs_none es d; rwa [show i + 1 + d = 6 by omega] at this]
          rfl
        · rw [if_neg hg] at es
          rw [if_neg hg]
          have := ih (i + 1) m _ (by omega) (by omega) es
          rw [← Int32.add_assoc] at this
          unfold f_X0_given_95
          rw [n1]
          exact this
theorem c_given (h : CX L X b π ρ v) (hS : RgS v) {B : Int} {cc : Nat} (hcc : cc ≤ 6) (hC : ∀ c, c < cc → RgC B v c) (hZ : ∀ c, cc ≤ c → c < 6 → v (16 + 6 * c + 1) = 0) (u : Int32) : f_X0_given L X b u = some (gvr (gvs v u 6)) := by
  unfold f_X0_given
  simp only [if_pos h.1.1.1, h.2.1.1.2.2.1, Option.bind_some, if_pos h.1.1.2.2.2.2.1, h.1.1.2.2.2.2.2.1]
  exact c_given_l h hS hcc hC hZ u 6 0 u_fuel 0 rfl (by unfold u_fuel; omega) rfl
def fzL (G : Int32 → Option Int32) : Nat → Int32 → Nat → Int32
  | 0, best, _ => best
  | d + 1, best, i => (G (nI i)).elim (-100009) (fun s => if best = -100009 then fzL G d (nI i) (i + 1) else if ab0 ((G best).getD 0) ≤ ab0 s then fzL G d best (i + 1) else fzL G d (nI i) (i + 1))
theorem hun (s : Int32) : 100000 + s - 100000 = s := by rw [Int32.add_comm, Int32.add_sub_cancel]
theorem nIne (i : Nat) (h : i < 4) : nI i ≠ -100009 := by
  have : ∀ i, i < 4 → nI i ≠ -100009 := by decide
  exact this i h
theorem gvr_ne {v : Nat → Int32} {u : Int32} {B : Int} (hS : RgS v) {n : Nat} (hn : n ≤ 6) (hC : ∀ c, c < n → RgC B v c) {s : Int32} (hs : gvs v u n = some s) : 100000 + s ≠ -100009 ∧ s ≠ -100009 := by
  have hb := gvs_b hS n hn hC s hs
  have e1 : (-100009 : Int32).toInt = -100009 := by decide
  have e2 : (100000 : Int32).toInt = 100000 := by decide
  constructor
  · intro h
    have := i_eq.mp h
    rw [i_add (by omega) (by omega), e1, e2] at this
    omega
  · intro h
    have := i_eq.mp h
    rw [e1] at this
    omega
theorem gvs_z {v : Nat → Int32} {u : Int32} {cc : Nat} (hZ : ∀ c, cc ≤ c → c < 6 → v (16 + 6 * c + 1) = 0) : ∀ d, cc + d ≤ 6 → gvs v u (cc + d) = gvs v u cc := by
  intro d
  induction d with
  | zero => intro _; rfl
  | succ d ih =>
    intro h
    show (gvs v u (cc + d)).bind _ = _
    rw [ih (by omega)]
    cases hq : gvs v u cc with
    | none => rfl
    | some s => exact if_pos (hZ (cc + d) (by omega) (by omega))
theorem c_fair_l (h : CX L X b π ρ v) (hS : RgS v) {B : Int} {cc : Nat} (hcc : cc ≤ 6) (hC : ∀ c, c < cc → RgC B v c) (hZ : ∀ c, cc ≤ c → c < 6 → v (16 + 6 * c + 1) = 0) : ∀ (d i n : Nat) (best near : Int32), i + d = 4 → d < n → (best ≠ -100009 → ∃ t, gvs v best 6 = some t ∧ near = ab0 t) → f_X0_fairestRule_7 L n b best near (nI i) X = some (fzL (fun u => gvs v u 6) d best i) := by
  have ez : ∀ u, gvs v u 6 = gvs v u cc := fun u => by
    have := gvs_z (u := u) hZ (6 - cc) (by omega)
    rwa [show cc + (6 - cc) = 6 by omega] at this
  intro d
  induction d with
  | zero =>
    intro i n best near hi hn _
    obtain rfl : i = 4 := by omega
    obtain ⟨m, rfl⟩ : ∃ m, n = m + 1 := ⟨n - 1, by omega⟩
    unfold f_X0_fairestRule_7
    rw [if_pos (show (4 : Int32) ≤ nI 4 by decide)]
    rfl
  | succ d ih =>
    intro i n best near hi hn hb
    obtain ⟨m, rfl⟩ : ∃ m, n = m + 1 := ⟨n - 1, by omega⟩
    unfold f_X0_fairestRule_7 f_X0_fairestRule_51 f_X0_fairestRule_56 fzL
    rw [if_neg (show ¬ (4 : Int32) ≤ nI i from fun q => absurd ((nle (i := i) (n := 4) (by omega) (by omega)).mp q) (by omega)), c_given h hS hcc hC hZ, Option.bind_some, if_pos h.1.1.1]
    cases hq : gvs v (nI i) 6 with
    | none =>
      rw [if_pos (show gvr none = -100009 from rfl)]
      rfl
    | some s =>
      have hne := (gvr_ne (s := s) hS hcc hC (by rw [← ez]; exact hq)).1
      rw [if_neg (show ¬ gvr (some s) = -100009 from hne)]
      have e1 : gvr (some s) - 100000 = s := hun s
      simp only [e1, Option.elim_some, n1]
      by_cases c : best = -100009
      · rw [if_pos c, if_pos c]
        exact ih (i + 1) m (nI i) _ (by omega) (by omega) (fun _ => ⟨s, hq, rfl⟩)
      · obtain ⟨t, ht, rfl⟩ := hb c
        rw [if_neg c, if_neg c]
        simp only [ht, Option.getD_some]
        by_cases c2 : ab0 t ≤ ab0 s
        · rw [if_pos (show ab0 t ≤ (if 0 ≤ s then s else 0 - s) from c2), if_pos c2]
          exact ih (i + 1) m best _ (by omega) (by omega) (fun _ => ⟨t, ht, rfl⟩)
        · rw [if_neg (show ¬ ab0 t ≤ (if 0 ≤ s then s else 0 - s) from c2), if_neg c2]
          exact ih (i + 1) m (nI i) _ (by omega) (by omega) (fun _ => ⟨s, hq, rfl⟩)
theorem c_fairest (h : CX L X b π ρ v) (hS : RgS v) {B : Int} {cc : Nat} (hcc : cc ≤ 6) (hC : ∀ c, c < cc → RgC B v c) (hZ : ∀ c, cc ≤ c → c < 6 → v (16 + 6 * c + 1) = 0) : f_X0_fairestRule L X b = some (fzL (fun u => gvs v u 6) 4 (-100009) 0) := by
  unfold f_X0_fairestRule
  exact c_fair_l h hS hcc hC hZ 4 0 u_fuel (-100009) 0 rfl (by unfold u_fuel; omega) (fun q => absurd rfl q)
end GV
section GM
variable {L : hL}
end GM
