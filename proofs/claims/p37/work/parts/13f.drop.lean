/-! rows that go: the component turns its rows, the reference shifts its numbers -/
def shf (X : hX) (a i g : Nat) : hX := (X.1, fun q k => if q = a then (if k < i then X.2 a k else if k < 5 then X.2 a (k + 1) else if k = 5 then some g else X.2 a k) else X.2 q k)
def sg (c i : Nat) : Nat := if i < c then i else if i < 5 then i + 1 else c
theorem shf_5 {X : hX} {a g : Nat} : smr X a 5 (some g) = shf X a 5 g := by
  unfold smr shf
  refine Prod.ext rfl ?_
  funext q k
  by_cases h : q = a
  · subst h
    by_cases h2 : k = 5
    · subst h2; simp
    · by_cases h3 : k < 5
      · simp [h2, h3]
      · simp [h2, h3]
  · simp [h]
theorem shf_s {X : hX} {a i g : Nat} {o : Option Nat} (hi : i < 5) (ho : X.2 a (i + 1) = o) : shf (smr X a i o) a (i + 1) g = shf X a i g := by
  unfold smr shf
  refine Prod.ext rfl ?_
  funext q k
  by_cases h : q = a
  · subst h
    by_cases h2 : k = i
    · subst h2; simp [ho, hi]
    · by_cases h3 : k < i
      · have : k < i + 1 := by omega
        simp [h2, h3, this]
      · have h4 : ¬ k < i + 1 := by omega
        have h5 : ¬ k + 1 = i := by omega
        simp [h2, h3, h4, h5]
  · simp [h]
theorem n1 (i : Nat) : nI i + 1 = nI (i + 1) := nI_1 i
theorem le5 {i : Nat} (h : i < 6) : (5 : Int32) ≤ nI i ↔ i = 5 := by
  rw [i_le, nI_toInt (by omega), show (5 : Int32).toInt = 5 by decide]
  omega
theorem drop_21 {L : hL} {b g : Nat} {p : Int32} (t0 : tk L b 0) (t3 : tk L (b + 3) 15) (l3 : L.2.2 (b + 3) = 6) (tg : tk L g 1) : ∀ (d i n : Nat) (X : hX), i + d = 5 → d < n → X.2 b 2 = some (b + 3) → (∀ k, k < 6 → ∃ q, X.2 (b + 3) k = some q ∧ tk L q 1) → f_X0_dropCustomer_21 L n b g p (nI i) X = some (p, smi (smi (smi (shf X (b + 3) i g) g 0 0) g 1 0) b 4 ((smi (smi (shf X (b + 3) i g) g 0 0) g 1 0).1 b 4 - 1)) := by
  intro d
  induction d with
  | zero =>
    intro i n X hi hn r2 hk
    obtain rfl : i = 5 := by omega
    obtain ⟨m, rfl⟩ : ∃ m, n = m + 1 := ⟨n - 1, by omega⟩
    unfold f_X0_dropCustomer_21 f_X1_begin
    simp only [if_pos ((le5 (i := 5) (by omega)).mpr rfl), if_pos t0, r2, Option.bind_some, if_pos t3, l3, show (5 < 6) = True from by decide, if_true, if_pos tg, shf_5]
  | succ d ih =>
    intro i n X hi hn r2 hk
    obtain ⟨m, rfl⟩ : ∃ m, n = m + 1 := ⟨n - 1, by omega⟩
    obtain ⟨q, hq, tq⟩ := hk (i + 1) (by omega)
    unfold f_X0_dropCustomer_21
    simp only [if_neg (fun h => absurd ((le5 (i := i) (by omega)).mp h) (by omega)), if_pos t0, r2, Option.bind_some, if_pos t3, l3, n1, if_pos (hin_nI (n := 6) (show i + 1 < 6 by omega) (by omega)), if_pos (hin_nI (n := 6) (show i < 6 by omega) (by omega)), nI_clamp (show i + 1 < 2 ^ 31 by omega), nI_clamp (show i < 2 ^ 31 by omega), hq, if_pos tq]
    rw [ih (i + 1) m (smr X (b + 3) i (some q)) (by omega) (by omega) ?_ ?_, shf_s (by omega) hq]
    · show (if b = b + 3 ∧ 2 = i then some q else X.2 b 2) = some (b + 3)
      rw [if_neg (fun h => by have := h.1; omega), r2]
    · intro k hk'
      show ∃ q', (if b + 3 = b + 3 ∧ k = i then some q else X.2 (b + 3) k) = some q' ∧ tk L q' 1
      by_cases h : k = i
      · rw [if_pos ⟨rfl, h⟩]; exact ⟨q, rfl, tq⟩
      · rw [if_neg (fun h' => h h'.2)]; exact hk k hk'
def shv (v : Nat → Int32) (c k : Nat) : Int32 := if 16 ≤ k ∧ k < 52 then v (16 + 6 * sg c ((k - 16) / 6) + (k - 16) % 6) else v k
def shp (v : Nat → Int32) (c k : Nat) : Int32 := if 52 ≤ k then v (52 + 7 * sg c ((k - 52) / 7) + (k - 52) % 7) else v k
theorem sg_lt {c i : Nat} (hc : c < 6) (hi : i < 6) : sg c i < 6 := by
  unfold sg
  by_cases h1 : i < c
  · rw [if_pos h1]; exact hi
  · rw [if_neg h1]
    by_cases h2 : i < 5
    · rw [if_pos h2]; omega
    · rw [if_neg h2]; exact hc
theorem sg_inj {c i j : Nat} (hc : c < 6) (hi : i < 6) (hj : j < 6) (h : sg c i = sg c j) : i = j := by
  unfold sg at h
  by_cases h1 : i < c <;> by_cases h2 : i < 5 <;> by_cases h3 : j < c <;> by_cases h4 : j < 5 <;> simp [h1, h2, h3, h4] at h <;> omega
theorem sg_row {X : hX} {a c g : Nat} {f : Nat → Nat} (h : ∀ i, i < 6 → X.2 a i = some (f i)) (hc : c < 6) (hg : g = f c) {i : Nat} (hi : i < 6) : (shf X a c g).2 a i = some (f (sg c i)) := by
  show (if a = a then (if i < c then X.2 a i else if i < 5 then X.2 a (i + 1) else if i = 5 then some g else X.2 a i) else X.2 a i) = _
  rw [if_pos rfl]
  unfold sg
  by_cases h1 : i < c
  · rw [if_pos h1, if_pos h1, h i hi]
  · rw [if_neg h1, if_neg h1]
    by_cases h2 : i < 5
    · rw [if_pos h2, if_pos h2, h (i + 1) (by omega)]
    · rw [if_neg h2, if_neg h2, if_pos (by omega), hg]
theorem shf_o {X : hX} {a c g q : Nat} (h : q ≠ a) (k : Nat) : (shf X a c g).2 q k = X.2 q k := by
  show (if q = a then _ else X.2 q k) = _
  rw [if_neg h]
def op_drop (v : Nat → Int32) (cc : Nat) (c : Int32) : Int32 × (Nat → Int32) := if isR c cc then (v (16 + 6 * c.toNatClampNeg), upd (upd (upd (shv v c.toNatClampNeg) (16 + 6 * 5 + 0) 0) (16 + 6 * 5 + 1) 0) 14 (v 14 - 1)) else (-100001, v)
def op_remove (v : Nat → Int32) (pc : Nat) (c : Int32) : Int32 × (Nat → Int32) := if isR c pc then (v (52 + 7 * c.toNatClampNeg + 2), upd (upd (upd (upd (upd (upd (upd (upd (shp v c.toNatClampNeg) (52 + 7 * 5 + 0) 0) (52 + 7 * 5 + 1) 0) (52 + 7 * 5 + 2) 0) (52 + 7 * 5 + 3) 0) (52 + 7 * 5 + 4) 0) (52 + 7 * 5 + 5) 0) (52 + 7 * 5 + 6) 0) 15 (v 15 - 1)) else (-100001, v)
section DR
variable {L : hL} {X : hX} {b : Nat} {π ρ : Nat → Nat} {v : Nat → Int32}
theorem CX.shc (h : CX L X b π ρ v) {c : Nat} (hc : c < 6) : CX L (shf X (b + 3) c (b + 9 + π c)) b (fun i => π (sg c i)) ρ (shv v c) := by
  refine ⟨h.1, ?_, fun k hk => ?_⟩
  · obtain ⟨⟨r0, r1, r2, r3⟩, rk, rc, rp, p1, p2, p3, p4⟩ := h.2.1
    have n0 : b ≠ b + 3 := by omega
    refine ⟨⟨?_, ?_, ?_, ?_⟩, fun i hi => ?_, fun i hi => ?_, fun i hi => ?_, fun i hi => p1 _ (sg_lt hc hi), p2, fun i j hi hj e => sg_inj hc hi hj (p3 _ _ (sg_lt hc hi) (sg_lt hc hj) e), p4⟩
    · rw [shf_o n0, r0]
    · rw [shf_o n0, r1]
    · rw [shf_o n0, r2]
    · rw [shf_o n0, r3]
    · rw [shf_o (by omega), rk i hi]
    · exact sg_row (f := fun i => b + 9 + π i) rc hc rfl hi
    · rw [shf_o (by omega), rp i hi]
  · show X.1 _ _ = _
    unfold shv
    by_cases h1 : 16 ≤ k ∧ k < 52
    · have e := cA_cu (b := b) (π := fun i => π (sg c i)) (ρ := ρ) (c := (k - 16) / 6) (j := (k - 16) % 6) (by omega) (by omega)
      rw [show 16 + 6 * ((k - 16) / 6) + (k - 16) % 6 = k by omega] at e
      rw [if_pos h1, e.1, e.2]
      exact h.cu (sg_lt hc (by omega)) (by omega)
    · rw [if_neg h1, ← h.2.2 k hk]
      have e : cA b (fun i => π (sg c i)) ρ k = cA b π ρ k := by
        unfold cA
        by_cases q1 : k < 4
        · rw [if_pos q1, if_pos q1]
        · by_cases q2 : k < 8
          · rw [if_neg q1, if_pos q2, if_neg q1, if_pos q2]
          · by_cases q3 : k < 11
            · rw [if_neg q1, if_neg q2, if_pos q3, if_neg q1, if_neg q2, if_pos q3]
            · by_cases q4 : k < 16
              · rw [if_neg q1, if_neg q2, if_neg q3, if_pos q4, if_neg q1, if_neg q2, if_neg q3, if_pos q4]
              · rw [if_neg q1, if_neg q2, if_neg q3, if_neg q4, if_neg (by omega), if_neg q1, if_neg q2, if_neg q3, if_neg q4, if_neg (by omega)]
      rw [e]
theorem CX.shpz (h : CX L X b π ρ v) {c : Nat} (hc : c < 6) : CX L (shf X (b + 4) c (b + 15 + ρ c)) b π (fun i => ρ (sg c i)) (shp v c) := by
  refine ⟨h.1, ?_, fun k hk => ?_⟩
  · obtain ⟨⟨r0, r1, r2, r3⟩, rk, rc, rp, p1, p2, p3, p4⟩ := h.2.1
    have n0 : b ≠ b + 4 := by omega
    refine ⟨⟨?_, ?_, ?_, ?_⟩, fun i hi => ?_, fun i hi => ?_, fun i hi => ?_, p1, fun i hi => p2 _ (sg_lt hc hi), p3, fun i j hi hj e => sg_inj hc hi hj (p4 _ _ (sg_lt hc hi) (sg_lt hc hj) e)⟩
    · rw [shf_o n0, r0]
    · rw [shf_o n0, r1]
    · rw [shf_o n0, r2]
    · rw [shf_o n0, r3]
    · rw [shf_o (by omega), rk i hi]
    · rw [shf_o (by omega), rc i hi]
    · exact sg_row (f := fun i => b + 15 + ρ i) rp hc rfl hi
  · show X.1 _ _ = _
    unfold shp
    by_cases h1 : 52 ≤ k
    · have e := cA_pr (b := b) (π := π) (ρ := fun i => ρ (sg c i)) (c := (k - 52) / 7) (j := (k - 52) % 7) (by omega) (by omega)
      rw [show 52 + 7 * ((k - 52) / 7) + (k - 52) % 7 = k by omega] at e
      rw [if_pos h1, e.1, e.2]
      exact h.pr (sg_lt hc (by omega)) (by omega)
    · rw [if_neg h1, ← h.2.2 k hk]
      have e : cA b π (fun i => ρ (sg c i)) k = cA b π ρ k := by
        unfold cA
        by_cases q1 : k < 4
        · rw [if_pos q1, if_pos q1]
        · by_cases q2 : k < 8
          · rw [if_neg q1, if_pos q2, if_neg q1, if_pos q2]
          · by_cases q3 : k < 11
            · rw [if_neg q1, if_neg q2, if_pos q3, if_neg q1, if_neg q2, if_pos q3]
            · by_cases q4 : k < 16
              · rw [if_neg q1, if_neg q2, if_neg q3, if_pos q4, if_neg q1, if_neg q2, if_neg q3, if_pos q4]
              · rw [if_neg q1, if_neg q2, if_neg q3, if_neg q4, if_pos (by omega), if_neg q1, if_neg q2, if_neg q3, if_neg q4, if_pos (by omega)]
      rw [e]
theorem c_dropCustomer (h : CX L X b π ρ v) {cc : Nat} (hcc : cc ≤ 6) (ec : v 14 = nI cc) (c : Int32) : ∃ X' π', f_X0_dropCustomer L X b c = some ((op_drop v cc c).1, X') ∧ CX L X' b π' ρ (op_drop v cc c).2 := by
  have t0 := h.1.1.1
  unfold f_X0_dropCustomer op_drop
  rw [c_customerAt h hcc ec]
  by_cases h1 : isR c cc
  · obtain ⟨ci, hci, rfl⟩ := isR_of (by omega) h1
    have e1 := nI_clamp (show ci < 2 ^ 31 by omega)
    have hc6 : ci < 6 := by omega
    have e0 : X.1 (b + 9 + π ci) 0 = v (16 + 6 * ci) := h.cu hc6 (show 0 < 6 by omega)
    simp only [if_pos h1, Option.bind_some, if_pos t0, Option.elim_some, e1, if_pos (ct h hc6), e0]
    rw [drop_21 t0 h.1.1.2.2.2.2.1 h.1.1.2.2.2.2.2.1 (ct h hc6) (5 - ci) ci u_fuel X (by omega) (by unfold u_fuel; omega) h.2.1.1.2.2.1 (fun k hk => ⟨_, h.2.1.2.2.1 k hk, ct h hk⟩)]
    have z := ((h.shc hc6).wcu (c := 5) (j := 0) (by omega) (by omega) 0).wcu (c := 5) (j := 1) (by omega) (by omega) 0
    have e5 : π (sg ci 5) = π ci := by
      unfold sg
      by_cases q : 5 < ci
      · omega
      · rw [if_neg q, if_neg (by omega)]
    simp only [e5] at z
    have z4 := z.o4
    rw [z4]
    have e4 : upd (upd (shv v ci) (16 + 6 * 5 + 0) 0) (16 + 6 * 5 + 1) 0 14 = v 14 := by
      rw [pk_un (by omega), pk_un (by omega)]
      unfold shv
      rw [if_neg (by omega)]
    rw [e4]
    exact ⟨_, _, rfl, z.w4 _⟩
  · simp only [if_neg h1, Option.bind_some, if_pos t0, Option.elim_none]
    exact ⟨_, _, rfl, h⟩
end DR
