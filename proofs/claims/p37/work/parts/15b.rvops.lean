/-! the commands keep the relation -/
def ER (r : Int32) : Prop := r = -100001 ∨ r = -100002 ∨ r = -100003 ∨ -100000 ≤ r.toInt
def SIM (B : Int) (a b : Int32 × (Nat → Int32)) : Prop := a.1 = b.1 ∧ ER a.1 ∧ ∃ n m, RV B a.2 b.2 n m
theorem ER1 : ER (-100001) := Or.inl rfl
theorem ER2 : ER (-100002) := Or.inr (Or.inl rfl)
theorem ER3 : ER (-100003) := Or.inr (Or.inr (Or.inl rfl))
theorem ERp {r : Int32} (h : -100000 ≤ r.toInt) : ER r := Or.inr (Or.inr (Or.inr h))
theorem SIM.mk {B : Int} {r r' : Int32} {v' w' : Nat → Int32} {n m : Nat} (h1 : r = r') (h2 : ER r) (h3 : RV B v' w' n m) : SIM B (r, v') (r', w') := ⟨h1, h2, n, m, h3⟩
section RO
variable {B : Int} {v w : Nat → Int32} {n m : Nat}
theorem SIM.mono {B' : Int} {a b : Int32 × (Nat → Int32)} (h : SIM B a b) (hB : B ≤ B') : SIM B' a b := by
  obtain ⟨h1, h2, n, m, h3⟩ := h
  exact ⟨h1, h2, n, m, h3.mono hB⟩
theorem RgS.kind {v : Nat → Int32} (h : RgS v) {j : Nat} (hj : j < 4) {a s : Int32} (ha : 100 ≤ a ∧ a ≤ 5000) (hs : 0 ≤ s ∧ s ≤ 50) : RgS (upd (upd v j a) (4 + j) s) := by
  have a1 := i_le.mp ha.1
  have a2 := i_le.mp ha.2
  have s1 := i_le.mp hs.1
  have s2 := i_le.mp hs.2
  rw [show (100 : Int32).toInt = 100 by decide] at a1
  rw [show (5000 : Int32).toInt = 5000 by decide] at a2
  rw [z0i] at s1
  rw [show (50 : Int32).toInt = 50 by decide] at s2
  have o : ∀ k, 8 ≤ k → upd (upd v j a) (4 + j) s k = v k := fun k hk => by rw [pk_un (by omega), pk_un (by omega)]
  unfold RgS at h ⊢
  rw [o 8 (by omega), o 9 (by omega), o 10 (by omega), o 11 (by omega), o 12 (by omega)]
  refine ⟨h.1, h.2.1, h.2.2.1, h.2.2.2.1, h.2.2.2.2.1, fun i hi => ?_⟩
  by_cases q : i = j
  · subst q
    rw [pk_un (by omega), pk_us, pk_us]
    omega
  · rw [pk_un (by omega), pk_un (by omega), pk_un (by omega), pk_un (by omega)]
    exact h.2.2.2.2.2 i hi
theorem rv_kinds (h : RV B v w n m) (k a s : Int32) : SIM B (op_kinds v k a s) (op_kinds w k a s) := by
  unfold op_kinds
  by_cases c : (0 ≤ k ∧ k ≤ 3) ∧ (100 ≤ a ∧ a ≤ 5000) ∧ 0 ≤ s ∧ s ≤ 50
  · rw [if_pos c, if_pos c]
    obtain ⟨j, hj, rfl⟩ := kind_of c.1
    have ej := nI_clamp (show j < 2 ^ 31 by omega)
    rw [ej]
    have hk := h.S.2.2.2.2.2 j hj
    refine SIM.mk (h.ag j (by omega)) (ERp (by omega)) (h.head (fun i hi => ?_) (fun i hi => ?_) (fun i hi => ?_) (h.S.kind hj c.2.1 c.2.2))
    · rw [pk_un (by omega), pk_un (by omega)]
    · rw [pk_un (by omega), pk_un (by omega)]
    · simp only [upd]
      rw [h.ag i (by omega)]
  · rw [if_neg c, if_neg c]
    exact SIM.mk rfl ER1 h
theorem clampB_i {b l : Int32} (hl : 0 ≤ l.toInt ∧ l.toInt ≤ 2000) : -l.toInt ≤ (clampB b l).toInt ∧ (clampB b l).toInt ≤ l.toInt := by
  have en := i_neg (a := l) (by omega)
  unfold clampB
  by_cases c1 : b ≤ l
  · have c1' := i_le.mp c1
    rw [if_pos c1]
    by_cases c2 : -l ≤ b
    · have c2' := i_le.mp c2
      rw [if_pos c2]; omega
    · rw [if_neg c2]; omega
  · rw [if_neg c1]; omega
theorem rv_scales (h : RV B v w n m) (st lm : Int32) : SIM B (op_scales v st lm) (op_scales w st lm) := by
  unfold op_scales
  by_cases c : (1 ≤ st ∧ st ≤ 1000) ∧ 0 ≤ lm ∧ lm ≤ 2000
  · rw [if_pos c, if_pos c]
    have a1 := i_le.mp c.1.1
    have a2 := i_le.mp c.1.2
    have s1 := i_le.mp c.2.1
    have s2 := i_le.mp c.2.2
    rw [z1i] at a1
    rw [show (1000 : Int32).toInt = 1000 by decide] at a2
    rw [z0i] at s1
    rw [show (2000 : Int32).toInt = 2000 by decide] at s2
    have hc := clampB_i (b := v 10) (l := lm) ⟨s1, s2⟩
    have e10 := h.ag 10 (by omega)
    rw [← e10]
    refine SIM.mk rfl (ERp (by omega)) (h.head (fun i hi => ?_) (fun i hi => ?_) (fun i hi => ?_) ?_)
    · rw [pk_un (by omega), pk_un (by omega), pk_un (by omega)]
    · rw [pk_un (by omega), pk_un (by omega), pk_un (by omega)]
    · simp only [upd]
      rw [h.ag i (by omega)]
    · have hS := h.S
      unfold RgS at hS ⊢
      refine ⟨?_, ?_, ?_, ?_, ?_, fun j hj => ?_⟩
      · rw [pk_un (by omega), pk_un (by omega), pk_us]; exact ⟨a1, a2⟩
      · rw [pk_un (by omega), pk_us]; exact ⟨s1, s2⟩
      · rw [pk_us, pk_un (by omega), pk_us]; exact hc
      · rw [pk_un (by omega), pk_un (by omega), pk_un (by omega)]; exact hS.2.2.2.1
      · rw [pk_un (by omega), pk_un (by omega), pk_un (by omega)]; exact hS.2.2.2.2.1
      · rw [pk_un (by omega), pk_un (by omega), pk_un (by omega), pk_un (by omega), pk_un (by omega), pk_un (by omega)]; exact hS.2.2.2.2.2 j hj
  · rw [if_neg c, if_neg c]
    exact SIM.mk rfl ER1 h
theorem rv_sets (h : RV B v w n m) {pl : Nat} (hp : 10 ≤ pl ∧ pl ≤ 12) (x lo hi : Int32) (hE : -100000 ≤ (v pl).toInt) (hS : lo ≤ x ∧ x ≤ hi → RgS (upd v pl x)) : SIM B (op_sets v pl x lo hi) (op_sets w pl x lo hi) := by
  unfold op_sets
  by_cases c : lo ≤ x ∧ x ≤ hi
  · rw [if_pos c, if_pos c]
    refine SIM.mk (h.ag pl (by omega)) (ERp hE) (h.head (fun i hi => ?_) (fun i hi => ?_) (fun i hi => ?_) (hS c))
    · rw [pk_un (by omega)]
    · rw [pk_un (by omega)]
    · simp only [upd]
      rw [h.ag i (by omega)]
  · rw [if_neg c, if_neg c]
    exact SIM.mk rfl ER1 h
theorem rv_rule (h : RV B v w n m) (x : Int32) : SIM B (op_sets v 11 x 0 3) (op_sets w 11 x 0 3) := by
  have hS := h.S
  refine rv_sets h (by omega) x 0 3 (by have := hS.2.2.2.1; omega) (fun c => ?_)
  have c1 := i_le.mp c.1
  have c2 := i_le.mp c.2
  rw [z0i] at c1
  rw [show (3 : Int32).toInt = 3 by decide] at c2
  unfold RgS at hS ⊢
  refine ⟨?_, ?_, ?_, ?_, ?_, fun j hj => ?_⟩
  · rw [pk_un (by omega)]; exact hS.1
  · rw [pk_un (by omega)]; exact hS.2.1
  · rw [pk_un (by omega), pk_un (by omega)]; exact hS.2.2.1
  · rw [pk_us]; exact ⟨c1, c2⟩
  · rw [pk_un (by omega)]; exact hS.2.2.2.2.1
  · rw [pk_un (by omega), pk_un (by omega)]; exact hS.2.2.2.2.2 j hj
theorem rv_fee (h : RV B v w n m) (x : Int32) : SIM B (op_sets v 12 x 0 100) (op_sets w 12 x 0 100) := by
  have hS := h.S
  refine rv_sets h (by omega) x 0 100 (by have := hS.2.2.2.2.1; omega) (fun c => ?_)
  have c1 := i_le.mp c.1
  have c2 := i_le.mp c.2
  rw [z0i] at c1
  rw [show (100 : Int32).toInt = 100 by decide] at c2
  unfold RgS at hS ⊢
  refine ⟨?_, ?_, ?_, ?_, ?_, fun j hj => ?_⟩
  · rw [pk_un (by omega)]; exact hS.1
  · rw [pk_un (by omega)]; exact hS.2.1
  · rw [pk_un (by omega), pk_un (by omega)]; exact hS.2.2.1
  · rw [pk_un (by omega)]; exact hS.2.2.2.1
  · rw [pk_us]; exact ⟨c1, c2⟩
  · rw [pk_un (by omega), pk_un (by omega)]; exact hS.2.2.2.2.2 j hj
theorem rv_bias (h : RV B v w n m) (x : Int32) : SIM B (op_sets v 10 x (-(v 9)) (v 9)) (op_sets w 10 x (-(w 9)) (w 9)) := by
  have hS := h.S
  rw [← h.ag 9 (by omega)]
  refine rv_sets h (by omega) x _ _ (by have := hS.2.2.1; have := hS.2.1; omega) (fun c => ?_)
  have en := i_neg (a := v 9) (by have := hS.2.1; omega)
  have c1 := i_le.mp c.1
  have c2 := i_le.mp c.2
  rw [en] at c1
  unfold RgS at hS ⊢
  refine ⟨?_, ?_, ?_, ?_, ?_, fun j hj => ?_⟩
  · rw [pk_un (by omega)]; exact hS.1
  · rw [pk_un (by omega)]; exact hS.2.1
  · rw [pk_us, pk_un (by omega)]; exact ⟨c1, c2⟩
  · rw [pk_un (by omega)]; exact hS.2.2.2.1
  · rw [pk_un (by omega)]; exact hS.2.2.2.2.1
  · rw [pk_un (by omega), pk_un (by omega)]; exact hS.2.2.2.2.2 j hj
theorem rv_comes (h : RV B v w n m) (hB : 9999 ≤ B) (p : Int32) : SIM B (op_comes v n p) (op_comes w n p) := by
  have hn := h.1.1
  unfold op_comes
  by_cases c : 0 ≤ p ∧ p ≤ 9999
  · rw [if_pos c, if_pos c]
    by_cases c6 : n = 6
    · rw [if_pos c6, if_pos c6]
      exact SIM.mk rfl ER3 h
    · rw [if_neg c6, if_neg c6]
      have c1 := i_le.mp c.1
      have c2 := i_le.mp c.2
      rw [z0i] at c1
      rw [show (9999 : Int32).toInt = 9999 by decide] at c2
      have e14 := h.ag 14 (by omega)
      have hv14 := h.1.2.2.2.1
      have er : v 14 + 1 - 1 = nI n := by rw [hv14, Int32.add_sub_cancel]
      obtain ⟨⟨a1, a2, a3, a4, a5, a6⟩, a7, a8, a9, a10⟩ := h
      have o1 : ∀ k, k ≠ 14 → k ≠ 16 + 6 * n → k ≠ 16 + 6 * n + 1 → upd (upd (upd v (16 + 6 * n) p) (16 + 6 * n + 1) 0) 14 (v 14 + 1) k = v k := fun k h1 h2 h3 => by rw [pk_un h1, pk_un h3, pk_un h2]
      have o2 : ∀ k, k ≠ 14 → k ≠ 16 + 6 * n → k ≠ 16 + 6 * n + 1 → upd (upd (upd w (16 + 6 * n) p) (16 + 6 * n + 1) 0) 14 (w 14 + 1) k = w k := fun k h1 h2 h3 => by rw [pk_un h1, pk_un h3, pk_un h2]
      have p1 : ∀ f : Nat → Int32, ∀ x, upd (upd (upd f (16 + 6 * n) p) (16 + 6 * n + 1) 0) 14 x (16 + 6 * n) = p := fun f x => by rw [pk_un (by omega), pk_un (by omega), pk_us]
      have p2 : ∀ f : Nat → Int32, ∀ x, upd (upd (upd f (16 + 6 * n) p) (16 + 6 * n + 1) 0) 14 x (16 + 6 * n + 1) = 0 := fun f x => by rw [pk_un (by omega), pk_us]
      refine SIM.mk (n := n + 1) (m := m) (by rw [e14]) (ERp (by rw [er, nI_toInt (by omega)]; omega)) ⟨⟨by omega, a2, fun k hk => ?_, ?_, ?_, a6.cong (fun k hk => (o1 k (by omega) (by omega) (by omega)).symm)⟩, fun x hx => ?_, fun x h1 h2 => ?_, fun q hq => ?_, fun q h1 h2 j hj => ?_⟩
      · by_cases q : k = 14
        · subst q
          show upd (upd (upd v (16 + 6 * n) p) (16 + 6 * n + 1) 0) 14 (v 14 + 1) 14 = upd (upd (upd w (16 + 6 * n) p) (16 + 6 * n + 1) 0) 14 (w 14 + 1) 14
          rw [pk_us, pk_us, e14]
        · exact (o1 k q (by omega) (by omega)).trans ((a3 k hk).trans (o2 k q (by omega) (by omega)).symm)
      · show upd (upd (upd v (16 + 6 * n) p) (16 + 6 * n + 1) 0) 14 (v 14 + 1) 14 = _
        rw [pk_us, hv14, n1]
      · exact (o1 15 (by omega) (by omega) (by omega)).trans a5
      · by_cases q : x = n
        · subst q
          show RgC B (upd (upd (upd v (16 + 6 * x) p) (16 + 6 * x + 1) 0) 14 (v 14 + 1)) x ∧ upd (upd (upd v (16 + 6 * x) p) (16 + 6 * x + 1) 0) 14 (v 14 + 1) (16 + 6 * x) = upd (upd (upd w (16 + 6 * x) p) (16 + 6 * x + 1) 0) 14 (w 14 + 1) (16 + 6 * x) ∧ upd (upd (upd v (16 + 6 * x) p) (16 + 6 * x + 1) 0) 14 (v 14 + 1) (16 + 6 * x + 1) = upd (upd (upd w (16 + 6 * x) p) (16 + 6 * x + 1) 0) 14 (w 14 + 1) (16 + 6 * x + 1) ∧ (upd (upd (upd v (16 + 6 * x) p) (16 + 6 * x + 1) 0) 14 (v 14 + 1) (16 + 6 * x + 1) ≠ 0 → _)
          rw [p1, p1, p2, p2]
          refine ⟨⟨?_, Or.inl (p2 v _)⟩, rfl, rfl, fun z => absurd rfl z⟩
          rw [p1]; omega
        · obtain ⟨b1, b2, b3, b4⟩ := a7 x (by omega)
          have f1 : ∀ j, j < 6 → upd (upd (upd v (16 + 6 * n) p) (16 + 6 * n + 1) 0) 14 (v 14 + 1) (16 + 6 * x + j) = v (16 + 6 * x + j) := fun j hj => o1 _ (by omega) (by omega) (by omega)
          have f2 : ∀ j, j < 6 → upd (upd (upd w (16 + 6 * n) p) (16 + 6 * n + 1) 0) 14 (w 14 + 1) (16 + 6 * x + j) = w (16 + 6 * x + j) := fun j hj => o2 _ (by omega) (by omega) (by omega)
          refine ⟨b1.cong (f1 0 (by omega)).symm (f1 1 (by omega)).symm (fun _ j hj => (f1 j hj).symm), (f1 0 (by omega)).trans (b2.trans (f2 0 (by omega)).symm), (f1 1 (by omega)).trans (b3.trans (f2 1 (by omega)).symm), fun z j hj => (f1 j hj).trans ((b4 (fun y => z ((f1 1 (by omega)).trans y)) j hj).trans (f2 j hj).symm)⟩
      · exact ⟨(o1 _ (by omega) (by omega) (by omega)).trans (a8 x (by omega) h2).1, (o1 _ (by omega) (by omega) (by omega)).trans (a8 x (by omega) h2).2⟩
      · exact ⟨(a9 q hq).1.cong (fun j hj => (o1 _ (by omega) (by omega) (by omega)).symm), fun j hj => (o1 _ (by omega) (by omega) (by omega)).trans (((a9 q hq).2 j hj).trans (o2 _ (by omega) (by omega) (by omega)).symm)⟩
      · exact (o1 _ (by omega) (by omega) (by omega)).trans (a10 q h1 h2 j hj)
  · rw [if_neg c, if_neg c]
    exact SIM.mk rfl ER1 h
end RO
