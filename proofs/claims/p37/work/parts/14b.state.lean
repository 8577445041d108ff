/-! states: a counter and two snapshots of it -/
def CXe (L : hL) (X : hX) (b : Nat) (v : Nat → Int32) : Prop := ∃ π ρ, CX L X b π ρ v
def SOK (L : hL) (s : Nat) : Prop := tk L s 8 ∧ tk L (s + 22) 14 ∧ L.2.2 (s + 22) = 2 ∧ tk L (s + 23) 13 ∧ L.2.2 (s + 23) = 2
def SR (X : hX) (s : Nat) : Prop := X.2 s 0 = some (s + 1) ∧ X.2 s 1 = some (s + 22) ∧ X.2 s 2 = some (s + 23) ∧ ∀ i, i < 2 → X.2 (s + 22) i = some (s + 24 + 21 * i)
def SV (L : hL) (X : hX) (s : Nat) (V : Nat → Int32) : Prop := SOK L s ∧ SR X s ∧ CXe L X (s + 1) V ∧ ∀ i, i < 2 → CXe L X (s + 24 + 21 * i) (fun k => V (95 + 95 * i + k)) ∧ X.1 (s + 23) i = V (94 + 95 * i)
def ovr (U : Nat → Int32) (a : Nat) (w : Nat → Int32) (k : Nat) : Int32 := if a ≤ k ∧ k < a + 94 then w (k - a) else U k
theorem CXe.ext {L : hL} {X : hX} {b : Nat} {v u : Nat → Int32} (h : CXe L X b v) (e : ∀ k, k < 94 → v k = u k) : CXe L X b u := by
  obtain ⟨π, ρ, h⟩ := h
  exact ⟨π, ρ, h.ext e⟩
theorem CXe.out {L : hL} {X Y : hX} {b c n : Nat} {v : Nat → Int32} (h : CXe L X c v) (ho : OUT b n X Y) (hd : b + n ≤ c ∨ c + 21 ≤ b) : CXe L Y c v := by
  obtain ⟨π, ρ, h⟩ := h
  exact ⟨π, ρ, h.out ho hd⟩
theorem OUT.mono {a n b m : Nat} {X Y : hX} (h : OUT b m X Y) (h1 : a ≤ b) (h2 : b + m ≤ a + n) : OUT a n X Y := ⟨h.1, fun k hk => h.2 k (by omega)⟩
theorem SV.ext {L : hL} {X : hX} {s : Nat} {V U : Nat → Int32} (h : SV L X s V) (e : ∀ k, k < 284 → V k = U k) : SV L X s U := ⟨h.1, h.2.1, h.2.2.1.ext (fun k hk => e k (by omega)), fun i hi => ⟨(h.2.2.2 i hi).1.ext (fun k hk => e _ (by omega)), by rw [(h.2.2.2 i hi).2]; exact e _ (by omega)⟩⟩
theorem SV.out {L : hL} {X Y : hX} {b s n : Nat} {V : Nat → Int32} (h : SV L X s V) (ho : OUT b n X Y) (hd : b + n ≤ s ∨ s + 66 ≤ b) : SV L Y s V := by
  refine ⟨h.1, ?_, h.2.2.1.out ho (by omega), fun i hi => ⟨(h.2.2.2 i hi).1.out ho (by omega), ?_⟩⟩
  · unfold SR
    rw [ho.1]
    exact h.2.1
  · rw [ho.2 (s + 23) (by omega)]
    exact (h.2.2.2 i hi).2
theorem SV.flag {L : hL} {X : hX} {s : Nat} {V : Nat → Int32} (h : SV L X s V) {i : Nat} (hi : i < 2) (x : Int32) : SV L (smi X (s + 23) i x) s (upd V (94 + 95 * i) x) := by
  have o : OUT (s + 23) 1 X (smi X (s + 23) i x) := OUT.rf.w (by omega) (by omega)
  refine ⟨h.1, h.2.1, (h.2.2.1.out o (by omega)).ext (fun k hk => (pk_un (by omega)).symm), fun j hj => ⟨((h.2.2.2 j hj).1.out o (by omega)).ext (fun k hk => (pk_un (by omega)).symm), ?_⟩⟩
  rw [smi_1]
  by_cases q : j = i
  · subst q
    rw [if_pos ⟨rfl, rfl⟩, pk_us]
  · rw [if_neg (fun z => q z.2), pk_un (by omega)]
    exact (h.2.2.2 j hj).2
theorem SV.cnt {L : hL} {X Y : hX} {s : Nat} {V w : Nat → Int32} (h : SV L X s V) (ho : OUT (s + 1) 21 X Y) (hw : CXe L Y (s + 1) w) : SV L Y s (ovr V 0 w) := by
  refine ⟨h.1, ?_, hw.ext (fun k hk => ?_), fun i hi => ⟨((h.2.2.2 i hi).1.out ho (by omega)).ext (fun k hk => ?_), ?_⟩⟩
  · unfold SR
    rw [ho.1]
    exact h.2.1
  · unfold ovr
    rw [if_pos (by omega), Nat.sub_zero]
  · unfold ovr
    rw [if_neg (by omega)]
  · rw [ho.2 (s + 23) (by omega), (h.2.2.2 i hi).2]
    unfold ovr
    rw [if_neg (by omega)]
theorem SV.slot {L : hL} {X Y : hX} {s : Nat} {V w : Nat → Int32} (h : SV L X s V) {i : Nat} (hi : i < 2) (ho : OUT (s + 24 + 21 * i) 21 X Y) (hw : CXe L Y (s + 24 + 21 * i) w) : SV L Y s (ovr V (95 + 95 * i) w) := by
  refine ⟨h.1, ?_, (h.2.2.1.out ho (by omega)).ext (fun k hk => ?_), fun j hj => ⟨?_, ?_⟩⟩
  · unfold SR
    rw [ho.1]
    exact h.2.1
  · unfold ovr
    rw [if_neg (by omega)]
  · by_cases q : j = i
    · subst q
      refine hw.ext (fun k hk => ?_)
      unfold ovr
      rw [if_pos (by omega), show 95 + 95 * j + k - (95 + 95 * j) = k by omega]
    · refine ((h.2.2.2 j hj).1.out ho (by omega)).ext (fun k hk => ?_)
      unfold ovr
      rw [if_neg (by omega)]
  · rw [ho.2 (s + 23) (by omega), (h.2.2.2 j hj).2]
    unfold ovr
    rw [if_neg (by omega)]
def WB (v : Nat → Int32) : Prop := ∀ i, i < 6 → v (16 + 6 * i + 1) = 0 ∨ v (16 + 6 * i + 1) = 1
def WS (V : Nat → Int32) : Prop := WB V ∧ ∀ i, i < 2 → V (94 + 95 * i) = 0 ∨ V (94 + 95 * i) = 1 ∧ WB (fun k => V (95 + 95 * i + k))
def cpy (U V : Nat → Int32) (k : Nat) : Int32 := if k < 94 then V k else if (k - 94) % 95 = 0 then V k else if V (94 + 95 * ((k - 94) / 95)) = 0 then U k else V k
theorem c_copye {L : hL} {X : hX} {b c : Nat} {u v : Nat → Int32} (hb : CXe L X b u) (hc : CXe L X c v) (hd : b + 21 ≤ c ∨ c + 21 ≤ b) (hw : WB v) : ∃ X', f_X0_copyFrom L X b c = some X' ∧ CXe L X' b v ∧ OUT b 21 X X' := by
  obtain ⟨π, ρ, hb⟩ := hb
  obtain ⟨π2, ρ2, hc⟩ := hc
  obtain ⟨X', h1, h2, h3⟩ := c_copy hb hc hd hw
  exact ⟨X', h1, ⟨_, _, h2⟩, h3⟩
theorem nar01 {x : Int32} (h : x = 0 ∨ x = 1) : vp_nar .boolean x = x := by
  unfold vp_nar
  rw [(hx_nb h).1]
section ST
variable {L : hL} {s t : Nat} {V : Nat → Int32}
theorem CXe.tk0 {X : hX} {b : Nat} {v : Nat → Int32} (h : CXe L X b v) : tk L b 0 := by
  obtain ⟨π, ρ, h⟩ := h
  exact h.1.1.1
theorem c_scopy_l (hd : s + 66 ≤ t ∨ t + 66 ≤ s) (hW : WS V) : ∀ (d i n : Nat) (U : Nat → Int32) (X : hX), i + d = 2 → d < n → SV L X s U → SV L X t V → ∃ X', f_X8_copyFrom_13 L n s t (nI i) X = some X' ∧ SV L X' s (fun k => if k < 94 + 95 * i then U k else cpy U V k) ∧ OUT s 66 X X' := by
  intro d
  induction d with
  | zero =>
    intro i n U X hi hn hs ht
    obtain rfl : i = 2 := by omega
    obtain ⟨m, rfl⟩ : ∃ m, n = m + 1 := ⟨n - 1, by omega⟩
    unfold f_X8_copyFrom_13
    rw [if_pos (show (2 : Int32) ≤ nI 2 by decide)]
    exact ⟨_, rfl, hs.ext (fun k hk => (if_pos (by omega)).symm), OUT.rf⟩
  | succ d ih =>
    intro i n U X hi hn hs ht
    obtain ⟨m, rfl⟩ : ∃ m, n = m + 1 := ⟨n - 1, by omega⟩
    have hi2 : i < 2 := by omega
    obtain ⟨⟨s0, s1, s2, s3, s4⟩, ⟨r0, r1, r2, r3⟩, -, hS⟩ := id hs
    obtain ⟨⟨u0, u1, u2, u3, u4⟩, ⟨w0, w1, w2, w3⟩, -, hT⟩ := id ht
    have ft := (hT i hi2).2
    have hf01 : V (94 + 95 * i) = 0 ∨ V (94 + 95 * i) = 1 := (hW.2 i hi2).imp id (fun q => q.1)
    have ss : ∀ (Y : hX) (a j : Nat) (x : Int32), (smi Y a j x).1 a j = x := fun Y a j x => by rw [smi_d, pk_us]
    have o1 : OUT s 66 X (smi X (s + 23) i (V (94 + 95 * i))) := OUT.rf.w (by omega) (by omega)
    have hs1 := hs.flag hi2 (V (94 + 95 * i))
    have ht1 := ht.out o1 hd
    unfold f_X8_copyFrom_13 f_X8_copyFrom_54
    simp only [if_neg (show ¬ (2 : Int32) ≤ nI i from fun z => absurd ((nle (i := i) (n := 2) (by omega) (by omega)).mp z) (by omega)), if_pos s0, r2, Option.bind_some, if_pos u0, w2, if_pos u3, u4, if_pos s3, s4, if_pos (hin_nI (n := 2) hi2 (by omega)), nI_clamp (show i < 2 ^ 31 by omega), ft, nar01 hf01, ss, n1]
    rcases hW.2 i hi2 with hz | ⟨h1, hwb⟩
    · rw [if_pos hz]
      obtain ⟨X', q1, q2, q3⟩ := ih (i + 1) m _ _ (by omega) (by omega) hs1 ht1
      refine ⟨X', q1, q2.ext (fun k hk => ?_), o1.tr q3⟩
      unfold cpy upd
      by_cases c1 : k < 94 + 95 * i
      · have c2 : k < 94 + 95 * (i + 1) := by omega
        have c3 : ¬ k = 94 + 95 * i := by omega
        simp only [c1, c2, c3, if_true, if_false]
      · have c0 : ¬ k < 94 := by omega
        by_cases c2 : k < 94 + 95 * (i + 1)
        · by_cases c3 : k = 94 + 95 * i
          · have c4 : (k - 94) % 95 = 0 := by omega
            simp only [c0, c1, c2, c4, if_true, if_false]
            rw [if_pos c3, c3]
          · have c4 : ¬ (k - 94) % 95 = 0 := by omega
            have c5 : (k - 94) / 95 = i := by omega
            simp only [c0, c1, c2, c3, c4, c5, hz, if_true, if_false]
        · have c3 : ¬ k = 94 + 95 * i := by omega
          simp only [c0, c1, c2, c3, if_true, if_false]
    · have h10 : ¬ V (94 + 95 * i) = 0 := by rw [h1]; decide
      have sr : ∀ x, (smi X (s + 23) i x).2 = X.2 := fun x => rfl
      obtain ⟨Y, y1, y2, y3⟩ := c_copye (hs1.2.2.2 i hi2).1 (ht1.2.2.2 i hi2).1 (by omega) hwb
      simp only [if_neg h10, sr, r1, w1, Option.bind_some, if_pos s1, s2, if_pos u1, u2, if_pos (hin_nI (n := 2) hi2 (by omega)), nI_clamp (show i < 2 ^ 31 by omega), r3 i hi2, w3 i hi2, y1, if_pos (hS i hi2).1.tk0]
      have hs2 := hs1.slot hi2 y3 y2
      have ht2 := ht1.out (y3.mono (a := s) (n := 66) (by omega) (by omega)) hd
      obtain ⟨X', q1, q2, q3⟩ := ih (i + 1) m _ _ (by omega) (by omega) hs2 ht2
      refine ⟨X', q1, q2.ext (fun k hk => ?_), (o1.tr (y3.mono (a := s) (n := 66) (by omega) (by omega))).tr q3⟩
      unfold cpy ovr upd
      by_cases c1 : k < 94 + 95 * i
      · have c2 : k < 94 + 95 * (i + 1) := by omega
        have c3 : ¬ k = 94 + 95 * i := by omega
        have c6 : ¬ (95 + 95 * i ≤ k ∧ k < 95 + 95 * i + 94) := by omega
        simp only [c1, c2, c3, c6, if_true, if_false]
      · have c0 : ¬ k < 94 := by omega
        by_cases c2 : k < 94 + 95 * (i + 1)
        · by_cases c3 : k = 94 + 95 * i
          · have c4 : (k - 94) % 95 = 0 := by omega
            have c6 : ¬ (95 + 95 * i ≤ k ∧ k < 95 + 95 * i + 94) := by omega
            simp only [c0, c1, c2, c4, c6, if_true, if_false]
            rw [if_pos c3, c3]
          · have c4 : ¬ (k - 94) % 95 = 0 := by omega
            have c5 : (k - 94) / 95 = i := by omega
            have c6 : 95 + 95 * i ≤ k ∧ k < 95 + 95 * i + 94 := by omega
            have c7 : 95 + 95 * i + (k - (95 + 95 * i)) = k := by omega
            rw [if_pos c2, if_pos c6, if_neg c1, if_neg c0, if_neg c4, c5, if_neg h10]
            exact congrArg V c7
        · have c3 : ¬ k = 94 + 95 * i := by omega
          have c6 : ¬ (95 + 95 * i ≤ k ∧ k < 95 + 95 * i + 94) := by omega
          simp only [c0, c1, c2, c3, c6, if_true, if_false]
theorem c_scopy {X : hX} {U : Nat → Int32} (hd : s + 66 ≤ t ∨ t + 66 ≤ s) (hW : WS V) (hs : SV L X s U) (ht : SV L X t V) : ∃ X', f_X8_copyFrom L X s t = some X' ∧ SV L X' s (cpy U V) ∧ OUT s 66 X X' := by
  obtain ⟨Y, y1, y2, y3⟩ := c_copye hs.2.2.1 ht.2.2.1 (by omega) hW.1
  have o1 := y3.mono (a := s) (n := 66) (by omega) (by omega)
  obtain ⟨X', q1, q2, q3⟩ := c_scopy_l hd hW 2 0 u_fuel _ Y rfl (by unfold u_fuel; omega) (hs.cnt y3 y2) (ht.out o1 hd)
  unfold f_X8_copyFrom
  rw [if_pos hs.1.1, hs.2.1.1, Option.bind_some, if_pos ht.1.1, ht.2.1.1, Option.bind_some, y1, Option.bind_some, if_pos hs.2.2.1.tk0]
  refine ⟨X', q1, q2.ext (fun k hk => ?_), o1.tr q3⟩
  unfold cpy ovr
  by_cases c1 : k < 94
  · have c2 : k < 94 + 95 * 0 := by omega
    have c3 : 0 ≤ k ∧ k < 0 + 94 := by omega
    rw [if_pos c2, if_pos c3, if_pos c1, Nat.sub_zero]
  · have c2 : ¬ k < 94 + 95 * 0 := by omega
    have c3 : ¬ (0 ≤ k ∧ k < 0 + 94) := by omega
    simp only [if_neg c1, if_neg c2, if_neg c3]
/-- taking a snapshot -/
def op_fill (V : Nat → Int32) (i : Nat) : Nat → Int32 := upd (ovr V (95 + 95 * i) V) (94 + 95 * i) 1
theorem slot_of {a : Int32} (h : 0 ≤ a ∧ a ≤ 1) : ∃ j, j < 2 ∧ a = nI j := by
  obtain ⟨j, hj, rfl⟩ := nI_of2 (x := a) (M := 1) (n := 1) (by decide) (fun q => by have := i_le.mp h.1; rw [i_lt] at q; omega) h.2
  exact ⟨j, by omega, rfl⟩
theorem c_pointsE {X : hX} {b : Nat} {v : Nat → Int32} (h : CXe L X b v) : f_X0_allPoints L X b = some (smx (fun c => v (16 + 6 * c)) 6) := by
  obtain ⟨π, ρ, h⟩ := h
  exact c_allPoints h
end ST
