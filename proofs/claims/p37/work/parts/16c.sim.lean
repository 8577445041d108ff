/-! both sides together -/
def RVS (B : Int) (V W : Nat → Int32) : Prop := (∃ n m, RV B V W n m) ∧ ∀ i, i < 2 → V (94 + 95 * i) = W (94 + 95 * i) ∧ (V (94 + 95 * i) = 0 ∨ V (94 + 95 * i) = 1 ∧ ∃ n m, RV B (fun k => V (95 + 95 * i + k)) (fun k => W (95 + 95 * i + k)) n m)
section RS
variable {B B' : Int} {V W : Nat → Int32}
theorem RVS.ws (h : RVS B V W) : WS V := by
  obtain ⟨⟨n, m, h1⟩, h2⟩ := h
  refine ⟨h1.wb, fun i hi => (h2 i hi).2.imp id (fun ⟨q, n, m, h3⟩ => ⟨q, h3.wb⟩)⟩
theorem RVS.ext {V' W' : Nat → Int32} (h : RVS B V W) (e1 : ∀ k, k < 284 → V k = V' k) (e2 : ∀ k, k < 284 → W k = W' k) : RVS B V' W' := by
  obtain ⟨⟨n, m, h1⟩, h2⟩ := h
  refine ⟨⟨n, m, h1.ext (fun k hk => e1 k (by omega)) (fun k hk => e2 k (by omega))⟩, fun i hi => ⟨?_, ?_⟩⟩
  · rw [← e1 _ (by omega), ← e2 _ (by omega)]; exact (h2 i hi).1
  · rw [← e1 (94 + 95 * i) (by omega)]
    exact (h2 i hi).2.imp id (fun ⟨q, n, m, h3⟩ => ⟨q, n, m, h3.ext (fun k hk => e1 _ (by omega)) (fun k hk => e2 _ (by omega))⟩)
theorem RVS.mono (h : RVS B V W) (hB : B ≤ B') : RVS B' V W := by
  obtain ⟨⟨n, m, h1⟩, h2⟩ := h
  exact ⟨⟨n, m, h1.mono hB⟩, fun i hi => ⟨(h2 i hi).1, (h2 i hi).2.imp id (fun ⟨q, n, m, h3⟩ => ⟨q, n, m, h3.mono hB⟩)⟩⟩
theorem RVS.copied {U : Nat → Int32} (h : RVS B V W) : RVS B (cpy U V) W := by
  obtain ⟨⟨n, m, h1⟩, h2⟩ := h
  have g : ∀ i, i < 2 → cpy U V (94 + 95 * i) = V (94 + 95 * i) := fun i hi => by
    unfold cpy
    rw [if_neg (by omega), if_pos (by omega)]
  refine ⟨⟨n, m, h1.ext (fun k hk => ?_) (fun _ _ => rfl)⟩, fun i hi => ?_⟩
  · unfold cpy
    rw [if_pos hk]
  · rw [g i hi]
    refine ⟨(h2 i hi).1, (h2 i hi).2.imp id (fun ⟨q, n, m, h3⟩ => ⟨q, n, m, h3.ext (fun k hk => ?_) (fun _ _ => rfl)⟩)⟩
    unfold cpy
    rw [if_neg (by omega), if_neg (by omega), show (95 + 95 * i + k - 94) / 95 = i by omega, if_neg (by rw [q]; decide)]
theorem RVS.cmd {v' W' : Nat → Int32} (h : RVS B V W) (hB : B ≤ B') (hv : ∃ n m, RV B' v' W' n m) (ho : ∀ k, 94 ≤ k → W' k = W k) : RVS B' (ovr V 0 v') W' := by
  obtain ⟨n, m, hv⟩ := hv
  have g : ∀ k, 94 ≤ k → ovr V 0 v' k = V k := fun k hk => by
    unfold ovr
    rw [if_neg (by omega)]
  refine ⟨⟨n, m, hv.ext (fun k hk => ?_) (fun _ _ => rfl)⟩, fun i hi => ?_⟩
  · unfold ovr
    rw [if_pos (by omega), Nat.sub_zero]
  · rw [g _ (by omega), ho _ (by omega)]
    exact ⟨(h.2 i hi).1, (h.2 i hi).2.imp id (fun ⟨q, n, m, h3⟩ => ⟨q, n, m, (h3.mono hB).ext (fun k hk => (g _ (by omega)).symm) (fun k hk => (ho _ (by omega)).symm)⟩)⟩
end RS
section JS
variable {B B' : Int} {L : hL} {X : hX} {E : Nat → Nat} {V : Nat → Nat → Int32} {n l : Nat}
theorem CI.mv {Y : hX} (h : CI L X E V n) (e : ∀ k, k < 466 → Y.1 k = X.1 k ∧ Y.2 k = X.2 k) : CI L Y E V n := by
  obtain ⟨⟨f1, f2, f3, ⟨f4, f5, f6⟩, f7⟩, g, s⟩ := id h
  refine ⟨⟨f1.move (fun k hk => (e k (by omega)).2) (by rw [(e 1 (by omega)).2]), fun t ht => (f2 t ht).mv (fun k hk => (e k (by unfold sb at hk; omega)).2), f3, ⟨by rw [(e 1 (by omega)).2]; exact f4, by rw [(e 1 (by omega)).2]; exact f5, by rw [(e 1 (by omega)).1]; exact f6⟩, fun i hi => by rw [(e 2 (by omega)).2]; exact f7 i hi⟩, g, fun r hr => ?_⟩
  have := h.rng hr
  exact (s r hr).move (fun k a b => e k (by omega))
theorem FR.lo {X Y : hX} (h : FR (fun k => k < 470) X Y) : ∀ k, 470 ≤ k → Y.1 k = X.1 k ∧ Y.2 k = X.2 k := fun k hk => ⟨funext (fun j => (h.2 k (fun q => by omega) j).1), funext (fun j => (h.2 k (fun q => by omega) j).2)⟩
theorem FR.hi {X Y : hX} (h : FR (fun k => 470 ≤ k) X Y) : ∀ k, k < 470 → Y.1 k = X.1 k ∧ Y.2 k = X.2 k := fun k hk => ⟨funext (fun j => (h.2 k (fun q => by omega) j).1), funext (fun j => (h.2 k (fun q => by omega) j).2)⟩
theorem rec_a {n r : Nat} (h : n < 5) (h2 : r < n) : rec_ n r = r := by
  unfold rec_ sw
  rw [if_pos h, if_neg (by omega), if_neg (by omega)]
theorem rec_b {n : Nat} (h : n < 5) : rec_ n n = 6 := by
  unfold rec_ sw
  rw [if_pos h, if_pos rfl]
theorem rec_c : ∀ r, r < 4 → rec_ 5 r = r + 1 := by decide
theorem rec_d : rec_ 5 4 = 6 := by decide
theorem nmin {n : Nat} (h : n ≤ 5) : (if n < 5 then n + 1 else 5) ≤ 5 := by
  by_cases c : n < 5
  · rw [if_pos c]; omega
  · rw [if_neg c]; omega
/-- the common body of the component's actions on its counter -/
def act (L : hL) (X : hX) (g : hX → Nat → Option (Int32 × hX)) : Option (Int32 × hX) :=
  if tk L 0 9 then
  (X.2 0 0).bind fun q2 =>
  (f_X3_prepare L X q2).bind fun r4 =>
  if tk L q2 3 then
  (r4.2 0 0).bind fun q7 =>
  (f_X9_counter L r4 0).bind fun r9 =>
  Option.elim r9
  (
    none)
  fun i11 =>
    (g r4 i11).bind fun r12 =>
    if tk L i11 0 then
    (f_X3_settle L r12.2 q7 r12.1).bind fun r15 =>
    if tk L q7 3 then
    some (r15.1, r15.2)
    else none
    else none
  else none
  else none
end JS
