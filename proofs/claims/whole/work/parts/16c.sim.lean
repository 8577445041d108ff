/-! both sides together -/
def RVS (B : Int) (V W : Nat → Int32) : Prop := (∃ n m, RV B V W n m) ∧ ∀ i, i < 2 → V (94 + 95 * i) = W (94 + 95 * i) ∧ (V (94 + 95 * i) = 0 ∨ V (94 + 95 * i) = 1 ∧ ∃ n m, RV B (fun k => V (95 + 95 * i + k)) (fun k => W (95 + 95 * i + k)) n m)
def TX (X : hX) (l : Nat) : Prop := l ≤ 140 ∧ X.1 465 3 = nI l ∧ X.1 470 6 = nI l ∧ ∀ k, k < 140 → X.1 466 k = X.1 475 k ∧ 0 ≤ X.1 466 k ∧ X.1 466 k < 65536
def FLr (X : hX) : Prop := (X.1 468 0 = 0 ∧ X.1 470 8 = 0) ∨ (X.1 470 8 = 1 ∧ (X.1 468 0 = 1 ∨ X.1 468 0 = 2 ∨ X.1 468 0 = 3) ∧ X.1 476 0 = X.1 468 0 ∧ X.1 476 1 = X.1 468 1 ∧ X.1 476 2 = (if X.1 468 0 = 1 then 1 else 2) ∧ X.1 476 3 = X.1 468 2 ∧ X.1 476 4 = X.1 468 3)
def JJ (B : Int) (L : hL) (X : hX) (E : Nat → Nat) (V : Nat → Nat → Int32) (n l : Nat) : Prop := (CI L X E V n ∧ MOK L X ∧ X.1 470 4 = nI n) ∧ (RVS B (V 5) (X.1 471) ∧ ∀ r, r < n → RVS B (V r) (fun k => X.1 474 (284 * r + k))) ∧ TX X l ∧ FLr X ∧ Cl (fun k => k < 470) X ∧ Cl (fun k => 470 ≤ k) X
def J (B : Int) (L : hL) (X : hX) : Prop := ∃ E V n l, JJ B L X E V n l
section RS
variable {B B' : Int} {V W : Nat → Int32}
theorem RVS.ws (h : RVS B V W) : WS V := by
  obtain ⟨⟨n, m, h1⟩, h2⟩ := h
  refine ⟨h1.wb, fun i hi => (h2 i hi).2.imp id (fun ⟨q, n, m, h3⟩ => ⟨q, h3.wb⟩)⟩
theorem RVS.ext {V' W' : Nat → Int32} (h : RVS B V W) (e1 : ∀ k, k < 284 → V k = V' k) (e2 : ∀ k, k < 284 → W k = W' k) : RVS B V' W' := by
  obtain ⟨⟨n, m, h1⟩, h2⟩ := h
  refine ⟨⟨n, m, h1.ext (fun k hk => e1 k (by omega)) (fun k hk => e2 k (by omega))⟩, fun i hi => ⟨?_, ?_⟩⟩
  · rw [← e1 _ (by omega), ← e2 _ (by omega)]; exact (h2 i hi).1
  · rw [← e1 (94 + 95 * i) (by omega)]
    exact (h2 i hi).2.imp id (fun ⟨q, n, m, h3⟩ => ⟨q, n, m, h3.ext (fun k hk => e1 _ (by omega)) (fun k hk => e2 _ (by omega))⟩)
theorem RVS.mono (h : RVS B V W) (hB : B ≤ B') : RVS B' V W := by
  obtain ⟨⟨n, m, h1⟩, h2⟩ := h
  exact ⟨⟨n, m, h1.mono hB⟩, fun i hi => ⟨(h2 i hi).1, (h2 i hi).2.imp id (fun ⟨q, n, m, h3⟩ => ⟨q, n, m, h3.mono hB⟩)⟩⟩
theorem RVS.copied {U : Nat → Int32} (h : RVS B V W) : RVS B (cpy U V) W := by
  obtain ⟨⟨n, m, h1⟩, h2⟩ := h
  have g : ∀ i, i < 2 → cpy U V (94 + 95 * i) = V (94 + 95 * i) := fun i hi => by
    unfold cpy
    rw [if_neg (by omega), if_pos (by omega)]
  refine ⟨⟨n, m, h1.ext (fun k hk => ?_) (fun _ _ => rfl)⟩, fun i hi => ?_⟩
  · unfold cpy
    rw [if_pos hk]
  · rw [g i hi]
    refine ⟨(h2 i hi).1, (h2 i hi).2.imp id (fun ⟨q, n, m, h3⟩ => ⟨q, n, m, h3.ext (fun k hk => ?_) (fun _ _ => rfl)⟩)⟩
    unfold cpy
    rw [if_neg (by omega), if_neg (by omega), show (95 + 95 * i + k - 94) / 95 = i by omega, if_neg (by rw [q]; decide)]
theorem RVS.cmd {v' W' : Nat → Int32} (h : RVS B V W) (hB : B ≤ B') (hv : ∃ n m, RV B' v' W' n m) (ho : ∀ k, 94 ≤ k → W' k = W k) : RVS B' (ovr V 0 v') W' := by
  obtain ⟨n, m, hv⟩ := hv
  have g : ∀ k, 94 ≤ k → ovr V 0 v' k = V k := fun k hk => by
    unfold ovr
    rw [if_neg (by omega)]
  refine ⟨⟨n, m, hv.ext (fun k hk => ?_) (fun _ _ => rfl)⟩, fun i hi => ?_⟩
  · unfold ovr
    rw [if_pos (by omega), Nat.sub_zero]
  · rw [g _ (by omega), ho _ (by omega)]
    exact ⟨(h.2 i hi).1, (h.2 i hi).2.imp id (fun ⟨q, n, m, h3⟩ => ⟨q, n, m, (h3.mono hB).ext (fun k hk => (g _ (by omega)).symm) (fun k hk => (ho _ (by omega)).symm)⟩)⟩
end RS
section JS
variable {B B' : Int} {L : hL} {X : hX} {E : Nat → Nat} {V : Nat → Nat → Int32} {n l : Nat}
theorem MOK.mv {Y : hX} (h : MOK L X) (e : Y.2 470 = X.2 470) : MOK L Y := ⟨h.1, h.2.1, by rw [e]; exact h.2.2⟩
theorem CI.mv {Y : hX} (h : CI L X E V n) (e : ∀ k, k < 466 → Y.1 k = X.1 k ∧ Y.2 k = X.2 k) : CI L Y E V n := by
  obtain ⟨⟨f1, f2, f3, ⟨f4, f5, f6⟩, f7⟩, g, s⟩ := id h
  refine ⟨⟨f1.move (fun k hk => (e k (by omega)).2) (by rw [(e 1 (by omega)).2]), fun t ht => (f2 t ht).mv (fun k hk => (e k (by unfold sb at hk; omega)).2), f3, ⟨by rw [(e 1 (by omega)).2]; exact f4, by rw [(e 1 (by omega)).2]; exact f5, by rw [(e 1 (by omega)).1]; exact f6⟩, fun i hi => by rw [(e 2 (by omega)).2]; exact f7 i hi⟩, g, fun r hr => ?_⟩
  have := h.rng hr
  exact (s r hr).move (fun k a b => e k (by omega))
theorem FR.lo {X Y : hX} (h : FR (fun k => k < 470) X Y) : ∀ k, 470 ≤ k → Y.1 k = X.1 k ∧ Y.2 k = X.2 k := fun k hk => ⟨funext (fun j => (h.2 k (fun q => by omega) j).1), funext (fun j => (h.2 k (fun q => by omega) j).2)⟩
theorem FR.hi {X Y : hX} (h : FR (fun k => 470 ≤ k) X Y) : ∀ k, k < 470 → Y.1 k = X.1 k ∧ Y.2 k = X.2 k := fun k hk => ⟨funext (fun j => (h.2 k (fun q => by omega) j).1), funext (fun j => (h.2 k (fun q => by omega) j).2)⟩
theorem rec_a {n r : Nat} (h : n < 5) (h2 : r < n) : rec_ n r = r := by
  unfold rec_ sw
  rw [if_pos h, if_neg (by omega), if_neg (by omega)]
theorem rec_b {n : Nat} (h : n < 5) : rec_ n n = 6 := by
  unfold rec_ sw
  rw [if_pos h, if_pos rfl]
theorem rec_c : ∀ r, r < 4 → rec_ 5 r = r + 1 := by decide
theorem rec_d : rec_ 5 4 = 6 := by decide
theorem nmin {n : Nat} (h : n ≤ 5) : (if n < 5 then n + 1 else 5) ≤ 5 := by
  by_cases c : n < 5
  · rw [if_pos c]; omega
  · rw [if_neg c]; omega
/-- behind the command: the component settles, the reference acts -/
theorem J_fin (hJ : JJ B L X E V n l) (hBB : B ≤ B') {X2 : hX} {U : Nat → Int32} (hCI : CI L X2 E (Vu (Vu V 6 (cpy (V 6) (V 5))) 5 U) n) (hk : ∀ k, 465 ≤ k → X2.1 k = X.1 k ∧ X2.2 k = X.2 k) (hcl : Cl (fun k => k < 470) X2) {res : Int32} (hE : ER res) {m : hX → Option (Int32 × hX)} {d' : Nat → Int32} (hm : ∀ Y, MOK L Y → Y.1 470 4 = nI n → Y.1 471 = X.1 471 → ∃ Y', m Y = some (res, Y') ∧ MA Y Y' n d' (¬ res ≤ -100001)) (hmf : ∀ (P : Nat → Prop) Y r Y', m Y = some (r, Y') → Cl P Y → P 470 → FR P Y Y') (hU : RVS B' U d') : ∃ X3 X4, f_X3_settle L X2 1 res = some (res, X3) ∧ m X3 = some (res, X4) ∧ J B' L X4 := by
  obtain ⟨⟨c1, c2, c3⟩, ⟨c4, c5⟩, ⟨t1, t2, t3, t4⟩, c7, c8, c9⟩ := hJ
  obtain ⟨X3, s1, s2, s3, s4⟩ := hCI.settle hE
  have k3 : ∀ k, 465 ≤ k → X3.1 k = X.1 k ∧ X3.2 k = X.2 k := fun k hk' => ⟨(s2 k (by omega) (by omega)).1.trans (hk k hk').1, (s2 k (by omega) (by omega)).2.trans (hk k hk').2⟩
  have cl3 : Cl (fun k => k < 470) X3 := (fr_X3_settle s1 hcl (show (1 : Nat) < 470 by omega)).1
  have cl3' : Cl (fun k => 470 ≤ k) X3 := c9.mv (fun k hk' => (k3 k (by omega)).2)
  have m3 : MOK L X3 := c2.mv (k3 470 (by omega)).2
  obtain ⟨X4, m1, m2⟩ := hm X3 m3 (by rw [(k3 470 (by omega)).1]; exact c3) (k3 471 (by omega)).1
  have f4 := hmf (fun k => 470 ≤ k) X3 _ X4 m1 cl3' (show (470 : Nat) ≤ 470 by omega)
  have h4 := f4.hi
  obtain ⟨a1, ⟨a2, a3, a4, a5⟩, a6, a7, a8⟩ := m2
  have txx : TX X4 l := by
    refine ⟨t1, ?_, ?_, fun k hk' => ?_⟩
    · rw [(h4 465 (by omega)).1, (k3 465 (by omega)).1]; exact t2
    · rw [a4, (k3 470 (by omega)).1]; exact t3
    · rw [(h4 466 (by omega)).1, (k3 466 (by omega)).1, a2, (k3 475 (by omega)).1]; exact t4 k hk'
  have flx : FLr X4 := by
    unfold FLr at c7 ⊢
    rw [(h4 468 (by omega)).1, (k3 468 (by omega)).1, a5, (k3 470 (by omega)).1, a3, (k3 476 (by omega)).1]
    exact c7
  have cl4 : Cl (fun k => k < 470) X4 := cl3.mv (fun k hk' => (h4 k hk').2)
  have m4 : MOK L X4 := m3.mv (by rw [a1])
  refine ⟨X3, X4, s1, m1, ?_⟩
  by_cases c : res ≤ -100001
  · have e3 := s3 c
    obtain ⟨b1, b2⟩ := a8 (fun q => q c)
    rw [e3] at h4
    refine ⟨E, _, n, l, ⟨hCI.mv (fun k hk' => h4 k (by omega)), m4, b1⟩, ⟨?_, fun r hr => ?_⟩, txx, flx, cl4, f4.1⟩
    · show RVS B' (Vu _ 5 U 5) _
      unfold Vu
      rw [if_pos rfl, a6]
      exact hU
    · have hn5 := c1.1.2.2.1
      show RVS B' (Vu (Vu V 6 _) 5 U r) _
      unfold Vu
      rw [if_neg (by omega), if_neg (by omega), b2, (k3 474 (by omega)).1]
      exact (c5 r hr).mono hBB
  · have b := a7 c
    have hn5 := c1.1.2.2.1
    refine ⟨_, _, (if n < 5 then n + 1 else 5), l, ⟨(s4 c).mv (fun k hk' => h4 k (by omega)), m4, ?_⟩, ⟨?_, fun r hr => ?_⟩, txx, flx, cl4, f4.1⟩
    · by_cases q : n < 5
      · rw [if_pos q]; exact (b.1 q).1
      · rw [if_neg q]; exact (b.2 (by omega)).1
    · have e : rec_ n 5 = 5 := by
        unfold rec_ sw rot
        by_cases q : n < 5
        · rw [if_pos q, if_neg (by omega), if_neg (by omega)]
        · rw [if_neg q]; decide
      show RVS B' (Vu _ 5 U (rec_ n 5)) _
      rw [e]
      unfold Vu
      rw [if_pos rfl, a6]
      exact hU
    · show RVS B' (Vu (Vu V 6 (cpy (V 6) (V 5))) 5 U (rec_ n r)) _
      have w5 : RVS B' (cpy (V 6) (V 5)) (X3.1 471) := by
        rw [(k3 471 (by omega)).1]
        exact (c4.mono hBB).copied
      by_cases q : n < 5
      · rw [if_pos q] at hr
        obtain ⟨-, p2, p3⟩ := b.1 q
        by_cases q2 : r = n
        · rw [q2, rec_b q]
          unfold Vu
          rw [if_neg (by omega), if_pos rfl]
          exact w5.ext (fun _ _ => rfl) (fun k hk' => (p3 k hk').symm)
        · rw [rec_a q (by omega)]
          unfold Vu
          rw [if_neg (by omega), if_neg (by omega)]
          refine ((c5 r (by omega)).mono hBB).ext (fun _ _ => rfl) (fun k hk' => ?_)
          rw [p2 r (by omega) k hk', (k3 474 (by omega)).1]
      · rw [if_neg q] at hr
        obtain ⟨-, p2, p3⟩ := b.2 (by omega)
        have e5 : n = 5 := by omega
        subst e5
        by_cases q2 : r < 4
        · rw [rec_c r q2]
          unfold Vu
          rw [if_neg (by omega), if_neg (by omega)]
          refine ((c5 (r + 1) (by omega)).mono hBB).ext (fun _ _ => rfl) (fun k hk' => ?_)
          show X.1 474 (284 * (r + 1) + k) = X4.1 474 (284 * r + k)
          rw [p2 r q2 k hk', (k3 474 (by omega)).1]
        · have er : r = 4 := by omega
          subst er
          rw [rec_d]
          unfold Vu
          rw [if_neg (by omega), if_pos rfl]
          exact w5.ext (fun _ _ => rfl) (fun k hk' => (p3 k hk').symm)
/-- the common body of the component's actions on its counter -/
def act (L : hL) (X : hX) (g : hX → Nat → Option (Int32 × hX)) : Option (Int32 × hX) :=
  if tk L 0 9 then
  (X.2 0 0).bind fun q2 =>
  (f_X3_prepare L X q2).bind fun r4 =>
  if tk L q2 3 then
  (r4.2 0 0).bind fun q7 =>
  (f_X9_counter L r4 0).bind fun r9 =>
  Option.elim r9
  (
    none)
  fun i11 =>
    (g r4 i11).bind fun r12 =>
    if tk L i11 0 then
    (f_X3_settle L r12.2 q7 r12.1).bind fun r15 =>
    if tk L q7 3 then
    some (r15.1, r15.2)
    else none
    else none
  else none
  else none
theorem JJ.prep (hJ : JJ B L X E V n l) : ∃ X1, f_X3_prepare L X 1 = some X1 ∧ CI L X1 E (Vu V 6 (cpy (V 6) (V 5))) n ∧ (∀ k, 465 ≤ k → X1.1 k = X.1 k ∧ X1.2 k = X.2 k) ∧ X1.2 0 = X.2 0 ∧ Cl (fun k => k < 470) X1 := by
  obtain ⟨⟨c1, c2, c3⟩, ⟨c4, c5⟩, c6, c7, c8, c9⟩ := hJ
  obtain ⟨X1, p1, p2, p3⟩ := c1.prep c4.ws
  have h6 := c1.rng (r := 6) (by omega)
  exact ⟨X1, p1, p2, fun k hk => p3 k (by omega), (p3 0 (by omega)).2, (fr_X3_prepare p1 c8 (show (1 : Nat) < 470 by omega)).1⟩
theorem J_act (hJ : JJ B L X E V n l) (hBB : B ≤ B') {g : hX → Nat → Option (Int32 × hX)} {a b : Int32 × (Nat → Int32)} (hg : ∀ Y π ρ, CX L Y (sb (E 5) + 1) π ρ (V 5) → ∃ Y' π' ρ', g Y (sb (E 5) + 1) = some (a.1, Y') ∧ CX L Y' (sb (E 5) + 1) π' ρ' a.2) (hgf : ∀ (P : Nat → Prop) Y r Y' c, g Y c = some (r, Y') → Cl P Y → P c → FR P Y Y') {m : hX → Option (Int32 × hX)} (hm : ∀ Y, MOK L Y → Y.1 470 4 = nI n → Y.1 471 = X.1 471 → ∃ Y', m Y = some (b.1, Y') ∧ MA Y Y' n b.2 (¬ b.1 ≤ -100001)) (hmf : ∀ (P : Nat → Prop) Y r Y', m Y = some (r, Y') → Cl P Y → P 470 → FR P Y Y') (hs : SIM B' a b) (ho : ∀ k, 94 ≤ k → b.2 k = X.1 471 k) : ∃ X3 X4, act L X g = some (a.1, X3) ∧ m X3 = some (a.1, X4) ∧ J B' L X4 := by
  obtain ⟨X1, p1, p2, p3, p4, p5⟩ := hJ.prep
  obtain ⟨hab, hE, hrv⟩ := hs
  have fx := hJ.1.1.1.1
  obtain ⟨π, ρ, hx⟩ := (p2.2.2 5 (by omega)).2.2.1
  have e5 : Vu V 6 (cpy (V 6) (V 5)) 5 = V 5 := rfl
  rw [e5] at hx
  obtain ⟨X2, π', ρ', g1, g2⟩ := hg X1 π ρ hx
  have hf := hgf _ X1 _ X2 _ g1 p2.cl ⟨Nat.le_refl _, by omega⟩
  obtain ⟨q1, q2⟩ := p2.cmd hf ⟨π', ρ', g2⟩
  rw [e5] at q1
  have h5 := hJ.1.1.rng (r := 5) (by omega)
  have k2 : ∀ k, 465 ≤ k → X2.1 k = X.1 k ∧ X2.2 k = X.2 k := fun k hk => ⟨(q2 k (by omega)).1.trans (p3 k hk).1, (q2 k (by omega)).2.trans (p3 k hk).2⟩
  have cl2 : Cl (fun k => k < 470) X2 := (hgf (fun k => k < 470) X1 _ X2 _ g1 p5 (by omega)).1
  have hm' : ∀ Y, MOK L Y → Y.1 470 4 = nI n → Y.1 471 = X.1 471 → ∃ Y', m Y = some (a.1, Y') ∧ MA Y Y' n b.2 (¬ a.1 ≤ -100001) := by
    rw [hab]
    exact hm
  obtain ⟨X3, X4, s1, s2, s3⟩ := J_fin hJ hBB q1 k2 cl2 hE hm' hmf (hJ.2.1.1.cmd hBB hrv ho)
  refine ⟨X3, X4, ?_, s2, s3⟩
  unfold act
  rw [if_pos fx.1.1, fx.2.1.1, Option.bind_some, p1, Option.bind_some, if_pos fx.1.2.1, p4, fx.2.1.1, Option.bind_some, p2.counter, Option.bind_some, Option.elim_some, g1, Option.bind_some, if_pos g2.1.1.1, s1, Option.bind_some, if_pos fx.1.2.1]
end JS
