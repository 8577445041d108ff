/-! looking, over the numbers -/
section LO2
variable {B : Int} {L : hL} {X : hX} {n cc pc : Nat} {v w : Nat → Int32}
theorem k_c0 (hK : KS L X n v) : f_X9_count L X 0 0 = some (v 8) := by
  obtain ⟨b, π, ρ, hc, fx, hx, hb⟩ := hK.cx
  unfold f_X9_count f_X0_number
  simp only [if_neg (show ¬ (0 : Int32) = 11 by decide), if_neg (show ¬ (0 : Int32) = 12 by decide), if_neg (show ¬ (0 : Int32) = 13 by decide), if_pos fx.1.1, if_pos (show (0 : Int32) = 0 from rfl), hc, Option.bind_some, if_pos fx.1.1, Option.elim_some, if_pos hx.1.1.1, hx.2.1.1.2.1, if_pos hx.1.1.2.2.2.1, hx.sc (show 0 < 3 by omega), if_true] <;> rfl
theorem k_c1 (hK : KS L X n v) : f_X9_count L X 0 1 = some (v 9) := by
  obtain ⟨b, π, ρ, hc, fx, hx, hb⟩ := hK.cx
  unfold f_X9_count f_X0_number
  simp only [if_neg (show ¬ (1 : Int32) = 11 by decide), if_neg (show ¬ (1 : Int32) = 12 by decide), if_neg (show ¬ (1 : Int32) = 13 by decide), if_neg (show ¬ (1 : Int32) = 0 by decide), if_pos (show (1 : Int32) = 1 from rfl), hc, Option.bind_some, if_pos fx.1.1, Option.elim_some, if_pos hx.1.1.1, hx.2.1.1.2.1, if_pos hx.1.1.2.2.2.1, hx.sc (show 1 < 3 by omega), if_true] <;> rfl
theorem k_c2 (hK : KS L X n v) : f_X9_count L X 0 2 = some (v 10) := by
  obtain ⟨b, π, ρ, hc, fx, hx, hb⟩ := hK.cx
  unfold f_X9_count f_X0_number
  simp only [if_neg (show ¬ (2 : Int32) = 11 by decide), if_neg (show ¬ (2 : Int32) = 12 by decide), if_neg (show ¬ (2 : Int32) = 13 by decide), if_neg (show ¬ (2 : Int32) = 0 by decide), if_neg (show ¬ (2 : Int32) = 1 by decide), if_pos (show (2 : Int32) = 2 from rfl), hc, Option.bind_some, if_pos fx.1.1, Option.elim_some, if_pos hx.1.1.1, hx.2.1.1.2.1, if_pos hx.1.1.2.2.2.1, hx.sc (show 2 < 3 by omega), if_true] <;> rfl
theorem k_c3 (hK : KS L X n v) : f_X9_count L X 0 3 = some (v 11) := by
  obtain ⟨b, π, ρ, hc, fx, hx, hb⟩ := hK.cx
  unfold f_X9_count f_X0_number
  simp only [if_neg (show ¬ (3 : Int32) = 11 by decide), if_neg (show ¬ (3 : Int32) = 12 by decide), if_neg (show ¬ (3 : Int32) = 13 by decide), if_neg (show ¬ (3 : Int32) = 0 by decide), if_neg (show ¬ (3 : Int32) = 1 by decide), if_neg (show ¬ (3 : Int32) = 2 by decide), if_pos (show (3 : Int32) = 3 from rfl), hc, Option.bind_some, if_pos fx.1.1, Option.elim_some, if_pos hx.1.1.1, hx.o6, if_true] <;> rfl
theorem k_c5 (hK : KS L X n v) : f_X9_count L X 0 5 = some (v 14) := by
  obtain ⟨b, π, ρ, hc, fx, hx, hb⟩ := hK.cx
  unfold f_X9_count f_X0_number
  simp only [if_neg (show ¬ (5 : Int32) = 11 by decide), if_neg (show ¬ (5 : Int32) = 12 by decide), if_neg (show ¬ (5 : Int32) = 13 by decide), if_neg (show ¬ (5 : Int32) = 0 by decide), if_neg (show ¬ (5 : Int32) = 1 by decide), if_neg (show ¬ (5 : Int32) = 2 by decide), if_neg (show ¬ (5 : Int32) = 3 by decide), if_neg (show ¬ (5 : Int32) = 4 by decide), if_pos (show (5 : Int32) = 5 from rfl), hc, Option.bind_some, if_pos fx.1.1, Option.elim_some, if_pos hx.1.1.1, hx.o4, if_true] <;> rfl
theorem k_c6 (hK : KS L X n v) : f_X9_count L X 0 6 = some (v 15) := by
  obtain ⟨b, π, ρ, hc, fx, hx, hb⟩ := hK.cx
  unfold f_X9_count f_X0_number
  simp only [if_neg (show ¬ (6 : Int32) = 11 by decide), if_neg (show ¬ (6 : Int32) = 12 by decide), if_neg (show ¬ (6 : Int32) = 13 by decide), if_neg (show ¬ (6 : Int32) = 0 by decide), if_neg (show ¬ (6 : Int32) = 1 by decide), if_neg (show ¬ (6 : Int32) = 2 by decide), if_neg (show ¬ (6 : Int32) = 3 by decide), if_neg (show ¬ (6 : Int32) = 4 by decide), if_neg (show ¬ (6 : Int32) = 5 by decide), if_pos (show (6 : Int32) = 6 from rfl), hc, Option.bind_some, if_pos fx.1.1, Option.elim_some, if_pos hx.1.1.1, hx.o5, if_true] <;> rfl
theorem k_c7 (hK : KS L X n v) : f_X9_count L X 0 7 = some (smx (kp v) 6) := by
  obtain ⟨b, π, ρ, hc, fx, hx, hb⟩ := hK.cx
  unfold f_X9_count f_X0_number
  simp only [if_neg (show ¬ (7 : Int32) = 11 by decide), if_neg (show ¬ (7 : Int32) = 12 by decide), if_neg (show ¬ (7 : Int32) = 13 by decide), if_neg (show ¬ (7 : Int32) = 0 by decide), if_neg (show ¬ (7 : Int32) = 1 by decide), if_neg (show ¬ (7 : Int32) = 2 by decide), if_neg (show ¬ (7 : Int32) = 3 by decide), if_neg (show ¬ (7 : Int32) = 4 by decide), if_neg (show ¬ (7 : Int32) = 5 by decide), if_neg (show ¬ (7 : Int32) = 6 by decide), if_pos (show (7 : Int32) = 7 from rfl), hc, Option.bind_some, if_pos fx.1.1, Option.elim_some, if_pos hx.1.1.1, c_kept hx, if_true] <;> rfl
theorem k_c8 (hK : KS L X n v) : f_X9_count L X 0 8 = some (v 13) := by
  obtain ⟨b, π, ρ, hc, fx, hx, hb⟩ := hK.cx
  unfold f_X9_count f_X0_number
  simp only [if_neg (show ¬ (8 : Int32) = 11 by decide), if_neg (show ¬ (8 : Int32) = 12 by decide), if_neg (show ¬ (8 : Int32) = 13 by decide), if_neg (show ¬ (8 : Int32) = 0 by decide), if_neg (show ¬ (8 : Int32) = 1 by decide), if_neg (show ¬ (8 : Int32) = 2 by decide), if_neg (show ¬ (8 : Int32) = 3 by decide), if_neg (show ¬ (8 : Int32) = 4 by decide), if_neg (show ¬ (8 : Int32) = 5 by decide), if_neg (show ¬ (8 : Int32) = 6 by decide), if_neg (show ¬ (8 : Int32) = 7 by decide), if_pos (show (8 : Int32) = 8 from rfl), hc, Option.bind_some, if_pos fx.1.1, Option.elim_some, if_pos hx.1.1.1, hx.o8, if_true] <;> rfl
theorem k_c9 (hK : KS L X n v) : f_X9_count L X 0 9 = some (smx (fun c => v (16 + 6 * c)) 6) := by
  obtain ⟨b, π, ρ, hc, fx, hx, hb⟩ := hK.cx
  unfold f_X9_count f_X0_number
  simp only [if_neg (show ¬ (9 : Int32) = 11 by decide), if_neg (show ¬ (9 : Int32) = 12 by decide), if_neg (show ¬ (9 : Int32) = 13 by decide), if_neg (show ¬ (9 : Int32) = 0 by decide), if_neg (show ¬ (9 : Int32) = 1 by decide), if_neg (show ¬ (9 : Int32) = 2 by decide), if_neg (show ¬ (9 : Int32) = 3 by decide), if_neg (show ¬ (9 : Int32) = 4 by decide), if_neg (show ¬ (9 : Int32) = 5 by decide), if_neg (show ¬ (9 : Int32) = 6 by decide), if_neg (show ¬ (9 : Int32) = 7 by decide), if_neg (show ¬ (9 : Int32) = 8 by decide), if_pos (show (9 : Int32) = 9 from rfl), hc, Option.bind_some, if_pos fx.1.1, Option.elim_some, if_pos hx.1.1.1, c_allPoints hx, if_true] <;> rfl
theorem k_c10 (hK : KS L X n v) : f_X9_count L X 0 10 = some (smx (fun c => v (52 + 7 * c + 2)) 6) := by
  obtain ⟨b, π, ρ, hc, fx, hx, hb⟩ := hK.cx
  unfold f_X9_count f_X0_number
  simp only [if_neg (show ¬ (10 : Int32) = 11 by decide), if_neg (show ¬ (10 : Int32) = 12 by decide), if_neg (show ¬ (10 : Int32) = 13 by decide), if_neg (show ¬ (10 : Int32) = 0 by decide), if_neg (show ¬ (10 : Int32) = 1 by decide), if_neg (show ¬ (10 : Int32) = 2 by decide), if_neg (show ¬ (10 : Int32) = 3 by decide), if_neg (show ¬ (10 : Int32) = 4 by decide), if_neg (show ¬ (10 : Int32) = 5 by decide), if_neg (show ¬ (10 : Int32) = 6 by decide), if_neg (show ¬ (10 : Int32) = 7 by decide), if_neg (show ¬ (10 : Int32) = 8 by decide), if_neg (show ¬ (10 : Int32) = 9 by decide), if_pos (show (10 : Int32) = 10 from rfl), hc, Option.bind_some, if_pos fx.1.1, Option.elim_some, if_pos hx.1.1.1, c_allStocks hx, if_true] <;> rfl
theorem k_c12 (hK : KS L X n v) : f_X9_count L X 0 12 = some (nI n) := by
  have hs := hK.size
  obtain ⟨b, π, ρ, hc, fx, hx, hb⟩ := hK.cx
  unfold f_X9_count
  simp only [if_neg (show ¬ (12 : Int32) = 11 by decide), if_pos (show (12 : Int32) = 12 from rfl), if_pos fx.1.1, fx.2.1.1, Option.bind_some, if_pos fx.1.2.1, hs, if_true] <;> rfl
theorem k_kindw (hK : KS L X n v) {j : Nat} (hj : j < 4) : f_X9_kind L X 0 (nI j) 0 = some (v j) := by
  obtain ⟨b, π, ρ, hc, fx, hx, hb⟩ := hK.cx
  unfold f_X9_kind
  have h1 : 0 ≤ nI j ∧ nI j ≤ 3 := ⟨nI_pos' (by omega), by rw [i_le, nI_toInt (by omega), show (3 : Int32).toInt = 3 by decide]; omega⟩
  rw [hc, Option.bind_some, if_pos fx.1.1, Option.elim_some, c_kindAt hx, Option.bind_some, if_pos hx.1.1.1, if_pos h1, Option.elim_some, s_within, nI_clamp (by omega), if_pos (show (0 : Int32) ≤ 0 ∧ (0 : Int32) ≤ 1 by decide), Option.bind_some, if_neg (show ¬ (1 : Int32) = 0 by decide)]
  simp only [if_pos (kt hx hj), hx.kw hj, if_pos (show (0 : Int32) = 0 from rfl), if_true]
theorem k_kinds (hK : KS L X n v) {j : Nat} (hj : j < 4) : f_X9_kind L X 0 (nI j) 1 = some (v (4 + j)) := by
  obtain ⟨b, π, ρ, hc, fx, hx, hb⟩ := hK.cx
  unfold f_X9_kind
  have h1 : 0 ≤ nI j ∧ nI j ≤ 3 := ⟨nI_pos' (by omega), by rw [i_le, nI_toInt (by omega), show (3 : Int32).toInt = 3 by decide]; omega⟩
  rw [hc, Option.bind_some, if_pos fx.1.1, Option.elim_some, c_kindAt hx, Option.bind_some, if_pos hx.1.1.1, if_pos h1, Option.elim_some, s_within, nI_clamp (by omega), if_pos (show (0 : Int32) ≤ 1 ∧ (1 : Int32) ≤ 1 by decide), Option.bind_some, if_neg (show ¬ (1 : Int32) = 0 by decide)]
  simp only [if_pos (kt hx hj), hx.ks hj, if_neg (show ¬ (1 : Int32) = 0 by decide), if_true]
theorem k_cu0 (hK : KS L X n v) (hv : RV B v w cc pc) {c : Nat} (hcc : c < cc) : f_X9_customer L X 0 (nI c) 0 = some (v (16 + 6 * c)) := by
  obtain ⟨b, π, ρ, hc, fx, hx, hb⟩ := hK.cx
  have hcc6 := hv.1.1
  have hc6 : c < 6 := by omega
  unfold f_X9_customer
  rw [hc, Option.bind_some, if_pos fx.1.1, Option.elim_some, c_customerAt hx hv.1.1 hv.1.2.2.2.1, Option.bind_some, if_pos hx.1.1.1, if_pos ((nR (by omega) (by omega)).mpr hcc), Option.elim_some, nI_clamp (by omega)]
  unfold f_X1_part
  have e0 : X.1 (b + 9 + π c) 0 = v (16 + 6 * c) := hx.cu hc6 (show 0 < 6 by omega)
  rw [s_within, if_pos (show (0 : Int32) ≤ 0 ∧ (0 : Int32) ≤ 4 by decide), Option.bind_some, if_neg (show ¬ (1 : Int32) = 0 by decide)]
  simp only [if_pos (ct hx hc6), if_pos (show (0 : Int32) = 0 from rfl), e0, if_true, Option.bind_some]
theorem k_cu1 (hK : KS L X n v) (hv : RV B v w cc pc) {c : Nat} (hcc : c < cc) : f_X9_customer L X 0 (nI c) 1 = some (if v (16 + 6 * c + 1) = 0 then -100009 else v (16 + 6 * c + 2)) := by
  obtain ⟨b, π, ρ, hc, fx, hx, hb⟩ := hK.cx
  have hcc6 := hv.1.1
  have hc6 : c < 6 := by omega
  unfold f_X9_customer
  rw [hc, Option.bind_some, if_pos fx.1.1, Option.elim_some, c_customerAt hx hv.1.1 hv.1.2.2.2.1, Option.bind_some, if_pos hx.1.1.1, if_pos ((nR (by omega) (by omega)).mpr hcc), Option.elim_some, nI_clamp (by omega)]
  unfold f_X1_part
  have e1 : X.1 (b + 9 + π c) 1 = v (16 + 6 * c + 1) := hx.cu hc6 (show 1 < 6 by omega)
  have e2 : X.1 (b + 9 + π c) 2 = v (16 + 6 * c + 2) := hx.cu hc6 (show 2 < 6 by omega)
  rw [s_within, if_pos (show (0 : Int32) ≤ 1 ∧ (1 : Int32) ≤ 4 by decide), Option.bind_some, if_neg (show ¬ (1 : Int32) = 0 by decide)]
  simp only [if_pos (ct hx hc6), if_neg (show ¬ (1 : Int32) = 0 by decide), e1, e2, if_pos (show (1 : Int32) = 1 from rfl), if_true]
  by_cases q : v (16 + 6 * c + 1) = 0
  · simp only [if_pos q, if_true, Option.bind_some]
  · simp only [if_neg q, if_true, Option.bind_some]
theorem k_cu2 (hK : KS L X n v) (hv : RV B v w cc pc) {c : Nat} (hcc : c < cc) : f_X9_customer L X 0 (nI c) 2 = some (if v (16 + 6 * c + 1) = 0 then -100009 else v (16 + 6 * c + 3)) := by
  obtain ⟨b, π, ρ, hc, fx, hx, hb⟩ := hK.cx
  have hcc6 := hv.1.1
  have hc6 : c < 6 := by omega
  unfold f_X9_customer
  rw [hc, Option.bind_some, if_pos fx.1.1, Option.elim_some, c_customerAt hx hv.1.1 hv.1.2.2.2.1, Option.bind_some, if_pos hx.1.1.1, if_pos ((nR (by omega) (by omega)).mpr hcc), Option.elim_some, nI_clamp (by omega)]
  unfold f_X1_part
  have e1 : X.1 (b + 9 + π c) 1 = v (16 + 6 * c + 1) := hx.cu hc6 (show 1 < 6 by omega)
  have e3 : X.1 (b + 9 + π c) 3 = v (16 + 6 * c + 3) := hx.cu hc6 (show 3 < 6 by omega)
  rw [s_within, if_pos (show (0 : Int32) ≤ 2 ∧ (2 : Int32) ≤ 4 by decide), Option.bind_some, if_neg (show ¬ (1 : Int32) = 0 by decide)]
  simp only [if_pos (ct hx hc6), if_neg (show ¬ (2 : Int32) = 0 by decide), if_neg (show ¬ (2 : Int32) = 1 by decide), e1, e3, if_pos (show (2 : Int32) = 2 from rfl), if_true]
  by_cases q : v (16 + 6 * c + 1) = 0
  · simp only [if_pos q, if_true, Option.bind_some]
  · simp only [if_neg q, if_true, Option.bind_some]
theorem k_cu3 (hK : KS L X n v) (hv : RV B v w cc pc) {c : Nat} (hcc : c < cc) : f_X9_customer L X 0 (nI c) 3 = some (if v (16 + 6 * c + 1) = 0 then -100009 else v (16 + 6 * c + 4)) := by
  obtain ⟨b, π, ρ, hc, fx, hx, hb⟩ := hK.cx
  have hcc6 := hv.1.1
  have hc6 : c < 6 := by omega
  unfold f_X9_customer
  rw [hc, Option.bind_some, if_pos fx.1.1, Option.elim_some, c_customerAt hx hv.1.1 hv.1.2.2.2.1, Option.bind_some, if_pos hx.1.1.1, if_pos ((nR (by omega) (by omega)).mpr hcc), Option.elim_some, nI_clamp (by omega)]
  unfold f_X1_part
  have e1 : X.1 (b + 9 + π c) 1 = v (16 + 6 * c + 1) := hx.cu hc6 (show 1 < 6 by omega)
  have e4 : X.1 (b + 9 + π c) 4 = v (16 + 6 * c + 4) := hx.cu hc6 (show 4 < 6 by omega)
  rw [s_within, if_pos (show (0 : Int32) ≤ 3 ∧ (3 : Int32) ≤ 4 by decide), Option.bind_some, if_neg (show ¬ (1 : Int32) = 0 by decide)]
  simp only [if_pos (ct hx hc6), if_neg (show ¬ (3 : Int32) = 0 by decide), if_neg (show ¬ (3 : Int32) = 1 by decide), if_neg (show ¬ (3 : Int32) = 2 by decide), e1, e4, if_pos (show (3 : Int32) = 3 from rfl), if_true]
  by_cases q : v (16 + 6 * c + 1) = 0
  · simp only [if_pos q, if_true, Option.bind_some]
  · simp only [if_neg q, if_true, Option.bind_some]
theorem k_cu4 (hK : KS L X n v) (hv : RV B v w cc pc) {c : Nat} (hcc : c < cc) : f_X9_customer L X 0 (nI c) 4 = some (if v (16 + 6 * c + 1) = 0 then -100009 else v (16 + 6 * c + 5)) := by
  obtain ⟨b, π, ρ, hc, fx, hx, hb⟩ := hK.cx
  have hcc6 := hv.1.1
  have hc6 : c < 6 := by omega
  unfold f_X9_customer
  rw [hc, Option.bind_some, if_pos fx.1.1, Option.elim_some, c_customerAt hx hv.1.1 hv.1.2.2.2.1, Option.bind_some, if_pos hx.1.1.1, if_pos ((nR (by omega) (by omega)).mpr hcc), Option.elim_some, nI_clamp (by omega)]
  unfold f_X1_part
  have e1 : X.1 (b + 9 + π c) 1 = v (16 + 6 * c + 1) := hx.cu hc6 (show 1 < 6 by omega)
  have e5 : X.1 (b + 9 + π c) 5 = v (16 + 6 * c + 5) := hx.cu hc6 (show 5 < 6 by omega)
  rw [s_within, if_pos (show (0 : Int32) ≤ 4 ∧ (4 : Int32) ≤ 4 by decide), Option.bind_some, if_neg (show ¬ (1 : Int32) = 0 by decide)]
  simp only [if_pos (ct hx hc6), if_neg (show ¬ (4 : Int32) = 0 by decide), if_neg (show ¬ (4 : Int32) = 1 by decide), if_neg (show ¬ (4 : Int32) = 2 by decide), if_neg (show ¬ (4 : Int32) = 3 by decide), e1, e5, if_true]
  by_cases q : v (16 + 6 * c + 1) = 0
  · simp only [if_pos q, if_true, Option.bind_some]
  · simp only [if_neg q, if_true, Option.bind_some]
theorem k_pr0 (hK : KS L X n v) (hv : RV B v w cc pc) {c : Nat} (hcp : c < pc) : f_X9_prize L X 0 (nI c) 0 = some (v (52 + 7 * c)) := by
  obtain ⟨b, π, ρ, hc, fx, hx, hb⟩ := hK.cx
  have hpc6 := hv.1.2.1
  have hc6 : c < 6 := by omega
  unfold f_X9_prize
  rw [hc, Option.bind_some, if_pos fx.1.1, Option.elim_some, c_prizeAt hx hv.1.2.1 hv.1.2.2.2.2.1, Option.bind_some, if_pos hx.1.1.1, if_pos ((nR (by omega) (by omega)).mpr hcp), Option.elim_some, nI_clamp (by omega)]
  unfold f_X5_part
  have e : X.1 (b + 15 + ρ c) 0 = v (52 + 7 * c) := hx.pr hc6 (show 0 < 7 by omega)
  simp only [if_pos (pt hx hc6), if_pos (show (0 : Int32) = 0 from rfl), e, Option.bind_some, if_true]
theorem k_pr2 (hK : KS L X n v) (hv : RV B v w cc pc) {c : Nat} (hcp : c < pc) : f_X9_prize L X 0 (nI c) 2 = some (v (52 + 7 * c + 2)) := by
  obtain ⟨b, π, ρ, hc, fx, hx, hb⟩ := hK.cx
  have hpc6 := hv.1.2.1
  have hc6 : c < 6 := by omega
  unfold f_X9_prize
  rw [hc, Option.bind_some, if_pos fx.1.1, Option.elim_some, c_prizeAt hx hv.1.2.1 hv.1.2.2.2.2.1, Option.bind_some, if_pos hx.1.1.1, if_pos ((nR (by omega) (by omega)).mpr hcp), Option.elim_some, nI_clamp (by omega)]
  unfold f_X5_part
  have e : X.1 (b + 15 + ρ c) 2 = v (52 + 7 * c + 2) := hx.pr hc6 (show 2 < 7 by omega)
  simp only [if_pos (pt hx hc6), if_neg (show ¬ (2 : Int32) = 0 by decide), if_neg (show ¬ (2 : Int32) = 1 by decide), if_pos (show (2 : Int32) = 2 from rfl), e, Option.bind_some, if_true]
theorem k_pr3 (hK : KS L X n v) (hv : RV B v w cc pc) {c : Nat} (hcp : c < pc) : f_X9_prize L X 0 (nI c) 3 = some (v (52 + 7 * c + 3)) := by
  obtain ⟨b, π, ρ, hc, fx, hx, hb⟩ := hK.cx
  have hpc6 := hv.1.2.1
  have hc6 : c < 6 := by omega
  unfold f_X9_prize
  rw [hc, Option.bind_some, if_pos fx.1.1, Option.elim_some, c_prizeAt hx hv.1.2.1 hv.1.2.2.2.2.1, Option.bind_some, if_pos hx.1.1.1, if_pos ((nR (by omega) (by omega)).mpr hcp), Option.elim_some, nI_clamp (by omega)]
  unfold f_X5_part
  have e : X.1 (b + 15 + ρ c) 3 = v (52 + 7 * c + 3) := hx.pr hc6 (show 3 < 7 by omega)
  simp only [if_pos (pt hx hc6), if_neg (show ¬ (3 : Int32) = 0 by decide), if_neg (show ¬ (3 : Int32) = 1 by decide), if_neg (show ¬ (3 : Int32) = 2 by decide), if_pos (show (3 : Int32) = 3 from rfl), e, Option.bind_some, if_true]
theorem k_pr5 (hK : KS L X n v) (hv : RV B v w cc pc) {c : Nat} (hcp : c < pc) : f_X9_prize L X 0 (nI c) 5 = some (v (52 + 7 * c + 5)) := by
  obtain ⟨b, π, ρ, hc, fx, hx, hb⟩ := hK.cx
  have hpc6 := hv.1.2.1
  have hc6 : c < 6 := by omega
  unfold f_X9_prize
  rw [hc, Option.bind_some, if_pos fx.1.1, Option.elim_some, c_prizeAt hx hv.1.2.1 hv.1.2.2.2.2.1, Option.bind_some, if_pos hx.1.1.1, if_pos ((nR (by omega) (by omega)).mpr hcp), Option.elim_some, nI_clamp (by omega)]
  unfold f_X5_part
  have e : X.1 (b + 15 + ρ c) 5 = v (52 + 7 * c + 5) := hx.pr hc6 (show 5 < 7 by omega)
  simp only [if_pos (pt hx hc6), if_neg (show ¬ (5 : Int32) = 0 by decide), if_neg (show ¬ (5 : Int32) = 1 by decide), if_neg (show ¬ (5 : Int32) = 2 by decide), if_neg (show ¬ (5 : Int32) = 3 by decide), if_neg (show ¬ (5 : Int32) = 4 by decide), if_pos (show (5 : Int32) = 5 from rfl), e, Option.bind_some, if_true]
theorem k_read (hK : KS L X n v) (hS : RgS v) {x : Int32} (h1 : -5000 ≤ x ∧ x ≤ 3000000) : f_X9_read L X 0 x = some (rb (v 8) x) := by
  obtain ⟨b, π, ρ, hc, fx, hx, hb⟩ := hK.cx
  unfold f_X9_read
  rw [s_within, hc]
  simp only [if_pos h1, Option.bind_some, i10, if_false, if_pos fx.1.1, Option.elim_some, if_pos hx.1.1.1, hx.2.1.1.2.1, if_pos hx.1.1.2.2.2.1, hx.sc (show 0 < 3 by omega), if_true]
  rw [c_readingAt hS.1, Option.bind_some]
theorem rdg_le {r : Int32} (h : rdg r) : 0 ≤ r ∧ r ≤ 3000000 := ⟨by rw [i_le, z0i]; exact h.1, by rw [i_le, show (3000000 : Int32).toInt = 3000000 by decide]; exact h.2⟩
theorem le3 {j : Nat} (hj : j < 4) : 0 ≤ nI j ∧ nI j ≤ 3 := ⟨nI_pos' (by omega), by rw [i_le, nI_toInt (by omega), show (3 : Int32).toInt = 3 by decide]; omega⟩
theorem k_al0 (hK : KS L X n v) (hS : RgS v) {r : Int32} (hr : rdg r) {j : Nat} (hj : j < 4) : f_X9_allowed L X 0 r (nI j) 0 = some (if gl v r j ≤ gg v r j then gl v r j else -100009) := by
  obtain ⟨b, π, ρ, hc, fx, hx, hb⟩ := hK.cx
  unfold f_X9_allowed
  simp only [hc, Option.bind_some, if_pos fx.1.1, Option.elim_some, c_kindAt hx, if_pos hx.1.1.1, s_within, hx.2.1.1.2.1, if_pos hx.1.1.2.2.2.1, if_pos (rdg_le hr), if_pos (le3 hj), i10, if_false, nI_clamp (show j < 2 ^ 31 by omega), if_pos (show (0 : Int32) ≤ 0 ∧ (0 : Int32) ≤ 2 by decide), c_leastCount hx hS hj, c_greatestCount hx hS hj, if_true]
  by_cases c : gl v r j ≤ gg v r j
  · have c2 : ¬ gg v r j < gl v r j := fun q => by rw [i_lt] at q; rw [i_le] at c; omega
    simp only [if_pos c, if_neg c2, if_pos (show (0 : Int32) = 0 from rfl), if_true]
  · have c2 : gg v r j < gl v r j := by rw [i_le] at c; rw [i_lt]; omega
    simp only [if_neg c, if_pos c2, if_neg (show ¬ (0 : Int32) = 2 by decide), if_true]
theorem k_al1 (hK : KS L X n v) (hS : RgS v) {r : Int32} (hr : rdg r) {j : Nat} (hj : j < 4) : f_X9_allowed L X 0 r (nI j) 1 = some (if gl v r j ≤ gg v r j then gg v r j else -100009) := by
  obtain ⟨b, π, ρ, hc, fx, hx, hb⟩ := hK.cx
  unfold f_X9_allowed
  simp only [hc, Option.bind_some, if_pos fx.1.1, Option.elim_some, c_kindAt hx, if_pos hx.1.1.1, s_within, hx.2.1.1.2.1, if_pos hx.1.1.2.2.2.1, if_pos (rdg_le hr), if_pos (le3 hj), i10, if_false, nI_clamp (show j < 2 ^ 31 by omega), if_pos (show (0 : Int32) ≤ 1 ∧ (1 : Int32) ≤ 2 by decide), c_leastCount hx hS hj, c_greatestCount hx hS hj, if_true]
  by_cases c : gl v r j ≤ gg v r j
  · have c2 : ¬ gg v r j < gl v r j := fun q => by rw [i_lt] at q; rw [i_le] at c; omega
    simp only [if_pos c, if_neg c2, if_neg (show ¬ (1 : Int32) = 0 by decide), if_pos (show (1 : Int32) = 1 from rfl), if_true]
  · have c2 : gg v r j < gl v r j := by rw [i_le] at c; rw [i_lt]; omega
    simp only [if_neg c, if_pos c2, if_neg (show ¬ (1 : Int32) = 2 by decide), if_true]
theorem k_al2 (hK : KS L X n v) (hS : RgS v) {r : Int32} (hr : rdg r) {j : Nat} (hj : j < 4) : f_X9_allowed L X 0 r (nI j) 2 = some (if gl v r j ≤ gg v r j then gg v r j - gl v r j + 1 else 0) := by
  obtain ⟨b, π, ρ, hc, fx, hx, hb⟩ := hK.cx
  unfold f_X9_allowed
  simp only [hc, Option.bind_some, if_pos fx.1.1, Option.elim_some, c_kindAt hx, if_pos hx.1.1.1, s_within, hx.2.1.1.2.1, if_pos hx.1.1.2.2.2.1, if_pos (rdg_le hr), if_pos (le3 hj), i10, if_false, nI_clamp (show j < 2 ^ 31 by omega), if_pos (show (0 : Int32) ≤ 2 ∧ (2 : Int32) ≤ 2 by decide), c_leastCount hx hS hj, c_greatestCount hx hS hj, if_true]
  by_cases c : gl v r j ≤ gg v r j
  · have c2 : ¬ gg v r j < gl v r j := fun q => by rw [i_lt] at q; rw [i_le] at c; omega
    simp only [if_pos c, if_neg c2, if_neg (show ¬ (2 : Int32) = 0 by decide), if_neg (show ¬ (2 : Int32) = 1 by decide), if_true]
  · have c2 : gg v r j < gl v r j := by rw [i_le] at c; rw [i_lt]; omega
    simp only [if_neg c, if_pos c2, if_pos (show (2 : Int32) = 2 from rfl), if_true]
theorem k_guess (hK : KS L X n v) (hS : RgS v) {r : Int32} (hr : rdg r) {j : Nat} (hj : j < 4) {u : Int32} (hu : 0 ≤ u ∧ u ≤ 3) : f_X9_guess L X 0 r (nI j) u = some (gs v r j u) := by
  obtain ⟨b, π, ρ, hc, fx, hx, hb⟩ := hK.cx
  unfold f_X9_guess
  simp only [hc, Option.bind_some, if_pos fx.1.1, Option.elim_some, c_kindAt hx, if_pos hx.1.1.1, s_within, hx.2.1.1.2.1, if_pos hx.1.1.2.2.2.1, if_pos (rdg_le hr), if_pos (le3 hj), i10, if_false, nI_clamp (show j < 2 ^ 31 by omega), if_pos hu, c_guessFrom hx hS hj, if_true]
theorem k_apart (hK : KS L X n v) (hS : RgS v) {j : Nat} (hj : j < 4) : f_X9_apartUpTo L X 0 (nI j) = some (nI (fs (apS v (v 8) j) 999 0)) := by
  obtain ⟨b, π, ρ, hc, fx, hx, hb⟩ := hK.cx
  unfold f_X9_apartUpTo
  simp only [hc, Option.bind_some, if_pos fx.1.1, Option.elim_some, c_kindAt hx, if_pos hx.1.1.1, hx.2.1.1.2.1, if_pos hx.1.1.2.2.2.1, if_pos (le3 hj), nI_clamp (show j < 2 ^ 31 by omega), c_lastApart hx hS hj, if_true]
theorem k_best (hK : KS L X n v) (hS : RgS v) {j : Nat} (hj : j < 4) {c : Nat} (hc9 : c ≤ 99) : f_X9_bestStep L X 0 (nI j) (nI c) = some (gst (fun S => al (apS v (nI S) j) c) 1000) := by
  obtain ⟨b, π, ρ, hc, fx, hx, hb⟩ := hK.cx
  have h3 : 0 ≤ nI c ∧ nI c ≤ 99 := ⟨nI_pos' (by omega), by rw [i_le, nI_toInt (by omega), show (99 : Int32).toInt = 99 by decide]; omega⟩
  unfold f_X9_bestStep
  simp only [hc, Option.bind_some, if_pos fx.1.1, Option.elim_some, c_kindAt hx, if_pos hx.1.1.1, s_within, hx.2.1.1.2.1, if_pos hx.1.1.2.2.2.1, if_pos (le3 hj), nI_clamp (show j < 2 ^ 31 by omega), if_pos h3, i10, if_false, c_greatestStep hx hS hj hc9, if_true]
theorem k_mixed (hK : KS L X n v) (hS : RgS v) {r : Int32} (hr : rdg r) {u : Int32} (hu : 0 ≤ u ∧ u ≤ 2) : f_X9_mixed L X 0 0 1 r u = some (mxr (mxs (mxP v 0 1 r) 61) u) := by
  obtain ⟨b, π, ρ, hc, fx, hx, hb⟩ := hK.cx
  unfold f_X9_mixed
  have m := c_mixed hx hS (i := 0) (k := 1) (by omega) (by omega) r u
  simp only [hc, Option.bind_some, if_pos fx.1.1, Option.elim_some, c_kindAt hx, if_pos hx.1.1.1, s_within, hx.2.1.1.2.1, if_pos hx.1.1.2.2.2.1, if_pos (show (0 : Int32) ≤ 0 ∧ (0 : Int32) ≤ 3 by decide), if_pos (show (0 : Int32) ≤ 1 ∧ (1 : Int32) ≤ 3 by decide), if_pos (rdg_le hr), if_pos hu, i10, if_false, if_neg (show ¬ (0 : Int32) = 1 by decide), show Int32.toNatClampNeg 0 = 0 from rfl, show Int32.toNatClampNeg 1 = 1 from rfl, m, if_true]
theorem k_would (hK : KS L X n v) (hv : RV B v w cc pc) {u : Int32} (hu : 0 ≤ u ∧ u ≤ 3) : f_X9_would L X 0 u = some (gvr (gvs v u 6)) := by
  obtain ⟨b, π, ρ, hc, fx, hx, hb⟩ := hK.cx
  unfold f_X9_would
  simp only [hc, s_within, if_pos hu, Option.bind_some, i10, if_false, if_pos fx.1.1, Option.elim_some, c_given hx hv.S hv.1.1 hv.C hv.zk, if_pos hx.1.1.1, if_true]
theorem k_fairest (hK : KS L X n v) (hv : RV B v w cc pc) : f_X9_fairest L X 0 = some (fzL (fun u => gvs v u 6) 4 (-100009) 0) := by
  obtain ⟨b, π, ρ, hc, fx, hx, hb⟩ := hK.cx
  unfold f_X9_fairest
  rw [hc, Option.bind_some, if_pos fx.1.1, Option.elim_some, c_fairest hx hv.S hv.1.1 hv.C hv.zk, Option.bind_some, if_pos hx.1.1.1]
theorem k_shop (hK : KS L X n v) (hv : RV B v w cc pc) {c : Nat} (hcc : c < cc) {u : Int32} (hu : 0 ≤ u ∧ u ≤ 2) : f_X9_shop L X 0 (nI c) u = some (shr (sst v pc (v (16 + 6 * c)) pc) u) := by
  obtain ⟨b, π, ρ, hc, fx, hx, hb⟩ := hK.cx
  have hcc6 := hv.1.1
  have hc6 : c < 6 := by omega
  have e0 : X.1 (b + 9 + π c) 0 = v (16 + 6 * c) := hx.cu hc6 (show 0 < 6 by omega)
  unfold f_X9_shop
  simp only [hc, Option.bind_some, if_pos fx.1.1, Option.elim_some, c_customerAt hx hv.1.1 hv.1.2.2.2.1, if_pos hx.1.1.1, s_within, if_pos ((nR (i := c) (m := cc) (by omega) (by omega)).mpr hcc), nI_clamp (show c < 2 ^ 31 by omega), if_pos hu, i10, if_false, if_pos (ct hx hc6), e0, c_shop hx hv.1.2.1 hv.1.2.2.2.2.1 hv.P, if_true]
theorem k_sold (hK : KS L X n v) (hv : RV B v w cc pc) {c : Nat} (hcp : c < pc) : ∃ X', f_X9_soldOut L X 0 (nI c) = some (soL (v (52 + 7 * c + 1)) (v (52 + 7 * c + 3)) (v (52 + 7 * c + 4)) 1000 0 (v (52 + 7 * c + 2)) (v (52 + 7 * c + 5)), X') ∧ KS L X' n v := by
  obtain ⟨b, π, ρ, hc, fx, hx, hb⟩ := hK.cx
  have hpc6 := hv.1.2.1
  have hc6 : c < 6 := by omega
  have hρ := hx.2.1.2.2.2.2.2.1 c hc6
  have hR := hv.P c hcp
  have e : ∀ j, j < 7 → X.1 (b + 15 + ρ c) j = v (52 + 7 * c + j) := fun j hj => hx.pr hc6 hj
  have t9 : tk L 469 5 := fx.1.2.2.2.2.2.2.2.2.2.2
  unfold f_X9_soldOut
  rw [hc, Option.bind_some, if_pos fx.1.1, Option.elim_some, c_prizeAt hx hv.1.2.1 hv.1.2.2.2.2.1, Option.bind_some, if_pos hx.1.1.1, if_pos ((nR (by omega) (by omega)).mpr hcp), Option.elim_some, nI_clamp (by omega), fx.2.1.2.2, Option.bind_some, s_pcopy t9 (pt hx hc6) (by omega), Option.bind_some, if_pos t9]
  have e2 : ∀ (x0 x1 x2 x3 x4 x5 x6 : Int32), (smi (smi (smi (smi (smi (smi (smi X 469 0 x0) 469 1 x1) 469 2 x2) 469 3 x3) 469 4 x4) 469 5 x5) 469 6 x6).2 0 2 = some 469 := fun _ _ _ _ _ _ _ => fx.2.1.2.2
  rw [e2, Option.bind_some]
  unfold f_X5_sellOut
  rw [e 0 (by omega), e 1 (by omega), e 2 (by omega), e 3 (by omega), e 4 (by omega), e 5 (by omega), e 6 (by omega)]
  obtain ⟨Z, z1, z2, z3⟩ := c_sellOut_l (L := L) (a := 469) (bx := v (52 + 7 * c + 4)) t9 hR.2.1 hR.2.2.2.1 hR.2.2.2.2.1 1000 0 u_fuel (smi (smi (smi (smi (smi (smi (smi X 469 0 (v (52 + 7 * c + 0))) 469 1 (v (52 + 7 * c + 1))) 469 2 (v (52 + 7 * c + 2))) 469 3 (v (52 + 7 * c + 3))) 469 4 (v (52 + 7 * c + 4))) 469 5 (v (52 + 7 * c + 5))) 469 6 (v (52 + 7 * c + 6))) rfl (by unfold u_fuel; omega) (by simp (disch := omega) only [smi_d, pk_us, pk_un]) (by simp (disch := omega) only [smi_d, pk_us, pk_un]) (by simp (disch := omega) only [smi_d, pk_us, pk_un]) (by simp (disch := omega) only [smi_d, pk_us, pk_un]; exact hR.2.2.2.2.2.1) (by simp (disch := omega) only [smi_d, pk_us, pk_un]; exact hR.2.2.2.2.2.2) (by simp (disch := omega) only [smi_d, pk_us, pk_un]; exact hR.2.2.1)
  simp (disch := omega) only [smi_d, pk_us, pk_un] at z1
  have z1 : f_X5_sellOut_2 L u_fuel 469 0 _ = _ := z1
  rw [z1, Option.bind_some, if_pos t9]
  refine ⟨Z, rfl, hK.mv z2 (fun k hk => (z3 k hk).trans (by simp only [smi_o hk]))⟩
end LO2
