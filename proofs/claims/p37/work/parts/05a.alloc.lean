/-- references stay inside -/
def hRS (L : hL) (X : hX) : Prop := ∀ k j b, k < L.1 → X.2 k j = some b → b < L.1
def newL (L : hL) (ci n : Nat) : hL := (L.1 + 1, fun k => if k = L.1 then ci else L.2.1 k, fun k => if k = L.1 then n else L.2.2 k)
def newX (X : hX) (a : Nat) : hX := (fun k i => if k = a then 0 else X.1 k i, fun k i => if k = a then none else X.2 k i)
def hx_let {β : Type} (L : hL) (X : hX) (f : hL → hX → β) : β := f L X
theorem hx_lets {β : Type} {L : hL} {X : hX} {f : hL → hX → Option β} {r : β} (h : hx_let L X f = some r) : ∃ L' X', L' = L ∧ X' = X ∧ f L' X' = some r := ⟨L, X, rfl, rfl, h⟩
theorem hRS.smi {L : hL} {X : hX} {a j : Nat} {v : Int32} (h : hRS L X) : hRS L (smi X a j v) := h
theorem hRS.smr {L : hL} {X : hX} {a j b : Nat} (h : hRS L X) (hb : b < L.1) : hRS L (smr X a j (some b)) := by
  intro k i q hk hq
  rw [smr_2] at hq
  split at hq
  · cases hq; exact hb
  · exact h k i q hk hq
theorem hRS.new {L L' : hL} {X X' : hX} {ci n : Nat} (h : hRS L X) (eL : L' = newL L ci n) (eX : X' = newX X L.1) : hRS L' X' := by
  subst eL; subst eX
  intro k i q hk hq
  show q < L.1 + 1
  have hk : k < L.1 + 1 := hk
  have hq : (if k = L.1 then none else X.2 k i) = some q := hq
  split at hq
  · cases hq
  · have := h k i q (by omega) hq
    omega
theorem hW_new {cy : Nat → ClassId} {ad ad' : Nat → Nat} {L : hL} {X : hX} {ci n q : Nat} {e : va_E} (hrs : hRS L X) (had : ∀ k, k < L.1 → ad' k = ad k) (hq : ad' L.1 = q) (he : hcell cy ad' (newL L ci n) (newX X L.1) L.1 = e) : hW cy ad L X ++ [(q, e)] = hW cy ad' (newL L ci n) (newX X L.1) := by
  have e1 : hW cy ad' (newL L ci n) (newX X L.1) = ((List.range L.1).map fun k => (ad' k, hcell cy ad' (newL L ci n) (newX X L.1) k)) ++ [(ad' L.1, hcell cy ad' (newL L ci n) (newX X L.1) L.1)] := by
    show (List.range (L.1 + 1)).map _ = _
    rw [List.range_succ, List.map_append]
    rfl
  rw [e1, he, hq]
  congr 1
  refine List.map_congr_left fun k hk => ?_
  have hk : k < L.1 := List.mem_range.mp hk
  have hne : ¬ k = L.1 := by omega
  rw [had k hk]
  have a1 : (newL L ci n).2.1 k = L.2.1 k := if_neg hne
  have a2 : (newL L ci n).2.2 k = L.2.2 k := if_neg hne
  have a3 : (newX X L.1).1 k = X.1 k := funext fun i => if_neg hne
  have a4 : (newX X L.1).2 k = X.2 k := funext fun i => if_neg hne
  have a5 : ∀ j, (X.2 k j).map ad' = (X.2 k j).map ad := by
    intro j
    cases hx : X.2 k j with
    | none => rfl
    | some b => simp [had b (hrs k j b hk hx)]
  have a6 : ∀ j, va_re ad' (X.2 k j) = va_re ad (X.2 k j) := fun j => by unfold va_re; rw [a5]
  have a7 : ∀ cc, hfs ad' (newX X L.1) k cc = hfs ad X k cc := by
    intro cc
    unfold hfs
    congr 1
    funext j b
    rw [a3, a4, a6]
  congr 1
  unfold hcell
  rw [a1, a2, a3, a4, a7]
  simp only [a5]
def hfs0 (ci : Nat) : List Value := (hfl ci).map (fun b => if b then .null else .int 0)
theorem hcell_newo {cy : Nat → ClassId} {ad' : Nat → Nat} {L : hL} {X : hX} {ci n : Nat} (hc : ci < 11) : hcell cy ad' (newL L ci n) (newX X L.1) L.1 = .inr (ci, hfs0 ci) := by
  rw [hcell_o (ci := ci) (if_pos rfl) hc]
  congr 2
  unfold hfs hfs0
  apply List.ext_getElem?
  intro i
  rw [List.getElem?_mapIdx, List.getElem?_map]
  congr 1
  funext b
  have h1 : (newX X L.1).1 L.1 i = 0 := if_pos rfl
  have h2 : (newX X L.1).2 L.1 i = none := if_pos rfl
  rw [h1, h2]
  rfl
theorem hcell_newi {cy : Nat → ClassId} {ad' : Nat → Nat} {L : hL} {X : hX} {ci n : Nat} (h1 : ¬ ci < 11) (h2 : ci < 14) : hcell cy ad' (newL L ci n) (newX X L.1) L.1 = .inl (cy ci, n, .inl (fun _ => 0)) := by
  rw [hcell_i (ci := ci) (if_pos rfl) h1 h2]
  have e1 : (newX X L.1).1 L.1 = fun _ => 0 := funext fun i => if_pos rfl
  have e2 : (newL L ci n).2.2 L.1 = n := if_pos rfl
  rw [e1, e2]
theorem hcell_newr {cy : Nat → ClassId} {ad' : Nat → Nat} {L : hL} {X : hX} {ci n : Nat} (h2 : ¬ ci < 14) : hcell cy ad' (newL L ci n) (newX X L.1) L.1 = .inl (cy ci, n, .inr (.inr (.inr (.inr (fun _ => none))))) := by
  rw [hcell_r (ci := ci) (if_pos rfl) h2]
  have e1 : (fun j => ((newX X L.1).2 L.1 j).map ad') = fun _ => none := funext fun i => by
    have : (newX X L.1).2 L.1 i = none := if_pos rfl
    rw [this]; rfl
  have e2 : (newL L ci n).2.2 L.1 = n := if_pos rfl
  rw [e1, e2]
theorem hDD_new {A : Nat → Prop} {ad : Nat → Nat} {L : hL} {ci n q : Nat} {cy : Nat → ClassId} {X : hX} {e : va_E} (h : hDD A ad L) (hD : va_D A (hW cy ad L X ++ [(q, e)])) : hDD A (va_up ad L.1 q) (newL L ci n) := by
  have hlen : (hW cy ad L X).length = L.1 := by simp [hW]
  have hq : (hW cy ad L X ++ [(q, e)])[L.1]? = some (q, e) := by rw [List.getElem?_append_right (by omega), hlen]; simp
  have hk : ∀ k, k < L.1 → (hW cy ad L X ++ [(q, e)])[k]? = some (ad k, hcell cy ad L X k) := fun k hk => by
    rw [List.getElem?_append_left (by omega), hW_at hk]
  have h1 : ∀ i, i < L.1 → ad i ≠ q := fun i hi he => by
    have := hD.1 i L.1 _ _ (hk i hi) hq he
    omega
  have u0 : ∀ i, i < L.1 → va_up ad L.1 q i = ad i := fun i hi => by unfold va_up; rw [if_neg (by omega)]
  have u1 : va_up ad L.1 q L.1 = q := by unfold va_up; rw [if_pos rfl]
  refine ⟨fun i j hi hj he => ?_, fun k hk2 => ?_⟩
  · have hi : i < L.1 + 1 := hi
    have hj : j < L.1 + 1 := hj
    by_cases a : i < L.1
    · by_cases b : j < L.1
      · rw [u0 i a, u0 j b] at he
        exact h.1 i j a b he
      · have : j = L.1 := by omega
        subst this
        rw [u0 i a, u1] at he
        exact absurd he (h1 i a)
    · have : i = L.1 := by omega
      subst this
      by_cases b : j < L.1
      · rw [u0 j b, u1] at he
        exact absurd he.symm (h1 j b)
      · omega
  · have hk2 : k < L.1 + 1 := hk2
    by_cases a : k < L.1
    · rw [u0 k a]; exact h.2 k a
    · have : k = L.1 := by omega
      subst this
      rw [u1]
      exact hD.2 _ _ hq
def hQA (dC : Nat → ClassId) (dI : Nat → Nat → Nat) (cy : Nat → ClassId) (ad : Nat → Nat) (L : hL) (sz : Nat) (L' : hL) (X' : hX) : Array Value → State → Outcome → State → Prop := fun _ st oc t => oc = .returned none ∧ (∃ ad', (∀ k, k < L.1 → ad' k = ad k) ∧ hDD (hA ad L sz) ad' L' ∧ va_P (dC, dI) vwCl (hW cy ad' L' X') t.heap) ∧ va_F (hA ad L sz) st t
def hMetA (l : Launch) (dC : Nat → ClassId) (dI : Nat → Nat → Nat) (cy : Nat → ClassId) (y : MethodName) (ws : List Cond) (rm : Room) (this : Nat) (L : hL) (X : hX) (L' : hL) (X' : hX) (mc ms : Nat) : Prop :=
  ∀ ad, hDD (fun _ => True) ad L → ∀ sz, Met l y ws rm (va_Pc [.ref (ad this)] (fun U => U.heap.size = sz ∧ hU dC dI cy ad L X U)) (hQA dC dI cy ad L sz L' X') mc ms (hA ad L sz)
section HXA
variable {p : Program} {l : Launch} {e : Env} {R : Room} {s : State} {m : MethodId} {args : Array Value} {below : List Frame} {meth : Method} {c : Code} {Q : State → Prop} {dC : Nat → ClassId} {dI : Nat → Nat → Nat} {cy : Nat → ClassId} {ad : Nat → Nat} {L : hL} {A : Nat → Prop} {cc : ByteArray} {nL : Nat} {Ts : List Cond} {own : String} {X : hX} {pc : Nat} {ls : Array Slot} {st : List Value} {cells slots : Nat}
theorem hC.new {ad' : Nat → Nat} {L' : hL} (C : hC p s m args meth c dC dI cy ad L A cc nL Ts own) (h : hDD A ad' L') : hC p s m args meth c dC dI cy ad' L' A cc nL Ts own :=
  ⟨C.1, C.2.1, C.2.2.1, C.2.2.2.1, C.2.2.2.2.1, C.2.2.2.2.2.1, C.2.2.2.2.2.2.1, C.2.2.2.2.2.2.2.1, h, C.2.2.2.2.2.2.2.2.2⟩
theorem hx_enterA {y : MethodName} {ws ws' : List Cond} {rm : Room} {cc : ByteArray} {maxL : Nat} {ret : Option FieldType} {this : Nat} {L' : hL} {X' : hX} {mc ms : Nat} (own : String) (hy : plainFor y = true) (hw : ws = .code y cc maxL ret :: ws') (ho : y.cls = own) (hav : 1 ≤ maxL)
    (body : ∀ (ad : Nat → Nat) (p : Program) (e : Env) (s : State) (m : MethodId) (args : Array Value) (below : List Frame) (meth : Method) (c : Code), hC p s m args meth c dC dI cy ad L (hA ad L s.heap.size) cc maxL ws own → meth.sig.returnType = ret → meth.name = y.name → ∀ ls, lv_has ls maxL [(0, .ref (ad this))] → hG p l e (headSpec ws rm).room s m args below meth c dC dI cy ad L (hA ad L s.heap.size) 0 0 (MQ below (hQA dC dI cy ad L s.heap.size L' X') args s mc ms (hA ad L s.heap.size)) X 0 ls []) : hMetA l dC dI cy y ws rm this L X L' X' mc ms := by
  subst ho
  intro ad hd sz
  refine Met.ofWF (cc := cc) (maxL := maxL) (ret := ret) hy hw ?_
  intro p e s m args below meth c s₁ B hml hv
  obtain ⟨rfl, hsz, hP, hK, hNn, hSs⟩ := hv
  subst hsz
  have C : hC p s m ([.ref (ad this)] : List Value).toArray meth c dC dI cy ad L (hA ad L s.heap.size) cc maxL ws y.cls := ⟨B.exec, B.bytes, hml, findClass_of_methodNamed B.named, atoms_spec (ws := ws) B.pre, hK, hNn, B.notSynchronized, ⟨hd.1, fun k hk => Or.inl ⟨k, hk, rfl⟩⟩, fun q h => Or.inr h, hSs⟩
  have hl := lv_entry ([.ref (ad this)] : List Value) (n := maxL) hav
  rw [lg_entry_eq]
  exact body ad p e s m _ below meth c C B.returns (name_of_methodNamed B.named B.method).1 _ hl _ _ hP va_S.rf
theorem hx_vretA {ad0 : Nat → Nat} {L0 : hL} (C : hC p s m args meth c dC dI cy ad L (hA ad0 L0 s.heap.size) cc nL Ts own) (hr : meth.sig.returnType = none) (had : ∀ k, k < L0.1 → ad k = ad0 k) (hdg : decode cc pc = .ok (.return_, 1)) : hG p l e R s m args below meth c dC dI cy ad L (hA ad0 L0 s.heap.size) cells slots (MQ below (hQA dC dI cy ad0 L0 s.heap.size L X) args s cells slots (hA ad0 L0 s.heap.size)) X pc ls [] :=
  fun H locs hP hS => W.vret (hlocks := C.2.2.2.2.2.2.2.1) C.1 C.2.1 hr (fun t ht _ => ⟨rfl, ⟨ad, had, C.2.2.2.2.2.2.2.2.1, by rw [ht]; exact hP⟩, hS.F ht⟩) hS.2.2 hdg
theorem hx_new (C : hC p s m args meth c dC dI cy ad L A cc nL Ts own) (hrs : hRS L X) {L' : hL} {X' : hX} {Cn : String} {TT : u_T} {N ci index : Nat} (eL : L' = newL L ci 0) (eX : X' = newX X L.1) (hin : ∀ w ∈ u_ws Cn TT N, w ∈ Ts) (ty0 : Nat → FieldType) (hty : ∀ k, k < N → parseFieldDescriptor (TT k).2.2.1 = some (ty0 k)) (hcl : Cond.classLink own index Cn ∈ Ts) (hinst : Cond.instantiable Cn N ∈ Ts) (hini : Cond.initialized Cn ∈ Ts) (hci : ci < 11) (hc : vwCl[ci]? = some (Cn, TT, N)) (hfs : ∀ j, j < N → defaultValue (ty0 j) = vp_V (hfs0 ci) j) (hcells : cells + 1 ≤ R.cells) (hslots : slots + N ≤ R.slots) (hdg : decode cc pc = .ok (.new index, 3)) (k : ∀ ad', (∀ k, k < L.1 → ad' k = ad k) → hC p s m args meth c dC dI cy ad' L' A cc nL Ts own → hG p l e R s m args below meth c dC dI cy ad' L' A (cells + 1) (slots + N) Q X' (pc + 3) ls (.ref (ad' L.1) :: st)) : hG p l e R s m args below meth c dC dI cy ad L A cells slots Q X pc ls st := fun H locs hP hS => by
  subst eL; subst eX
  refine va_new (D := (dC, dI)) (fs := hfs0 ci) C.1 C.2.1 C.2.2.2.2.1 hin ty0 hty C.2.2.2.1 (C.2.2.2.2.1 _ hcl) (C.2.2.2.2.1 _ hinst) (C.2.2.2.2.1 _ hini) C.2.2.2.2.2.1 hP (C.2.2.2.2.2.2.2.2.1.D cy X) hS C.2.2.2.2.2.2.2.2.2.1 hc hfs hcells hslots hdg (fun q H1 hP1 hD1 hS1 => ?_)
  have u0 : ∀ i, i < L.1 → va_up ad L.1 q i = ad i := fun i hi => by unfold va_up; rw [if_neg (by omega)]
  have u1 : va_up ad L.1 q L.1 = q := by unfold va_up; rw [if_pos rfl]
  have hk := k (va_up ad L.1 q) u0 (C.new (hDD_new C.2.2.2.2.2.2.2.2.1 hD1)) H1 locs (by rw [← hW_new hrs u0 u1 (hcell_newo hci)]; exact hP1) hS1
  rw [u1] at hk
  exact hk
theorem hx_newai (C : hC p s m args meth c dC dI cy ad L A cc nL Ts own) (hrs : hRS L X) {L' : hL} {X' : hX} {n : Int32} {N : Nat} (eL : L' = newL L 12 N) (eX : X' = newX X L.1) (harr : Cond.arrayClass .int ∈ Ts) (hn : ¬ n < 0) (hN : n.toNatClampNeg = N) (hby : N * componentBytes (.int : FieldType) ≤ 536870912) (hcells : cells + 1 ≤ R.cells) (hslots : slots + N ≤ R.slots) (hdg : decode cc pc = .ok (.newarray .int, 2)) (k : ∀ ad', (∀ k, k < L.1 → ad' k = ad k) → hC p s m args meth c dC dI cy ad' L' A cc nL Ts own → hG p l e R s m args below meth c dC dI cy ad' L' A (cells + 1) (slots + N) Q X' (pc + 2) ls (.ref (ad' L.1) :: st)) : hG p l e R s m args below meth c dC dI cy ad L A cells slots Q X pc ls (.int n :: st) := fun H locs hP hS => by
  subst eL; subst eX
  refine va_newa (D := (dC, dI)) (atype := .int) (ty := .int) (a0 := (N, .inl (fun _ => 0))) C.1 C.2.1 (C.2.2.2.2.1 _ harr) rfl C.2.2.2.2.2.1 hP (C.2.2.2.2.2.2.2.2.1.D cy X) hS C.2.2.2.2.2.2.2.2.2.1 (fun cA => rfl) hn hN hby hcells hslots hdg (fun q cA H1 hK1 hP1 hD1 hS1 => ?_)
  have r1 : s.vm.findClass ("[" ++ (.int : FieldType).toString) = some cA := (hK1.2 8 _ rfl).2
  have r2 : s.vm.findClass ("[" ++ (.int : FieldType).toString) = some (cy 12) := (C.2.2.2.2.2.1.2 1 _ rfl).2
  have r3 : cA = cy 12 := Option.some.inj (r1.symm.trans r2)
  subst r3
  have u0 : ∀ i, i < L.1 → va_up ad L.1 q i = ad i := fun i hi => by unfold va_up; rw [if_neg (by omega)]
  have u1 : va_up ad L.1 q L.1 = q := by unfold va_up; rw [if_pos rfl]
  have hk := k (va_up ad L.1 q) u0 (C.new (hDD_new C.2.2.2.2.2.2.2.2.1 hD1)) H1 locs (by rw [← hW_new hrs u0 u1 (hcell_newi (by decide) (by decide))]; exact hP1) hS1
  rw [u1] at hk
  exact hk
theorem hx_newac (C : hC p s m args meth c dC dI cy ad L A cc nL Ts own) (hrs : hRS L X) {L' : hL} {X' : hX} {n : Int32} {N : Nat} (eL : L' = newL L 11 N) (eX : X' = newX X L.1) (harr : Cond.arrayClass .char ∈ Ts) (hn : ¬ n < 0) (hN : n.toNatClampNeg = N) (hby : N * componentBytes (.char : FieldType) ≤ 536870912) (hcells : cells + 1 ≤ R.cells) (hslots : slots + N ≤ R.slots) (hdg : decode cc pc = .ok (.newarray .char, 2)) (k : ∀ ad', (∀ k, k < L.1 → ad' k = ad k) → hC p s m args meth c dC dI cy ad' L' A cc nL Ts own → hG p l e R s m args below meth c dC dI cy ad' L' A (cells + 1) (slots + N) Q X' (pc + 2) ls (.ref (ad' L.1) :: st)) : hG p l e R s m args below meth c dC dI cy ad L A cells slots Q X pc ls (.int n :: st) := fun H locs hP hS => by
  subst eL; subst eX
  refine va_newa (D := (dC, dI)) (atype := .char) (ty := .char) (a0 := (N, .inl (fun _ => 0))) C.1 C.2.1 (C.2.2.2.2.1 _ harr) rfl C.2.2.2.2.2.1 hP (C.2.2.2.2.2.2.2.2.1.D cy X) hS C.2.2.2.2.2.2.2.2.2.1 (fun cA => rfl) hn hN hby hcells hslots hdg (fun q cA H1 hK1 hP1 hD1 hS1 => ?_)
  have r1 : s.vm.findClass ("[" ++ (.char : FieldType).toString) = some cA := (hK1.2 8 _ rfl).2
  have r2 : s.vm.findClass ("[" ++ (.char : FieldType).toString) = some (cy 11) := (C.2.2.2.2.2.1.2 0 _ rfl).2
  have r3 : cA = cy 11 := Option.some.inj (r1.symm.trans r2)
  subst r3
  have u0 : ∀ i, i < L.1 → va_up ad L.1 q i = ad i := fun i hi => by unfold va_up; rw [if_neg (by omega)]
  have u1 : va_up ad L.1 q L.1 = q := by unfold va_up; rw [if_pos rfl]
  have hk := k (va_up ad L.1 q) u0 (C.new (hDD_new C.2.2.2.2.2.2.2.2.1 hD1)) H1 locs (by rw [← hW_new hrs u0 u1 (hcell_newi (by decide) (by decide))]; exact hP1) hS1
  rw [u1] at hk
  exact hk
theorem hx_newaz (C : hC p s m args meth c dC dI cy ad L A cc nL Ts own) (hrs : hRS L X) {L' : hL} {X' : hX} {n : Int32} {N : Nat} (eL : L' = newL L 13 N) (eX : X' = newX X L.1) (harr : Cond.arrayClass .boolean ∈ Ts) (hn : ¬ n < 0) (hN : n.toNatClampNeg = N) (hby : N * componentBytes (.boolean : FieldType) ≤ 536870912) (hcells : cells + 1 ≤ R.cells) (hslots : slots + N ≤ R.slots) (hdg : decode cc pc = .ok (.newarray .boolean, 2)) (k : ∀ ad', (∀ k, k < L.1 → ad' k = ad k) → hC p s m args meth c dC dI cy ad' L' A cc nL Ts own → hG p l e R s m args below meth c dC dI cy ad' L' A (cells + 1) (slots + N) Q X' (pc + 2) ls (.ref (ad' L.1) :: st)) : hG p l e R s m args below meth c dC dI cy ad L A cells slots Q X pc ls (.int n :: st) := fun H locs hP hS => by
  subst eL; subst eX
  refine va_newa (D := (dC, dI)) (atype := .boolean) (ty := .boolean) (a0 := (N, .inl (fun _ => 0))) C.1 C.2.1 (C.2.2.2.2.1 _ harr) rfl C.2.2.2.2.2.1 hP (C.2.2.2.2.2.2.2.2.1.D cy X) hS C.2.2.2.2.2.2.2.2.2.1 (fun cA => rfl) hn hN hby hcells hslots hdg (fun q cA H1 hK1 hP1 hD1 hS1 => ?_)
  have r1 : s.vm.findClass ("[" ++ (.boolean : FieldType).toString) = some cA := (hK1.2 8 _ rfl).2
  have r2 : s.vm.findClass ("[" ++ (.boolean : FieldType).toString) = some (cy 13) := (C.2.2.2.2.2.1.2 2 _ rfl).2
  have r3 : cA = cy 13 := Option.some.inj (r1.symm.trans r2)
  subst r3
  have u0 : ∀ i, i < L.1 → va_up ad L.1 q i = ad i := fun i hi => by unfold va_up; rw [if_neg (by omega)]
  have u1 : va_up ad L.1 q L.1 = q := by unfold va_up; rw [if_pos rfl]
  have hk := k (va_up ad L.1 q) u0 (C.new (hDD_new C.2.2.2.2.2.2.2.2.1 hD1)) H1 locs (by rw [← hW_new hrs u0 u1 (hcell_newi (by decide) (by decide))]; exact hP1) hS1
  rw [u1] at hk
  exact hk
theorem hx_newq (C : hC p s m args meth c dC dI cy ad L A cc nL Ts own) (hrs : hRS L X) {L' : hL} {X' : hX} {n : Int32} {N ci t0 index : Nat} {Cn : String} (eL : L' = newL L ci N) (eX : X' = newX X L.1) (h14 : ¬ ci < 14) (htt : (hT cy)[t0]? = some (cy ci, .object Cn)) (hao : Cn ∈ hAOl) (hcl : Cond.classLink own index Cn ∈ Ts) (hn : ¬ n < 0) (hN : n.toNatClampNeg = N) (hby : N * 4 ≤ 536870912) (hcells : cells + 1 ≤ R.cells) (hslots : slots + N ≤ R.slots) (hdg : decode cc pc = .ok (.anewarray index, 3)) (k : ∀ ad', (∀ k, k < L.1 → ad' k = ad k) → hC p s m args meth c dC dI cy ad' L' A cc nL Ts own → hG p l e R s m args below meth c dC dI cy ad' L' A (cells + 1) (slots + N) Q X' (pc + 3) ls (.ref (ad' L.1) :: st)) : hG p l e R s m args below meth c dC dI cy ad L A cells slots Q X pc ls (.int n :: st) := fun H locs hP hS => by
  subst eL; subst eX
  refine va_newq (D := (dC, dI)) C.1 C.2.1 C.2.2.2.1 (C.2.2.2.2.1 _ hcl) (C.2.2.2.2.2.2.2.2.2.2.2 Cn hao) C.2.2.2.2.2.1 hP (C.2.2.2.2.2.2.2.2.1.D cy X) hS C.2.2.2.2.2.2.2.2.2.1 hn hN hby hcells hslots hdg (fun q cA H1 hK1 hP1 hD1 hS1 => ?_)
  obtain ⟨kA, comp, -, -, -, r1⟩ := (hK1.2 8 _ rfl).2
  obtain ⟨kB, comp2, -, -, -, r2⟩ := (C.2.2.2.2.2.1.2 t0 _ htt).2
  have r3 : cA = cy ci := Option.some.inj (r1.symm.trans r2)
  subst r3
  have u0 : ∀ i, i < L.1 → va_up ad L.1 q i = ad i := fun i hi => by unfold va_up; rw [if_neg (by omega)]
  have u1 : va_up ad L.1 q L.1 = q := by unfold va_up; rw [if_pos rfl]
  have hk := k (va_up ad L.1 q) u0 (C.new (hDD_new C.2.2.2.2.2.2.2.2.1 hD1)) H1 locs (by rw [← hW_new hrs u0 u1 (hcell_newr h14)]; exact hP1) hS1
  rw [u1] at hk
  exact hk
theorem hx_afterA {H : Heap} {locs : List Loc} {L' : hL} {X' : hX} {rest st0 : List Value} {a : Array Value} {mc ms : Nat} (C : hC p s m args meth c dC dI cy ad L A cc nL Ts own) (hr : va_Run p l e R s m args below meth c H locs cells slots mc ms (F0 m pc ls st0) rest (hQA dC dI cy ad L H.size L' X' a) (hA ad L H.size)) (hS : va_S A s.heap H locs) (kk : ∀ ad', (∀ k, k < L.1 → ad' k = ad k) → hC p s m args meth c dC dI cy ad' L' A cc nL Ts own → hG p l e R s m args below meth c dC dI cy ad' L' A (cells + mc) (slots + ms) Q X' (pc + 3) ls rest) : W p l e R s m args below meth c H locs cells slots Q (F0 m pc ls st0) := by
  intro T hT XX
  obtain ⟨v, st₀, t, T', Lo, h0, XX', hL, e1, e2, ⟨hov, ⟨ad', had, hdd, hP1⟩, hz, hk⟩, st⟩ := hr T hT XX
  cases hov
  rw [h0] at hz hk
  have hAA := C.sub hS
  obtain ⟨t2, a1, b1⟩ := kk ad' had (C.new ⟨hdd.1, fun k hk => hAA _ (hdd.2 k hk)⟩) T'.heap (locs ++ Lo) (by rw [e1]; exact hP1) ⟨Nat.le_trans hS.1 (by rw [e1]; exact hz), fun q h1 h2 => by rw [e1, hk q (Nat.lt_of_lt_of_le h1 hS.1) (fun z => h2 (hAA q z))]; exact hS.2.1 q h1 h2, fun q hq => by
      rcases List.mem_append.mp hq with h | h
      · exact hS.2.2 q h
      · exact hAA _ (hL q h)⟩ T' rfl XX'
  exact ⟨t2, st t2 a1, b1⟩
theorem hx_init0 (C : hC p s m args meth c dC dI cy ad L A cc nL Ts own) {y : MethodName} {ws ws' : List Cond} {rm : Room} {bytes : ByteArray} {maxL index b  : Nat} {X' : hX}  (hM : hMet l dC dI cy ad L y ws rm [.ref (ad b)] X none X') (hg : GoodIn Ts ws) (hq : Cond.methodLink own index y ∈ Ts) (hy1 : y.name = "<init>") (hini : Cond.initialized y.cls ∈ Ts) (hinst : Cond.instanceMethod y ∈ Ts) (hd : y.cls ≠ "java/lang/invoke/MethodHandle" ∧ y.cls ≠ "java/lang/invoke/VarHandle" ∧ (parseMethodDescriptor y.desc).map (fun d => d.parameters.length) = some 0) (hR : rm.frames + 1 ≤ R.frames ∧ 8 + (maxL + 11) + rm.locals ≤ R.locals) (hw : ws = Cond.code y bytes maxL none :: ws') (hrc : rm.cells = 0) (hrs2 : rm.slots = 0) (hcs : cells + 0 ≤ R.cells ∧ slots + 0 ≤ R.slots) (hsz : ls.size = nL) (hcat : (st.map fun v => v.category).sum ≤ 8) (hdg : decode cc pc = .ok (.invokespecial index, 3)) (k : hG p l e R s m args below meth c dC dI cy ad L A cells slots Q X' (pc + 3) ls st) : hG p l e R s m args below meth c dC dI cy ad L A cells slots Q X pc ls (.ref (ad b) :: st) := fun H locs hP hS => by
  exact hx_after C (va_runI ⟨C.1, C.2.1, C.2.2.1, C.2.2.2.1, C.2.2.2.2.1⟩ (hM C.dd H.size) (cwI 0 C.2.2.2.2.1 hg hw hrc hrs2 (C.2.2.2.2.1 _ hini) (C.2.2.2.2.1 _ hq) (C.2.2.2.2.1 _ hinst) hy1 hd hR) ⟨hx_blind, fun U hU hW => ⟨rfl, by rw [hU], by rw [hU]; exact hP, va_K.moved hW.alike C.2.2.2.2.2.1, C.2.2.2.2.2.2.1.warm hW, by rw [hU]; exact C.2.2.2.2.2.2.2.2.2.2.go hS hW (hC.sub C hS)⟩⟩ rfl rfl hsz rfl (lv_room hcat) hdg hcs) hS k
theorem hx_init0N (C : hC p s m args meth c dC dI cy ad L A cc nL Ts own) {y : MethodName} {ws ws' : List Cond} {rm : Room} {bytes : ByteArray} {maxL index b  : Nat} {X' : hX}  (hM : hMet l dC dI cy ad L y ws rm [.ref (ad b)] X none X') (hg : GoodIn Ts ws) {host : String} (hq : (own, index, y, host) ∈ hNl) (hy1 : y.name = "<init>") (hini : Cond.initialized y.cls ∈ Ts) (hinst : Cond.instanceMethod y ∈ Ts) (hd : y.cls ≠ "java/lang/invoke/MethodHandle" ∧ y.cls ≠ "java/lang/invoke/VarHandle" ∧ (parseMethodDescriptor y.desc).map (fun d => d.parameters.length) = some 0) (hR : rm.frames + 1 ≤ R.frames ∧ 8 + (maxL + 11) + rm.locals ≤ R.locals) (hw : ws = Cond.code y bytes maxL none :: ws') (hrc : rm.cells = 0) (hrs2 : rm.slots = 0) (hcs : cells + 0 ≤ R.cells ∧ slots + 0 ≤ R.slots) (hsz : ls.size = nL) (hcat : (st.map fun v => v.category).sum ≤ 8) (hdg : decode cc pc = .ok (.invokespecial index, 3)) (k : hG p l e R s m args below meth c dC dI cy ad L A cells slots Q X' (pc + 3) ls st) : hG p l e R s m args below meth c dC dI cy ad L A cells slots Q X pc ls (.ref (ad b) :: st) := fun H locs hP hS => by
  exact hx_after C (va_runIN (host := host) ⟨C.1, C.2.1, C.2.2.1, C.2.2.2.1, C.2.2.2.2.1⟩ (hM C.dd H.size) (⟨va_cnB 0 C.2.2.2.2.1 hg hw hrc hrs2 (C.2.2.2.2.2.2.1 _ hq) (C.2.2.2.2.1 _ hini) hd hR, hy1, C.2.2.2.2.1 _ hinst⟩) ⟨hx_blind, fun U hU hW => ⟨rfl, by rw [hU], by rw [hU]; exact hP, va_K.moved hW.alike C.2.2.2.2.2.1, C.2.2.2.2.2.2.1.warm hW, by rw [hU]; exact C.2.2.2.2.2.2.2.2.2.2.go hS hW (hC.sub C hS)⟩⟩ rfl rfl hsz rfl (lv_room hcat) hdg hcs) hS k
theorem hx_initA (C : hC p s m args meth c dC dI cy ad L A cc nL Ts own) {y : MethodName} {ws ws' : List Cond} {rm : Room} {bytes : ByteArray} {maxL index b mc ms : Nat} {L' : hL} {X' : hX}  (hM : hMetA l dC dI cy y ws rm b L X L' X' mc ms) (hg : GoodIn Ts ws) (hq : Cond.methodLink own index y ∈ Ts) (hy1 : y.name = "<init>") (hini : Cond.initialized y.cls ∈ Ts) (hinst : Cond.instanceMethod y ∈ Ts) (hd : y.cls ≠ "java/lang/invoke/MethodHandle" ∧ y.cls ≠ "java/lang/invoke/VarHandle" ∧ (parseMethodDescriptor y.desc).map (fun d => d.parameters.length) = some 0) (hR : rm.frames + 1 ≤ R.frames ∧ 8 + (maxL + 11) + rm.locals ≤ R.locals) (hw : ws = Cond.code y bytes maxL none :: ws') (hrc : rm.cells = mc) (hrs2 : rm.slots = ms) (hcs : cells + mc ≤ R.cells ∧ slots + ms ≤ R.slots) (hsz : ls.size = nL) (hcat : (st.map fun v => v.category).sum ≤ 8) (hdg : decode cc pc = .ok (.invokespecial index, 3)) (k : ∀ ad', (∀ k, k < L.1 → ad' k = ad k) → hC p s m args meth c dC dI cy ad' L' A cc nL Ts own → hG p l e R s m args below meth c dC dI cy ad' L' A (cells + mc) (slots + ms) Q X' (pc + 3) ls st) : hG p l e R s m args below meth c dC dI cy ad L A cells slots Q X pc ls (.ref (ad b) :: st) := fun H locs hP hS => by
  exact hx_afterA C (va_runI ⟨C.1, C.2.1, C.2.2.1, C.2.2.2.1, C.2.2.2.2.1⟩ (hM ad C.dd H.size) (cwI 0 C.2.2.2.2.1 hg hw hrc hrs2 (C.2.2.2.2.1 _ hini) (C.2.2.2.2.1 _ hq) (C.2.2.2.2.1 _ hinst) hy1 hd hR) ⟨hx_blind, fun U hU hW => ⟨rfl, by rw [hU], by rw [hU]; exact hP, va_K.moved hW.alike C.2.2.2.2.2.1, C.2.2.2.2.2.2.1.warm hW, by rw [hU]; exact C.2.2.2.2.2.2.2.2.2.2.go hS hW (hC.sub C hS)⟩⟩ rfl rfl hsz rfl (lv_room hcat) hdg hcs) hS k
theorem hx_initAN (C : hC p s m args meth c dC dI cy ad L A cc nL Ts own) {y : MethodName} {ws ws' : List Cond} {rm : Room} {bytes : ByteArray} {maxL index b mc ms : Nat} {L' : hL} {X' : hX}  (hM : hMetA l dC dI cy y ws rm b L X L' X' mc ms) (hg : GoodIn Ts ws) {host : String} (hq : (own, index, y, host) ∈ hNl) (hy1 : y.name = "<init>") (hini : Cond.initialized y.cls ∈ Ts) (hinst : Cond.instanceMethod y ∈ Ts) (hd : y.cls ≠ "java/lang/invoke/MethodHandle" ∧ y.cls ≠ "java/lang/invoke/VarHandle" ∧ (parseMethodDescriptor y.desc).map (fun d => d.parameters.length) = some 0) (hR : rm.frames + 1 ≤ R.frames ∧ 8 + (maxL + 11) + rm.locals ≤ R.locals) (hw : ws = Cond.code y bytes maxL none :: ws') (hrc : rm.cells = mc) (hrs2 : rm.slots = ms) (hcs : cells + mc ≤ R.cells ∧ slots + ms ≤ R.slots) (hsz : ls.size = nL) (hcat : (st.map fun v => v.category).sum ≤ 8) (hdg : decode cc pc = .ok (.invokespecial index, 3)) (k : ∀ ad', (∀ k, k < L.1 → ad' k = ad k) → hC p s m args meth c dC dI cy ad' L' A cc nL Ts own → hG p l e R s m args below meth c dC dI cy ad' L' A (cells + mc) (slots + ms) Q X' (pc + 3) ls st) : hG p l e R s m args below meth c dC dI cy ad L A cells slots Q X pc ls (.ref (ad b) :: st) := fun H locs hP hS => by
  exact hx_afterA C (va_runIN (host := host) ⟨C.1, C.2.1, C.2.2.1, C.2.2.2.1, C.2.2.2.2.1⟩ (hM ad C.dd H.size) (⟨va_cnB 0 C.2.2.2.2.1 hg hw hrc hrs2 (C.2.2.2.2.2.2.1 _ hq) (C.2.2.2.2.1 _ hini) hd hR, hy1, C.2.2.2.2.1 _ hinst⟩) ⟨hx_blind, fun U hU hW => ⟨rfl, by rw [hU], by rw [hU]; exact hP, va_K.moved hW.alike C.2.2.2.2.2.1, C.2.2.2.2.2.2.1.warm hW, by rw [hU]; exact C.2.2.2.2.2.2.2.2.2.2.go hS hW (hC.sub C hS)⟩⟩ rfl rfl hsz rfl (lv_room hcat) hdg hcs) hS k
end HXA
