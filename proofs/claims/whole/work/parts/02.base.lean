def z_Nm : List (String × Nat × MethodName × String) := [(RX9, 107, yX0_greatestAbsoluteDigit, RX9), (RX9, 120, yX3_countUpTo, RX9), (RX9, 126, yX3_leastOf, RX9), (RX9, 129, yX3_elementsFrom, RX9), (RX9, 132, yX3_greatestFrom, RX9), (RX9, 140, yX7_begin, RX9), (RX9, 148, yX3_numberOf, RX9), (RX9, 151, yX0_keepsZero, RX9), (RX9, 159, yX8_rowsWith, RX9), (RX9, 169, yX8_entryOfRow, RX9), (RX9, 173, yX8_leastLength, RX9), (RX9, 181, yX6_append, RX9), (RX9, 182, yX6_entryOrZero, RX9), (RX9, 187, yX4_read, RX9), (RX9, 198, yX4_orderTo, RX9), (RX9, 206, yX2_giveSums, RX9), (RX9, 214, yX2_giveMultiples, RX9), (RX9, 222, yX0_carryBehind, RX9), (RX9, 230, yX1_collect, RX9), (RX9, 236, yX1_ascending, RX9), (RX9, 239, yX0_init, RX9), (RX9, 240, yX7_init, RX9), (RX9, 243, yX3_init, RX9), (RX9, 244, yX8_init, RX9), (RX9, 245, yX1_init, RX9), (RX9, 246, yX5_init, RX9), (RX9, 25, yX2_init, RX9), (RX9, 262, yX7_numeratorAt, RX9), (RX9, 265, yX7_digitOf, RX9), (RX9, 274, yX7_isFinite, RX9), (RX9, 277, yX7_after, RX9), (RX9, 280, yX2_carryThrough, RX9), (RX9, 288, yX6_become, RX9), (RX9, 32, yX4_init, RX9), (RX9, 44, yX6_init, RX9), (RX9, 59, yX0_become, RX9), (RX9, 72, yX0_placeOf, RX9), (RX9, 81, yX0_append, RX9), (RX9, 85, yX0_removeAt, RX9), (RX9, 88, yX0_moveToFront, RX9), (RX9, 91, yX0_listed, RX9), (RX9, 94, yX0_digitFor, RX9), (RX1, 37, yX0_carryBehind, RX9), (RX1, 44, yX0_listed, RX9), (RX2, 17, yX6_init, RX9), (RX2, 35, yX6_entryOrZero, RX9), (RX2, 48, yX0_digitFor, RX9), (RX2, 51, yX6_append, RX9), (RX2, 55, yX0_carryBehind, RX9), (RX2, 58, yX6_dropZerosAtEnd, RX9), (RX2, 61, yX0_keepsZero, RX9), (RX3, 15, yX0_carryBehind, RX9), (RX4, 24, yX6_entryOrZero, RX9), (RX4, 36, yX9_commonDivisor, RX9), (RX7, 49, yX0_residueOf, RX9), (RX7, 55, yX0_digitFor, RX9), (RX7, 58, yX0_quotient, RX9), (RX8, 68, yX0_quotient, RX9), (RX8, 74, yX0_listed, RX9), (RX8, 88, yX0_divides, RX9), (RX8, 92, yX0_leastDigit, RX9), (RX8, 96, yX0_greatestDigit, RX9)]
def z_Nf : List (String × Nat × String × String × String × String) := [(RX9, 100, "NumerationSystems$Base", "q", "I", RX9), (RX9, 103, "NumerationSystems$Base", "complete", "Z", RX9), (RX9, 116, "NumerationSystems$NumberSystem", "cycles", "LNumerationSystems$Cycles;", RX9), (RX9, 136, "NumerationSystems$NumberSystem", "walk", "LNumerationSystems$Walk;", RX9), (RX9, 145, "NumerationSystems$Walk", "entrance", "I", RX9), (RX9, 155, "NumerationSystems$NumberSystem", "ways", "LNumerationSystems$Ways;", RX9), (RX9, 180, "NumerationSystems$Row", "count", "I", RX9), (RX9, 191, "NumerationSystems$Fraction", "bottom", "J", RX9), (RX9, 195, "NumerationSystems$Fraction", "top", "J", RX9), (RX9, 226, "NumerationSystems$NumberSystem", "carries", "LNumerationSystems$CarrySet;", RX9), (RX9, 235, "NumerationSystems$CarrySet", "count", "I", RX9), (RX9, 268, "NumerationSystems$Walk", "before", "I", RX9), (RX9, 271, "NumerationSystems$Walk", "around", "I", RX9), (RX9, 284, "NumerationSystems$Computation", "result", "LNumerationSystems$Row;", RX9), (RX9, 55, "NumerationSystems$NumberSystem", "base", "LNumerationSystems$Base;", RX9), (RX9, 65, "NumerationSystems$Base", "residues", "I", RX9), (RX9, 77, "NumerationSystems$Base", "count", "I", RX9), (RX9, 97, "NumerationSystems$Base", "p", "I", RX9), (RX1, 43, "NumerationSystems$Base", "count", "I", RX9), (RX2, 22, "NumerationSystems$Row", "count", "I", RX9), (RX2, 43, "NumerationSystems$Base", "q", "I", RX9), (RX4, 18, "NumerationSystems$Row", "count", "I", RX9), (RX4, 28, "NumerationSystems$Base", "p", "I", RX9), (RX4, 33, "NumerationSystems$Base", "q", "I", RX9), (RX7, 44, "NumerationSystems$Base", "residues", "I", RX9), (RX7, 52, "NumerationSystems$Base", "q", "I", RX9), (RX8, 63, "NumerationSystems$Base", "q", "I", RX9), (RX8, 71, "NumerationSystems$Base", "count", "I", RX9), (RX8, 99, "NumerationSystems$Base", "p", "I", RX9)]
/-! THE WORLD AS A FUNCTION: n cells at the addresses ad 0 .. ad (n-1), apart; what they hold is g. -/
abbrev zT : Type := Nat × (Nat → Nat) × va_G × (Nat → ClassId)
def z_w (Z : zT) (g : Nat → va_E) : va_W := (List.range Z.1).map (fun k => (Z.2.1 k, g k))
theorem z_w_get {Z : zT} {g : Nat → va_E} {k : Nat} (hk : k < Z.1) : (z_w Z g)[k]? = some (Z.2.1 k, g k) := by
  simp [z_w, List.getElem?_map, List.getElem?_range hk]
theorem z_w_of {Z : zT} {g : Nat → va_E} {k : Nat} {q : Nat × va_E} (h : (z_w Z g)[k]? = some q) : k < Z.1 ∧ q = (Z.2.1 k, g k) := by
  have hk : k < Z.1 := by
    have := (List.getElem?_eq_some_iff.mp h).1
    simpa [z_w] using this
  rw [z_w_get hk] at h
  exact ⟨hk, (Option.some.inj h).symm⟩
theorem z_w_set {Z : zT} {g : Nat → va_E} {k : Nat} {e : va_E} (hk : k < Z.1) : (z_w Z g).set k (Z.2.1 k, e) = z_w Z (va_up g k e) := by
  apply List.ext_getElem?
  intro j
  rw [List.getElem?_set]
  by_cases hj : j < Z.1
  · rw [z_w_get hj]
    by_cases hkj : k = j
    · subst hkj
      simp [z_w, hk, va_up]
    · rw [if_neg hkj, z_w_get hj]
      simp [va_up, Ne.symm hkj]
  · have h1 : (z_w Z g)[j]? = none := by simp [z_w]; omega
    have h2 : (z_w Z (va_up g k e))[j]? = none := by simp [z_w]; omega
    rw [h1, h2, if_neg (by omega)]
def z_A (Z : zT) (sz : Nat) : Nat → Prop := fun q => (∃ k, k < Z.1 ∧ q = Z.2.1 k) ∨ sz ≤ q
abbrev z_tys (cA : Nat → ClassId) : List (ClassId × FieldType) := [(cA 0, .int), (cA 1, .long), (cA 2, .boolean), (cA 3, .object RX5), (cA 4, .object RX6)]
def z_N (U : State) : Prop := (∀ q ∈ z_Nm, va_Nw (.methodLinkNest q.1 q.2.1 q.2.2.1 q.2.2.2) U) ∧ ∀ q ∈ z_Nf, va_Nw (.fieldLinkNest q.1 q.2.1 q.2.2.1 q.2.2.2.1 q.2.2.2.2.1 q.2.2.2.2.2) U
theorem z_N.warm {s U : State} (hW : s.WarmedH U.vm) (h : z_N s) : z_N U := ⟨fun q hq => va_Nw.warmM hW (h.1 q hq), fun q hq => va_Nw.warmF hW (h.2 q hq)⟩
theorem z_N.same {u U : State} (e : u.vm = U.vm) (h : z_N u) : z_N U := ⟨fun q hq => va_Nw.same rfl e (h.1 q hq), fun q hq => va_Nw.same rfl e (h.2 q hq)⟩
def z_K (Z : zT) (U : State) : Prop := va_K Z.2.2.1 vwCl (z_tys Z.2.2.2) U ∧ z_N U
theorem z_K.warm {Z : zT} {s U : State} (hW : s.WarmedH U.vm) (h : z_K Z s) : z_K Z U := ⟨va_K.moved hW.alike h.1, z_N.warm hW h.2⟩
theorem z_K.same {Z : zT} {u U : State} (e : u.vm = U.vm) (h : z_K Z u) : z_K Z U := ⟨va_K.moved (by rw [e]; exact Vm.Alike.refl U.vm) h.1, z_N.same e h.2⟩
def z_P (Z : zT) (g : Nat → va_E) (H : Heap) : Prop := va_P Z.2.2.1 vwCl (z_w Z g) H
def z_D (A : Nat → Prop) (Z : zT) : Prop := (∀ i j : Nat, i < Z.1 → j < Z.1 → Z.2.1 i = Z.2.1 j → i = j) ∧ ∀ k, k < Z.1 → A (Z.2.1 k)
theorem z_D.to {A : Nat → Prop} {Z : zT} (h : z_D A Z) (g : Nat → va_E) : va_D A (z_w Z g) := by
  refine ⟨fun i j p q hi hj e => ?_, fun k q hk => ?_⟩
  · obtain ⟨a1, rfl⟩ := z_w_of hi
    obtain ⟨a2, rfl⟩ := z_w_of hj
    exact h.1 i j a1 a2 e
  · obtain ⟨a1, rfl⟩ := z_w_of hk
    exact h.2 k a1
theorem z_D.of {A : Nat → Prop} {Z : zT} {g : Nat → va_E} (h : va_D A (z_w Z g)) : z_D A Z :=
  ⟨fun i j hi hj e => h.1 i j _ _ (z_w_get hi) (z_w_get hj) e, fun k hk => h.2 k _ (z_w_get hk)⟩
theorem z_D.self {A : Nat → Prop} {Z : zT} {sz : Nat} (h : z_D A Z) : z_D (z_A Z sz) Z := ⟨h.1, fun k hk => Or.inl ⟨k, hk, rfl⟩⟩
def z_S (Z : zT) (A : Nat → Prop) (H0 : Heap) (g : Nat → va_E) (H : Heap) (locs : List Loc) : Prop := z_P Z g H ∧ z_D A Z ∧ va_S A H0 H locs ∧ ∀ q : Nat, H0.size ≤ q → A q
/-- a method's start and its end -/
def z_Pc (Z : zT) (sz : Nat) (av : List Value) (g : Nat → va_E) : Array Value → State → Prop := va_Pc av (fun U => U.heap.size = sz ∧ z_P Z g U.heap ∧ z_K Z U ∧ z_D (fun _ => True) Z)
abbrev z_B (Z : zT) (g : Nat → va_E) (t : State) : Prop := z_P Z g t.heap
abbrev z_rm (fr lo : Nat) : Room := { frames := fr, cells := 0, slots := 0, locals := lo }
def z_Mi (Z : zT) (y : MethodName) (ws : List Cond) (fr lo : Nat) (av : List Value) (g : Nat → va_E) (post : Int32 → (Nat → va_E) → Prop) : Prop := ∀ (l : Launch) (sz : Nat), Met l y ws (z_rm fr lo) (z_Pc Z sz av g) (va_Qi post (z_B Z) (z_A Z sz)) 0 0 (z_A Z sz)
def z_Ml (Z : zT) (y : MethodName) (ws : List Cond) (fr lo : Nat) (av : List Value) (g : Nat → va_E) (post : Int64 → (Nat → va_E) → Prop) : Prop := ∀ (l : Launch) (sz : Nat), Met l y ws (z_rm fr lo) (z_Pc Z sz av g) (va_Ql post (z_B Z) (z_A Z sz)) 0 0 (z_A Z sz)
def z_Mv (Z : zT) (y : MethodName) (ws : List Cond) (fr lo : Nat) (av : List Value) (g : Nat → va_E) (post : (Nat → va_E) → Prop) : Prop := ∀ (l : Launch) (sz : Nat), Met l y ws (z_rm fr lo) (z_Pc Z sz av g) (va_Qv post (z_B Z) (z_A Z sz)) 0 0 (z_A Z sz)
def z_Mq (Z : zT) (y : MethodName) (ws : List Cond) (fr lo : Nat) (av : List Value) (g : Nat → va_E) (post : Option Nat → (Nat → va_E) → Prop) : Prop := ∀ (l : Launch) (sz : Nat), Met l y ws (z_rm fr lo) (z_Pc Z sz av g) (va_Qq post (z_B Z) (z_A Z sz)) 0 0 (z_A Z sz)
theorem z_up_s {g g1 : Nat → va_E} {k : Nat} {e : va_E} (h : g1 = va_up g k e) : g1 k = e := by rw [h]; simp [va_up]
theorem z_up_n {g g1 : Nat → va_E} {k j : Nat} {e x : va_E} (h : g1 = va_up g k e) (hj : g j = x) (hne : j ≠ k) : g1 j = x := by rw [h]; simp [va_up, hne, hj]
theorem z_up_o {g g1 : Nat → va_E} {k j : Nat} {e : va_E} (h : g1 = va_up g k e) (hne : j ≠ k) : g1 j = g j := by rw [h]; simp [va_up, hne]
theorem z_up_e {g g1 : Nat → va_E} {k : Nat} {e : va_E} (h : ∀ j, j ≠ k → g1 j = g j) (hk : g1 k = e) : g1 = va_up g k e := by
  funext j
  by_cases hj : j = k
  · subst hj; simp [va_up, hk]
  · simp [va_up, hj, h j hj]
theorem z_enter {Z : zT} {l : Launch} {sz : Nat} {y : MethodName} {ws ws' : List Cond} {fr lo : Nat} {av : List Value} {g : Nat → va_E} {Qc : Array Value → State → Outcome → State → Prop} {cc : ByteArray} {maxL : Nat} {ret : Option FieldType} (hy : plainFor y = true) (hw : ws = Cond.code y cc maxL ret :: ws') {lv : List (Nat × Value)} (hl : ∀ ls : Array Slot, ls = (lg_sl av ++ List.replicate (maxL - (lg_sl av).length) Slot.unset).toArray → lv_has ls maxL lv)
    (body : ∀ (p : Program) (e : Env) (s : State) (m : MethodId) (args : Array Value) (below : List Frame) (meth : Method) (c : Code), p.tables.exec = Jvm.exec → c.code = cc → c.maxLocals = maxL → meth.sig.returnType = ret → meth.locks = false → s.vm.findClass y.cls = some m.cls → (∀ w ∈ ws, w.before args s = true) → z_K Z s → z_S Z (z_A Z sz) s.heap g s.heap [] → sz = s.heap.size → ∀ ls, lv_has ls maxL lv → W p l e (headSpec ws (z_rm fr lo)).room s m args below meth c s.heap [] 0 0 (MQ below Qc args s 0 0 (z_A Z sz)) (F0 m 0 ls [])) : Met l y ws (z_rm fr lo) (z_Pc Z sz av g) Qc 0 0 (z_A Z sz) := by
  refine va_MetF (cc := cc) (maxL := maxL) (ret := ret) hy hw ?_
  intro p e s m args below meth c s₁ B hml hv
  obtain ⟨rfl, hsz, hP, hK, hD⟩ := hv
  have hown : s.vm.findClass y.cls = some m.cls := findClass_of_methodNamed B.named
  rw [lg_entry_eq]
  exact body p e s m _ below meth c B.exec B.bytes hml B.returns B.notSynchronized hown (atoms_spec (ws := ws) B.pre) hK ⟨hP, hD.self, va_S.rf, fun q h => Or.inr (by omega)⟩ hsz.symm _ (hl _ rfl)
section Zrows
variable {p : Program} {l : Launch} {e : Env} {R : Room} {s : State} {m : MethodId} {args : Array Value} {below : List Frame} {meth : Method} {c : Code} {H : Heap} {locs : List Loc} {cells slots : Nat} {Q : State → Prop}
variable {cc : ByteArray} {pc : Nat} {ls : Array Slot} {rest : List Value} {Z : zT} {A : Nat → Prop} {H0 : Heap} {g : Nat → va_E} {Ts : List Cond}
theorem z_get (hexec : p.tables.exec = Jvm.exec) (hb : c.code = cc) {own ref C : String} {T : u_T} {N ci index : Nat} (hts : ∀ w ∈ Ts, w.before args s = true) (hin : ∀ w ∈ u_ws C T N, w ∈ Ts) (hown : s.vm.findClass own = some m.cls) (hK : z_K Z s) (hS : z_S Z A H0 g H locs) {k : Nat} {fs : List Value} (hg : g k = .inr (ci, fs)) (hkN : k < Z.1) (hc : vwCl[ci]? = some (C, T, N)) (j : Nat) (hj : j < N) (hlink : Cond.fieldLink own index ref (T j).2.1 (T j).2.2.1 ∈ Ts) (ho : (T j).1 = ref) {v : Value} (hv : fs[j]? = some v) (hdg : decode cc pc = .ok (.getfield index, 3))
    (kk : W p l e R s m args below meth c H locs cells slots Q (F0 m (pc + 3) ls (v :: rest))) : W p l e R s m args below meth c H locs cells slots Q (F0 m pc ls (.ref (Z.2.1 k) :: rest)) :=
  va_get hexec hb hts hin hown hK.1 hS.1 k (by rw [z_w_get hkN, hg]) hc j hj (hts _ hlink) (fun x h => by rw [← ho]; exact h) hv hdg kk
theorem z_getN (hexec : p.tables.exec = Jvm.exec) (hb : c.code = cc) {own ref C host : String} {T : u_T} {N ci index : Nat} (hts : ∀ w ∈ Ts, w.before args s = true) (hin : ∀ w ∈ u_ws C T N, w ∈ Ts) (hown : s.vm.findClass own = some m.cls) (hK : z_K Z s) (hS : z_S Z A H0 g H locs) {k : Nat} {fs : List Value} (hg : g k = .inr (ci, fs)) (hkN : k < Z.1) (hc : vwCl[ci]? = some (C, T, N)) (j : Nat) (hj : j < N) (iN : Nat) (hlink : z_Nf[iN]? = some (own, index, ref, (T j).2.1, (T j).2.2.1, host)) (ho : (T j).1 = ref) {v : Value} (hv : fs[j]? = some v) (hdg : decode cc pc = .ok (.getfield index, 3))
    (kk : W p l e R s m args below meth c H locs cells slots Q (F0 m (pc + 3) ls (v :: rest))) : W p l e R s m args below meth c H locs cells slots Q (F0 m pc ls (.ref (Z.2.1 k) :: rest)) :=
  va_getN (host := host) hexec hb hts hin hown hK.1 hS.1 k (by rw [z_w_get hkN, hg]) hc j hj (va_Nw.use rfl (hK.2.2 _ (List.mem_of_getElem? hlink))) (fun x h => by rw [← ho]; exact h) hv hdg kk
theorem z_S.up {k : Nat} {e0 : va_E} {H1 : Heap} {locs1 : List Loc} (hS : z_S Z A H0 g H locs) (hk : k < Z.1) (h1 : va_P Z.2.2.1 vwCl ((z_w Z g).set k (Z.2.1 k, e0)) H1) (h3 : va_S A H0 H1 locs1) : z_S Z A H0 (va_up g k e0) H1 locs1 := by
  rw [z_w_set hk] at h1
  exact ⟨h1, hS.2.1, h3, hS.2.2.2⟩
theorem z_put (hexec : p.tables.exec = Jvm.exec) (hb : c.code = cc) {own ref C : String} {T : u_T} {N ci index : Nat} (hts : ∀ w ∈ Ts, w.before args s = true) (hin : ∀ w ∈ u_ws C T N, w ∈ Ts) (ty0 : Nat → FieldType) (hty : ∀ k, k < N → parseFieldDescriptor (T k).2.2.1 = some (ty0 k)) (hnm : ∀ a, a < N → ∀ b, b < N → a ≠ b → (T a).2.1 ≠ (T b).2.1) (hown : s.vm.findClass own = some m.cls) (hK : z_K Z s) (hS : z_S Z A H0 g H locs) {k : Nat} {fs fs' : List Value} (hg : g k = .inr (ci, fs)) (hkN : k < Z.1) (hc : vwCl[ci]? = some (C, T, N)) (j : Nat) (hj : j < N) (hlink : Cond.fieldLink own index ref (T j).2.1 (T j).2.2.1 ∈ Ts) (ho : (T j).1 = ref) (hfin : (T j).2.2.2 = false) {v : Value} (hn : narrow (ty0 j) v = v) (hfit : fits (ty0 j) v = true) (hl : j < fs.length) (hfs : fs.set j v = fs')
    (hdg : decode cc pc = .ok (.putfield index, 3)) (kk : ∀ (g1 : Nat → va_E) (H1 : Heap) (locs1 : List Loc), g1 = va_up g k (.inr (ci, fs')) → z_S Z A H0 g1 H1 locs1 → W p l e R s m args below meth c H1 locs1 cells slots Q (F0 m (pc + 3) ls rest)) : W p l e R s m args below meth c H locs cells slots Q (F0 m pc ls (v :: .ref (Z.2.1 k) :: rest)) := by
  refine va_put hexec hb hts hin ty0 hty hnm hown hK.1 hS.1 (hS.2.1.to g) hS.2.2.1 k (by rw [z_w_get hkN, hg]) hc j hj (hts _ hlink) (fun x h => by rw [← ho]; exact h) hfin (hty j hj) hn hfit hl hdg (fun H1 locs1 h1 h2 h3 => ?_)
  rw [hfs] at h1
  exact kk _ H1 locs1 rfl (hS.up hkN h1 h3)
theorem z_putN (hexec : p.tables.exec = Jvm.exec) (hb : c.code = cc) {own ref C host : String} {T : u_T} {N ci index : Nat} (hts : ∀ w ∈ Ts, w.before args s = true) (hin : ∀ w ∈ u_ws C T N, w ∈ Ts) (ty0 : Nat → FieldType) (hty : ∀ k, k < N → parseFieldDescriptor (T k).2.2.1 = some (ty0 k)) (hnm : ∀ a, a < N → ∀ b, b < N → a ≠ b → (T a).2.1 ≠ (T b).2.1) (hown : s.vm.findClass own = some m.cls) (hK : z_K Z s) (hS : z_S Z A H0 g H locs) {k : Nat} {fs fs' : List Value} (hg : g k = .inr (ci, fs)) (hkN : k < Z.1) (hc : vwCl[ci]? = some (C, T, N)) (j : Nat) (hj : j < N) (iN : Nat) (hlink : z_Nf[iN]? = some (own, index, ref, (T j).2.1, (T j).2.2.1, host)) (ho : (T j).1 = ref) (hfin : (T j).2.2.2 = false) {v : Value} (hn : narrow (ty0 j) v = v) (hfit : fits (ty0 j) v = true) (hl : j < fs.length) (hfs : fs.set j v = fs')
    (hdg : decode cc pc = .ok (.putfield index, 3)) (kk : ∀ (g1 : Nat → va_E) (H1 : Heap) (locs1 : List Loc), g1 = va_up g k (.inr (ci, fs')) → z_S Z A H0 g1 H1 locs1 → W p l e R s m args below meth c H1 locs1 cells slots Q (F0 m (pc + 3) ls rest)) : W p l e R s m args below meth c H locs cells slots Q (F0 m pc ls (v :: .ref (Z.2.1 k) :: rest)) := by
  refine va_putN (host := host) hexec hb hts hin ty0 hty hnm hown hK.1 hS.1 (hS.2.1.to g) hS.2.2.1 k (by rw [z_w_get hkN, hg]) hc j hj (va_Nw.use rfl (hK.2.2 _ (List.mem_of_getElem? hlink))) (fun x h => by rw [← ho]; exact h) hfin (hty j hj) hn hfit hl hdg (fun H1 locs1 h1 h2 h3 => ?_)
  rw [hfs] at h1
  exact kk _ H1 locs1 rfl (hS.up hkN h1 h3)
theorem z_iald (hexec : p.tables.exec = Jvm.exec) (hb : c.code = cc) (hK : z_K Z s) (hS : z_S Z A H0 g H locs) {k n : Nat} {f : Nat → Int32} (hg : g k = .inl (Z.2.2.2 0, n, .inl f)) (hkN : k < Z.1) {i : Int32} (hin : vp_in i n) (hdg : decode cc pc = .ok (.iaload, 1))
    (kk : W p l e R s m args below meth c H locs cells slots Q (F0 m (pc + 1) ls (.int (f i.toNatClampNeg) :: rest))) : W p l e R s m args below meth c H locs cells slots Q (F0 m pc ls (.int i :: .ref (Z.2.1 k) :: rest)) :=
  va_iald hexec hb hK.1 hS.1 k 0 (by rw [z_w_get hkN, hg]) rfl hin hdg kk
theorem z_iast (hexec : p.tables.exec = Jvm.exec) (hb : c.code = cc) (hK : z_K Z s) (hS : z_S Z A H0 g H locs) {k n : Nat} {f : Nat → Int32} (hg : g k = .inl (Z.2.2.2 0, n, .inl f)) (hkN : k < Z.1) {i x : Int32} (hin : vp_in i n) (hdg : decode cc pc = .ok (.iastore, 1))
    (kk : ∀ (g1 : Nat → va_E) (H1 : Heap) (locs1 : List Loc), g1 = va_up g k (.inl (Z.2.2.2 0, n, .inl (upd f i.toNatClampNeg x))) → z_S Z A H0 g1 H1 locs1 → W p l e R s m args below meth c H1 locs1 cells slots Q (F0 m (pc + 1) ls rest)) : W p l e R s m args below meth c H locs cells slots Q (F0 m pc ls (.int x :: .int i :: .ref (Z.2.1 k) :: rest)) :=
  va_iast hexec hb hK.1 hS.1 (hS.2.1.to g) hS.2.2.1 k 0 (by rw [z_w_get hkN, hg]) rfl hin hdg (fun H1 locs1 h1 _ h3 => kk _ H1 locs1 rfl (hS.up hkN h1 h3))
theorem z_lald (hexec : p.tables.exec = Jvm.exec) (hb : c.code = cc) (hK : z_K Z s) (hS : z_S Z A H0 g H locs) {k n : Nat} {f : Nat → Int64} (hg : g k = .inl (Z.2.2.2 1, n, .inr (.inl f))) (hkN : k < Z.1) {i : Int32} (hin : vp_in i n) (hdg : decode cc pc = .ok (.laload, 1))
    (kk : W p l e R s m args below meth c H locs cells slots Q (F0 m (pc + 1) ls (.long (f i.toNatClampNeg) :: rest))) : W p l e R s m args below meth c H locs cells slots Q (F0 m pc ls (.int i :: .ref (Z.2.1 k) :: rest)) :=
  va_lald hexec hb hK.1 hS.1 k 1 (by rw [z_w_get hkN, hg]) rfl hin hdg kk
theorem z_last (hexec : p.tables.exec = Jvm.exec) (hb : c.code = cc) (hK : z_K Z s) (hS : z_S Z A H0 g H locs) {k n : Nat} {f : Nat → Int64} (hg : g k = .inl (Z.2.2.2 1, n, .inr (.inl f))) (hkN : k < Z.1) {i : Int32} {x : Int64} (hin : vp_in i n) (hdg : decode cc pc = .ok (.lastore, 1))
    (kk : ∀ (g1 : Nat → va_E) (H1 : Heap) (locs1 : List Loc), g1 = va_up g k (.inl (Z.2.2.2 1, n, .inr (.inl (vp_updL f i.toNatClampNeg x)))) → z_S Z A H0 g1 H1 locs1 → W p l e R s m args below meth c H1 locs1 cells slots Q (F0 m (pc + 1) ls rest)) : W p l e R s m args below meth c H locs cells slots Q (F0 m pc ls (.long x :: .int i :: .ref (Z.2.1 k) :: rest)) :=
  va_last hexec hb hK.1 hS.1 (hS.2.1.to g) hS.2.2.1 k 1 (by rw [z_w_get hkN, hg]) rfl hin hdg (fun H1 locs1 h1 _ h3 => kk _ H1 locs1 rfl (hS.up hkN h1 h3))
theorem z_zald (hexec : p.tables.exec = Jvm.exec) (hb : c.code = cc) (hK : z_K Z s) (hS : z_S Z A H0 g H locs) {k n : Nat} {f : Nat → Int32} (hg : g k = .inl (Z.2.2.2 2, n, .inl f)) (hkN : k < Z.1) {i : Int32} (hin : vp_in i n) (hdg : decode cc pc = .ok (.baload, 1))
    (kk : W p l e R s m args below meth c H locs cells slots Q (F0 m (pc + 1) ls (.int (f i.toNatClampNeg) :: rest))) : W p l e R s m args below meth c H locs cells slots Q (F0 m pc ls (.int i :: .ref (Z.2.1 k) :: rest)) :=
  va_zald hexec hb hK.1 hS.1 k 2 (by rw [z_w_get hkN, hg]) rfl hin hdg kk
theorem z_zast (hexec : p.tables.exec = Jvm.exec) (hb : c.code = cc) (hK : z_K Z s) (hS : z_S Z A H0 g H locs) {k n : Nat} {f : Nat → Int32} (hg : g k = .inl (Z.2.2.2 2, n, .inl f)) (hkN : k < Z.1) {i x y : Int32} (hxy : vp_nar .boolean x = y) (hin : vp_in i n) (hdg : decode cc pc = .ok (.bastore, 1))
    (kk : ∀ (g1 : Nat → va_E) (H1 : Heap) (locs1 : List Loc), g1 = va_up g k (.inl (Z.2.2.2 2, n, .inl (upd f i.toNatClampNeg y))) → z_S Z A H0 g1 H1 locs1 → W p l e R s m args below meth c H1 locs1 cells slots Q (F0 m (pc + 1) ls rest)) : W p l e R s m args below meth c H locs cells slots Q (F0 m pc ls (.int x :: .int i :: .ref (Z.2.1 k) :: rest)) :=
  va_zast hexec hb hK.1 hS.1 (hS.2.1.to g) hS.2.2.1 k 2 (by rw [z_w_get hkN, hg]) rfl hin hdg (fun H1 locs1 h1 _ h3 => kk _ H1 locs1 rfl (hS.up hkN (by rw [hxy] at h1; exact h1) h3))
theorem z_aald3 (hexec : p.tables.exec = Jvm.exec) (hb : c.code = cc) (hK : z_K Z s) (hS : z_S Z A H0 g H locs) {k n : Nat} {f : Nat → Option Nat} (hg : g k = .inl (Z.2.2.2 3, n, .inr (.inr (.inr (.inr f))))) (hkN : k < Z.1) {i : Int32} (hin : vp_in i n) (hdg : decode cc pc = .ok (.aaload, 1))
    (kk : W p l e R s m args below meth c H locs cells slots Q (F0 m (pc + 1) ls (va_rf (f i.toNatClampNeg) :: rest))) : W p l e R s m args below meth c H locs cells slots Q (F0 m pc ls (.int i :: .ref (Z.2.1 k) :: rest)) :=
  va_aldq hexec hb hK.1 hS.1 k 3 (by rw [z_w_get hkN, hg]) rfl hin hdg kk
theorem z_aald4 (hexec : p.tables.exec = Jvm.exec) (hb : c.code = cc) (hK : z_K Z s) (hS : z_S Z A H0 g H locs) {k n : Nat} {f : Nat → Option Nat} (hg : g k = .inl (Z.2.2.2 4, n, .inr (.inr (.inr (.inr f))))) (hkN : k < Z.1) {i : Int32} (hin : vp_in i n) (hdg : decode cc pc = .ok (.aaload, 1))
    (kk : W p l e R s m args below meth c H locs cells slots Q (F0 m (pc + 1) ls (va_rf (f i.toNatClampNeg) :: rest))) : W p l e R s m args below meth c H locs cells slots Q (F0 m pc ls (.int i :: .ref (Z.2.1 k) :: rest)) :=
  va_aldq hexec hb hK.1 hS.1 k 4 (by rw [z_w_get hkN, hg]) rfl hin hdg kk
theorem z_alen (hexec : p.tables.exec = Jvm.exec) (hb : c.code = cc) (hK : z_K Z s) (hS : z_S Z A H0 g H locs) (t0 : Nat) {k : Nat} {cA : ClassId} {x : vp_A} (hg : g k = .inl (cA, x)) (hkN : k < Z.1) {ty : FieldType} (ht : (z_tys Z.2.2.2)[t0]? = some (cA, ty)) {v : Int32} (hv : Int32.ofNat x.1 = v) (hdg : decode cc pc = .ok (.arraylength, 1))
    (kk : W p l e R s m args below meth c H locs cells slots Q (F0 m (pc + 1) ls (.int v :: rest))) : W p l e R s m args below meth c H locs cells slots Q (F0 m pc ls (.ref (Z.2.1 k) :: rest)) :=
  va_alen hexec hb hK.1 hS.1 k t0 (by rw [z_w_get hkN, hg]) ht hv hdg kk
-- calls
variable {y : MethodName} {bytes : ByteArray} {maxL nL n index : Nat} {ret : Option FieldType} {ws ws' : List Cond} {fr lo : Nat} {Qc : Array Value → State → Outcome → State → Prop} {own C : String} {As st0 av : List Value}
theorem z_blind {sz : Nat} : FrameBlind (z_Pc Z sz av g) := fun a U g' mk h => ⟨h.1, h.2.1, h.2.2.1, z_K.same (u := U) rfl h.2.2.2.1, h.2.2.2.2⟩
theorem z_pre (hK : z_K Z s) (hS : z_S Z A H0 g H locs) {U : State} (hU : U.heap = H) (hW : s.WarmedH U.vm) : z_Pc Z H.size av g av.toArray U :=
  ⟨rfl, by rw [hU], by rw [hU]; exact hS.1, z_K.warm hW hK, hS.2.1.1, fun _ _ => trivial⟩
theorem z_recv (hK : z_K Z s) (hS : z_S Z A H0 g H locs) {k ci : Nat} {fs : List Value} {T : u_T} {N : Nat} (hg : g k = .inr (ci, fs)) (hkN : k < Z.1) (hc : vwCl[ci]? = some (C, T, N)) : ∃ cellB : Cell, H[Z.2.1 k]? = some cellB ∧ cellB.vm.isStatics = false ∧ s.vm.findClass C = some cellB.cls :=
  va_recv hK.1 hS.1 hc (q0 := k) (by rw [z_w_get hkN, hg])
abbrev z_Run (p : Program) (l : Launch) (e : Env) (R : Room) (s : State) (m : MethodId) (args : Array Value) (below : List Frame) (meth : Method) (c : Code) (H : Heap) (locs : List Loc) (cells slots : Nat) (g : JFrame) (rest : List Value) (Qa : State → Outcome → State → Prop) (free : Addr → Prop) : Prop := va_Run p l e R s m args below meth c H locs cells slots 0 0 g rest Qa free
theorem z_runV (S : CallFix p m c cc nL s args Ts own) (hK : z_K Z s) (hS : z_S Z A H0 g H locs) {k : Nat} (hM : Met l y ws (z_rm fr lo) (z_Pc Z H.size (.ref (Z.2.1 k) :: As) g) Qc 0 0 (z_A Z H.size)) (hG : GoodIn Ts (wsV own index C y ws)) (hw : ws = Cond.code y bytes maxL ret :: ws') (n : Nat)
    (hd : y.cls = C ∧ y.cls ≠ "java/lang/invoke/MethodHandle" ∧ y.cls ≠ "java/lang/invoke/VarHandle" ∧ (parseMethodDescriptor y.desc).map (fun d => d.parameters.length) = some n) (hR : fr + 1 ≤ R.frames ∧ 8 + (maxL + 11) + lo ≤ R.locals) {ci : Nat} {fs : List Value} {T : u_T} {N : Nat} (hg : g k = .inr (ci, fs)) (hkN : k < Z.1) (hc : vwCl[ci]? = some (C, T, N)) (hn : As.length = n) (hls : ls.size = nL) (hst : st0 = As.reverse ++ .ref (Z.2.1 k) :: rest) (hWt : (rest.map fun v => v.category).sum ≤ 8) (hdg : decode cc pc = .ok (.invokevirtual index, 3)) (hf : cells + 0 ≤ R.cells ∧ slots + 0 ≤ R.slots) :
    z_Run p l e R s m args below meth c H locs cells slots (F0 m pc ls st0) rest (Qc (Value.ref (Z.2.1 k) :: As).toArray) (z_A Z H.size) :=
  va_runV S hM (cwV n S.2.2.2.2 hG hw rfl rfl hd hR) ⟨z_blind, z_recv hK hS hg hkN hc, fun U hU hW => z_pre hK hS hU hW⟩ rfl hn hls hst (lv_room hWt) hdg hf
theorem z_runS (S : CallFix p m c cc nL s args Ts own) (hK : z_K Z s) (hS : z_S Z A H0 g H locs) (hM : Met l y ws (z_rm fr lo) (z_Pc Z H.size As g) Qc 0 0 (z_A Z H.size)) (hG : GoodIn Ts (va_wsS own index y ws)) (hw : ws = Cond.code y bytes maxL ret :: ws') (n : Nat)
    (hd : y.cls ≠ "java/lang/invoke/MethodHandle" ∧ y.cls ≠ "java/lang/invoke/VarHandle" ∧ (parseMethodDescriptor y.desc).map (fun d => d.parameters.length) = some n) (hR : fr + 1 ≤ R.frames ∧ 8 + (maxL + 11) + lo ≤ R.locals) (hn : As.length = n) (hls : ls.size = nL) (hst : st0 = As.reverse ++ rest) (hWt : (rest.map fun v => v.category).sum ≤ 8) (hdg : decode cc pc = .ok (.invokestatic index, 3)) (hf : cells + 0 ≤ R.cells ∧ slots + 0 ≤ R.slots) :
    z_Run p l e R s m args below meth c H locs cells slots (F0 m pc ls st0) rest (Qc As.toArray) (z_A Z H.size) :=
  va_runS S hM (va_cwS n S.2.2.2.2 hG hw rfl rfl hd hR) ⟨z_blind, fun U hU hW => z_pre hK hS hU hW⟩ rfl hn hls hst (lv_room hWt) hdg hf
theorem z_runVN (S : CallFix p m c cc nL s args Ts own) (hK : z_K Z s) (hS : z_S Z A H0 g H locs) {k : Nat} (hM : Met l y ws (z_rm fr lo) (z_Pc Z H.size (.ref (Z.2.1 k) :: As) g) Qc 0 0 (z_A Z H.size)) (hG : GoodIn Ts ws) (hw : ws = Cond.code y bytes maxL ret :: ws') (n iN : Nat) {host : String} (hlink : z_Nm[iN]? = some (own, index, y, host)) (hini : Cond.initialized y.cls ∈ Ts) (hinst : Cond.instanceMethod y ∈ Ts) (hsel : Cond.selects C y y ∈ Ts)
    (hd : y.cls ≠ "java/lang/invoke/MethodHandle" ∧ y.cls ≠ "java/lang/invoke/VarHandle" ∧ (parseMethodDescriptor y.desc).map (fun d => d.parameters.length) = some n) (hR : fr + 1 ≤ R.frames ∧ 8 + (maxL + 11) + lo ≤ R.locals) {ci : Nat} {fs : List Value} {T : u_T} {N : Nat} (hg : g k = .inr (ci, fs)) (hkN : k < Z.1) (hc : vwCl[ci]? = some (C, T, N)) (hn : As.length = n) (hls : ls.size = nL) (hst : st0 = As.reverse ++ .ref (Z.2.1 k) :: rest) (hWt : (rest.map fun v => v.category).sum ≤ 8) (hdg : decode cc pc = .ok (.invokevirtual index, 3)) (hf : cells + 0 ≤ R.cells ∧ slots + 0 ≤ R.slots) :
    z_Run p l e R s m args below meth c H locs cells slots (F0 m pc ls st0) rest (Qc (Value.ref (Z.2.1 k) :: As).toArray) (z_A Z H.size) :=
  va_runVN S hM ⟨va_cnB (host := host) n S.2.2.2.2 hG hw rfl rfl (hK.2.1 _ (List.mem_of_getElem? hlink)) (S.2.2.2.2 _ hini) hd hR, S.2.2.2.2 _ hinst, S.2.2.2.2 _ hsel⟩ ⟨z_blind, z_recv hK hS hg hkN hc, fun U hU hW => z_pre hK hS hU hW⟩ rfl hn hls hst (lv_room hWt) hdg hf
theorem z_runSN (S : CallFix p m c cc nL s args Ts own) (hK : z_K Z s) (hS : z_S Z A H0 g H locs) (hM : Met l y ws (z_rm fr lo) (z_Pc Z H.size As g) Qc 0 0 (z_A Z H.size)) (hG : GoodIn Ts ws) (hw : ws = Cond.code y bytes maxL ret :: ws') (n iN : Nat) {host : String} (hlink : z_Nm[iN]? = some (own, index, y, host)) (hini : Cond.initialized y.cls ∈ Ts) (hstat : Cond.static y ∈ Ts)
    (hd : y.cls ≠ "java/lang/invoke/MethodHandle" ∧ y.cls ≠ "java/lang/invoke/VarHandle" ∧ (parseMethodDescriptor y.desc).map (fun d => d.parameters.length) = some n) (hR : fr + 1 ≤ R.frames ∧ 8 + (maxL + 11) + lo ≤ R.locals) (hn : As.length = n) (hls : ls.size = nL) (hst : st0 = As.reverse ++ rest) (hWt : (rest.map fun v => v.category).sum ≤ 8) (hdg : decode cc pc = .ok (.invokestatic index, 3)) (hf : cells + 0 ≤ R.cells ∧ slots + 0 ≤ R.slots) :
    z_Run p l e R s m args below meth c H locs cells slots (F0 m pc ls st0) rest (Qc As.toArray) (z_A Z H.size) :=
  va_runSN S hM ⟨va_cnB (host := host) n S.2.2.2.2 hG hw rfl rfl (hK.2.1 _ (List.mem_of_getElem? hlink)) (S.2.2.2.2 _ hini) hd hR, S.2.2.2.2 _ hstat, trivial⟩ ⟨z_blind, fun U hU hW => z_pre hK hS hU hW⟩ rfl hn hls hst (lv_room hWt) hdg hf
theorem z_S.hA (hS : z_S Z A H0 g H locs) : ∀ q, q < H.size → z_A Z H.size q → A q := by
  intro q hq h
  rcases h with ⟨k, hk, rfl⟩ | h
  · exact hS.2.1.2 k hk
  · omega
theorem z_S.hf (hS : z_S Z A H0 g H locs) : ∀ q, z_A Z H.size q → A q := by
  intro q h
  rcases h with ⟨k, hk, rfl⟩ | h
  · exact hS.2.1.2 k hk
  · exact hS.2.2.2 q (Nat.le_trans hS.2.2.1.1 h)
theorem z_calli {a : Array Value} {post : Int32 → (Nat → va_E) → Prop} (hr : z_Run p l e R s m args below meth c H locs cells slots (F0 m pc ls st0) rest (va_Qi post (z_B Z) (z_A Z H.size) a) (z_A Z H.size)) (hS : z_S Z A H0 g H locs)
    (kk : ∀ (r : Int32) (g1 : Nat → va_E) (H1 : Heap) (locs1 : List Loc), post r g1 → z_S Z A H0 g1 H1 locs1 → W p l e R s m args below meth c H1 locs1 cells slots Q (F0 m (pc + 3) ls (.int r :: rest))) : W p l e R s m args below meth c H locs cells slots Q (F0 m pc ls st0) :=
  va_calli hr hS.2.2.1 hS.hA hS.hf (fun r u t H1 locs1 ht _ hp hB _ _ h3 => kk r u H1 locs1 hp ⟨by rw [← ht]; exact hB, hS.2.1, h3, hS.2.2.2⟩)
theorem z_calll {a : Array Value} {post : Int64 → (Nat → va_E) → Prop} (hr : z_Run p l e R s m args below meth c H locs cells slots (F0 m pc ls st0) rest (va_Ql post (z_B Z) (z_A Z H.size) a) (z_A Z H.size)) (hS : z_S Z A H0 g H locs)
    (kk : ∀ (r : Int64) (g1 : Nat → va_E) (H1 : Heap) (locs1 : List Loc), post r g1 → z_S Z A H0 g1 H1 locs1 → W p l e R s m args below meth c H1 locs1 cells slots Q (F0 m (pc + 3) ls (.long r :: rest))) : W p l e R s m args below meth c H locs cells slots Q (F0 m pc ls st0) :=
  va_calll hr hS.2.2.1 hS.hA hS.hf (fun r u t H1 locs1 ht _ hp hB _ _ h3 => kk r u H1 locs1 hp ⟨by rw [← ht]; exact hB, hS.2.1, h3, hS.2.2.2⟩)
theorem z_callv {a : Array Value} {post : (Nat → va_E) → Prop} (hr : z_Run p l e R s m args below meth c H locs cells slots (F0 m pc ls st0) rest (va_Qv post (z_B Z) (z_A Z H.size) a) (z_A Z H.size)) (hS : z_S Z A H0 g H locs)
    (kk : ∀ (g1 : Nat → va_E) (H1 : Heap) (locs1 : List Loc), post g1 → z_S Z A H0 g1 H1 locs1 → W p l e R s m args below meth c H1 locs1 cells slots Q (F0 m (pc + 3) ls rest)) : W p l e R s m args below meth c H locs cells slots Q (F0 m pc ls st0) :=
  va_callv hr hS.2.2.1 hS.hA hS.hf (fun u t H1 locs1 ht _ hp hB _ _ h3 => kk u H1 locs1 hp ⟨by rw [← ht]; exact hB, hS.2.1, h3, hS.2.2.2⟩)
theorem z_callq {a : Array Value} {post : Option Nat → (Nat → va_E) → Prop} (hr : z_Run p l e R s m args below meth c H locs cells slots (F0 m pc ls st0) rest (va_Qq post (z_B Z) (z_A Z H.size) a) (z_A Z H.size)) (hS : z_S Z A H0 g H locs)
    (kk : ∀ (r : Option Nat) (g1 : Nat → va_E) (H1 : Heap) (locs1 : List Loc), post r g1 → z_S Z A H0 g1 H1 locs1 → W p l e R s m args below meth c H1 locs1 cells slots Q (F0 m (pc + 3) ls (va_rf r :: rest))) : W p l e R s m args below meth c H locs cells slots Q (F0 m pc ls st0) :=
  va_callq hr hS.2.2.1 hS.hA hS.hf (fun r u t H1 locs1 ht _ hp hB _ _ h3 => kk r u H1 locs1 hp ⟨by rw [← ht]; exact hB, hS.2.1, h3, hS.2.2.2⟩)
-- ends
theorem z_iret {sz : Nat} {post : Int32 → (Nat → va_E) → Prop} {v : Int32} (hexec : p.tables.exec = Jvm.exec) (hb : c.code = cc) (hr : meth.sig.returnType = some .int) (hlocks : meth.locks = false) (hS : z_S Z (z_A Z sz) s.heap g H locs) (hp : post v g) (hdg : decode cc pc = .ok (.ireturn, 1)) : W p l e R s m args below meth c H locs cells slots (MQ below (va_Qi post (z_B Z) (z_A Z sz)) args s cells slots (z_A Z sz)) (F0 m pc ls [.int v]) :=
  W.iret hexec hb hr (fun t ht hW => ⟨⟨v, g, rfl, hp, by rw [z_B, ht]; exact hS.1⟩, hS.2.2.1.F ht⟩) hS.2.2.1.2.2 hdg hlocks
theorem z_zret {sz : Nat} {post : Int32 → (Nat → va_E) → Prop} {v : Int32} (hexec : p.tables.exec = Jvm.exec) (hb : c.code = cc) (hr : meth.sig.returnType = some .boolean) (hlocks : meth.locks = false) (hS : z_S Z (z_A Z sz) s.heap g H locs) (hn : narrow .boolean (.int v) = .int v) (hp : post v g) (hdg : decode cc pc = .ok (.ireturn, 1)) : W p l e R s m args below meth c H locs cells slots (MQ below (va_Qi post (z_B Z) (z_A Z sz)) args s cells slots (z_A Z sz)) (F0 m pc ls [.int v]) :=
  W.zret hexec hb hr hn (fun t ht hW => ⟨⟨v, g, rfl, hp, by rw [z_B, ht]; exact hS.1⟩, hS.2.2.1.F ht⟩) hS.2.2.1.2.2 hdg hlocks
theorem z_lret {sz : Nat} {post : Int64 → (Nat → va_E) → Prop} {v : Int64} (hexec : p.tables.exec = Jvm.exec) (hb : c.code = cc) (hr : meth.sig.returnType = some .long) (hlocks : meth.locks = false) (hS : z_S Z (z_A Z sz) s.heap g H locs) (hp : post v g) (hdg : decode cc pc = .ok (.lreturn, 1)) : W p l e R s m args below meth c H locs cells slots (MQ below (va_Ql post (z_B Z) (z_A Z sz)) args s cells slots (z_A Z sz)) (F0 m pc ls [.long v]) :=
  W.lret hexec hb hr (fun t ht hW => ⟨⟨v, g, rfl, hp, by rw [z_B, ht]; exact hS.1⟩, hS.2.2.1.F ht⟩) hS.2.2.1.2.2 hdg hlocks
theorem z_vret {sz : Nat} {post : (Nat → va_E) → Prop} (hexec : p.tables.exec = Jvm.exec) (hb : c.code = cc) (hr : meth.sig.returnType = none) (hlocks : meth.locks = false) (hS : z_S Z (z_A Z sz) s.heap g H locs) (hp : post g) (hdg : decode cc pc = .ok (.return_, 1)) : W p l e R s m args below meth c H locs cells slots (MQ below (va_Qv post (z_B Z) (z_A Z sz)) args s cells slots (z_A Z sz)) (F0 m pc ls []) :=
  W.vret hexec hb hr (fun t ht hW => ⟨⟨g, rfl, hp, by rw [z_B, ht]; exact hS.1⟩, hS.2.2.1.F ht⟩) hS.2.2.1.2.2 hdg hlocks
theorem z_qret {sz : Nat} {post : Option Nat → (Nat → va_E) → Prop} {r : Option Nat} {nm : String} (hexec : p.tables.exec = Jvm.exec) (hb : c.code = cc) (hr : meth.sig.returnType = some (.object nm)) (hlocks : meth.locks = false) (hS : z_S Z (z_A Z sz) s.heap g H locs) (hp : post r g) (hdg : decode cc pc = .ok (.areturn, 1)) : W p l e R s m args below meth c H locs cells slots (MQ below (va_Qq post (z_B Z) (z_A Z sz)) args s cells slots (z_A Z sz)) (F0 m pc ls [va_rf r]) :=
  W.aret hexec hb hr (Or.inl ⟨nm, rfl⟩) (by cases r; exact Or.inl rfl; exact Or.inr ⟨_, rfl⟩) (fun t ht hW => ⟨⟨r, g, rfl, hp, by rw [z_B, ht]; exact hS.1⟩, hS.2.2.1.F ht⟩) hS.2.2.1.2.2 hdg hlocks
end Zrows
