/-! THE CLAIM OUT OF ONE WALK OF THE LAW'S BODY. Your part is whole_start (and what it stands on); all else here is the same for every law, but numbers. -/
def R_law : String := "NumerationSystemsLaw"
def lw_P (b : Addr) (xs : List Int32) (args : Array Value) (s : State) : Prop := args = #[.ref b] ∧ s.IntsAt b xs ∧ xs.length ≤ 3072 ∧ (Jvm.Cond.and given_1 narrow_1).before args s = true
def lw_Q (_ : Array Value) (s : State) (o : Outcome) (t : State) : Prop := o = .returned (some (.int 1)) ∧ Framed s o t [] 600000 7302249
def lw_Z (below : List Frame) (a : Array Value) (s : State) : State → Prop := fun t => ∃ o, t.status = .running ∧ Ended t below o ∧ lw_Q a s o t
/-- the law's own end, with 1 on the stack, nothing written that was there before, its room as the claim has it -/
theorem lw_ret {p : Program} {l : Launch} {e : Env} {s : State} {m : MethodId} {below : List Frame} {meth : Method} {c : Code} {b : Nat} (hx : p.tables.exec = Jvm.exec) (hb : c.code = code) (hr : meth.sig.returnType = ret) (hlocks : meth.locks = false) {pc : Nat} {H : Heap} {ls : Array Slot} (hdg : decode code pc = .ok (.ireturn, 1)) : W p l e room_1 s m #[Value.ref b] below meth c H [] 600000 7302249 (lw_Z below #[Value.ref b] s) (F0 m pc ls [.int 1]) := by
  intro T hT X
  obtain ⟨fs, hret, hrun, hended, hW, hframe⟩ := X.leave (v := some (.int 1)) (hlocks := hlocks) (fun h => by rw [hr] at h; cases h)
  have hmeth' : T.vm.method? m = some meth := X.method'
  refine ⟨T.setFrames fs, ?_, .returned (some (.int 1)), hrun, hended, rfl, ⟨_, rfl⟩, hW, hframe⟩
  jvm_step X.here [X.here.top, hx, hb, hdg, hmeth', hr, ret, narrow_b1]
  (try refine ⟨rfl, ?_⟩); (try refine ⟨rfl, ?_⟩)
  first | (intro acts; rw [hret _ acts rfl rfl rfl]) | rw [hret _ _ rfl rfl rfl]
  exact Steps.refl _
/-- what holds at the law's entry: the machine, the code, the tables' words (any of lw_tbl by 'hts w (by decide +kernel)'), the script of L ints xs at the cell b, what the Statement gives of the start (any of its parts by flat_of_before) -/
def lw_At (p : Program) (s : State) (m : MethodId) (meth : Method) (c : Code) (b L : Nat) (xs : Nat → Int32) : Prop :=
  p.tables.exec = Jvm.exec ∧ c.code = code ∧ meth.sig.returnType = ret ∧ c.maxLocals = 4 ∧ s.vm.findClass R_law = some m.cls ∧ (∀ w ∈ lw_tbl, w.before #[Value.ref b] s = true) ∧ va_X b L xs s s.heap ∧ b < s.heap.size ∧ meth.locks = false ∧ (Jvm.Cond.and given_1 narrow_1).before #[Value.ref b] s = true
/-! the law: class and reference step alike -/
theorem z_xw.re {Z : zT} {G9 g g1 : Nat → va_E} {sg : Nat → zb} {rw9 : Nat → zr} (h : z_xw Z G9 g sg rw9) (h0 : ∀ j, j < 41 → g1 j = g j) : z_xw Z g1 g1 sg rw9 := by
  obtain ⟨a1, a2, ⟨⟨v1, v2, b1⟩, b2⟩, ⟨u1, u2, b3⟩, a5, a6⟩ := h
  exact ⟨a1.congr (fun j hj => h0 j (by omega)), a2.congr (fun j h1 h2 => h0 j (by omega)), ⟨⟨v1, v2, (h0 7 (by omega)).trans b1⟩, fun j hj => rfl⟩, ⟨u1, u2, (h0 8 (by omega)).trans b3⟩, fun r hr => (a5 r hr).congr (h0 _ (by omega)) (h0 _ (by omega)), fun s hs => (a6 s hs).congr (fun j h1 h2 => h0 j (by omega))⟩
theorem z_mw.re {Z : zT} {g g1 : Nat → va_E} {sg : Nat → zb} {rw9 : Nat → zr} (h : z_mw Z g sg rw9) (h0 : ∀ j, 41 ≤ j → g1 j = g j) : z_mw Z g1 sg rw9 := by
  obtain ⟨⟨v4, v5, v6, v15, v16, v17, fu, fq, fm, fd, a1, a2, a3, a4, a5, a6⟩, hx⟩ := h
  exact ⟨⟨v4, v5, v6, v15, v16, v17, fu, fq, fm, fd, (h0 _ (by omega)).trans a1, (h0 _ (by omega)).trans a2, (h0 _ (by omega)).trans a3, (h0 _ (by omega)).trans a4, (h0 _ (by omega)).trans a5, a6⟩, hx.congr (fun j h1 h2 => h0 j (by omega))⟩
theorem law_i {Z : zT} {g g1 g2 : Nat → va_E} {R : Int × zS} {r1 r2 : Int32} (h1 : z_po Z g R r1 g1) (h2 : z_pm Z g1 R r2 g2) : r1 = r2 ∧ z_xw Z g2 g2 R.2.1 R.2.2 ∧ z_mw Z g2 R.2.1 R.2.2 :=
  ⟨z_inj (h1.1.trans h2.1.symm), h1.2.re (fun j hj => h2.2.2 j (Or.inl hj)), h2.2.1⟩
theorem law_l {Z : zT} {g g1 g2 : Nat → va_E} {R : Int × zS} {r1 r2 : Int64} (h1 : z_pl Z g R r1 g1) (h2 : z_pml Z g1 R r2 g2) : r1 = r2 ∧ z_xw Z g2 g2 R.2.1 R.2.2 ∧ z_mw Z g2 R.2.1 R.2.2 :=
  ⟨z_injL (h1.1.trans h2.1.symm), h1.2.re (fun j hj => h2.2.2 j (Or.inl hj)), h2.2.1⟩
theorem law_m {Z : zT} {g g1 : Nat → va_E} {sg sg2 : Nat → zb} {rw9 rw2 : Nat → zr} (hM : z_mw Z g sg rw9) (h1 : z_xw Z g g1 sg2 rw2) : z_mw Z g1 sg rw9 := hM.re (fun j hj => h1.2.2.1.2 j hj)
theorem law_ix {iv j : Int32} {L : Nat} (h0 : 0 ≤ iv.toInt) (h1 : iv.toInt + 6 ≤ L) (hL : L ≤ 3072) (hj : 0 ≤ j.toInt) (hj2 : j.toInt < 6) : vp_in (iv + j) L := vp_in_iff.mpr (by rw [fb_addI (by omega) (by omega)]; omega)
set_option maxHeartbeats 4000000 in
set_option maxRecDepth 100000 in
theorem lw_case_0 {p : Program} {e : Env} {s : State} {m : MethodId} {below : List Frame} {meth : Method} {c : Code} (l : Launch) {Q : State → Prop} {b L : Nat} {xs : Nat → Int32} (C0 : lw_At p s m meth c b L xs) (hL : L ≤ 3072) (Z : zT) (hZ : 57 ≤ Z.1) (hK : z_K Z s) {cells slots : Nat} (hcs : cells ≤ room_1.cells ∧ slots ≤ room_1.slots) {iv : Int32} (hi0 : 0 ≤ iv.toInt) (hiL : iv.toInt + 6 ≤ L) {g : Nat → va_E} {sg : Nat → zb} {rw9 : Nat → zr} {H : Heap} {locs : List Loc} {ls : Array Slot} (hXw : z_xw Z g g sg rw9) (hMw : z_mw Z g sg rw9) (hS : z_S Z (fun q : Nat => s.heap.size ≤ q) s.heap g H locs) (hl : lv_has ls 4 [(0, .ref b), (1, .ref (Z.2.1 0)), (2, .ref (Z.2.1 41)), (3, .int iv)]) (back : ∀ (g2 : Nat → va_E) (sg2 : Nat → zb) (rw2 : Nat → zr) (H2 : Heap) (locs2 : List Loc) (ls2 : Array Slot), z_xw Z g2 g2 sg2 rw2 → z_mw Z g2 sg2 rw2 → z_S Z (fun q : Nat => s.heap.size ≤ q) s.heap g2 H2 locs2 → lv_has ls2 4 [(0, .ref b), (1, .ref (Z.2.1 0)), (2, .ref (Z.2.1 41)), (3, .int iv)] → W p l e room_1 s m #[Value.ref b] below meth c H2 locs2 cells slots Q (F0 m 1429 ls2 [])) : W p l e room_1 s m #[Value.ref b] below meth c H locs cells slots Q (F0 m 176 ls []) := by
  obtain ⟨hx, hb, hr, hml, hown, hts0, hX, hbl, hlocks, hgv⟩ := id C0
  have hts : ∀ w ∈ wsL_law, w.before #[Value.ref b] s = true := fun w h => hts0 w (wsL_law_in w h)
  have hown : s.vm.findClass RL = some m.cls := hown
  have hbA : ¬ (fun q : Nat => s.heap.size ≤ q) b := Nat.not_le.mpr hbl
  have h_x0 := hXw.1.2.1
  obtain ⟨a1, ea1⟩ : ∃ z : Int32, z = xs (iv + 1).toNatClampNeg := ⟨_, rfl⟩
  obtain ⟨a2, ea2⟩ : ∃ z : Int32, z = xs (iv + 2).toNatClampNeg := ⟨_, rfl⟩
  obtain ⟨a3, ea3⟩ : ∃ z : Int32, z = xs (iv + 3).toNatClampNeg := ⟨_, rfl⟩
  refine lv_aload_n hx hb dL_law_176 rfl (lv_at hl 1 rfl) ?_
  refine lv_aload_n hx hb dL_law_177 rfl (lv_at hl 0 rfl) ?_
  refine lv_iload_n hx hb dL_law_178 rfl (lv_at hl 3 rfl) ?_
  refine lv_iconst (v := 1) hx hb dL_law_179 (by decide) ?_
  refine lv_iadd hx hb dL_law_180 ?_
  refine va_sld hx hb hX hbl hbA hS.2.2.1 (law_ix (j := 1) hi0 hiL hL (by decide) (by decide)) dL_law_181 ?_
  rw [← ea1]
  refine lv_aload_n hx hb dL_law_182 rfl (lv_at hl 0 rfl) ?_
  refine lv_iload_n hx hb dL_law_183 rfl (lv_at hl 3 rfl) ?_
  refine lv_iconst (v := 2) hx hb dL_law_184 (by decide) ?_
  refine lv_iadd hx hb dL_law_185 ?_
  refine va_sld hx hb hX hbl hbA hS.2.2.1 (law_ix (j := 2) hi0 hiL hL (by decide) (by decide)) dL_law_186 ?_
  rw [← ea2]
  refine lv_aload_n hx hb dL_law_187 rfl (lv_at hl 0 rfl) ?_
  refine lv_iload_n hx hb dL_law_188 rfl (lv_at hl 3 rfl) ?_
  refine lv_iconst (v := 3) hx hb dL_law_189 (by decide) ?_
  refine lv_iadd hx hb dL_law_190 ?_
  refine va_sld hx hb hX hbl hbA hS.2.2.1 (law_ix (j := 3) hi0 hiL hL (by decide) (by decide)) dL_law_191 ?_
  rw [← ea3]
  refine z_calli (z_runV (As := [.int a1, .int a2, .int a3]) (rest := []) ⟨hx, hb, hml, hown, hts⟩ hK hS ((k_setBase Z g sg rw9 hXw a1 a2 a3) l _) gL_law_X9_setBase rfl 3 (by decide +kernel) ⟨(Nat.le_of_ble_eq_true rfl), (Nat.le_of_ble_eq_true rfl)⟩ h_x0 (by omega) rfl rfl hl.1 rfl (Nat.le_of_ble_eq_true rfl) dL_law_192 hcs) hS (fun r1 g1 H locs hp1 hS => ?_)
  have hMw1 := law_m hMw hp1.2
  obtain ⟨_, _, _, _, _, _, _, _, _, _, h_m1, -⟩ := id hMw1.1
  refine lv_aload_n hx hb dL_law_195 rfl (lv_at hl 2 rfl) ?_
  refine lv_aload_n hx hb dL_law_196 rfl (lv_at hl 0 rfl) ?_
  refine lv_iload_n hx hb dL_law_197 rfl (lv_at hl 3 rfl) ?_
  refine lv_iconst (v := 1) hx hb dL_law_198 (by decide) ?_
  refine lv_iadd hx hb dL_law_199 ?_
  refine va_sld hx hb hX hbl hbA hS.2.2.1 (law_ix (j := 1) hi0 hiL hL (by decide) (by decide)) dL_law_200 ?_
  rw [← ea1]
  refine lv_aload_n hx hb dL_law_201 rfl (lv_at hl 0 rfl) ?_
  refine lv_iload_n hx hb dL_law_202 rfl (lv_at hl 3 rfl) ?_
  refine lv_iconst (v := 2) hx hb dL_law_203 (by decide) ?_
  refine lv_iadd hx hb dL_law_204 ?_
  refine va_sld hx hb hX hbl hbA hS.2.2.1 (law_ix (j := 2) hi0 hiL hL (by decide) (by decide)) dL_law_205 ?_
  rw [← ea2]
  refine lv_aload_n hx hb dL_law_206 rfl (lv_at hl 0 rfl) ?_
  refine lv_iload_n hx hb dL_law_207 rfl (lv_at hl 3 rfl) ?_
  refine lv_iconst (v := 3) hx hb dL_law_208 (by decide) ?_
  refine lv_iadd hx hb dL_law_209 ?_
  refine va_sld hx hb hX hbl hbA hS.2.2.1 (law_ix (j := 3) hi0 hiL hL (by decide) (by decide)) dL_law_210 ?_
  rw [← ea3]
  refine z_calli (z_runV (As := [.int a1, .int a2, .int a3]) (rest := [.int r1]) ⟨hx, hb, hml, hown, hts⟩ hK hS ((m_setBase Z g1 sg rw9 hMw1 a1 a2 a3) l _) gL_law_X10_setBase rfl 3 (by decide +kernel) ⟨(Nat.le_of_ble_eq_true rfl), (Nat.le_of_ble_eq_true rfl)⟩ h_m1 (by omega) rfl rfl hl.1 rfl (Nat.le_of_ble_eq_true rfl) dL_law_211 hcs) hS (fun r2 g2 H locs hp2 hS => ?_)
  have hlw := law_i hp1 hp2
  refine lv_icmp_eq (tgt := 1429) hx hb dL_law_214 (by decide) (fun _ => ?_) (fun c9 => absurd hlw.1 c9)
  exact back g2 _ _ H locs ls hlw.2.1 hlw.2.2 hS hl

set_option maxHeartbeats 4000000 in
set_option maxRecDepth 100000 in
theorem lw_case_1 {p : Program} {e : Env} {s : State} {m : MethodId} {below : List Frame} {meth : Method} {c : Code} (l : Launch) {Q : State → Prop} {b L : Nat} {xs : Nat → Int32} (C0 : lw_At p s m meth c b L xs) (hL : L ≤ 3072) (Z : zT) (hZ : 57 ≤ Z.1) (hK : z_K Z s) {cells slots : Nat} (hcs : cells ≤ room_1.cells ∧ slots ≤ room_1.slots) {iv : Int32} (hi0 : 0 ≤ iv.toInt) (hiL : iv.toInt + 6 ≤ L) {g : Nat → va_E} {sg : Nat → zb} {rw9 : Nat → zr} {H : Heap} {locs : List Loc} {ls : Array Slot} (hXw : z_xw Z g g sg rw9) (hMw : z_mw Z g sg rw9) (hS : z_S Z (fun q : Nat => s.heap.size ≤ q) s.heap g H locs) (hl : lv_has ls 4 [(0, .ref b), (1, .ref (Z.2.1 0)), (2, .ref (Z.2.1 41)), (3, .int iv)]) (back : ∀ (g2 : Nat → va_E) (sg2 : Nat → zb) (rw2 : Nat → zr) (H2 : Heap) (locs2 : List Loc) (ls2 : Array Slot), z_xw Z g2 g2 sg2 rw2 → z_mw Z g2 sg2 rw2 → z_S Z (fun q : Nat => s.heap.size ≤ q) s.heap g2 H2 locs2 → lv_has ls2 4 [(0, .ref b), (1, .ref (Z.2.1 0)), (2, .ref (Z.2.1 41)), (3, .int iv)] → W p l e room_1 s m #[Value.ref b] below meth c H2 locs2 cells slots Q (F0 m 1429 ls2 [])) : W p l e room_1 s m #[Value.ref b] below meth c H locs cells slots Q (F0 m 219 ls []) := by
  obtain ⟨hx, hb, hr, hml, hown, hts0, hX, hbl, hlocks, hgv⟩ := id C0
  have hts : ∀ w ∈ wsL_law, w.before #[Value.ref b] s = true := fun w h => hts0 w (wsL_law_in w h)
  have hown : s.vm.findClass RL = some m.cls := hown
  have hbA : ¬ (fun q : Nat => s.heap.size ≤ q) b := Nat.not_le.mpr hbl
  have h_x0 := hXw.1.2.1
  obtain ⟨a1, ea1⟩ : ∃ z : Int32, z = xs (iv + 1).toNatClampNeg := ⟨_, rfl⟩
  obtain ⟨a2, ea2⟩ : ∃ z : Int32, z = xs (iv + 2).toNatClampNeg := ⟨_, rfl⟩
  refine lv_aload_n hx hb dL_law_219 rfl (lv_at hl 1 rfl) ?_
  refine lv_aload_n hx hb dL_law_220 rfl (lv_at hl 0 rfl) ?_
  refine lv_iload_n hx hb dL_law_221 rfl (lv_at hl 3 rfl) ?_
  refine lv_iconst (v := 1) hx hb dL_law_222 (by decide) ?_
  refine lv_iadd hx hb dL_law_223 ?_
  refine va_sld hx hb hX hbl hbA hS.2.2.1 (law_ix (j := 1) hi0 hiL hL (by decide) (by decide)) dL_law_224 ?_
  rw [← ea1]
  refine lv_aload_n hx hb dL_law_225 rfl (lv_at hl 0 rfl) ?_
  refine lv_iload_n hx hb dL_law_226 rfl (lv_at hl 3 rfl) ?_
  refine lv_iconst (v := 2) hx hb dL_law_227 (by decide) ?_
  refine lv_iadd hx hb dL_law_228 ?_
  refine va_sld hx hb hX hbl hbA hS.2.2.1 (law_ix (j := 2) hi0 hiL hL (by decide) (by decide)) dL_law_229 ?_
  rw [← ea2]
  refine z_calli (z_runV (As := [.int a1, .int a2]) (rest := []) ⟨hx, hb, hml, hown, hts⟩ hK hS ((k_addDigit Z g sg rw9 hXw a1 a2) l _) gL_law_X9_addDigit rfl 2 (by decide +kernel) ⟨(Nat.le_of_ble_eq_true rfl), (Nat.le_of_ble_eq_true rfl)⟩ h_x0 (by omega) rfl rfl hl.1 rfl (Nat.le_of_ble_eq_true rfl) dL_law_230 hcs) hS (fun r1 g1 H locs hp1 hS => ?_)
  have hMw1 := law_m hMw hp1.2
  obtain ⟨_, _, _, _, _, _, _, _, _, _, h_m1, -⟩ := id hMw1.1
  refine lv_aload_n hx hb dL_law_233 rfl (lv_at hl 2 rfl) ?_
  refine lv_aload_n hx hb dL_law_234 rfl (lv_at hl 0 rfl) ?_
  refine lv_iload_n hx hb dL_law_235 rfl (lv_at hl 3 rfl) ?_
  refine lv_iconst (v := 1) hx hb dL_law_236 (by decide) ?_
  refine lv_iadd hx hb dL_law_237 ?_
  refine va_sld hx hb hX hbl hbA hS.2.2.1 (law_ix (j := 1) hi0 hiL hL (by decide) (by decide)) dL_law_238 ?_
  rw [← ea1]
  refine lv_aload_n hx hb dL_law_239 rfl (lv_at hl 0 rfl) ?_
  refine lv_iload_n hx hb dL_law_240 rfl (lv_at hl 3 rfl) ?_
  refine lv_iconst (v := 2) hx hb dL_law_241 (by decide) ?_
  refine lv_iadd hx hb dL_law_242 ?_
  refine va_sld hx hb hX hbl hbA hS.2.2.1 (law_ix (j := 2) hi0 hiL hL (by decide) (by decide)) dL_law_243 ?_
  rw [← ea2]
  refine z_calli (z_runV (As := [.int a1, .int a2]) (rest := [.int r1]) ⟨hx, hb, hml, hown, hts⟩ hK hS ((m_addDigit Z g1 sg rw9 hMw1 a1 a2) l _) gL_law_X10_addDigit rfl 2 (by decide +kernel) ⟨(Nat.le_of_ble_eq_true rfl), (Nat.le_of_ble_eq_true rfl)⟩ h_m1 (by omega) rfl rfl hl.1 rfl (Nat.le_of_ble_eq_true rfl) dL_law_244 hcs) hS (fun r2 g2 H locs hp2 hS => ?_)
  have hlw := law_i hp1 hp2
  refine lv_icmp_eq (tgt := 1429) hx hb dL_law_247 (by decide) (fun _ => ?_) (fun c9 => absurd hlw.1 c9)
  exact back g2 _ _ H locs ls hlw.2.1 hlw.2.2 hS hl

set_option maxHeartbeats 4000000 in
set_option maxRecDepth 100000 in
theorem lw_case_2 {p : Program} {e : Env} {s : State} {m : MethodId} {below : List Frame} {meth : Method} {c : Code} (l : Launch) {Q : State → Prop} {b L : Nat} {xs : Nat → Int32} (C0 : lw_At p s m meth c b L xs) (hL : L ≤ 3072) (Z : zT) (hZ : 57 ≤ Z.1) (hK : z_K Z s) {cells slots : Nat} (hcs : cells ≤ room_1.cells ∧ slots ≤ room_1.slots) {iv : Int32} (hi0 : 0 ≤ iv.toInt) (hiL : iv.toInt + 6 ≤ L) {g : Nat → va_E} {sg : Nat → zb} {rw9 : Nat → zr} {H : Heap} {locs : List Loc} {ls : Array Slot} (hXw : z_xw Z g g sg rw9) (hMw : z_mw Z g sg rw9) (hS : z_S Z (fun q : Nat => s.heap.size ≤ q) s.heap g H locs) (hl : lv_has ls 4 [(0, .ref b), (1, .ref (Z.2.1 0)), (2, .ref (Z.2.1 41)), (3, .int iv)]) (back : ∀ (g2 : Nat → va_E) (sg2 : Nat → zb) (rw2 : Nat → zr) (H2 : Heap) (locs2 : List Loc) (ls2 : Array Slot), z_xw Z g2 g2 sg2 rw2 → z_mw Z g2 sg2 rw2 → z_S Z (fun q : Nat => s.heap.size ≤ q) s.heap g2 H2 locs2 → lv_has ls2 4 [(0, .ref b), (1, .ref (Z.2.1 0)), (2, .ref (Z.2.1 41)), (3, .int iv)] → W p l e room_1 s m #[Value.ref b] below meth c H2 locs2 cells slots Q (F0 m 1429 ls2 [])) : W p l e room_1 s m #[Value.ref b] below meth c H locs cells slots Q (F0 m 252 ls []) := by
  obtain ⟨hx, hb, hr, hml, hown, hts0, hX, hbl, hlocks, hgv⟩ := id C0
  have hts : ∀ w ∈ wsL_law, w.before #[Value.ref b] s = true := fun w h => hts0 w (wsL_law_in w h)
  have hown : s.vm.findClass RL = some m.cls := hown
  have hbA : ¬ (fun q : Nat => s.heap.size ≤ q) b := Nat.not_le.mpr hbl
  have h_x0 := hXw.1.2.1
  obtain ⟨a1, ea1⟩ : ∃ z : Int32, z = xs (iv + 1).toNatClampNeg := ⟨_, rfl⟩
  obtain ⟨a2, ea2⟩ : ∃ z : Int32, z = xs (iv + 2).toNatClampNeg := ⟨_, rfl⟩
  refine lv_aload_n hx hb dL_law_252 rfl (lv_at hl 1 rfl) ?_
  refine lv_aload_n hx hb dL_law_253 rfl (lv_at hl 0 rfl) ?_
  refine lv_iload_n hx hb dL_law_254 rfl (lv_at hl 3 rfl) ?_
  refine lv_iconst (v := 1) hx hb dL_law_255 (by decide) ?_
  refine lv_iadd hx hb dL_law_256 ?_
  refine va_sld hx hb hX hbl hbA hS.2.2.1 (law_ix (j := 1) hi0 hiL hL (by decide) (by decide)) dL_law_257 ?_
  rw [← ea1]
  refine lv_aload_n hx hb dL_law_258 rfl (lv_at hl 0 rfl) ?_
  refine lv_iload_n hx hb dL_law_259 rfl (lv_at hl 3 rfl) ?_
  refine lv_iconst (v := 2) hx hb dL_law_260 (by decide) ?_
  refine lv_iadd hx hb dL_law_261 ?_
  refine va_sld hx hb hX hbl hbA hS.2.2.1 (law_ix (j := 2) hi0 hiL hL (by decide) (by decide)) dL_law_262 ?_
  rw [← ea2]
  refine z_calli (z_runV (As := [.int a1, .int a2]) (rest := []) ⟨hx, hb, hml, hown, hts⟩ hK hS ((k_removeDigit Z g sg rw9 hXw a1 a2) l _) gL_law_X9_removeDigit rfl 2 (by decide +kernel) ⟨(Nat.le_of_ble_eq_true rfl), (Nat.le_of_ble_eq_true rfl)⟩ h_x0 (by omega) rfl rfl hl.1 rfl (Nat.le_of_ble_eq_true rfl) dL_law_263 hcs) hS (fun r1 g1 H locs hp1 hS => ?_)
  have hMw1 := law_m hMw hp1.2
  obtain ⟨_, _, _, _, _, _, _, _, _, _, h_m1, -⟩ := id hMw1.1
  refine lv_aload_n hx hb dL_law_266 rfl (lv_at hl 2 rfl) ?_
  refine lv_aload_n hx hb dL_law_267 rfl (lv_at hl 0 rfl) ?_
  refine lv_iload_n hx hb dL_law_268 rfl (lv_at hl 3 rfl) ?_
  refine lv_iconst (v := 1) hx hb dL_law_269 (by decide) ?_
  refine lv_iadd hx hb dL_law_270 ?_
  refine va_sld hx hb hX hbl hbA hS.2.2.1 (law_ix (j := 1) hi0 hiL hL (by decide) (by decide)) dL_law_271 ?_
  rw [← ea1]
  refine lv_aload_n hx hb dL_law_272 rfl (lv_at hl 0 rfl) ?_
  refine lv_iload_n hx hb dL_law_273 rfl (lv_at hl 3 rfl) ?_
  refine lv_iconst (v := 2) hx hb dL_law_274 (by decide) ?_
  refine lv_iadd hx hb dL_law_275 ?_
  refine va_sld hx hb hX hbl hbA hS.2.2.1 (law_ix (j := 2) hi0 hiL hL (by decide) (by decide)) dL_law_276 ?_
  rw [← ea2]
  refine z_calli (z_runV (As := [.int a1, .int a2]) (rest := [.int r1]) ⟨hx, hb, hml, hown, hts⟩ hK hS ((m_removeDigit Z g1 sg rw9 hMw1 a1 a2) l _) gL_law_X10_removeDigit rfl 2 (by decide +kernel) ⟨(Nat.le_of_ble_eq_true rfl), (Nat.le_of_ble_eq_true rfl)⟩ h_m1 (by omega) rfl rfl hl.1 rfl (Nat.le_of_ble_eq_true rfl) dL_law_277 hcs) hS (fun r2 g2 H locs hp2 hS => ?_)
  have hlw := law_i hp1 hp2
  refine lv_icmp_eq (tgt := 1429) hx hb dL_law_280 (by decide) (fun _ => ?_) (fun c9 => absurd hlw.1 c9)
  exact back g2 _ _ H locs ls hlw.2.1 hlw.2.2 hS hl

set_option maxHeartbeats 4000000 in
set_option maxRecDepth 100000 in
theorem lw_case_3 {p : Program} {e : Env} {s : State} {m : MethodId} {below : List Frame} {meth : Method} {c : Code} (l : Launch) {Q : State → Prop} {b L : Nat} {xs : Nat → Int32} (C0 : lw_At p s m meth c b L xs) (hL : L ≤ 3072) (Z : zT) (hZ : 57 ≤ Z.1) (hK : z_K Z s) {cells slots : Nat} (hcs : cells ≤ room_1.cells ∧ slots ≤ room_1.slots) {iv : Int32} (hi0 : 0 ≤ iv.toInt) (hiL : iv.toInt + 6 ≤ L) {g : Nat → va_E} {sg : Nat → zb} {rw9 : Nat → zr} {H : Heap} {locs : List Loc} {ls : Array Slot} (hXw : z_xw Z g g sg rw9) (hMw : z_mw Z g sg rw9) (hS : z_S Z (fun q : Nat => s.heap.size ≤ q) s.heap g H locs) (hl : lv_has ls 4 [(0, .ref b), (1, .ref (Z.2.1 0)), (2, .ref (Z.2.1 41)), (3, .int iv)]) (back : ∀ (g2 : Nat → va_E) (sg2 : Nat → zb) (rw2 : Nat → zr) (H2 : Heap) (locs2 : List Loc) (ls2 : Array Slot), z_xw Z g2 g2 sg2 rw2 → z_mw Z g2 sg2 rw2 → z_S Z (fun q : Nat => s.heap.size ≤ q) s.heap g2 H2 locs2 → lv_has ls2 4 [(0, .ref b), (1, .ref (Z.2.1 0)), (2, .ref (Z.2.1 41)), (3, .int iv)] → W p l e room_1 s m #[Value.ref b] below meth c H2 locs2 cells slots Q (F0 m 1429 ls2 [])) : W p l e room_1 s m #[Value.ref b] below meth c H locs cells slots Q (F0 m 285 ls []) := by
  obtain ⟨hx, hb, hr, hml, hown, hts0, hX, hbl, hlocks, hgv⟩ := id C0
  have hts : ∀ w ∈ wsL_law, w.before #[Value.ref b] s = true := fun w h => hts0 w (wsL_law_in w h)
  have hown : s.vm.findClass RL = some m.cls := hown
  have hbA : ¬ (fun q : Nat => s.heap.size ≤ q) b := Nat.not_le.mpr hbl
  have h_x0 := hXw.1.2.1
  obtain ⟨a1, ea1⟩ : ∃ z : Int32, z = xs (iv + 1).toNatClampNeg := ⟨_, rfl⟩
  obtain ⟨a2, ea2⟩ : ∃ z : Int32, z = xs (iv + 2).toNatClampNeg := ⟨_, rfl⟩
  refine lv_aload_n hx hb dL_law_285 rfl (lv_at hl 1 rfl) ?_
  refine lv_aload_n hx hb dL_law_286 rfl (lv_at hl 0 rfl) ?_
  refine lv_iload_n hx hb dL_law_287 rfl (lv_at hl 3 rfl) ?_
  refine lv_iconst (v := 1) hx hb dL_law_288 (by decide) ?_
  refine lv_iadd hx hb dL_law_289 ?_
  refine va_sld hx hb hX hbl hbA hS.2.2.1 (law_ix (j := 1) hi0 hiL hL (by decide) (by decide)) dL_law_290 ?_
  rw [← ea1]
  refine lv_aload_n hx hb dL_law_291 rfl (lv_at hl 0 rfl) ?_
  refine lv_iload_n hx hb dL_law_292 rfl (lv_at hl 3 rfl) ?_
  refine lv_iconst (v := 2) hx hb dL_law_293 (by decide) ?_
  refine lv_iadd hx hb dL_law_294 ?_
  refine va_sld hx hb hX hbl hbA hS.2.2.1 (law_ix (j := 2) hi0 hiL hL (by decide) (by decide)) dL_law_295 ?_
  rw [← ea2]
  refine z_calli (z_runV (As := [.int a1, .int a2]) (rest := []) ⟨hx, hb, hml, hown, hts⟩ hK hS ((k_choose Z g sg rw9 hXw a1 a2) l _) gL_law_X9_choose rfl 2 (by decide +kernel) ⟨(Nat.le_of_ble_eq_true rfl), (Nat.le_of_ble_eq_true rfl)⟩ h_x0 (by omega) rfl rfl hl.1 rfl (Nat.le_of_ble_eq_true rfl) dL_law_296 hcs) hS (fun r1 g1 H locs hp1 hS => ?_)
  have hMw1 := law_m hMw hp1.2
  obtain ⟨_, _, _, _, _, _, _, _, _, _, h_m1, -⟩ := id hMw1.1
  refine lv_aload_n hx hb dL_law_299 rfl (lv_at hl 2 rfl) ?_
  refine lv_aload_n hx hb dL_law_300 rfl (lv_at hl 0 rfl) ?_
  refine lv_iload_n hx hb dL_law_301 rfl (lv_at hl 3 rfl) ?_
  refine lv_iconst (v := 1) hx hb dL_law_302 (by decide) ?_
  refine lv_iadd hx hb dL_law_303 ?_
  refine va_sld hx hb hX hbl hbA hS.2.2.1 (law_ix (j := 1) hi0 hiL hL (by decide) (by decide)) dL_law_304 ?_
  rw [← ea1]
  refine lv_aload_n hx hb dL_law_305 rfl (lv_at hl 0 rfl) ?_
  refine lv_iload_n hx hb dL_law_306 rfl (lv_at hl 3 rfl) ?_
  refine lv_iconst (v := 2) hx hb dL_law_307 (by decide) ?_
  refine lv_iadd hx hb dL_law_308 ?_
  refine va_sld hx hb hX hbl hbA hS.2.2.1 (law_ix (j := 2) hi0 hiL hL (by decide) (by decide)) dL_law_309 ?_
  rw [← ea2]
  refine z_calli (z_runV (As := [.int a1, .int a2]) (rest := [.int r1]) ⟨hx, hb, hml, hown, hts⟩ hK hS ((m_choose Z g1 sg rw9 hMw1 a1 a2) l _) gL_law_X10_choose rfl 2 (by decide +kernel) ⟨(Nat.le_of_ble_eq_true rfl), (Nat.le_of_ble_eq_true rfl)⟩ h_m1 (by omega) rfl rfl hl.1 rfl (Nat.le_of_ble_eq_true rfl) dL_law_310 hcs) hS (fun r2 g2 H locs hp2 hS => ?_)
  have hlw := law_i hp1 hp2
  refine lv_icmp_eq (tgt := 1429) hx hb dL_law_313 (by decide) (fun _ => ?_) (fun c9 => absurd hlw.1 c9)
  exact back g2 _ _ H locs ls hlw.2.1 hlw.2.2 hS hl

set_option maxHeartbeats 4000000 in
set_option maxRecDepth 100000 in
theorem lw_case_4 {p : Program} {e : Env} {s : State} {m : MethodId} {below : List Frame} {meth : Method} {c : Code} (l : Launch) {Q : State → Prop} {b L : Nat} {xs : Nat → Int32} (C0 : lw_At p s m meth c b L xs) (hL : L ≤ 3072) (Z : zT) (hZ : 57 ≤ Z.1) (hK : z_K Z s) {cells slots : Nat} (hcs : cells ≤ room_1.cells ∧ slots ≤ room_1.slots) {iv : Int32} (hi0 : 0 ≤ iv.toInt) (hiL : iv.toInt + 6 ≤ L) {g : Nat → va_E} {sg : Nat → zb} {rw9 : Nat → zr} {H : Heap} {locs : List Loc} {ls : Array Slot} (hXw : z_xw Z g g sg rw9) (hMw : z_mw Z g sg rw9) (hS : z_S Z (fun q : Nat => s.heap.size ≤ q) s.heap g H locs) (hl : lv_has ls 4 [(0, .ref b), (1, .ref (Z.2.1 0)), (2, .ref (Z.2.1 41)), (3, .int iv)]) (back : ∀ (g2 : Nat → va_E) (sg2 : Nat → zb) (rw2 : Nat → zr) (H2 : Heap) (locs2 : List Loc) (ls2 : Array Slot), z_xw Z g2 g2 sg2 rw2 → z_mw Z g2 sg2 rw2 → z_S Z (fun q : Nat => s.heap.size ≤ q) s.heap g2 H2 locs2 → lv_has ls2 4 [(0, .ref b), (1, .ref (Z.2.1 0)), (2, .ref (Z.2.1 41)), (3, .int iv)] → W p l e room_1 s m #[Value.ref b] below meth c H2 locs2 cells slots Q (F0 m 1429 ls2 [])) : W p l e room_1 s m #[Value.ref b] below meth c H locs cells slots Q (F0 m 318 ls []) := by
  obtain ⟨hx, hb, hr, hml, hown, hts0, hX, hbl, hlocks, hgv⟩ := id C0
  have hts : ∀ w ∈ wsL_law, w.before #[Value.ref b] s = true := fun w h => hts0 w (wsL_law_in w h)
  have hown : s.vm.findClass RL = some m.cls := hown
  have hbA : ¬ (fun q : Nat => s.heap.size ≤ q) b := Nat.not_le.mpr hbl
  have h_x0 := hXw.1.2.1
  obtain ⟨a1, ea1⟩ : ∃ z : Int32, z = xs (iv + 1).toNatClampNeg := ⟨_, rfl⟩
  obtain ⟨a2, ea2⟩ : ∃ z : Int32, z = xs (iv + 2).toNatClampNeg := ⟨_, rfl⟩
  refine lv_aload_n hx hb dL_law_318 rfl (lv_at hl 1 rfl) ?_
  refine lv_aload_n hx hb dL_law_319 rfl (lv_at hl 0 rfl) ?_
  refine lv_iload_n hx hb dL_law_320 rfl (lv_at hl 3 rfl) ?_
  refine lv_iconst (v := 1) hx hb dL_law_321 (by decide) ?_
  refine lv_iadd hx hb dL_law_322 ?_
  refine va_sld hx hb hX hbl hbA hS.2.2.1 (law_ix (j := 1) hi0 hiL hL (by decide) (by decide)) dL_law_323 ?_
  rw [← ea1]
  refine lv_aload_n hx hb dL_law_324 rfl (lv_at hl 0 rfl) ?_
  refine lv_iload_n hx hb dL_law_325 rfl (lv_at hl 3 rfl) ?_
  refine lv_iconst (v := 2) hx hb dL_law_326 (by decide) ?_
  refine lv_iadd hx hb dL_law_327 ?_
  refine va_sld hx hb hX hbl hbA hS.2.2.1 (law_ix (j := 2) hi0 hiL hL (by decide) (by decide)) dL_law_328 ?_
  rw [← ea2]
  refine z_calli (z_runV (As := [.int a1, .int a2]) (rest := []) ⟨hx, hb, hml, hown, hts⟩ hK hS ((k_digitAt Z g sg rw9 hXw a1 a2) l _) gL_law_X9_digitAt rfl 2 (by decide +kernel) ⟨(Nat.le_of_ble_eq_true rfl), (Nat.le_of_ble_eq_true rfl)⟩ h_x0 (by omega) rfl rfl hl.1 rfl (Nat.le_of_ble_eq_true rfl) dL_law_329 hcs) hS (fun r1 g1 H locs hp1 hS => ?_)
  have hMw1 := law_m hMw hp1.2
  obtain ⟨_, _, _, _, _, _, _, _, _, _, h_m1, -⟩ := id hMw1.1
  refine lv_aload_n hx hb dL_law_332 rfl (lv_at hl 2 rfl) ?_
  refine lv_aload_n hx hb dL_law_333 rfl (lv_at hl 0 rfl) ?_
  refine lv_iload_n hx hb dL_law_334 rfl (lv_at hl 3 rfl) ?_
  refine lv_iconst (v := 1) hx hb dL_law_335 (by decide) ?_
  refine lv_iadd hx hb dL_law_336 ?_
  refine va_sld hx hb hX hbl hbA hS.2.2.1 (law_ix (j := 1) hi0 hiL hL (by decide) (by decide)) dL_law_337 ?_
  rw [← ea1]
  refine lv_aload_n hx hb dL_law_338 rfl (lv_at hl 0 rfl) ?_
  refine lv_iload_n hx hb dL_law_339 rfl (lv_at hl 3 rfl) ?_
  refine lv_iconst (v := 2) hx hb dL_law_340 (by decide) ?_
  refine lv_iadd hx hb dL_law_341 ?_
  refine va_sld hx hb hX hbl hbA hS.2.2.1 (law_ix (j := 2) hi0 hiL hL (by decide) (by decide)) dL_law_342 ?_
  rw [← ea2]
  refine z_calli (z_runV (As := [.int a1, .int a2]) (rest := [.int r1]) ⟨hx, hb, hml, hown, hts⟩ hK hS ((m_digitAt Z g1 sg rw9 hMw1 a1 a2) l _) gL_law_X10_digitAt rfl 2 (by decide +kernel) ⟨(Nat.le_of_ble_eq_true rfl), (Nat.le_of_ble_eq_true rfl)⟩ h_m1 (by omega) rfl rfl hl.1 rfl (Nat.le_of_ble_eq_true rfl) dL_law_343 hcs) hS (fun r2 g2 H locs hp2 hS => ?_)
  have hlw := law_i hp1 hp2
  refine lv_icmp_eq (tgt := 1429) hx hb dL_law_346 (by decide) (fun _ => ?_) (fun c9 => absurd hlw.1 c9)
  exact back g2 _ _ H locs ls hlw.2.1 hlw.2.2 hS hl

set_option maxHeartbeats 4000000 in
set_option maxRecDepth 100000 in
theorem lw_case_5 {p : Program} {e : Env} {s : State} {m : MethodId} {below : List Frame} {meth : Method} {c : Code} (l : Launch) {Q : State → Prop} {b L : Nat} {xs : Nat → Int32} (C0 : lw_At p s m meth c b L xs) (hL : L ≤ 3072) (Z : zT) (hZ : 57 ≤ Z.1) (hK : z_K Z s) {cells slots : Nat} (hcs : cells ≤ room_1.cells ∧ slots ≤ room_1.slots) {iv : Int32} (hi0 : 0 ≤ iv.toInt) (hiL : iv.toInt + 6 ≤ L) {g : Nat → va_E} {sg : Nat → zb} {rw9 : Nat → zr} {H : Heap} {locs : List Loc} {ls : Array Slot} (hXw : z_xw Z g g sg rw9) (hMw : z_mw Z g sg rw9) (hS : z_S Z (fun q : Nat => s.heap.size ≤ q) s.heap g H locs) (hl : lv_has ls 4 [(0, .ref b), (1, .ref (Z.2.1 0)), (2, .ref (Z.2.1 41)), (3, .int iv)]) (back : ∀ (g2 : Nat → va_E) (sg2 : Nat → zb) (rw2 : Nat → zr) (H2 : Heap) (locs2 : List Loc) (ls2 : Array Slot), z_xw Z g2 g2 sg2 rw2 → z_mw Z g2 sg2 rw2 → z_S Z (fun q : Nat => s.heap.size ≤ q) s.heap g2 H2 locs2 → lv_has ls2 4 [(0, .ref b), (1, .ref (Z.2.1 0)), (2, .ref (Z.2.1 41)), (3, .int iv)] → W p l e room_1 s m #[Value.ref b] below meth c H2 locs2 cells slots Q (F0 m 1429 ls2 [])) : W p l e room_1 s m #[Value.ref b] below meth c H locs cells slots Q (F0 m 351 ls []) := by
  obtain ⟨hx, hb, hr, hml, hown, hts0, hX, hbl, hlocks, hgv⟩ := id C0
  have hts : ∀ w ∈ wsL_law, w.before #[Value.ref b] s = true := fun w h => hts0 w (wsL_law_in w h)
  have hown : s.vm.findClass RL = some m.cls := hown
  have hbA : ¬ (fun q : Nat => s.heap.size ≤ q) b := Nat.not_le.mpr hbl
  have h_x0 := hXw.1.2.1
  obtain ⟨a1, ea1⟩ : ∃ z : Int32, z = xs (iv + 1).toNatClampNeg := ⟨_, rfl⟩
  obtain ⟨a2, ea2⟩ : ∃ z : Int32, z = xs (iv + 2).toNatClampNeg := ⟨_, rfl⟩
  refine lv_aload_n hx hb dL_law_351 rfl (lv_at hl 1 rfl) ?_
  refine lv_aload_n hx hb dL_law_352 rfl (lv_at hl 0 rfl) ?_
  refine lv_iload_n hx hb dL_law_353 rfl (lv_at hl 3 rfl) ?_
  refine lv_iconst (v := 1) hx hb dL_law_354 (by decide) ?_
  refine lv_iadd hx hb dL_law_355 ?_
  refine va_sld hx hb hX hbl hbA hS.2.2.1 (law_ix (j := 1) hi0 hiL hL (by decide) (by decide)) dL_law_356 ?_
  rw [← ea1]
  refine lv_aload_n hx hb dL_law_357 rfl (lv_at hl 0 rfl) ?_
  refine lv_iload_n hx hb dL_law_358 rfl (lv_at hl 3 rfl) ?_
  refine lv_iconst (v := 2) hx hb dL_law_359 (by decide) ?_
  refine lv_iadd hx hb dL_law_360 ?_
  refine va_sld hx hb hX hbl hbA hS.2.2.1 (law_ix (j := 2) hi0 hiL hL (by decide) (by decide)) dL_law_361 ?_
  rw [← ea2]
  refine z_calli (z_runV (As := [.int a1, .int a2]) (rest := []) ⟨hx, hb, hml, hown, hts⟩ hK hS ((k_chosen Z g sg rw9 hXw a1 a2) l _) gL_law_X9_chosen rfl 2 (by decide +kernel) ⟨(Nat.le_of_ble_eq_true rfl), (Nat.le_of_ble_eq_true rfl)⟩ h_x0 (by omega) rfl rfl hl.1 rfl (Nat.le_of_ble_eq_true rfl) dL_law_362 hcs) hS (fun r1 g1 H locs hp1 hS => ?_)
  have hMw1 := law_m hMw hp1.2
  obtain ⟨_, _, _, _, _, _, _, _, _, _, h_m1, -⟩ := id hMw1.1
  refine lv_aload_n hx hb dL_law_365 rfl (lv_at hl 2 rfl) ?_
  refine lv_aload_n hx hb dL_law_366 rfl (lv_at hl 0 rfl) ?_
  refine lv_iload_n hx hb dL_law_367 rfl (lv_at hl 3 rfl) ?_
  refine lv_iconst (v := 1) hx hb dL_law_368 (by decide) ?_
  refine lv_iadd hx hb dL_law_369 ?_
  refine va_sld hx hb hX hbl hbA hS.2.2.1 (law_ix (j := 1) hi0 hiL hL (by decide) (by decide)) dL_law_370 ?_
  rw [← ea1]
  refine lv_aload_n hx hb dL_law_371 rfl (lv_at hl 0 rfl) ?_
  refine lv_iload_n hx hb dL_law_372 rfl (lv_at hl 3 rfl) ?_
  refine lv_iconst (v := 2) hx hb dL_law_373 (by decide) ?_
  refine lv_iadd hx hb dL_law_374 ?_
  refine va_sld hx hb hX hbl hbA hS.2.2.1 (law_ix (j := 2) hi0 hiL hL (by decide) (by decide)) dL_law_375 ?_
  rw [← ea2]
  refine z_calli (z_runV (As := [.int a1, .int a2]) (rest := [.int r1]) ⟨hx, hb, hml, hown, hts⟩ hK hS ((m_chosen Z g1 sg rw9 hMw1 a1 a2) l _) gL_law_X10_chosen rfl 2 (by decide +kernel) ⟨(Nat.le_of_ble_eq_true rfl), (Nat.le_of_ble_eq_true rfl)⟩ h_m1 (by omega) rfl rfl hl.1 rfl (Nat.le_of_ble_eq_true rfl) dL_law_376 hcs) hS (fun r2 g2 H locs hp2 hS => ?_)
  have hlw := law_i hp1 hp2
  refine lv_icmp_eq (tgt := 1429) hx hb dL_law_379 (by decide) (fun _ => ?_) (fun c9 => absurd hlw.1 c9)
  exact back g2 _ _ H locs ls hlw.2.1 hlw.2.2 hS hl

set_option maxHeartbeats 4000000 in
set_option maxRecDepth 100000 in
theorem lw_case_6 {p : Program} {e : Env} {s : State} {m : MethodId} {below : List Frame} {meth : Method} {c : Code} (l : Launch) {Q : State → Prop} {b L : Nat} {xs : Nat → Int32} (C0 : lw_At p s m meth c b L xs) (hL : L ≤ 3072) (Z : zT) (hZ : 57 ≤ Z.1) (hK : z_K Z s) {cells slots : Nat} (hcs : cells ≤ room_1.cells ∧ slots ≤ room_1.slots) {iv : Int32} (hi0 : 0 ≤ iv.toInt) (hiL : iv.toInt + 6 ≤ L) {g : Nat → va_E} {sg : Nat → zb} {rw9 : Nat → zr} {H : Heap} {locs : List Loc} {ls : Array Slot} (hXw : z_xw Z g g sg rw9) (hMw : z_mw Z g sg rw9) (hS : z_S Z (fun q : Nat => s.heap.size ≤ q) s.heap g H locs) (hl : lv_has ls 4 [(0, .ref b), (1, .ref (Z.2.1 0)), (2, .ref (Z.2.1 41)), (3, .int iv)]) (back : ∀ (g2 : Nat → va_E) (sg2 : Nat → zb) (rw2 : Nat → zr) (H2 : Heap) (locs2 : List Loc) (ls2 : Array Slot), z_xw Z g2 g2 sg2 rw2 → z_mw Z g2 sg2 rw2 → z_S Z (fun q : Nat => s.heap.size ≤ q) s.heap g2 H2 locs2 → lv_has ls2 4 [(0, .ref b), (1, .ref (Z.2.1 0)), (2, .ref (Z.2.1 41)), (3, .int iv)] → W p l e room_1 s m #[Value.ref b] below meth c H2 locs2 cells slots Q (F0 m 1429 ls2 [])) : W p l e room_1 s m #[Value.ref b] below meth c H locs cells slots Q (F0 m 384 ls []) := by
  obtain ⟨hx, hb, hr, hml, hown, hts0, hX, hbl, hlocks, hgv⟩ := id C0
  have hts : ∀ w ∈ wsL_law, w.before #[Value.ref b] s = true := fun w h => hts0 w (wsL_law_in w h)
  have hown : s.vm.findClass RL = some m.cls := hown
  have hbA : ¬ (fun q : Nat => s.heap.size ≤ q) b := Nat.not_le.mpr hbl
  have h_x0 := hXw.1.2.1
  obtain ⟨a1, ea1⟩ : ∃ z : Int32, z = xs (iv + 1).toNatClampNeg := ⟨_, rfl⟩
  obtain ⟨a2, ea2⟩ : ∃ z : Int32, z = xs (iv + 2).toNatClampNeg := ⟨_, rfl⟩
  refine lv_aload_n hx hb dL_law_384 rfl (lv_at hl 1 rfl) ?_
  refine lv_aload_n hx hb dL_law_385 rfl (lv_at hl 0 rfl) ?_
  refine lv_iload_n hx hb dL_law_386 rfl (lv_at hl 3 rfl) ?_
  refine lv_iconst (v := 1) hx hb dL_law_387 (by decide) ?_
  refine lv_iadd hx hb dL_law_388 ?_
  refine va_sld hx hb hX hbl hbA hS.2.2.1 (law_ix (j := 1) hi0 hiL hL (by decide) (by decide)) dL_law_389 ?_
  rw [← ea1]
  refine lv_aload_n hx hb dL_law_390 rfl (lv_at hl 0 rfl) ?_
  refine lv_iload_n hx hb dL_law_391 rfl (lv_at hl 3 rfl) ?_
  refine lv_iconst (v := 2) hx hb dL_law_392 (by decide) ?_
  refine lv_iadd hx hb dL_law_393 ?_
  refine va_sld hx hb hX hbl hbA hS.2.2.1 (law_ix (j := 2) hi0 hiL hL (by decide) (by decide)) dL_law_394 ?_
  rw [← ea2]
  refine z_calli (z_runV (As := [.int a1, .int a2]) (rest := []) ⟨hx, hb, hml, hown, hts⟩ hK hS ((k_system Z g sg rw9 hXw a1 a2) l _) gL_law_X9_system rfl 2 (by decide +kernel) ⟨(Nat.le_of_ble_eq_true rfl), (Nat.le_of_ble_eq_true rfl)⟩ h_x0 (by omega) rfl rfl hl.1 rfl (Nat.le_of_ble_eq_true rfl) dL_law_395 hcs) hS (fun r1 g1 H locs hp1 hS => ?_)
  have hMw1 := law_m hMw hp1.2
  obtain ⟨_, _, _, _, _, _, _, _, _, _, h_m1, -⟩ := id hMw1.1
  refine lv_aload_n hx hb dL_law_398 rfl (lv_at hl 2 rfl) ?_
  refine lv_aload_n hx hb dL_law_399 rfl (lv_at hl 0 rfl) ?_
  refine lv_iload_n hx hb dL_law_400 rfl (lv_at hl 3 rfl) ?_
  refine lv_iconst (v := 1) hx hb dL_law_401 (by decide) ?_
  refine lv_iadd hx hb dL_law_402 ?_
  refine va_sld hx hb hX hbl hbA hS.2.2.1 (law_ix (j := 1) hi0 hiL hL (by decide) (by decide)) dL_law_403 ?_
  rw [← ea1]
  refine lv_aload_n hx hb dL_law_404 rfl (lv_at hl 0 rfl) ?_
  refine lv_iload_n hx hb dL_law_405 rfl (lv_at hl 3 rfl) ?_
  refine lv_iconst (v := 2) hx hb dL_law_406 (by decide) ?_
  refine lv_iadd hx hb dL_law_407 ?_
  refine va_sld hx hb hX hbl hbA hS.2.2.1 (law_ix (j := 2) hi0 hiL hL (by decide) (by decide)) dL_law_408 ?_
  rw [← ea2]
  refine z_calli (z_runV (As := [.int a1, .int a2]) (rest := [.int r1]) ⟨hx, hb, hml, hown, hts⟩ hK hS ((m_system Z g1 sg rw9 hMw1 a1 a2) l _) gL_law_X10_system rfl 2 (by decide +kernel) ⟨(Nat.le_of_ble_eq_true rfl), (Nat.le_of_ble_eq_true rfl)⟩ h_m1 (by omega) rfl rfl hl.1 rfl (Nat.le_of_ble_eq_true rfl) dL_law_409 hcs) hS (fun r2 g2 H locs hp2 hS => ?_)
  have hlw := law_i hp1 hp2
  refine lv_icmp_eq (tgt := 1429) hx hb dL_law_412 (by decide) (fun _ => ?_) (fun c9 => absurd hlw.1 c9)
  exact back g2 _ _ H locs ls hlw.2.1 hlw.2.2 hS hl

set_option maxHeartbeats 4000000 in
set_option maxRecDepth 100000 in
theorem lw_case_7 {p : Program} {e : Env} {s : State} {m : MethodId} {below : List Frame} {meth : Method} {c : Code} (l : Launch) {Q : State → Prop} {b L : Nat} {xs : Nat → Int32} (C0 : lw_At p s m meth c b L xs) (hL : L ≤ 3072) (Z : zT) (hZ : 57 ≤ Z.1) (hK : z_K Z s) {cells slots : Nat} (hcs : cells ≤ room_1.cells ∧ slots ≤ room_1.slots) {iv : Int32} (hi0 : 0 ≤ iv.toInt) (hiL : iv.toInt + 6 ≤ L) {g : Nat → va_E} {sg : Nat → zb} {rw9 : Nat → zr} {H : Heap} {locs : List Loc} {ls : Array Slot} (hXw : z_xw Z g g sg rw9) (hMw : z_mw Z g sg rw9) (hS : z_S Z (fun q : Nat => s.heap.size ≤ q) s.heap g H locs) (hl : lv_has ls 4 [(0, .ref b), (1, .ref (Z.2.1 0)), (2, .ref (Z.2.1 41)), (3, .int iv)]) (back : ∀ (g2 : Nat → va_E) (sg2 : Nat → zb) (rw2 : Nat → zr) (H2 : Heap) (locs2 : List Loc) (ls2 : Array Slot), z_xw Z g2 g2 sg2 rw2 → z_mw Z g2 sg2 rw2 → z_S Z (fun q : Nat => s.heap.size ≤ q) s.heap g2 H2 locs2 → lv_has ls2 4 [(0, .ref b), (1, .ref (Z.2.1 0)), (2, .ref (Z.2.1 41)), (3, .int iv)] → W p l e room_1 s m #[Value.ref b] below meth c H2 locs2 cells slots Q (F0 m 1429 ls2 [])) : W p l e room_1 s m #[Value.ref b] below meth c H locs cells slots Q (F0 m 417 ls []) := by
  obtain ⟨hx, hb, hr, hml, hown, hts0, hX, hbl, hlocks, hgv⟩ := id C0
  have hts : ∀ w ∈ wsL_law, w.before #[Value.ref b] s = true := fun w h => hts0 w (wsL_law_in w h)
  have hown : s.vm.findClass RL = some m.cls := hown
  have hbA : ¬ (fun q : Nat => s.heap.size ≤ q) b := Nat.not_le.mpr hbl
  have h_x0 := hXw.1.2.1
  obtain ⟨a1, ea1⟩ : ∃ z : Int32, z = xs (iv + 1).toNatClampNeg := ⟨_, rfl⟩
  obtain ⟨a2, ea2⟩ : ∃ z : Int32, z = xs (iv + 2).toNatClampNeg := ⟨_, rfl⟩
  obtain ⟨a3, ea3⟩ : ∃ z : Int32, z = xs (iv + 3).toNatClampNeg := ⟨_, rfl⟩
  obtain ⟨a4, ea4⟩ : ∃ z : Int32, z = xs (iv + 4).toNatClampNeg := ⟨_, rfl⟩
  refine lv_aload_n hx hb dL_law_417 rfl (lv_at hl 1 rfl) ?_
  refine lv_aload_n hx hb dL_law_418 rfl (lv_at hl 0 rfl) ?_
  refine lv_iload_n hx hb dL_law_419 rfl (lv_at hl 3 rfl) ?_
  refine lv_iconst (v := 1) hx hb dL_law_420 (by decide) ?_
  refine lv_iadd hx hb dL_law_421 ?_
  refine va_sld hx hb hX hbl hbA hS.2.2.1 (law_ix (j := 1) hi0 hiL hL (by decide) (by decide)) dL_law_422 ?_
  rw [← ea1]
  refine lv_aload_n hx hb dL_law_423 rfl (lv_at hl 0 rfl) ?_
  refine lv_iload_n hx hb dL_law_424 rfl (lv_at hl 3 rfl) ?_
  refine lv_iconst (v := 2) hx hb dL_law_425 (by decide) ?_
  refine lv_iadd hx hb dL_law_426 ?_
  refine va_sld hx hb hX hbl hbA hS.2.2.1 (law_ix (j := 2) hi0 hiL hL (by decide) (by decide)) dL_law_427 ?_
  rw [← ea2]
  refine lv_aload_n hx hb dL_law_428 rfl (lv_at hl 0 rfl) ?_
  refine lv_iload_n hx hb dL_law_429 rfl (lv_at hl 3 rfl) ?_
  refine lv_iconst (v := 3) hx hb dL_law_430 (by decide) ?_
  refine lv_iadd hx hb dL_law_431 ?_
  refine va_sld hx hb hX hbl hbA hS.2.2.1 (law_ix (j := 3) hi0 hiL hL (by decide) (by decide)) dL_law_432 ?_
  rw [← ea3]
  refine lv_aload_n hx hb dL_law_433 rfl (lv_at hl 0 rfl) ?_
  refine lv_iload_n hx hb dL_law_434 rfl (lv_at hl 3 rfl) ?_
  refine lv_iconst (v := 4) hx hb dL_law_435 (by decide) ?_
  refine lv_iadd hx hb dL_law_436 ?_
  refine va_sld hx hb hX hbl hbA hS.2.2.1 (law_ix (j := 4) hi0 hiL hL (by decide) (by decide)) dL_law_437 ?_
  rw [← ea4]
  refine z_calli (z_runV (As := [.int a1, .int a2, .int a3, .int a4]) (rest := []) ⟨hx, hb, hml, hown, hts⟩ hK hS ((k_digit Z g sg rw9 hXw a1 a2 a3 a4) l _) gL_law_X9_digit rfl 4 (by decide +kernel) ⟨(Nat.le_of_ble_eq_true rfl), (Nat.le_of_ble_eq_true rfl)⟩ h_x0 (by omega) rfl rfl hl.1 rfl (Nat.le_of_ble_eq_true rfl) dL_law_438 hcs) hS (fun r1 g1 H locs hp1 hS => ?_)
  have hMw1 := law_m hMw hp1.2
  obtain ⟨_, _, _, _, _, _, _, _, _, _, h_m1, -⟩ := id hMw1.1
  refine lv_aload_n hx hb dL_law_441 rfl (lv_at hl 2 rfl) ?_
  refine lv_aload_n hx hb dL_law_442 rfl (lv_at hl 0 rfl) ?_
  refine lv_iload_n hx hb dL_law_443 rfl (lv_at hl 3 rfl) ?_
  refine lv_iconst (v := 1) hx hb dL_law_444 (by decide) ?_
  refine lv_iadd hx hb dL_law_445 ?_
  refine va_sld hx hb hX hbl hbA hS.2.2.1 (law_ix (j := 1) hi0 hiL hL (by decide) (by decide)) dL_law_446 ?_
  rw [← ea1]
  refine lv_aload_n hx hb dL_law_447 rfl (lv_at hl 0 rfl) ?_
  refine lv_iload_n hx hb dL_law_448 rfl (lv_at hl 3 rfl) ?_
  refine lv_iconst (v := 2) hx hb dL_law_449 (by decide) ?_
  refine lv_iadd hx hb dL_law_450 ?_
  refine va_sld hx hb hX hbl hbA hS.2.2.1 (law_ix (j := 2) hi0 hiL hL (by decide) (by decide)) dL_law_451 ?_
  rw [← ea2]
  refine lv_aload_n hx hb dL_law_452 rfl (lv_at hl 0 rfl) ?_
  refine lv_iload_n hx hb dL_law_453 rfl (lv_at hl 3 rfl) ?_
  refine lv_iconst (v := 3) hx hb dL_law_454 (by decide) ?_
  refine lv_iadd hx hb dL_law_455 ?_
  refine va_sld hx hb hX hbl hbA hS.2.2.1 (law_ix (j := 3) hi0 hiL hL (by decide) (by decide)) dL_law_456 ?_
  rw [← ea3]
  refine lv_aload_n hx hb dL_law_457 rfl (lv_at hl 0 rfl) ?_
  refine lv_iload_n hx hb dL_law_458 rfl (lv_at hl 3 rfl) ?_
  refine lv_iconst (v := 4) hx hb dL_law_459 (by decide) ?_
  refine lv_iadd hx hb dL_law_460 ?_
  refine va_sld hx hb hX hbl hbA hS.2.2.1 (law_ix (j := 4) hi0 hiL hL (by decide) (by decide)) dL_law_461 ?_
  rw [← ea4]
  refine z_calli (z_runV (As := [.int a1, .int a2, .int a3, .int a4]) (rest := [.int r1]) ⟨hx, hb, hml, hown, hts⟩ hK hS ((m_digit Z g1 sg rw9 hMw1 a1 a2 a3 a4) l _) gL_law_X10_digit rfl 4 (by decide +kernel) ⟨(Nat.le_of_ble_eq_true rfl), (Nat.le_of_ble_eq_true rfl)⟩ h_m1 (by omega) rfl rfl hl.1 rfl (Nat.le_of_ble_eq_true rfl) dL_law_462 hcs) hS (fun r2 g2 H locs hp2 hS => ?_)
  have hlw := law_i hp1 hp2
  refine lv_icmp_eq (tgt := 1429) hx hb dL_law_465 (by decide) (fun _ => ?_) (fun c9 => absurd hlw.1 c9)
  exact back g2 _ _ H locs ls hlw.2.1 hlw.2.2 hS hl

set_option maxHeartbeats 4000000 in
set_option maxRecDepth 100000 in
theorem lw_case_8 {p : Program} {e : Env} {s : State} {m : MethodId} {below : List Frame} {meth : Method} {c : Code} (l : Launch) {Q : State → Prop} {b L : Nat} {xs : Nat → Int32} (C0 : lw_At p s m meth c b L xs) (hL : L ≤ 3072) (Z : zT) (hZ : 57 ≤ Z.1) (hK : z_K Z s) {cells slots : Nat} (hcs : cells ≤ room_1.cells ∧ slots ≤ room_1.slots) {iv : Int32} (hi0 : 0 ≤ iv.toInt) (hiL : iv.toInt + 6 ≤ L) {g : Nat → va_E} {sg : Nat → zb} {rw9 : Nat → zr} {H : Heap} {locs : List Loc} {ls : Array Slot} (hXw : z_xw Z g g sg rw9) (hMw : z_mw Z g sg rw9) (hS : z_S Z (fun q : Nat => s.heap.size ≤ q) s.heap g H locs) (hl : lv_has ls 4 [(0, .ref b), (1, .ref (Z.2.1 0)), (2, .ref (Z.2.1 41)), (3, .int iv)]) (back : ∀ (g2 : Nat → va_E) (sg2 : Nat → zb) (rw2 : Nat → zr) (H2 : Heap) (locs2 : List Loc) (ls2 : Array Slot), z_xw Z g2 g2 sg2 rw2 → z_mw Z g2 sg2 rw2 → z_S Z (fun q : Nat => s.heap.size ≤ q) s.heap g2 H2 locs2 → lv_has ls2 4 [(0, .ref b), (1, .ref (Z.2.1 0)), (2, .ref (Z.2.1 41)), (3, .int iv)] → W p l e room_1 s m #[Value.ref b] below meth c H2 locs2 cells slots Q (F0 m 1429 ls2 [])) : W p l e room_1 s m #[Value.ref b] below meth c H locs cells slots Q (F0 m 470 ls []) := by
  obtain ⟨hx, hb, hr, hml, hown, hts0, hX, hbl, hlocks, hgv⟩ := id C0
  have hts : ∀ w ∈ wsL_law, w.before #[Value.ref b] s = true := fun w h => hts0 w (wsL_law_in w h)
  have hown : s.vm.findClass RL = some m.cls := hown
  have hbA : ¬ (fun q : Nat => s.heap.size ≤ q) b := Nat.not_le.mpr hbl
  have h_x0 := hXw.1.2.1
  obtain ⟨a1, ea1⟩ : ∃ z : Int32, z = xs (iv + 1).toNatClampNeg := ⟨_, rfl⟩
  obtain ⟨a2, ea2⟩ : ∃ z : Int32, z = xs (iv + 2).toNatClampNeg := ⟨_, rfl⟩
  obtain ⟨a3, ea3⟩ : ∃ z : Int32, z = xs (iv + 3).toNatClampNeg := ⟨_, rfl⟩
  obtain ⟨a4, ea4⟩ : ∃ z : Int32, z = xs (iv + 4).toNatClampNeg := ⟨_, rfl⟩
  refine lv_aload_n hx hb dL_law_470 rfl (lv_at hl 1 rfl) ?_
  refine lv_aload_n hx hb dL_law_471 rfl (lv_at hl 0 rfl) ?_
  refine lv_iload_n hx hb dL_law_472 rfl (lv_at hl 3 rfl) ?_
  refine lv_iconst (v := 1) hx hb dL_law_473 (by decide) ?_
  refine lv_iadd hx hb dL_law_474 ?_
  refine va_sld hx hb hX hbl hbA hS.2.2.1 (law_ix (j := 1) hi0 hiL hL (by decide) (by decide)) dL_law_475 ?_
  rw [← ea1]
  refine lv_aload_n hx hb dL_law_476 rfl (lv_at hl 0 rfl) ?_
  refine lv_iload_n hx hb dL_law_477 rfl (lv_at hl 3 rfl) ?_
  refine lv_iconst (v := 2) hx hb dL_law_478 (by decide) ?_
  refine lv_iadd hx hb dL_law_479 ?_
  refine va_sld hx hb hX hbl hbA hS.2.2.1 (law_ix (j := 2) hi0 hiL hL (by decide) (by decide)) dL_law_480 ?_
  rw [← ea2]
  refine lv_aload_n hx hb dL_law_481 rfl (lv_at hl 0 rfl) ?_
  refine lv_iload_n hx hb dL_law_482 rfl (lv_at hl 3 rfl) ?_
  refine lv_iconst (v := 3) hx hb dL_law_483 (by decide) ?_
  refine lv_iadd hx hb dL_law_484 ?_
  refine va_sld hx hb hX hbl hbA hS.2.2.1 (law_ix (j := 3) hi0 hiL hL (by decide) (by decide)) dL_law_485 ?_
  rw [← ea3]
  refine lv_aload_n hx hb dL_law_486 rfl (lv_at hl 0 rfl) ?_
  refine lv_iload_n hx hb dL_law_487 rfl (lv_at hl 3 rfl) ?_
  refine lv_iconst (v := 4) hx hb dL_law_488 (by decide) ?_
  refine lv_iadd hx hb dL_law_489 ?_
  refine va_sld hx hb hX hbl hbA hS.2.2.1 (law_ix (j := 4) hi0 hiL hL (by decide) (by decide)) dL_law_490 ?_
  rw [← ea4]
  refine z_calli (z_runV (As := [.int a1, .int a2, .int a3, .int a4]) (rest := []) ⟨hx, hb, hml, hown, hts⟩ hK hS ((k_numerator Z g sg rw9 hXw a1 a2 a3 a4) l _) gL_law_X9_numerator rfl 4 (by decide +kernel) ⟨(Nat.le_of_ble_eq_true rfl), (Nat.le_of_ble_eq_true rfl)⟩ h_x0 (by omega) rfl rfl hl.1 rfl (Nat.le_of_ble_eq_true rfl) dL_law_491 hcs) hS (fun r1 g1 H locs hp1 hS => ?_)
  have hMw1 := law_m hMw hp1.2
  obtain ⟨_, _, _, _, _, _, _, _, _, _, h_m1, -⟩ := id hMw1.1
  refine lv_aload_n hx hb dL_law_494 rfl (lv_at hl 2 rfl) ?_
  refine lv_aload_n hx hb dL_law_495 rfl (lv_at hl 0 rfl) ?_
  refine lv_iload_n hx hb dL_law_496 rfl (lv_at hl 3 rfl) ?_
  refine lv_iconst (v := 1) hx hb dL_law_497 (by decide) ?_
  refine lv_iadd hx hb dL_law_498 ?_
  refine va_sld hx hb hX hbl hbA hS.2.2.1 (law_ix (j := 1) hi0 hiL hL (by decide) (by decide)) dL_law_499 ?_
  rw [← ea1]
  refine lv_aload_n hx hb dL_law_500 rfl (lv_at hl 0 rfl) ?_
  refine lv_iload_n hx hb dL_law_501 rfl (lv_at hl 3 rfl) ?_
  refine lv_iconst (v := 2) hx hb dL_law_502 (by decide) ?_
  refine lv_iadd hx hb dL_law_503 ?_
  refine va_sld hx hb hX hbl hbA hS.2.2.1 (law_ix (j := 2) hi0 hiL hL (by decide) (by decide)) dL_law_504 ?_
  rw [← ea2]
  refine lv_aload_n hx hb dL_law_505 rfl (lv_at hl 0 rfl) ?_
  refine lv_iload_n hx hb dL_law_506 rfl (lv_at hl 3 rfl) ?_
  refine lv_iconst (v := 3) hx hb dL_law_507 (by decide) ?_
  refine lv_iadd hx hb dL_law_508 ?_
  refine va_sld hx hb hX hbl hbA hS.2.2.1 (law_ix (j := 3) hi0 hiL hL (by decide) (by decide)) dL_law_509 ?_
  rw [← ea3]
  refine lv_aload_n hx hb dL_law_510 rfl (lv_at hl 0 rfl) ?_
  refine lv_iload_n hx hb dL_law_511 rfl (lv_at hl 3 rfl) ?_
  refine lv_iconst (v := 4) hx hb dL_law_512 (by decide) ?_
  refine lv_iadd hx hb dL_law_513 ?_
  refine va_sld hx hb hX hbl hbA hS.2.2.1 (law_ix (j := 4) hi0 hiL hL (by decide) (by decide)) dL_law_514 ?_
  rw [← ea4]
  refine z_calli (z_runV (As := [.int a1, .int a2, .int a3, .int a4]) (rest := [.int r1]) ⟨hx, hb, hml, hown, hts⟩ hK hS ((m_numerator Z g1 sg rw9 hMw1 a1 a2 a3 a4) l _) gL_law_X10_numerator rfl 4 (by decide +kernel) ⟨(Nat.le_of_ble_eq_true rfl), (Nat.le_of_ble_eq_true rfl)⟩ h_m1 (by omega) rfl rfl hl.1 rfl (Nat.le_of_ble_eq_true rfl) dL_law_515 hcs) hS (fun r2 g2 H locs hp2 hS => ?_)
  have hlw := law_i hp1 hp2
  refine lv_icmp_eq (tgt := 1429) hx hb dL_law_518 (by decide) (fun _ => ?_) (fun c9 => absurd hlw.1 c9)
  exact back g2 _ _ H locs ls hlw.2.1 hlw.2.2 hS hl

set_option maxHeartbeats 4000000 in
set_option maxRecDepth 100000 in
theorem lw_case_9 {p : Program} {e : Env} {s : State} {m : MethodId} {below : List Frame} {meth : Method} {c : Code} (l : Launch) {Q : State → Prop} {b L : Nat} {xs : Nat → Int32} (C0 : lw_At p s m meth c b L xs) (hL : L ≤ 3072) (Z : zT) (hZ : 57 ≤ Z.1) (hK : z_K Z s) {cells slots : Nat} (hcs : cells ≤ room_1.cells ∧ slots ≤ room_1.slots) {iv : Int32} (hi0 : 0 ≤ iv.toInt) (hiL : iv.toInt + 6 ≤ L) {g : Nat → va_E} {sg : Nat → zb} {rw9 : Nat → zr} {H : Heap} {locs : List Loc} {ls : Array Slot} (hXw : z_xw Z g g sg rw9) (hMw : z_mw Z g sg rw9) (hS : z_S Z (fun q : Nat => s.heap.size ≤ q) s.heap g H locs) (hl : lv_has ls 4 [(0, .ref b), (1, .ref (Z.2.1 0)), (2, .ref (Z.2.1 41)), (3, .int iv)]) (back : ∀ (g2 : Nat → va_E) (sg2 : Nat → zb) (rw2 : Nat → zr) (H2 : Heap) (locs2 : List Loc) (ls2 : Array Slot), z_xw Z g2 g2 sg2 rw2 → z_mw Z g2 sg2 rw2 → z_S Z (fun q : Nat => s.heap.size ≤ q) s.heap g2 H2 locs2 → lv_has ls2 4 [(0, .ref b), (1, .ref (Z.2.1 0)), (2, .ref (Z.2.1 41)), (3, .int iv)] → W p l e room_1 s m #[Value.ref b] below meth c H2 locs2 cells slots Q (F0 m 1429 ls2 [])) : W p l e room_1 s m #[Value.ref b] below meth c H locs cells slots Q (F0 m 523 ls []) := by
  obtain ⟨hx, hb, hr, hml, hown, hts0, hX, hbl, hlocks, hgv⟩ := id C0
  have hts : ∀ w ∈ wsL_law, w.before #[Value.ref b] s = true := fun w h => hts0 w (wsL_law_in w h)
  have hown : s.vm.findClass RL = some m.cls := hown
  have hbA : ¬ (fun q : Nat => s.heap.size ≤ q) b := Nat.not_le.mpr hbl
  have h_x0 := hXw.1.2.1
  obtain ⟨a1, ea1⟩ : ∃ z : Int32, z = xs (iv + 1).toNatClampNeg := ⟨_, rfl⟩
  obtain ⟨a2, ea2⟩ : ∃ z : Int32, z = xs (iv + 2).toNatClampNeg := ⟨_, rfl⟩
  obtain ⟨a3, ea3⟩ : ∃ z : Int32, z = xs (iv + 3).toNatClampNeg := ⟨_, rfl⟩
  refine lv_aload_n hx hb dL_law_523 rfl (lv_at hl 1 rfl) ?_
  refine lv_aload_n hx hb dL_law_524 rfl (lv_at hl 0 rfl) ?_
  refine lv_iload_n hx hb dL_law_525 rfl (lv_at hl 3 rfl) ?_
  refine lv_iconst (v := 1) hx hb dL_law_526 (by decide) ?_
  refine lv_iadd hx hb dL_law_527 ?_
  refine va_sld hx hb hX hbl hbA hS.2.2.1 (law_ix (j := 1) hi0 hiL hL (by decide) (by decide)) dL_law_528 ?_
  rw [← ea1]
  refine lv_aload_n hx hb dL_law_529 rfl (lv_at hl 0 rfl) ?_
  refine lv_iload_n hx hb dL_law_530 rfl (lv_at hl 3 rfl) ?_
  refine lv_iconst (v := 2) hx hb dL_law_531 (by decide) ?_
  refine lv_iadd hx hb dL_law_532 ?_
  refine va_sld hx hb hX hbl hbA hS.2.2.1 (law_ix (j := 2) hi0 hiL hL (by decide) (by decide)) dL_law_533 ?_
  rw [← ea2]
  refine lv_aload_n hx hb dL_law_534 rfl (lv_at hl 0 rfl) ?_
  refine lv_iload_n hx hb dL_law_535 rfl (lv_at hl 3 rfl) ?_
  refine lv_iconst (v := 3) hx hb dL_law_536 (by decide) ?_
  refine lv_iadd hx hb dL_law_537 ?_
  refine va_sld hx hb hX hbl hbA hS.2.2.1 (law_ix (j := 3) hi0 hiL hL (by decide) (by decide)) dL_law_538 ?_
  rw [← ea3]
  refine z_calli (z_runV (As := [.int a1, .int a2, .int a3]) (rest := []) ⟨hx, hb, hml, hown, hts⟩ hK hS ((k_preperiod Z g sg rw9 hXw a1 a2 a3) l _) gL_law_X9_preperiod rfl 3 (by decide +kernel) ⟨(Nat.le_of_ble_eq_true rfl), (Nat.le_of_ble_eq_true rfl)⟩ h_x0 (by omega) rfl rfl hl.1 rfl (Nat.le_of_ble_eq_true rfl) dL_law_539 hcs) hS (fun r1 g1 H locs hp1 hS => ?_)
  have hMw1 := law_m hMw hp1.2
  obtain ⟨_, _, _, _, _, _, _, _, _, _, h_m1, -⟩ := id hMw1.1
  refine lv_aload_n hx hb dL_law_542 rfl (lv_at hl 2 rfl) ?_
  refine lv_aload_n hx hb dL_law_543 rfl (lv_at hl 0 rfl) ?_
  refine lv_iload_n hx hb dL_law_544 rfl (lv_at hl 3 rfl) ?_
  refine lv_iconst (v := 1) hx hb dL_law_545 (by decide) ?_
  refine lv_iadd hx hb dL_law_546 ?_
  refine va_sld hx hb hX hbl hbA hS.2.2.1 (law_ix (j := 1) hi0 hiL hL (by decide) (by decide)) dL_law_547 ?_
  rw [← ea1]
  refine lv_aload_n hx hb dL_law_548 rfl (lv_at hl 0 rfl) ?_
  refine lv_iload_n hx hb dL_law_549 rfl (lv_at hl 3 rfl) ?_
  refine lv_iconst (v := 2) hx hb dL_law_550 (by decide) ?_
  refine lv_iadd hx hb dL_law_551 ?_
  refine va_sld hx hb hX hbl hbA hS.2.2.1 (law_ix (j := 2) hi0 hiL hL (by decide) (by decide)) dL_law_552 ?_
  rw [← ea2]
  refine lv_aload_n hx hb dL_law_553 rfl (lv_at hl 0 rfl) ?_
  refine lv_iload_n hx hb dL_law_554 rfl (lv_at hl 3 rfl) ?_
  refine lv_iconst (v := 3) hx hb dL_law_555 (by decide) ?_
  refine lv_iadd hx hb dL_law_556 ?_
  refine va_sld hx hb hX hbl hbA hS.2.2.1 (law_ix (j := 3) hi0 hiL hL (by decide) (by decide)) dL_law_557 ?_
  rw [← ea3]
  refine z_calli (z_runV (As := [.int a1, .int a2, .int a3]) (rest := [.int r1]) ⟨hx, hb, hml, hown, hts⟩ hK hS ((m_preperiod Z g1 sg rw9 hMw1 a1 a2 a3) l _) gL_law_X10_preperiod rfl 3 (by decide +kernel) ⟨(Nat.le_of_ble_eq_true rfl), (Nat.le_of_ble_eq_true rfl)⟩ h_m1 (by omega) rfl rfl hl.1 rfl (Nat.le_of_ble_eq_true rfl) dL_law_558 hcs) hS (fun r2 g2 H locs hp2 hS => ?_)
  have hlw := law_i hp1 hp2
  refine lv_icmp_eq (tgt := 1429) hx hb dL_law_561 (by decide) (fun _ => ?_) (fun c9 => absurd hlw.1 c9)
  exact back g2 _ _ H locs ls hlw.2.1 hlw.2.2 hS hl

set_option maxHeartbeats 4000000 in
set_option maxRecDepth 100000 in
theorem lw_case_10 {p : Program} {e : Env} {s : State} {m : MethodId} {below : List Frame} {meth : Method} {c : Code} (l : Launch) {Q : State → Prop} {b L : Nat} {xs : Nat → Int32} (C0 : lw_At p s m meth c b L xs) (hL : L ≤ 3072) (Z : zT) (hZ : 57 ≤ Z.1) (hK : z_K Z s) {cells slots : Nat} (hcs : cells ≤ room_1.cells ∧ slots ≤ room_1.slots) {iv : Int32} (hi0 : 0 ≤ iv.toInt) (hiL : iv.toInt + 6 ≤ L) {g : Nat → va_E} {sg : Nat → zb} {rw9 : Nat → zr} {H : Heap} {locs : List Loc} {ls : Array Slot} (hXw : z_xw Z g g sg rw9) (hMw : z_mw Z g sg rw9) (hS : z_S Z (fun q : Nat => s.heap.size ≤ q) s.heap g H locs) (hl : lv_has ls 4 [(0, .ref b), (1, .ref (Z.2.1 0)), (2, .ref (Z.2.1 41)), (3, .int iv)]) (back : ∀ (g2 : Nat → va_E) (sg2 : Nat → zb) (rw2 : Nat → zr) (H2 : Heap) (locs2 : List Loc) (ls2 : Array Slot), z_xw Z g2 g2 sg2 rw2 → z_mw Z g2 sg2 rw2 → z_S Z (fun q : Nat => s.heap.size ≤ q) s.heap g2 H2 locs2 → lv_has ls2 4 [(0, .ref b), (1, .ref (Z.2.1 0)), (2, .ref (Z.2.1 41)), (3, .int iv)] → W p l e room_1 s m #[Value.ref b] below meth c H2 locs2 cells slots Q (F0 m 1429 ls2 [])) : W p l e room_1 s m #[Value.ref b] below meth c H locs cells slots Q (F0 m 566 ls []) := by
  obtain ⟨hx, hb, hr, hml, hown, hts0, hX, hbl, hlocks, hgv⟩ := id C0
  have hts : ∀ w ∈ wsL_law, w.before #[Value.ref b] s = true := fun w h => hts0 w (wsL_law_in w h)
  have hown : s.vm.findClass RL = some m.cls := hown
  have hbA : ¬ (fun q : Nat => s.heap.size ≤ q) b := Nat.not_le.mpr hbl
  have h_x0 := hXw.1.2.1
  obtain ⟨a1, ea1⟩ : ∃ z : Int32, z = xs (iv + 1).toNatClampNeg := ⟨_, rfl⟩
  obtain ⟨a2, ea2⟩ : ∃ z : Int32, z = xs (iv + 2).toNatClampNeg := ⟨_, rfl⟩
  obtain ⟨a3, ea3⟩ : ∃ z : Int32, z = xs (iv + 3).toNatClampNeg := ⟨_, rfl⟩
  refine lv_aload_n hx hb dL_law_566 rfl (lv_at hl 1 rfl) ?_
  refine lv_aload_n hx hb dL_law_567 rfl (lv_at hl 0 rfl) ?_
  refine lv_iload_n hx hb dL_law_568 rfl (lv_at hl 3 rfl) ?_
  refine lv_iconst (v := 1) hx hb dL_law_569 (by decide) ?_
  refine lv_iadd hx hb dL_law_570 ?_
  refine va_sld hx hb hX hbl hbA hS.2.2.1 (law_ix (j := 1) hi0 hiL hL (by decide) (by decide)) dL_law_571 ?_
  rw [← ea1]
  refine lv_aload_n hx hb dL_law_572 rfl (lv_at hl 0 rfl) ?_
  refine lv_iload_n hx hb dL_law_573 rfl (lv_at hl 3 rfl) ?_
  refine lv_iconst (v := 2) hx hb dL_law_574 (by decide) ?_
  refine lv_iadd hx hb dL_law_575 ?_
  refine va_sld hx hb hX hbl hbA hS.2.2.1 (law_ix (j := 2) hi0 hiL hL (by decide) (by decide)) dL_law_576 ?_
  rw [← ea2]
  refine lv_aload_n hx hb dL_law_577 rfl (lv_at hl 0 rfl) ?_
  refine lv_iload_n hx hb dL_law_578 rfl (lv_at hl 3 rfl) ?_
  refine lv_iconst (v := 3) hx hb dL_law_579 (by decide) ?_
  refine lv_iadd hx hb dL_law_580 ?_
  refine va_sld hx hb hX hbl hbA hS.2.2.1 (law_ix (j := 3) hi0 hiL hL (by decide) (by decide)) dL_law_581 ?_
  rw [← ea3]
  refine z_calli (z_runV (As := [.int a1, .int a2, .int a3]) (rest := []) ⟨hx, hb, hml, hown, hts⟩ hK hS ((k_period Z g sg rw9 hXw a1 a2 a3) l _) gL_law_X9_period rfl 3 (by decide +kernel) ⟨(Nat.le_of_ble_eq_true rfl), (Nat.le_of_ble_eq_true rfl)⟩ h_x0 (by omega) rfl rfl hl.1 rfl (Nat.le_of_ble_eq_true rfl) dL_law_582 hcs) hS (fun r1 g1 H locs hp1 hS => ?_)
  have hMw1 := law_m hMw hp1.2
  obtain ⟨_, _, _, _, _, _, _, _, _, _, h_m1, -⟩ := id hMw1.1
  refine lv_aload_n hx hb dL_law_585 rfl (lv_at hl 2 rfl) ?_
  refine lv_aload_n hx hb dL_law_586 rfl (lv_at hl 0 rfl) ?_
  refine lv_iload_n hx hb dL_law_587 rfl (lv_at hl 3 rfl) ?_
  refine lv_iconst (v := 1) hx hb dL_law_588 (by decide) ?_
  refine lv_iadd hx hb dL_law_589 ?_
  refine va_sld hx hb hX hbl hbA hS.2.2.1 (law_ix (j := 1) hi0 hiL hL (by decide) (by decide)) dL_law_590 ?_
  rw [← ea1]
  refine lv_aload_n hx hb dL_law_591 rfl (lv_at hl 0 rfl) ?_
  refine lv_iload_n hx hb dL_law_592 rfl (lv_at hl 3 rfl) ?_
  refine lv_iconst (v := 2) hx hb dL_law_593 (by decide) ?_
  refine lv_iadd hx hb dL_law_594 ?_
  refine va_sld hx hb hX hbl hbA hS.2.2.1 (law_ix (j := 2) hi0 hiL hL (by decide) (by decide)) dL_law_595 ?_
  rw [← ea2]
  refine lv_aload_n hx hb dL_law_596 rfl (lv_at hl 0 rfl) ?_
  refine lv_iload_n hx hb dL_law_597 rfl (lv_at hl 3 rfl) ?_
  refine lv_iconst (v := 3) hx hb dL_law_598 (by decide) ?_
  refine lv_iadd hx hb dL_law_599 ?_
  refine va_sld hx hb hX hbl hbA hS.2.2.1 (law_ix (j := 3) hi0 hiL hL (by decide) (by decide)) dL_law_600 ?_
  rw [← ea3]
  refine z_calli (z_runV (As := [.int a1, .int a2, .int a3]) (rest := [.int r1]) ⟨hx, hb, hml, hown, hts⟩ hK hS ((m_period Z g1 sg rw9 hMw1 a1 a2 a3) l _) gL_law_X10_period rfl 3 (by decide +kernel) ⟨(Nat.le_of_ble_eq_true rfl), (Nat.le_of_ble_eq_true rfl)⟩ h_m1 (by omega) rfl rfl hl.1 rfl (Nat.le_of_ble_eq_true rfl) dL_law_601 hcs) hS (fun r2 g2 H locs hp2 hS => ?_)
  have hlw := law_i hp1 hp2
  refine lv_icmp_eq (tgt := 1429) hx hb dL_law_604 (by decide) (fun _ => ?_) (fun c9 => absurd hlw.1 c9)
  exact back g2 _ _ H locs ls hlw.2.1 hlw.2.2 hS hl

set_option maxHeartbeats 4000000 in
set_option maxRecDepth 100000 in
theorem lw_case_11 {p : Program} {e : Env} {s : State} {m : MethodId} {below : List Frame} {meth : Method} {c : Code} (l : Launch) {Q : State → Prop} {b L : Nat} {xs : Nat → Int32} (C0 : lw_At p s m meth c b L xs) (hL : L ≤ 3072) (Z : zT) (hZ : 57 ≤ Z.1) (hK : z_K Z s) {cells slots : Nat} (hcs : cells ≤ room_1.cells ∧ slots ≤ room_1.slots) {iv : Int32} (hi0 : 0 ≤ iv.toInt) (hiL : iv.toInt + 6 ≤ L) {g : Nat → va_E} {sg : Nat → zb} {rw9 : Nat → zr} {H : Heap} {locs : List Loc} {ls : Array Slot} (hXw : z_xw Z g g sg rw9) (hMw : z_mw Z g sg rw9) (hS : z_S Z (fun q : Nat => s.heap.size ≤ q) s.heap g H locs) (hl : lv_has ls 4 [(0, .ref b), (1, .ref (Z.2.1 0)), (2, .ref (Z.2.1 41)), (3, .int iv)]) (back : ∀ (g2 : Nat → va_E) (sg2 : Nat → zb) (rw2 : Nat → zr) (H2 : Heap) (locs2 : List Loc) (ls2 : Array Slot), z_xw Z g2 g2 sg2 rw2 → z_mw Z g2 sg2 rw2 → z_S Z (fun q : Nat => s.heap.size ≤ q) s.heap g2 H2 locs2 → lv_has ls2 4 [(0, .ref b), (1, .ref (Z.2.1 0)), (2, .ref (Z.2.1 41)), (3, .int iv)] → W p l e room_1 s m #[Value.ref b] below meth c H2 locs2 cells slots Q (F0 m 1429 ls2 [])) : W p l e room_1 s m #[Value.ref b] below meth c H locs cells slots Q (F0 m 609 ls []) := by
  obtain ⟨hx, hb, hr, hml, hown, hts0, hX, hbl, hlocks, hgv⟩ := id C0
  have hts : ∀ w ∈ wsL_law, w.before #[Value.ref b] s = true := fun w h => hts0 w (wsL_law_in w h)
  have hown : s.vm.findClass RL = some m.cls := hown
  have hbA : ¬ (fun q : Nat => s.heap.size ≤ q) b := Nat.not_le.mpr hbl
  have h_x0 := hXw.1.2.1
  obtain ⟨a1, ea1⟩ : ∃ z : Int32, z = xs (iv + 1).toNatClampNeg := ⟨_, rfl⟩
  obtain ⟨a2, ea2⟩ : ∃ z : Int32, z = xs (iv + 2).toNatClampNeg := ⟨_, rfl⟩
  obtain ⟨a3, ea3⟩ : ∃ z : Int32, z = xs (iv + 3).toNatClampNeg := ⟨_, rfl⟩
  refine lv_aload_n hx hb dL_law_609 rfl (lv_at hl 1 rfl) ?_
  refine lv_aload_n hx hb dL_law_610 rfl (lv_at hl 0 rfl) ?_
  refine lv_iload_n hx hb dL_law_611 rfl (lv_at hl 3 rfl) ?_
  refine lv_iconst (v := 1) hx hb dL_law_612 (by decide) ?_
  refine lv_iadd hx hb dL_law_613 ?_
  refine va_sld hx hb hX hbl hbA hS.2.2.1 (law_ix (j := 1) hi0 hiL hL (by decide) (by decide)) dL_law_614 ?_
  rw [← ea1]
  refine lv_aload_n hx hb dL_law_615 rfl (lv_at hl 0 rfl) ?_
  refine lv_iload_n hx hb dL_law_616 rfl (lv_at hl 3 rfl) ?_
  refine lv_iconst (v := 2) hx hb dL_law_617 (by decide) ?_
  refine lv_iadd hx hb dL_law_618 ?_
  refine va_sld hx hb hX hbl hbA hS.2.2.1 (law_ix (j := 2) hi0 hiL hL (by decide) (by decide)) dL_law_619 ?_
  rw [← ea2]
  refine lv_aload_n hx hb dL_law_620 rfl (lv_at hl 0 rfl) ?_
  refine lv_iload_n hx hb dL_law_621 rfl (lv_at hl 3 rfl) ?_
  refine lv_iconst (v := 3) hx hb dL_law_622 (by decide) ?_
  refine lv_iadd hx hb dL_law_623 ?_
  refine va_sld hx hb hX hbl hbA hS.2.2.1 (law_ix (j := 3) hi0 hiL hL (by decide) (by decide)) dL_law_624 ?_
  rw [← ea3]
  refine z_calli (z_runV (As := [.int a1, .int a2, .int a3]) (rest := []) ⟨hx, hb, hml, hown, hts⟩ hK hS ((k_length Z g sg rw9 hXw a1 a2 a3) l _) gL_law_X9_length rfl 3 (by decide +kernel) ⟨(Nat.le_of_ble_eq_true rfl), (Nat.le_of_ble_eq_true rfl)⟩ h_x0 (by omega) rfl rfl hl.1 rfl (Nat.le_of_ble_eq_true rfl) dL_law_625 hcs) hS (fun r1 g1 H locs hp1 hS => ?_)
  have hMw1 := law_m hMw hp1.2
  obtain ⟨_, _, _, _, _, _, _, _, _, _, h_m1, -⟩ := id hMw1.1
  refine lv_aload_n hx hb dL_law_628 rfl (lv_at hl 2 rfl) ?_
  refine lv_aload_n hx hb dL_law_629 rfl (lv_at hl 0 rfl) ?_
  refine lv_iload_n hx hb dL_law_630 rfl (lv_at hl 3 rfl) ?_
  refine lv_iconst (v := 1) hx hb dL_law_631 (by decide) ?_
  refine lv_iadd hx hb dL_law_632 ?_
  refine va_sld hx hb hX hbl hbA hS.2.2.1 (law_ix (j := 1) hi0 hiL hL (by decide) (by decide)) dL_law_633 ?_
  rw [← ea1]
  refine lv_aload_n hx hb dL_law_634 rfl (lv_at hl 0 rfl) ?_
  refine lv_iload_n hx hb dL_law_635 rfl (lv_at hl 3 rfl) ?_
  refine lv_iconst (v := 2) hx hb dL_law_636 (by decide) ?_
  refine lv_iadd hx hb dL_law_637 ?_
  refine va_sld hx hb hX hbl hbA hS.2.2.1 (law_ix (j := 2) hi0 hiL hL (by decide) (by decide)) dL_law_638 ?_
  rw [← ea2]
  refine lv_aload_n hx hb dL_law_639 rfl (lv_at hl 0 rfl) ?_
  refine lv_iload_n hx hb dL_law_640 rfl (lv_at hl 3 rfl) ?_
  refine lv_iconst (v := 3) hx hb dL_law_641 (by decide) ?_
  refine lv_iadd hx hb dL_law_642 ?_
  refine va_sld hx hb hX hbl hbA hS.2.2.1 (law_ix (j := 3) hi0 hiL hL (by decide) (by decide)) dL_law_643 ?_
  rw [← ea3]
  refine z_calli (z_runV (As := [.int a1, .int a2, .int a3]) (rest := [.int r1]) ⟨hx, hb, hml, hown, hts⟩ hK hS ((m_length Z g1 sg rw9 hMw1 a1 a2 a3) l _) gL_law_X10_length rfl 3 (by decide +kernel) ⟨(Nat.le_of_ble_eq_true rfl), (Nat.le_of_ble_eq_true rfl)⟩ h_m1 (by omega) rfl rfl hl.1 rfl (Nat.le_of_ble_eq_true rfl) dL_law_644 hcs) hS (fun r2 g2 H locs hp2 hS => ?_)
  have hlw := law_i hp1 hp2
  refine lv_icmp_eq (tgt := 1429) hx hb dL_law_647 (by decide) (fun _ => ?_) (fun c9 => absurd hlw.1 c9)
  exact back g2 _ _ H locs ls hlw.2.1 hlw.2.2 hS hl

set_option maxHeartbeats 4000000 in
set_option maxRecDepth 100000 in
theorem lw_case_12 {p : Program} {e : Env} {s : State} {m : MethodId} {below : List Frame} {meth : Method} {c : Code} (l : Launch) {Q : State → Prop} {b L : Nat} {xs : Nat → Int32} (C0 : lw_At p s m meth c b L xs) (hL : L ≤ 3072) (Z : zT) (hZ : 57 ≤ Z.1) (hK : z_K Z s) {cells slots : Nat} (hcs : cells ≤ room_1.cells ∧ slots ≤ room_1.slots) {iv : Int32} (hi0 : 0 ≤ iv.toInt) (hiL : iv.toInt + 6 ≤ L) {g : Nat → va_E} {sg : Nat → zb} {rw9 : Nat → zr} {H : Heap} {locs : List Loc} {ls : Array Slot} (hXw : z_xw Z g g sg rw9) (hMw : z_mw Z g sg rw9) (hS : z_S Z (fun q : Nat => s.heap.size ≤ q) s.heap g H locs) (hl : lv_has ls 4 [(0, .ref b), (1, .ref (Z.2.1 0)), (2, .ref (Z.2.1 41)), (3, .int iv)]) (back : ∀ (g2 : Nat → va_E) (sg2 : Nat → zb) (rw2 : Nat → zr) (H2 : Heap) (locs2 : List Loc) (ls2 : Array Slot), z_xw Z g2 g2 sg2 rw2 → z_mw Z g2 sg2 rw2 → z_S Z (fun q : Nat => s.heap.size ≤ q) s.heap g2 H2 locs2 → lv_has ls2 4 [(0, .ref b), (1, .ref (Z.2.1 0)), (2, .ref (Z.2.1 41)), (3, .int iv)] → W p l e room_1 s m #[Value.ref b] below meth c H2 locs2 cells slots Q (F0 m 1429 ls2 [])) : W p l e room_1 s m #[Value.ref b] below meth c H locs cells slots Q (F0 m 652 ls []) := by
  obtain ⟨hx, hb, hr, hml, hown, hts0, hX, hbl, hlocks, hgv⟩ := id C0
  have hts : ∀ w ∈ wsL_law, w.before #[Value.ref b] s = true := fun w h => hts0 w (wsL_law_in w h)
  have hown : s.vm.findClass RL = some m.cls := hown
  have hbA : ¬ (fun q : Nat => s.heap.size ≤ q) b := Nat.not_le.mpr hbl
  have h_x0 := hXw.1.2.1
  obtain ⟨a1, ea1⟩ : ∃ z : Int32, z = xs (iv + 1).toNatClampNeg := ⟨_, rfl⟩
  refine lv_aload_n hx hb dL_law_652 rfl (lv_at hl 1 rfl) ?_
  refine lv_aload_n hx hb dL_law_653 rfl (lv_at hl 0 rfl) ?_
  refine lv_iload_n hx hb dL_law_654 rfl (lv_at hl 3 rfl) ?_
  refine lv_iconst (v := 1) hx hb dL_law_655 (by decide) ?_
  refine lv_iadd hx hb dL_law_656 ?_
  refine va_sld hx hb hX hbl hbA hS.2.2.1 (law_ix (j := 1) hi0 hiL hL (by decide) (by decide)) dL_law_657 ?_
  rw [← ea1]
  refine z_calli (z_runV (As := [.int a1]) (rest := []) ⟨hx, hb, hml, hown, hts⟩ hK hS ((k_cycleCount Z g sg rw9 hXw a1) l _) gL_law_X9_cycleCount rfl 1 (by decide +kernel) ⟨(Nat.le_of_ble_eq_true rfl), (Nat.le_of_ble_eq_true rfl)⟩ h_x0 (by omega) rfl rfl hl.1 rfl (Nat.le_of_ble_eq_true rfl) dL_law_658 hcs) hS (fun r1 g1 H locs hp1 hS => ?_)
  have hMw1 := law_m hMw hp1.2
  obtain ⟨_, _, _, _, _, _, _, _, _, _, h_m1, -⟩ := id hMw1.1
  refine lv_aload_n hx hb dL_law_661 rfl (lv_at hl 2 rfl) ?_
  refine lv_aload_n hx hb dL_law_662 rfl (lv_at hl 0 rfl) ?_
  refine lv_iload_n hx hb dL_law_663 rfl (lv_at hl 3 rfl) ?_
  refine lv_iconst (v := 1) hx hb dL_law_664 (by decide) ?_
  refine lv_iadd hx hb dL_law_665 ?_
  refine va_sld hx hb hX hbl hbA hS.2.2.1 (law_ix (j := 1) hi0 hiL hL (by decide) (by decide)) dL_law_666 ?_
  rw [← ea1]
  refine z_calli (z_runV (As := [.int a1]) (rest := [.int r1]) ⟨hx, hb, hml, hown, hts⟩ hK hS ((m_cycleCount Z g1 sg rw9 hMw1 a1) l _) gL_law_X10_cycleCount rfl 1 (by decide +kernel) ⟨(Nat.le_of_ble_eq_true rfl), (Nat.le_of_ble_eq_true rfl)⟩ h_m1 (by omega) rfl rfl hl.1 rfl (Nat.le_of_ble_eq_true rfl) dL_law_667 hcs) hS (fun r2 g2 H locs hp2 hS => ?_)
  have hlw := law_i hp1 hp2
  refine lv_icmp_eq (tgt := 1429) hx hb dL_law_670 (by decide) (fun _ => ?_) (fun c9 => absurd hlw.1 c9)
  exact back g2 _ _ H locs ls hlw.2.1 hlw.2.2 hS hl

set_option maxHeartbeats 4000000 in
set_option maxRecDepth 100000 in
theorem lw_case_13 {p : Program} {e : Env} {s : State} {m : MethodId} {below : List Frame} {meth : Method} {c : Code} (l : Launch) {Q : State → Prop} {b L : Nat} {xs : Nat → Int32} (C0 : lw_At p s m meth c b L xs) (hL : L ≤ 3072) (Z : zT) (hZ : 57 ≤ Z.1) (hK : z_K Z s) {cells slots : Nat} (hcs : cells ≤ room_1.cells ∧ slots ≤ room_1.slots) {iv : Int32} (hi0 : 0 ≤ iv.toInt) (hiL : iv.toInt + 6 ≤ L) {g : Nat → va_E} {sg : Nat → zb} {rw9 : Nat → zr} {H : Heap} {locs : List Loc} {ls : Array Slot} (hXw : z_xw Z g g sg rw9) (hMw : z_mw Z g sg rw9) (hS : z_S Z (fun q : Nat => s.heap.size ≤ q) s.heap g H locs) (hl : lv_has ls 4 [(0, .ref b), (1, .ref (Z.2.1 0)), (2, .ref (Z.2.1 41)), (3, .int iv)]) (back : ∀ (g2 : Nat → va_E) (sg2 : Nat → zb) (rw2 : Nat → zr) (H2 : Heap) (locs2 : List Loc) (ls2 : Array Slot), z_xw Z g2 g2 sg2 rw2 → z_mw Z g2 sg2 rw2 → z_S Z (fun q : Nat => s.heap.size ≤ q) s.heap g2 H2 locs2 → lv_has ls2 4 [(0, .ref b), (1, .ref (Z.2.1 0)), (2, .ref (Z.2.1 41)), (3, .int iv)] → W p l e room_1 s m #[Value.ref b] below meth c H2 locs2 cells slots Q (F0 m 1429 ls2 [])) : W p l e room_1 s m #[Value.ref b] below meth c H locs cells slots Q (F0 m 675 ls []) := by
  obtain ⟨hx, hb, hr, hml, hown, hts0, hX, hbl, hlocks, hgv⟩ := id C0
  have hts : ∀ w ∈ wsL_law, w.before #[Value.ref b] s = true := fun w h => hts0 w (wsL_law_in w h)
  have hown : s.vm.findClass RL = some m.cls := hown
  have hbA : ¬ (fun q : Nat => s.heap.size ≤ q) b := Nat.not_le.mpr hbl
  have h_x0 := hXw.1.2.1
  obtain ⟨a1, ea1⟩ : ∃ z : Int32, z = xs (iv + 1).toNatClampNeg := ⟨_, rfl⟩
  obtain ⟨a2, ea2⟩ : ∃ z : Int32, z = xs (iv + 2).toNatClampNeg := ⟨_, rfl⟩
  obtain ⟨a3, ea3⟩ : ∃ z : Int32, z = xs (iv + 3).toNatClampNeg := ⟨_, rfl⟩
  refine lv_aload_n hx hb dL_law_675 rfl (lv_at hl 1 rfl) ?_
  refine lv_aload_n hx hb dL_law_676 rfl (lv_at hl 0 rfl) ?_
  refine lv_iload_n hx hb dL_law_677 rfl (lv_at hl 3 rfl) ?_
  refine lv_iconst (v := 1) hx hb dL_law_678 (by decide) ?_
  refine lv_iadd hx hb dL_law_679 ?_
  refine va_sld hx hb hX hbl hbA hS.2.2.1 (law_ix (j := 1) hi0 hiL hL (by decide) (by decide)) dL_law_680 ?_
  rw [← ea1]
  refine lv_aload_n hx hb dL_law_681 rfl (lv_at hl 0 rfl) ?_
  refine lv_iload_n hx hb dL_law_682 rfl (lv_at hl 3 rfl) ?_
  refine lv_iconst (v := 2) hx hb dL_law_683 (by decide) ?_
  refine lv_iadd hx hb dL_law_684 ?_
  refine va_sld hx hb hX hbl hbA hS.2.2.1 (law_ix (j := 2) hi0 hiL hL (by decide) (by decide)) dL_law_685 ?_
  rw [← ea2]
  refine lv_aload_n hx hb dL_law_686 rfl (lv_at hl 0 rfl) ?_
  refine lv_iload_n hx hb dL_law_687 rfl (lv_at hl 3 rfl) ?_
  refine lv_iconst (v := 3) hx hb dL_law_688 (by decide) ?_
  refine lv_iadd hx hb dL_law_689 ?_
  refine va_sld hx hb hX hbl hbA hS.2.2.1 (law_ix (j := 3) hi0 hiL hL (by decide) (by decide)) dL_law_690 ?_
  rw [← ea3]
  refine z_calli (z_runV (As := [.int a1, .int a2, .int a3]) (rest := []) ⟨hx, hb, hml, hown, hts⟩ hK hS ((k_cycle Z g sg rw9 hXw a1 a2 a3) l _) gL_law_X9_cycle rfl 3 (by decide +kernel) ⟨(Nat.le_of_ble_eq_true rfl), (Nat.le_of_ble_eq_true rfl)⟩ h_x0 (by omega) rfl rfl hl.1 rfl (Nat.le_of_ble_eq_true rfl) dL_law_691 hcs) hS (fun r1 g1 H locs hp1 hS => ?_)
  have hMw1 := law_m hMw hp1.2
  obtain ⟨_, _, _, _, _, _, _, _, _, _, h_m1, -⟩ := id hMw1.1
  refine lv_aload_n hx hb dL_law_694 rfl (lv_at hl 2 rfl) ?_
  refine lv_aload_n hx hb dL_law_695 rfl (lv_at hl 0 rfl) ?_
  refine lv_iload_n hx hb dL_law_696 rfl (lv_at hl 3 rfl) ?_
  refine lv_iconst (v := 1) hx hb dL_law_697 (by decide) ?_
  refine lv_iadd hx hb dL_law_698 ?_
  refine va_sld hx hb hX hbl hbA hS.2.2.1 (law_ix (j := 1) hi0 hiL hL (by decide) (by decide)) dL_law_699 ?_
  rw [← ea1]
  refine lv_aload_n hx hb dL_law_700 rfl (lv_at hl 0 rfl) ?_
  refine lv_iload_n hx hb dL_law_701 rfl (lv_at hl 3 rfl) ?_
  refine lv_iconst (v := 2) hx hb dL_law_702 (by decide) ?_
  refine lv_iadd hx hb dL_law_703 ?_
  refine va_sld hx hb hX hbl hbA hS.2.2.1 (law_ix (j := 2) hi0 hiL hL (by decide) (by decide)) dL_law_704 ?_
  rw [← ea2]
  refine lv_aload_n hx hb dL_law_705 rfl (lv_at hl 0 rfl) ?_
  refine lv_iload_n hx hb dL_law_706 rfl (lv_at hl 3 rfl) ?_
  refine lv_iconst (v := 3) hx hb dL_law_707 (by decide) ?_
  refine lv_iadd hx hb dL_law_708 ?_
  refine va_sld hx hb hX hbl hbA hS.2.2.1 (law_ix (j := 3) hi0 hiL hL (by decide) (by decide)) dL_law_709 ?_
  rw [← ea3]
  refine z_calli (z_runV (As := [.int a1, .int a2, .int a3]) (rest := [.int r1]) ⟨hx, hb, hml, hown, hts⟩ hK hS ((m_cycle Z g1 sg rw9 hMw1 a1 a2 a3) l _) gL_law_X10_cycle rfl 3 (by decide +kernel) ⟨(Nat.le_of_ble_eq_true rfl), (Nat.le_of_ble_eq_true rfl)⟩ h_m1 (by omega) rfl rfl hl.1 rfl (Nat.le_of_ble_eq_true rfl) dL_law_710 hcs) hS (fun r2 g2 H locs hp2 hS => ?_)
  have hlw := law_i hp1 hp2
  refine lv_icmp_eq (tgt := 1429) hx hb dL_law_713 (by decide) (fun _ => ?_) (fun c9 => absurd hlw.1 c9)
  exact back g2 _ _ H locs ls hlw.2.1 hlw.2.2 hS hl

set_option maxHeartbeats 4000000 in
set_option maxRecDepth 100000 in
theorem lw_case_14 {p : Program} {e : Env} {s : State} {m : MethodId} {below : List Frame} {meth : Method} {c : Code} (l : Launch) {Q : State → Prop} {b L : Nat} {xs : Nat → Int32} (C0 : lw_At p s m meth c b L xs) (hL : L ≤ 3072) (Z : zT) (hZ : 57 ≤ Z.1) (hK : z_K Z s) {cells slots : Nat} (hcs : cells ≤ room_1.cells ∧ slots ≤ room_1.slots) {iv : Int32} (hi0 : 0 ≤ iv.toInt) (hiL : iv.toInt + 6 ≤ L) {g : Nat → va_E} {sg : Nat → zb} {rw9 : Nat → zr} {H : Heap} {locs : List Loc} {ls : Array Slot} (hXw : z_xw Z g g sg rw9) (hMw : z_mw Z g sg rw9) (hS : z_S Z (fun q : Nat => s.heap.size ≤ q) s.heap g H locs) (hl : lv_has ls 4 [(0, .ref b), (1, .ref (Z.2.1 0)), (2, .ref (Z.2.1 41)), (3, .int iv)]) (back : ∀ (g2 : Nat → va_E) (sg2 : Nat → zb) (rw2 : Nat → zr) (H2 : Heap) (locs2 : List Loc) (ls2 : Array Slot), z_xw Z g2 g2 sg2 rw2 → z_mw Z g2 sg2 rw2 → z_S Z (fun q : Nat => s.heap.size ≤ q) s.heap g2 H2 locs2 → lv_has ls2 4 [(0, .ref b), (1, .ref (Z.2.1 0)), (2, .ref (Z.2.1 41)), (3, .int iv)] → W p l e room_1 s m #[Value.ref b] below meth c H2 locs2 cells slots Q (F0 m 1429 ls2 [])) : W p l e room_1 s m #[Value.ref b] below meth c H locs cells slots Q (F0 m 718 ls []) := by
  obtain ⟨hx, hb, hr, hml, hown, hts0, hX, hbl, hlocks, hgv⟩ := id C0
  have hts : ∀ w ∈ wsL_law, w.before #[Value.ref b] s = true := fun w h => hts0 w (wsL_law_in w h)
  have hown : s.vm.findClass RL = some m.cls := hown
  have hbA : ¬ (fun q : Nat => s.heap.size ≤ q) b := Nat.not_le.mpr hbl
  have h_x0 := hXw.1.2.1
  obtain ⟨a1, ea1⟩ : ∃ z : Int32, z = xs (iv + 1).toNatClampNeg := ⟨_, rfl⟩
  obtain ⟨a2, ea2⟩ : ∃ z : Int32, z = xs (iv + 2).toNatClampNeg := ⟨_, rfl⟩
  refine lv_aload_n hx hb dL_law_718 rfl (lv_at hl 1 rfl) ?_
  refine lv_aload_n hx hb dL_law_719 rfl (lv_at hl 0 rfl) ?_
  refine lv_iload_n hx hb dL_law_720 rfl (lv_at hl 3 rfl) ?_
  refine lv_iconst (v := 1) hx hb dL_law_721 (by decide) ?_
  refine lv_iadd hx hb dL_law_722 ?_
  refine va_sld hx hb hX hbl hbA hS.2.2.1 (law_ix (j := 1) hi0 hiL hL (by decide) (by decide)) dL_law_723 ?_
  rw [← ea1]
  refine lv_aload_n hx hb dL_law_724 rfl (lv_at hl 0 rfl) ?_
  refine lv_iload_n hx hb dL_law_725 rfl (lv_at hl 3 rfl) ?_
  refine lv_iconst (v := 2) hx hb dL_law_726 (by decide) ?_
  refine lv_iadd hx hb dL_law_727 ?_
  refine va_sld hx hb hX hbl hbA hS.2.2.1 (law_ix (j := 2) hi0 hiL hL (by decide) (by decide)) dL_law_728 ?_
  rw [← ea2]
  refine z_calli (z_runV (As := [.int a1, .int a2]) (rest := []) ⟨hx, hb, hml, hown, hts⟩ hK hS ((k_leadsTo Z g sg rw9 hXw a1 a2) l _) gL_law_X9_leadsTo rfl 2 (by decide +kernel) ⟨(Nat.le_of_ble_eq_true rfl), (Nat.le_of_ble_eq_true rfl)⟩ h_x0 (by omega) rfl rfl hl.1 rfl (Nat.le_of_ble_eq_true rfl) dL_law_729 hcs) hS (fun r1 g1 H locs hp1 hS => ?_)
  have hMw1 := law_m hMw hp1.2
  obtain ⟨_, _, _, _, _, _, _, _, _, _, h_m1, -⟩ := id hMw1.1
  refine lv_aload_n hx hb dL_law_732 rfl (lv_at hl 2 rfl) ?_
  refine lv_aload_n hx hb dL_law_733 rfl (lv_at hl 0 rfl) ?_
  refine lv_iload_n hx hb dL_law_734 rfl (lv_at hl 3 rfl) ?_
  refine lv_iconst (v := 1) hx hb dL_law_735 (by decide) ?_
  refine lv_iadd hx hb dL_law_736 ?_
  refine va_sld hx hb hX hbl hbA hS.2.2.1 (law_ix (j := 1) hi0 hiL hL (by decide) (by decide)) dL_law_737 ?_
  rw [← ea1]
  refine lv_aload_n hx hb dL_law_738 rfl (lv_at hl 0 rfl) ?_
  refine lv_iload_n hx hb dL_law_739 rfl (lv_at hl 3 rfl) ?_
  refine lv_iconst (v := 2) hx hb dL_law_740 (by decide) ?_
  refine lv_iadd hx hb dL_law_741 ?_
  refine va_sld hx hb hX hbl hbA hS.2.2.1 (law_ix (j := 2) hi0 hiL hL (by decide) (by decide)) dL_law_742 ?_
  rw [← ea2]
  refine z_calli (z_runV (As := [.int a1, .int a2]) (rest := [.int r1]) ⟨hx, hb, hml, hown, hts⟩ hK hS ((m_leadsTo Z g1 sg rw9 hMw1 a1 a2) l _) gL_law_X10_leadsTo rfl 2 (by decide +kernel) ⟨(Nat.le_of_ble_eq_true rfl), (Nat.le_of_ble_eq_true rfl)⟩ h_m1 (by omega) rfl rfl hl.1 rfl (Nat.le_of_ble_eq_true rfl) dL_law_743 hcs) hS (fun r2 g2 H locs hp2 hS => ?_)
  have hlw := law_i hp1 hp2
  refine lv_icmp_eq (tgt := 1429) hx hb dL_law_746 (by decide) (fun _ => ?_) (fun c9 => absurd hlw.1 c9)
  exact back g2 _ _ H locs ls hlw.2.1 hlw.2.2 hS hl

set_option maxHeartbeats 4000000 in
set_option maxRecDepth 100000 in
theorem lw_case_15 {p : Program} {e : Env} {s : State} {m : MethodId} {below : List Frame} {meth : Method} {c : Code} (l : Launch) {Q : State → Prop} {b L : Nat} {xs : Nat → Int32} (C0 : lw_At p s m meth c b L xs) (hL : L ≤ 3072) (Z : zT) (hZ : 57 ≤ Z.1) (hK : z_K Z s) {cells slots : Nat} (hcs : cells ≤ room_1.cells ∧ slots ≤ room_1.slots) {iv : Int32} (hi0 : 0 ≤ iv.toInt) (hiL : iv.toInt + 6 ≤ L) {g : Nat → va_E} {sg : Nat → zb} {rw9 : Nat → zr} {H : Heap} {locs : List Loc} {ls : Array Slot} (hXw : z_xw Z g g sg rw9) (hMw : z_mw Z g sg rw9) (hS : z_S Z (fun q : Nat => s.heap.size ≤ q) s.heap g H locs) (hl : lv_has ls 4 [(0, .ref b), (1, .ref (Z.2.1 0)), (2, .ref (Z.2.1 41)), (3, .int iv)]) (back : ∀ (g2 : Nat → va_E) (sg2 : Nat → zb) (rw2 : Nat → zr) (H2 : Heap) (locs2 : List Loc) (ls2 : Array Slot), z_xw Z g2 g2 sg2 rw2 → z_mw Z g2 sg2 rw2 → z_S Z (fun q : Nat => s.heap.size ≤ q) s.heap g2 H2 locs2 → lv_has ls2 4 [(0, .ref b), (1, .ref (Z.2.1 0)), (2, .ref (Z.2.1 41)), (3, .int iv)] → W p l e room_1 s m #[Value.ref b] below meth c H2 locs2 cells slots Q (F0 m 1429 ls2 [])) : W p l e room_1 s m #[Value.ref b] below meth c H locs cells slots Q (F0 m 751 ls []) := by
  obtain ⟨hx, hb, hr, hml, hown, hts0, hX, hbl, hlocks, hgv⟩ := id C0
  have hts : ∀ w ∈ wsL_law, w.before #[Value.ref b] s = true := fun w h => hts0 w (wsL_law_in w h)
  have hown : s.vm.findClass RL = some m.cls := hown
  have hbA : ¬ (fun q : Nat => s.heap.size ≤ q) b := Nat.not_le.mpr hbl
  have h_x0 := hXw.1.2.1
  obtain ⟨a1, ea1⟩ : ∃ z : Int32, z = xs (iv + 1).toNatClampNeg := ⟨_, rfl⟩
  refine lv_aload_n hx hb dL_law_751 rfl (lv_at hl 1 rfl) ?_
  refine lv_aload_n hx hb dL_law_752 rfl (lv_at hl 0 rfl) ?_
  refine lv_iload_n hx hb dL_law_753 rfl (lv_at hl 3 rfl) ?_
  refine lv_iconst (v := 1) hx hb dL_law_754 (by decide) ?_
  refine lv_iadd hx hb dL_law_755 ?_
  refine va_sld hx hb hX hbl hbA hS.2.2.1 (law_ix (j := 1) hi0 hiL hL (by decide) (by decide)) dL_law_756 ?_
  rw [← ea1]
  refine z_calli (z_runV (As := [.int a1]) (rest := []) ⟨hx, hb, hml, hown, hts⟩ hK hS ((k_reachesAll Z g sg rw9 hXw a1) l _) gL_law_X9_reachesAll rfl 1 (by decide +kernel) ⟨(Nat.le_of_ble_eq_true rfl), (Nat.le_of_ble_eq_true rfl)⟩ h_x0 (by omega) rfl rfl hl.1 rfl (Nat.le_of_ble_eq_true rfl) dL_law_757 hcs) hS (fun r1 g1 H locs hp1 hS => ?_)
  have hMw1 := law_m hMw hp1.2
  obtain ⟨_, _, _, _, _, _, _, _, _, _, h_m1, -⟩ := id hMw1.1
  refine lv_aload_n hx hb dL_law_760 rfl (lv_at hl 2 rfl) ?_
  refine lv_aload_n hx hb dL_law_761 rfl (lv_at hl 0 rfl) ?_
  refine lv_iload_n hx hb dL_law_762 rfl (lv_at hl 3 rfl) ?_
  refine lv_iconst (v := 1) hx hb dL_law_763 (by decide) ?_
  refine lv_iadd hx hb dL_law_764 ?_
  refine va_sld hx hb hX hbl hbA hS.2.2.1 (law_ix (j := 1) hi0 hiL hL (by decide) (by decide)) dL_law_765 ?_
  rw [← ea1]
  refine z_calli (z_runV (As := [.int a1]) (rest := [.int r1]) ⟨hx, hb, hml, hown, hts⟩ hK hS ((m_reachesAll Z g1 sg rw9 hMw1 a1) l _) gL_law_X10_reachesAll rfl 1 (by decide +kernel) ⟨(Nat.le_of_ble_eq_true rfl), (Nat.le_of_ble_eq_true rfl)⟩ h_m1 (by omega) rfl rfl hl.1 rfl (Nat.le_of_ble_eq_true rfl) dL_law_766 hcs) hS (fun r2 g2 H locs hp2 hS => ?_)
  have hlw := law_i hp1 hp2
  refine lv_icmp_eq (tgt := 1429) hx hb dL_law_769 (by decide) (fun _ => ?_) (fun c9 => absurd hlw.1 c9)
  exact back g2 _ _ H locs ls hlw.2.1 hlw.2.2 hS hl

set_option maxHeartbeats 4000000 in
set_option maxRecDepth 100000 in
theorem lw_case_16 {p : Program} {e : Env} {s : State} {m : MethodId} {below : List Frame} {meth : Method} {c : Code} (l : Launch) {Q : State → Prop} {b L : Nat} {xs : Nat → Int32} (C0 : lw_At p s m meth c b L xs) (hL : L ≤ 3072) (Z : zT) (hZ : 57 ≤ Z.1) (hK : z_K Z s) {cells slots : Nat} (hcs : cells ≤ room_1.cells ∧ slots ≤ room_1.slots) {iv : Int32} (hi0 : 0 ≤ iv.toInt) (hiL : iv.toInt + 6 ≤ L) {g : Nat → va_E} {sg : Nat → zb} {rw9 : Nat → zr} {H : Heap} {locs : List Loc} {ls : Array Slot} (hXw : z_xw Z g g sg rw9) (hMw : z_mw Z g sg rw9) (hS : z_S Z (fun q : Nat => s.heap.size ≤ q) s.heap g H locs) (hl : lv_has ls 4 [(0, .ref b), (1, .ref (Z.2.1 0)), (2, .ref (Z.2.1 41)), (3, .int iv)]) (back : ∀ (g2 : Nat → va_E) (sg2 : Nat → zb) (rw2 : Nat → zr) (H2 : Heap) (locs2 : List Loc) (ls2 : Array Slot), z_xw Z g2 g2 sg2 rw2 → z_mw Z g2 sg2 rw2 → z_S Z (fun q : Nat => s.heap.size ≤ q) s.heap g2 H2 locs2 → lv_has ls2 4 [(0, .ref b), (1, .ref (Z.2.1 0)), (2, .ref (Z.2.1 41)), (3, .int iv)] → W p l e room_1 s m #[Value.ref b] below meth c H2 locs2 cells slots Q (F0 m 1429 ls2 [])) : W p l e room_1 s m #[Value.ref b] below meth c H locs cells slots Q (F0 m 774 ls []) := by
  obtain ⟨hx, hb, hr, hml, hown, hts0, hX, hbl, hlocks, hgv⟩ := id C0
  have hts : ∀ w ∈ wsL_law, w.before #[Value.ref b] s = true := fun w h => hts0 w (wsL_law_in w h)
  have hown : s.vm.findClass RL = some m.cls := hown
  have hbA : ¬ (fun q : Nat => s.heap.size ≤ q) b := Nat.not_le.mpr hbl
  have h_x0 := hXw.1.2.1
  obtain ⟨a1, ea1⟩ : ∃ z : Int32, z = xs (iv + 1).toNatClampNeg := ⟨_, rfl⟩
  obtain ⟨a2, ea2⟩ : ∃ z : Int32, z = xs (iv + 2).toNatClampNeg := ⟨_, rfl⟩
  obtain ⟨a3, ea3⟩ : ∃ z : Int32, z = xs (iv + 3).toNatClampNeg := ⟨_, rfl⟩
  refine lv_aload_n hx hb dL_law_774 rfl (lv_at hl 1 rfl) ?_
  refine lv_aload_n hx hb dL_law_775 rfl (lv_at hl 0 rfl) ?_
  refine lv_iload_n hx hb dL_law_776 rfl (lv_at hl 3 rfl) ?_
  refine lv_iconst (v := 1) hx hb dL_law_777 (by decide) ?_
  refine lv_iadd hx hb dL_law_778 ?_
  refine va_sld hx hb hX hbl hbA hS.2.2.1 (law_ix (j := 1) hi0 hiL hL (by decide) (by decide)) dL_law_779 ?_
  rw [← ea1]
  refine lv_aload_n hx hb dL_law_780 rfl (lv_at hl 0 rfl) ?_
  refine lv_iload_n hx hb dL_law_781 rfl (lv_at hl 3 rfl) ?_
  refine lv_iconst (v := 2) hx hb dL_law_782 (by decide) ?_
  refine lv_iadd hx hb dL_law_783 ?_
  refine va_sld hx hb hX hbl hbA hS.2.2.1 (law_ix (j := 2) hi0 hiL hL (by decide) (by decide)) dL_law_784 ?_
  rw [← ea2]
  refine lv_aload_n hx hb dL_law_785 rfl (lv_at hl 0 rfl) ?_
  refine lv_iload_n hx hb dL_law_786 rfl (lv_at hl 3 rfl) ?_
  refine lv_iconst (v := 3) hx hb dL_law_787 (by decide) ?_
  refine lv_iadd hx hb dL_law_788 ?_
  refine va_sld hx hb hX hbl hbA hS.2.2.1 (law_ix (j := 3) hi0 hiL hL (by decide) (by decide)) dL_law_789 ?_
  rw [← ea3]
  refine z_calli (z_runV (As := [.int a1, .int a2, .int a3]) (rest := []) ⟨hx, hb, hml, hown, hts⟩ hK hS ((k_expansions Z g sg rw9 hXw a1 a2 a3) l _) gL_law_X9_expansions rfl 3 (by decide +kernel) ⟨(Nat.le_of_ble_eq_true rfl), (Nat.le_of_ble_eq_true rfl)⟩ h_x0 (by omega) rfl rfl hl.1 rfl (Nat.le_of_ble_eq_true rfl) dL_law_790 hcs) hS (fun r1 g1 H locs hp1 hS => ?_)
  have hMw1 := law_m hMw hp1.2
  obtain ⟨_, _, _, _, _, _, _, _, _, _, h_m1, -⟩ := id hMw1.1
  refine lv_aload_n hx hb dL_law_793 rfl (lv_at hl 2 rfl) ?_
  refine lv_aload_n hx hb dL_law_794 rfl (lv_at hl 0 rfl) ?_
  refine lv_iload_n hx hb dL_law_795 rfl (lv_at hl 3 rfl) ?_
  refine lv_iconst (v := 1) hx hb dL_law_796 (by decide) ?_
  refine lv_iadd hx hb dL_law_797 ?_
  refine va_sld hx hb hX hbl hbA hS.2.2.1 (law_ix (j := 1) hi0 hiL hL (by decide) (by decide)) dL_law_798 ?_
  rw [← ea1]
  refine lv_aload_n hx hb dL_law_799 rfl (lv_at hl 0 rfl) ?_
  refine lv_iload_n hx hb dL_law_800 rfl (lv_at hl 3 rfl) ?_
  refine lv_iconst (v := 2) hx hb dL_law_801 (by decide) ?_
  refine lv_iadd hx hb dL_law_802 ?_
  refine va_sld hx hb hX hbl hbA hS.2.2.1 (law_ix (j := 2) hi0 hiL hL (by decide) (by decide)) dL_law_803 ?_
  rw [← ea2]
  refine lv_aload_n hx hb dL_law_804 rfl (lv_at hl 0 rfl) ?_
  refine lv_iload_n hx hb dL_law_805 rfl (lv_at hl 3 rfl) ?_
  refine lv_iconst (v := 3) hx hb dL_law_806 (by decide) ?_
  refine lv_iadd hx hb dL_law_807 ?_
  refine va_sld hx hb hX hbl hbA hS.2.2.1 (law_ix (j := 3) hi0 hiL hL (by decide) (by decide)) dL_law_808 ?_
  rw [← ea3]
  refine z_calli (z_runV (As := [.int a1, .int a2, .int a3]) (rest := [.int r1]) ⟨hx, hb, hml, hown, hts⟩ hK hS ((m_expansions Z g1 sg rw9 hMw1 a1 a2 a3) l _) gL_law_X10_expansions rfl 3 (by decide +kernel) ⟨(Nat.le_of_ble_eq_true rfl), (Nat.le_of_ble_eq_true rfl)⟩ h_m1 (by omega) rfl rfl hl.1 rfl (Nat.le_of_ble_eq_true rfl) dL_law_809 hcs) hS (fun r2 g2 H locs hp2 hS => ?_)
  have hlw := law_i hp1 hp2
  refine lv_icmp_eq (tgt := 1429) hx hb dL_law_812 (by decide) (fun _ => ?_) (fun c9 => absurd hlw.1 c9)
  exact back g2 _ _ H locs ls hlw.2.1 hlw.2.2 hS hl

set_option maxHeartbeats 4000000 in
set_option maxRecDepth 100000 in
theorem lw_case_17 {p : Program} {e : Env} {s : State} {m : MethodId} {below : List Frame} {meth : Method} {c : Code} (l : Launch) {Q : State → Prop} {b L : Nat} {xs : Nat → Int32} (C0 : lw_At p s m meth c b L xs) (hL : L ≤ 3072) (Z : zT) (hZ : 57 ≤ Z.1) (hK : z_K Z s) {cells slots : Nat} (hcs : cells ≤ room_1.cells ∧ slots ≤ room_1.slots) {iv : Int32} (hi0 : 0 ≤ iv.toInt) (hiL : iv.toInt + 6 ≤ L) {g : Nat → va_E} {sg : Nat → zb} {rw9 : Nat → zr} {H : Heap} {locs : List Loc} {ls : Array Slot} (hXw : z_xw Z g g sg rw9) (hMw : z_mw Z g sg rw9) (hS : z_S Z (fun q : Nat => s.heap.size ≤ q) s.heap g H locs) (hl : lv_has ls 4 [(0, .ref b), (1, .ref (Z.2.1 0)), (2, .ref (Z.2.1 41)), (3, .int iv)]) (back : ∀ (g2 : Nat → va_E) (sg2 : Nat → zb) (rw2 : Nat → zr) (H2 : Heap) (locs2 : List Loc) (ls2 : Array Slot), z_xw Z g2 g2 sg2 rw2 → z_mw Z g2 sg2 rw2 → z_S Z (fun q : Nat => s.heap.size ≤ q) s.heap g2 H2 locs2 → lv_has ls2 4 [(0, .ref b), (1, .ref (Z.2.1 0)), (2, .ref (Z.2.1 41)), (3, .int iv)] → W p l e room_1 s m #[Value.ref b] below meth c H2 locs2 cells slots Q (F0 m 1429 ls2 [])) : W p l e room_1 s m #[Value.ref b] below meth c H locs cells slots Q (F0 m 817 ls []) := by
  obtain ⟨hx, hb, hr, hml, hown, hts0, hX, hbl, hlocks, hgv⟩ := id C0
  have hts : ∀ w ∈ wsL_law, w.before #[Value.ref b] s = true := fun w h => hts0 w (wsL_law_in w h)
  have hown : s.vm.findClass RL = some m.cls := hown
  have hbA : ¬ (fun q : Nat => s.heap.size ≤ q) b := Nat.not_le.mpr hbl
  have h_x0 := hXw.1.2.1
  obtain ⟨a1, ea1⟩ : ∃ z : Int32, z = xs (iv + 1).toNatClampNeg := ⟨_, rfl⟩
  obtain ⟨a2, ea2⟩ : ∃ z : Int32, z = xs (iv + 2).toNatClampNeg := ⟨_, rfl⟩
  obtain ⟨a3, ea3⟩ : ∃ z : Int32, z = xs (iv + 3).toNatClampNeg := ⟨_, rfl⟩
  obtain ⟨a4, ea4⟩ : ∃ z : Int32, z = xs (iv + 4).toNatClampNeg := ⟨_, rfl⟩
  obtain ⟨a5, ea5⟩ : ∃ z : Int32, z = xs (iv + 5).toNatClampNeg := ⟨_, rfl⟩
  refine lv_aload_n hx hb dL_law_817 rfl (lv_at hl 1 rfl) ?_
  refine lv_aload_n hx hb dL_law_818 rfl (lv_at hl 0 rfl) ?_
  refine lv_iload_n hx hb dL_law_819 rfl (lv_at hl 3 rfl) ?_
  refine lv_iconst (v := 1) hx hb dL_law_820 (by decide) ?_
  refine lv_iadd hx hb dL_law_821 ?_
  refine va_sld hx hb hX hbl hbA hS.2.2.1 (law_ix (j := 1) hi0 hiL hL (by decide) (by decide)) dL_law_822 ?_
  rw [← ea1]
  refine lv_aload_n hx hb dL_law_823 rfl (lv_at hl 0 rfl) ?_
  refine lv_iload_n hx hb dL_law_824 rfl (lv_at hl 3 rfl) ?_
  refine lv_iconst (v := 2) hx hb dL_law_825 (by decide) ?_
  refine lv_iadd hx hb dL_law_826 ?_
  refine va_sld hx hb hX hbl hbA hS.2.2.1 (law_ix (j := 2) hi0 hiL hL (by decide) (by decide)) dL_law_827 ?_
  rw [← ea2]
  refine lv_aload_n hx hb dL_law_828 rfl (lv_at hl 0 rfl) ?_
  refine lv_iload_n hx hb dL_law_829 rfl (lv_at hl 3 rfl) ?_
  refine lv_iconst (v := 3) hx hb dL_law_830 (by decide) ?_
  refine lv_iadd hx hb dL_law_831 ?_
  refine va_sld hx hb hX hbl hbA hS.2.2.1 (law_ix (j := 3) hi0 hiL hL (by decide) (by decide)) dL_law_832 ?_
  rw [← ea3]
  refine lv_aload_n hx hb dL_law_833 rfl (lv_at hl 0 rfl) ?_
  refine lv_iload_n hx hb dL_law_834 rfl (lv_at hl 3 rfl) ?_
  refine lv_iconst (v := 4) hx hb dL_law_835 (by decide) ?_
  refine lv_iadd hx hb dL_law_836 ?_
  refine va_sld hx hb hX hbl hbA hS.2.2.1 (law_ix (j := 4) hi0 hiL hL (by decide) (by decide)) dL_law_837 ?_
  rw [← ea4]
  refine lv_aload_n hx hb dL_law_838 rfl (lv_at hl 0 rfl) ?_
  refine lv_iload_n hx hb dL_law_839 rfl (lv_at hl 3 rfl) ?_
  refine lv_iconst (v := 5) hx hb dL_law_840 (by decide) ?_
  refine lv_iadd hx hb dL_law_841 ?_
  refine va_sld hx hb hX hbl hbA hS.2.2.1 (law_ix (j := 5) hi0 hiL hL (by decide) (by decide)) dL_law_842 ?_
  rw [← ea5]
  refine z_calli (z_runV (As := [.int a1, .int a2, .int a3, .int a4, .int a5]) (rest := []) ⟨hx, hb, hml, hown, hts⟩ hK hS ((k_expansionDigit Z g sg rw9 hXw a1 a2 a3 a4 a5) l _) gL_law_X9_expansionDigit rfl 5 (by decide +kernel) ⟨(Nat.le_of_ble_eq_true rfl), (Nat.le_of_ble_eq_true rfl)⟩ h_x0 (by omega) rfl rfl hl.1 rfl (Nat.le_of_ble_eq_true rfl) dL_law_843 hcs) hS (fun r1 g1 H locs hp1 hS => ?_)
  have hMw1 := law_m hMw hp1.2
  obtain ⟨_, _, _, _, _, _, _, _, _, _, h_m1, -⟩ := id hMw1.1
  refine lv_aload_n hx hb dL_law_846 rfl (lv_at hl 2 rfl) ?_
  refine lv_aload_n hx hb dL_law_847 rfl (lv_at hl 0 rfl) ?_
  refine lv_iload_n hx hb dL_law_848 rfl (lv_at hl 3 rfl) ?_
  refine lv_iconst (v := 1) hx hb dL_law_849 (by decide) ?_
  refine lv_iadd hx hb dL_law_850 ?_
  refine va_sld hx hb hX hbl hbA hS.2.2.1 (law_ix (j := 1) hi0 hiL hL (by decide) (by decide)) dL_law_851 ?_
  rw [← ea1]
  refine lv_aload_n hx hb dL_law_852 rfl (lv_at hl 0 rfl) ?_
  refine lv_iload_n hx hb dL_law_853 rfl (lv_at hl 3 rfl) ?_
  refine lv_iconst (v := 2) hx hb dL_law_854 (by decide) ?_
  refine lv_iadd hx hb dL_law_855 ?_
  refine va_sld hx hb hX hbl hbA hS.2.2.1 (law_ix (j := 2) hi0 hiL hL (by decide) (by decide)) dL_law_856 ?_
  rw [← ea2]
  refine lv_aload_n hx hb dL_law_857 rfl (lv_at hl 0 rfl) ?_
  refine lv_iload_n hx hb dL_law_858 rfl (lv_at hl 3 rfl) ?_
  refine lv_iconst (v := 3) hx hb dL_law_859 (by decide) ?_
  refine lv_iadd hx hb dL_law_860 ?_
  refine va_sld hx hb hX hbl hbA hS.2.2.1 (law_ix (j := 3) hi0 hiL hL (by decide) (by decide)) dL_law_861 ?_
  rw [← ea3]
  refine lv_aload_n hx hb dL_law_862 rfl (lv_at hl 0 rfl) ?_
  refine lv_iload_n hx hb dL_law_863 rfl (lv_at hl 3 rfl) ?_
  refine lv_iconst (v := 4) hx hb dL_law_864 (by decide) ?_
  refine lv_iadd hx hb dL_law_865 ?_
  refine va_sld hx hb hX hbl hbA hS.2.2.1 (law_ix (j := 4) hi0 hiL hL (by decide) (by decide)) dL_law_866 ?_
  rw [← ea4]
  refine lv_aload_n hx hb dL_law_867 rfl (lv_at hl 0 rfl) ?_
  refine lv_iload_n hx hb dL_law_868 rfl (lv_at hl 3 rfl) ?_
  refine lv_iconst (v := 5) hx hb dL_law_869 (by decide) ?_
  refine lv_iadd hx hb dL_law_870 ?_
  refine va_sld hx hb hX hbl hbA hS.2.2.1 (law_ix (j := 5) hi0 hiL hL (by decide) (by decide)) dL_law_871 ?_
  rw [← ea5]
  refine z_calli (z_runV (As := [.int a1, .int a2, .int a3, .int a4, .int a5]) (rest := [.int r1]) ⟨hx, hb, hml, hown, hts⟩ hK hS ((m_expansionDigit Z g1 sg rw9 hMw1 a1 a2 a3 a4 a5) l _) gL_law_X10_expansionDigit rfl 5 (by decide +kernel) ⟨(Nat.le_of_ble_eq_true rfl), (Nat.le_of_ble_eq_true rfl)⟩ h_m1 (by omega) rfl rfl hl.1 rfl (Nat.le_of_ble_eq_true rfl) dL_law_872 hcs) hS (fun r2 g2 H locs hp2 hS => ?_)
  have hlw := law_i hp1 hp2
  refine lv_icmp_eq (tgt := 1429) hx hb dL_law_875 (by decide) (fun _ => ?_) (fun c9 => absurd hlw.1 c9)
  exact back g2 _ _ H locs ls hlw.2.1 hlw.2.2 hS hl

set_option maxHeartbeats 4000000 in
set_option maxRecDepth 100000 in
theorem lw_case_18 {p : Program} {e : Env} {s : State} {m : MethodId} {below : List Frame} {meth : Method} {c : Code} (l : Launch) {Q : State → Prop} {b L : Nat} {xs : Nat → Int32} (C0 : lw_At p s m meth c b L xs) (hL : L ≤ 3072) (Z : zT) (hZ : 57 ≤ Z.1) (hK : z_K Z s) {cells slots : Nat} (hcs : cells ≤ room_1.cells ∧ slots ≤ room_1.slots) {iv : Int32} (hi0 : 0 ≤ iv.toInt) (hiL : iv.toInt + 6 ≤ L) {g : Nat → va_E} {sg : Nat → zb} {rw9 : Nat → zr} {H : Heap} {locs : List Loc} {ls : Array Slot} (hXw : z_xw Z g g sg rw9) (hMw : z_mw Z g sg rw9) (hS : z_S Z (fun q : Nat => s.heap.size ≤ q) s.heap g H locs) (hl : lv_has ls 4 [(0, .ref b), (1, .ref (Z.2.1 0)), (2, .ref (Z.2.1 41)), (3, .int iv)]) (back : ∀ (g2 : Nat → va_E) (sg2 : Nat → zb) (rw2 : Nat → zr) (H2 : Heap) (locs2 : List Loc) (ls2 : Array Slot), z_xw Z g2 g2 sg2 rw2 → z_mw Z g2 sg2 rw2 → z_S Z (fun q : Nat => s.heap.size ≤ q) s.heap g2 H2 locs2 → lv_has ls2 4 [(0, .ref b), (1, .ref (Z.2.1 0)), (2, .ref (Z.2.1 41)), (3, .int iv)] → W p l e room_1 s m #[Value.ref b] below meth c H2 locs2 cells slots Q (F0 m 1429 ls2 [])) : W p l e room_1 s m #[Value.ref b] below meth c H locs cells slots Q (F0 m 880 ls []) := by
  obtain ⟨hx, hb, hr, hml, hown, hts0, hX, hbl, hlocks, hgv⟩ := id C0
  have hts : ∀ w ∈ wsL_law, w.before #[Value.ref b] s = true := fun w h => hts0 w (wsL_law_in w h)
  have hown : s.vm.findClass RL = some m.cls := hown
  have hbA : ¬ (fun q : Nat => s.heap.size ≤ q) b := Nat.not_le.mpr hbl
  have h_x0 := hXw.1.2.1
  obtain ⟨a1, ea1⟩ : ∃ z : Int32, z = xs (iv + 1).toNatClampNeg := ⟨_, rfl⟩
  obtain ⟨a2, ea2⟩ : ∃ z : Int32, z = xs (iv + 2).toNatClampNeg := ⟨_, rfl⟩
  refine lv_aload_n hx hb dL_law_880 rfl (lv_at hl 1 rfl) ?_
  refine lv_aload_n hx hb dL_law_881 rfl (lv_at hl 0 rfl) ?_
  refine lv_iload_n hx hb dL_law_882 rfl (lv_at hl 3 rfl) ?_
  refine lv_iconst (v := 1) hx hb dL_law_883 (by decide) ?_
  refine lv_iadd hx hb dL_law_884 ?_
  refine va_sld hx hb hX hbl hbA hS.2.2.1 (law_ix (j := 1) hi0 hiL hL (by decide) (by decide)) dL_law_885 ?_
  rw [← ea1]
  refine lv_aload_n hx hb dL_law_886 rfl (lv_at hl 0 rfl) ?_
  refine lv_iload_n hx hb dL_law_887 rfl (lv_at hl 3 rfl) ?_
  refine lv_iconst (v := 2) hx hb dL_law_888 (by decide) ?_
  refine lv_iadd hx hb dL_law_889 ?_
  refine va_sld hx hb hX hbl hbA hS.2.2.1 (law_ix (j := 2) hi0 hiL hL (by decide) (by decide)) dL_law_890 ?_
  rw [← ea2]
  refine z_calli (z_runV (As := [.int a1, .int a2]) (rest := []) ⟨hx, hb, hml, hown, hts⟩ hK hS ((k_shortest Z g sg rw9 hXw a1 a2) l _) gL_law_X9_shortest rfl 2 (by decide +kernel) ⟨(Nat.le_of_ble_eq_true rfl), (Nat.le_of_ble_eq_true rfl)⟩ h_x0 (by omega) rfl rfl hl.1 rfl (Nat.le_of_ble_eq_true rfl) dL_law_891 hcs) hS (fun r1 g1 H locs hp1 hS => ?_)
  have hMw1 := law_m hMw hp1.2
  obtain ⟨_, _, _, _, _, _, _, _, _, _, h_m1, -⟩ := id hMw1.1
  refine lv_aload_n hx hb dL_law_894 rfl (lv_at hl 2 rfl) ?_
  refine lv_aload_n hx hb dL_law_895 rfl (lv_at hl 0 rfl) ?_
  refine lv_iload_n hx hb dL_law_896 rfl (lv_at hl 3 rfl) ?_
  refine lv_iconst (v := 1) hx hb dL_law_897 (by decide) ?_
  refine lv_iadd hx hb dL_law_898 ?_
  refine va_sld hx hb hX hbl hbA hS.2.2.1 (law_ix (j := 1) hi0 hiL hL (by decide) (by decide)) dL_law_899 ?_
  rw [← ea1]
  refine lv_aload_n hx hb dL_law_900 rfl (lv_at hl 0 rfl) ?_
  refine lv_iload_n hx hb dL_law_901 rfl (lv_at hl 3 rfl) ?_
  refine lv_iconst (v := 2) hx hb dL_law_902 (by decide) ?_
  refine lv_iadd hx hb dL_law_903 ?_
  refine va_sld hx hb hX hbl hbA hS.2.2.1 (law_ix (j := 2) hi0 hiL hL (by decide) (by decide)) dL_law_904 ?_
  rw [← ea2]
  refine z_calli (z_runV (As := [.int a1, .int a2]) (rest := [.int r1]) ⟨hx, hb, hml, hown, hts⟩ hK hS ((m_shortest Z g1 sg rw9 hMw1 a1 a2) l _) gL_law_X10_shortest rfl 2 (by decide +kernel) ⟨(Nat.le_of_ble_eq_true rfl), (Nat.le_of_ble_eq_true rfl)⟩ h_m1 (by omega) rfl rfl hl.1 rfl (Nat.le_of_ble_eq_true rfl) dL_law_905 hcs) hS (fun r2 g2 H locs hp2 hS => ?_)
  have hlw := law_i hp1 hp2
  refine lv_icmp_eq (tgt := 1429) hx hb dL_law_908 (by decide) (fun _ => ?_) (fun c9 => absurd hlw.1 c9)
  exact back g2 _ _ H locs ls hlw.2.1 hlw.2.2 hS hl

set_option maxHeartbeats 4000000 in
set_option maxRecDepth 100000 in
theorem lw_case_19 {p : Program} {e : Env} {s : State} {m : MethodId} {below : List Frame} {meth : Method} {c : Code} (l : Launch) {Q : State → Prop} {b L : Nat} {xs : Nat → Int32} (C0 : lw_At p s m meth c b L xs) (hL : L ≤ 3072) (Z : zT) (hZ : 57 ≤ Z.1) (hK : z_K Z s) {cells slots : Nat} (hcs : cells ≤ room_1.cells ∧ slots ≤ room_1.slots) {iv : Int32} (hi0 : 0 ≤ iv.toInt) (hiL : iv.toInt + 6 ≤ L) {g : Nat → va_E} {sg : Nat → zb} {rw9 : Nat → zr} {H : Heap} {locs : List Loc} {ls : Array Slot} (hXw : z_xw Z g g sg rw9) (hMw : z_mw Z g sg rw9) (hS : z_S Z (fun q : Nat => s.heap.size ≤ q) s.heap g H locs) (hl : lv_has ls 4 [(0, .ref b), (1, .ref (Z.2.1 0)), (2, .ref (Z.2.1 41)), (3, .int iv)]) (back : ∀ (g2 : Nat → va_E) (sg2 : Nat → zb) (rw2 : Nat → zr) (H2 : Heap) (locs2 : List Loc) (ls2 : Array Slot), z_xw Z g2 g2 sg2 rw2 → z_mw Z g2 sg2 rw2 → z_S Z (fun q : Nat => s.heap.size ≤ q) s.heap g2 H2 locs2 → lv_has ls2 4 [(0, .ref b), (1, .ref (Z.2.1 0)), (2, .ref (Z.2.1 41)), (3, .int iv)] → W p l e room_1 s m #[Value.ref b] below meth c H2 locs2 cells slots Q (F0 m 1429 ls2 [])) : W p l e room_1 s m #[Value.ref b] below meth c H locs cells slots Q (F0 m 913 ls []) := by
  obtain ⟨hx, hb, hr, hml, hown, hts0, hX, hbl, hlocks, hgv⟩ := id C0
  have hts : ∀ w ∈ wsL_law, w.before #[Value.ref b] s = true := fun w h => hts0 w (wsL_law_in w h)
  have hown : s.vm.findClass RL = some m.cls := hown
  have hbA : ¬ (fun q : Nat => s.heap.size ≤ q) b := Nat.not_le.mpr hbl
  have h_x0 := hXw.1.2.1
  obtain ⟨a1, ea1⟩ : ∃ z : Int32, z = xs (iv + 1).toNatClampNeg := ⟨_, rfl⟩
  obtain ⟨a2, ea2⟩ : ∃ z : Int32, z = xs (iv + 2).toNatClampNeg := ⟨_, rfl⟩
  refine lv_aload_n hx hb dL_law_913 rfl (lv_at hl 1 rfl) ?_
  refine lv_aload_n hx hb dL_law_914 rfl (lv_at hl 0 rfl) ?_
  refine lv_iload_n hx hb dL_law_915 rfl (lv_at hl 3 rfl) ?_
  refine lv_iconst (v := 1) hx hb dL_law_916 (by decide) ?_
  refine lv_iadd hx hb dL_law_917 ?_
  refine va_sld hx hb hX hbl hbA hS.2.2.1 (law_ix (j := 1) hi0 hiL hL (by decide) (by decide)) dL_law_918 ?_
  rw [← ea1]
  refine lv_aload_n hx hb dL_law_919 rfl (lv_at hl 0 rfl) ?_
  refine lv_iload_n hx hb dL_law_920 rfl (lv_at hl 3 rfl) ?_
  refine lv_iconst (v := 2) hx hb dL_law_921 (by decide) ?_
  refine lv_iadd hx hb dL_law_922 ?_
  refine va_sld hx hb hX hbl hbA hS.2.2.1 (law_ix (j := 2) hi0 hiL hL (by decide) (by decide)) dL_law_923 ?_
  rw [← ea2]
  refine z_calli (z_runV (As := [.int a1, .int a2]) (rest := []) ⟨hx, hb, hml, hown, hts⟩ hK hS ((k_push Z g sg rw9 hXw a1 a2) l _) gL_law_X9_push rfl 2 (by decide +kernel) ⟨(Nat.le_of_ble_eq_true rfl), (Nat.le_of_ble_eq_true rfl)⟩ h_x0 (by omega) rfl rfl hl.1 rfl (Nat.le_of_ble_eq_true rfl) dL_law_924 hcs) hS (fun r1 g1 H locs hp1 hS => ?_)
  have hMw1 := law_m hMw hp1.2
  obtain ⟨_, _, _, _, _, _, _, _, _, _, h_m1, -⟩ := id hMw1.1
  refine lv_aload_n hx hb dL_law_927 rfl (lv_at hl 2 rfl) ?_
  refine lv_aload_n hx hb dL_law_928 rfl (lv_at hl 0 rfl) ?_
  refine lv_iload_n hx hb dL_law_929 rfl (lv_at hl 3 rfl) ?_
  refine lv_iconst (v := 1) hx hb dL_law_930 (by decide) ?_
  refine lv_iadd hx hb dL_law_931 ?_
  refine va_sld hx hb hX hbl hbA hS.2.2.1 (law_ix (j := 1) hi0 hiL hL (by decide) (by decide)) dL_law_932 ?_
  rw [← ea1]
  refine lv_aload_n hx hb dL_law_933 rfl (lv_at hl 0 rfl) ?_
  refine lv_iload_n hx hb dL_law_934 rfl (lv_at hl 3 rfl) ?_
  refine lv_iconst (v := 2) hx hb dL_law_935 (by decide) ?_
  refine lv_iadd hx hb dL_law_936 ?_
  refine va_sld hx hb hX hbl hbA hS.2.2.1 (law_ix (j := 2) hi0 hiL hL (by decide) (by decide)) dL_law_937 ?_
  rw [← ea2]
  refine z_calli (z_runV (As := [.int a1, .int a2]) (rest := [.int r1]) ⟨hx, hb, hml, hown, hts⟩ hK hS ((m_push Z g1 sg rw9 hMw1 a1 a2) l _) gL_law_X10_push rfl 2 (by decide +kernel) ⟨(Nat.le_of_ble_eq_true rfl), (Nat.le_of_ble_eq_true rfl)⟩ h_m1 (by omega) rfl rfl hl.1 rfl (Nat.le_of_ble_eq_true rfl) dL_law_938 hcs) hS (fun r2 g2 H locs hp2 hS => ?_)
  have hlw := law_i hp1 hp2
  refine lv_icmp_eq (tgt := 1429) hx hb dL_law_941 (by decide) (fun _ => ?_) (fun c9 => absurd hlw.1 c9)
  exact back g2 _ _ H locs ls hlw.2.1 hlw.2.2 hS hl

set_option maxHeartbeats 4000000 in
set_option maxRecDepth 100000 in
theorem lw_case_20 {p : Program} {e : Env} {s : State} {m : MethodId} {below : List Frame} {meth : Method} {c : Code} (l : Launch) {Q : State → Prop} {b L : Nat} {xs : Nat → Int32} (C0 : lw_At p s m meth c b L xs) (hL : L ≤ 3072) (Z : zT) (hZ : 57 ≤ Z.1) (hK : z_K Z s) {cells slots : Nat} (hcs : cells ≤ room_1.cells ∧ slots ≤ room_1.slots) {iv : Int32} (hi0 : 0 ≤ iv.toInt) (hiL : iv.toInt + 6 ≤ L) {g : Nat → va_E} {sg : Nat → zb} {rw9 : Nat → zr} {H : Heap} {locs : List Loc} {ls : Array Slot} (hXw : z_xw Z g g sg rw9) (hMw : z_mw Z g sg rw9) (hS : z_S Z (fun q : Nat => s.heap.size ≤ q) s.heap g H locs) (hl : lv_has ls 4 [(0, .ref b), (1, .ref (Z.2.1 0)), (2, .ref (Z.2.1 41)), (3, .int iv)]) (back : ∀ (g2 : Nat → va_E) (sg2 : Nat → zb) (rw2 : Nat → zr) (H2 : Heap) (locs2 : List Loc) (ls2 : Array Slot), z_xw Z g2 g2 sg2 rw2 → z_mw Z g2 sg2 rw2 → z_S Z (fun q : Nat => s.heap.size ≤ q) s.heap g2 H2 locs2 → lv_has ls2 4 [(0, .ref b), (1, .ref (Z.2.1 0)), (2, .ref (Z.2.1 41)), (3, .int iv)] → W p l e room_1 s m #[Value.ref b] below meth c H2 locs2 cells slots Q (F0 m 1429 ls2 [])) : W p l e room_1 s m #[Value.ref b] below meth c H locs cells slots Q (F0 m 946 ls []) := by
  obtain ⟨hx, hb, hr, hml, hown, hts0, hX, hbl, hlocks, hgv⟩ := id C0
  have hts : ∀ w ∈ wsL_law, w.before #[Value.ref b] s = true := fun w h => hts0 w (wsL_law_in w h)
  have hown : s.vm.findClass RL = some m.cls := hown
  have hbA : ¬ (fun q : Nat => s.heap.size ≤ q) b := Nat.not_le.mpr hbl
  have h_x0 := hXw.1.2.1
  obtain ⟨a1, ea1⟩ : ∃ z : Int32, z = xs (iv + 1).toNatClampNeg := ⟨_, rfl⟩
  refine lv_aload_n hx hb dL_law_946 rfl (lv_at hl 1 rfl) ?_
  refine lv_aload_n hx hb dL_law_947 rfl (lv_at hl 0 rfl) ?_
  refine lv_iload_n hx hb dL_law_948 rfl (lv_at hl 3 rfl) ?_
  refine lv_iconst (v := 1) hx hb dL_law_949 (by decide) ?_
  refine lv_iadd hx hb dL_law_950 ?_
  refine va_sld hx hb hX hbl hbA hS.2.2.1 (law_ix (j := 1) hi0 hiL hL (by decide) (by decide)) dL_law_951 ?_
  rw [← ea1]
  refine z_calli (z_runV (As := [.int a1]) (rest := []) ⟨hx, hb, hml, hown, hts⟩ hK hS ((k_clear Z g sg rw9 hXw a1) l _) gL_law_X9_clear rfl 1 (by decide +kernel) ⟨(Nat.le_of_ble_eq_true rfl), (Nat.le_of_ble_eq_true rfl)⟩ h_x0 (by omega) rfl rfl hl.1 rfl (Nat.le_of_ble_eq_true rfl) dL_law_952 hcs) hS (fun r1 g1 H locs hp1 hS => ?_)
  have hMw1 := law_m hMw hp1.2
  obtain ⟨_, _, _, _, _, _, _, _, _, _, h_m1, -⟩ := id hMw1.1
  refine lv_aload_n hx hb dL_law_955 rfl (lv_at hl 2 rfl) ?_
  refine lv_aload_n hx hb dL_law_956 rfl (lv_at hl 0 rfl) ?_
  refine lv_iload_n hx hb dL_law_957 rfl (lv_at hl 3 rfl) ?_
  refine lv_iconst (v := 1) hx hb dL_law_958 (by decide) ?_
  refine lv_iadd hx hb dL_law_959 ?_
  refine va_sld hx hb hX hbl hbA hS.2.2.1 (law_ix (j := 1) hi0 hiL hL (by decide) (by decide)) dL_law_960 ?_
  rw [← ea1]
  refine z_calli (z_runV (As := [.int a1]) (rest := [.int r1]) ⟨hx, hb, hml, hown, hts⟩ hK hS ((m_clear Z g1 sg rw9 hMw1 a1) l _) gL_law_X10_clear rfl 1 (by decide +kernel) ⟨(Nat.le_of_ble_eq_true rfl), (Nat.le_of_ble_eq_true rfl)⟩ h_m1 (by omega) rfl rfl hl.1 rfl (Nat.le_of_ble_eq_true rfl) dL_law_961 hcs) hS (fun r2 g2 H locs hp2 hS => ?_)
  have hlw := law_i hp1 hp2
  refine lv_icmp_eq (tgt := 1429) hx hb dL_law_964 (by decide) (fun _ => ?_) (fun c9 => absurd hlw.1 c9)
  exact back g2 _ _ H locs ls hlw.2.1 hlw.2.2 hS hl

set_option maxHeartbeats 4000000 in
set_option maxRecDepth 100000 in
theorem lw_case_21 {p : Program} {e : Env} {s : State} {m : MethodId} {below : List Frame} {meth : Method} {c : Code} (l : Launch) {Q : State → Prop} {b L : Nat} {xs : Nat → Int32} (C0 : lw_At p s m meth c b L xs) (hL : L ≤ 3072) (Z : zT) (hZ : 57 ≤ Z.1) (hK : z_K Z s) {cells slots : Nat} (hcs : cells ≤ room_1.cells ∧ slots ≤ room_1.slots) {iv : Int32} (hi0 : 0 ≤ iv.toInt) (hiL : iv.toInt + 6 ≤ L) {g : Nat → va_E} {sg : Nat → zb} {rw9 : Nat → zr} {H : Heap} {locs : List Loc} {ls : Array Slot} (hXw : z_xw Z g g sg rw9) (hMw : z_mw Z g sg rw9) (hS : z_S Z (fun q : Nat => s.heap.size ≤ q) s.heap g H locs) (hl : lv_has ls 4 [(0, .ref b), (1, .ref (Z.2.1 0)), (2, .ref (Z.2.1 41)), (3, .int iv)]) (back : ∀ (g2 : Nat → va_E) (sg2 : Nat → zb) (rw2 : Nat → zr) (H2 : Heap) (locs2 : List Loc) (ls2 : Array Slot), z_xw Z g2 g2 sg2 rw2 → z_mw Z g2 sg2 rw2 → z_S Z (fun q : Nat => s.heap.size ≤ q) s.heap g2 H2 locs2 → lv_has ls2 4 [(0, .ref b), (1, .ref (Z.2.1 0)), (2, .ref (Z.2.1 41)), (3, .int iv)] → W p l e room_1 s m #[Value.ref b] below meth c H2 locs2 cells slots Q (F0 m 1429 ls2 [])) : W p l e room_1 s m #[Value.ref b] below meth c H locs cells slots Q (F0 m 969 ls []) := by
  obtain ⟨hx, hb, hr, hml, hown, hts0, hX, hbl, hlocks, hgv⟩ := id C0
  have hts : ∀ w ∈ wsL_law, w.before #[Value.ref b] s = true := fun w h => hts0 w (wsL_law_in w h)
  have hown : s.vm.findClass RL = some m.cls := hown
  have hbA : ¬ (fun q : Nat => s.heap.size ≤ q) b := Nat.not_le.mpr hbl
  have h_x0 := hXw.1.2.1
  obtain ⟨a1, ea1⟩ : ∃ z : Int32, z = xs (iv + 1).toNatClampNeg := ⟨_, rfl⟩
  refine lv_aload_n hx hb dL_law_969 rfl (lv_at hl 1 rfl) ?_
  refine lv_aload_n hx hb dL_law_970 rfl (lv_at hl 0 rfl) ?_
  refine lv_iload_n hx hb dL_law_971 rfl (lv_at hl 3 rfl) ?_
  refine lv_iconst (v := 1) hx hb dL_law_972 (by decide) ?_
  refine lv_iadd hx hb dL_law_973 ?_
  refine va_sld hx hb hX hbl hbA hS.2.2.1 (law_ix (j := 1) hi0 hiL hL (by decide) (by decide)) dL_law_974 ?_
  rw [← ea1]
  refine z_calli (z_runV (As := [.int a1]) (rest := []) ⟨hx, hb, hml, hown, hts⟩ hK hS ((k_size Z g sg rw9 hXw a1) l _) gL_law_X9_size rfl 1 (by decide +kernel) ⟨(Nat.le_of_ble_eq_true rfl), (Nat.le_of_ble_eq_true rfl)⟩ h_x0 (by omega) rfl rfl hl.1 rfl (Nat.le_of_ble_eq_true rfl) dL_law_975 hcs) hS (fun r1 g1 H locs hp1 hS => ?_)
  have hMw1 := law_m hMw hp1.2
  obtain ⟨_, _, _, _, _, _, _, _, _, _, h_m1, -⟩ := id hMw1.1
  refine lv_aload_n hx hb dL_law_978 rfl (lv_at hl 2 rfl) ?_
  refine lv_aload_n hx hb dL_law_979 rfl (lv_at hl 0 rfl) ?_
  refine lv_iload_n hx hb dL_law_980 rfl (lv_at hl 3 rfl) ?_
  refine lv_iconst (v := 1) hx hb dL_law_981 (by decide) ?_
  refine lv_iadd hx hb dL_law_982 ?_
  refine va_sld hx hb hX hbl hbA hS.2.2.1 (law_ix (j := 1) hi0 hiL hL (by decide) (by decide)) dL_law_983 ?_
  rw [← ea1]
  refine z_calli (z_runV (As := [.int a1]) (rest := [.int r1]) ⟨hx, hb, hml, hown, hts⟩ hK hS ((m_size Z g1 sg rw9 hMw1 a1) l _) gL_law_X10_size rfl 1 (by decide +kernel) ⟨(Nat.le_of_ble_eq_true rfl), (Nat.le_of_ble_eq_true rfl)⟩ h_m1 (by omega) rfl rfl hl.1 rfl (Nat.le_of_ble_eq_true rfl) dL_law_984 hcs) hS (fun r2 g2 H locs hp2 hS => ?_)
  have hlw := law_i hp1 hp2
  refine lv_icmp_eq (tgt := 1429) hx hb dL_law_987 (by decide) (fun _ => ?_) (fun c9 => absurd hlw.1 c9)
  exact back g2 _ _ H locs ls hlw.2.1 hlw.2.2 hS hl

set_option maxHeartbeats 4000000 in
set_option maxRecDepth 100000 in
theorem lw_case_22 {p : Program} {e : Env} {s : State} {m : MethodId} {below : List Frame} {meth : Method} {c : Code} (l : Launch) {Q : State → Prop} {b L : Nat} {xs : Nat → Int32} (C0 : lw_At p s m meth c b L xs) (hL : L ≤ 3072) (Z : zT) (hZ : 57 ≤ Z.1) (hK : z_K Z s) {cells slots : Nat} (hcs : cells ≤ room_1.cells ∧ slots ≤ room_1.slots) {iv : Int32} (hi0 : 0 ≤ iv.toInt) (hiL : iv.toInt + 6 ≤ L) {g : Nat → va_E} {sg : Nat → zb} {rw9 : Nat → zr} {H : Heap} {locs : List Loc} {ls : Array Slot} (hXw : z_xw Z g g sg rw9) (hMw : z_mw Z g sg rw9) (hS : z_S Z (fun q : Nat => s.heap.size ≤ q) s.heap g H locs) (hl : lv_has ls 4 [(0, .ref b), (1, .ref (Z.2.1 0)), (2, .ref (Z.2.1 41)), (3, .int iv)]) (back : ∀ (g2 : Nat → va_E) (sg2 : Nat → zb) (rw2 : Nat → zr) (H2 : Heap) (locs2 : List Loc) (ls2 : Array Slot), z_xw Z g2 g2 sg2 rw2 → z_mw Z g2 sg2 rw2 → z_S Z (fun q : Nat => s.heap.size ≤ q) s.heap g2 H2 locs2 → lv_has ls2 4 [(0, .ref b), (1, .ref (Z.2.1 0)), (2, .ref (Z.2.1 41)), (3, .int iv)] → W p l e room_1 s m #[Value.ref b] below meth c H2 locs2 cells slots Q (F0 m 1429 ls2 [])) : W p l e room_1 s m #[Value.ref b] below meth c H locs cells slots Q (F0 m 992 ls []) := by
  obtain ⟨hx, hb, hr, hml, hown, hts0, hX, hbl, hlocks, hgv⟩ := id C0
  have hts : ∀ w ∈ wsL_law, w.before #[Value.ref b] s = true := fun w h => hts0 w (wsL_law_in w h)
  have hown : s.vm.findClass RL = some m.cls := hown
  have hbA : ¬ (fun q : Nat => s.heap.size ≤ q) b := Nat.not_le.mpr hbl
  have h_x0 := hXw.1.2.1
  obtain ⟨a1, ea1⟩ : ∃ z : Int32, z = xs (iv + 1).toNatClampNeg := ⟨_, rfl⟩
  obtain ⟨a2, ea2⟩ : ∃ z : Int32, z = xs (iv + 2).toNatClampNeg := ⟨_, rfl⟩
  refine lv_aload_n hx hb dL_law_992 rfl (lv_at hl 1 rfl) ?_
  refine lv_aload_n hx hb dL_law_993 rfl (lv_at hl 0 rfl) ?_
  refine lv_iload_n hx hb dL_law_994 rfl (lv_at hl 3 rfl) ?_
  refine lv_iconst (v := 1) hx hb dL_law_995 (by decide) ?_
  refine lv_iadd hx hb dL_law_996 ?_
  refine va_sld hx hb hX hbl hbA hS.2.2.1 (law_ix (j := 1) hi0 hiL hL (by decide) (by decide)) dL_law_997 ?_
  rw [← ea1]
  refine lv_aload_n hx hb dL_law_998 rfl (lv_at hl 0 rfl) ?_
  refine lv_iload_n hx hb dL_law_999 rfl (lv_at hl 3 rfl) ?_
  refine lv_iconst (v := 2) hx hb dL_law_1000 (by decide) ?_
  refine lv_iadd hx hb dL_law_1001 ?_
  refine va_sld hx hb hX hbl hbA hS.2.2.1 (law_ix (j := 2) hi0 hiL hL (by decide) (by decide)) dL_law_1002 ?_
  rw [← ea2]
  refine z_calli (z_runV (As := [.int a1, .int a2]) (rest := []) ⟨hx, hb, hml, hown, hts⟩ hK hS ((k_entry Z g sg rw9 hXw a1 a2) l _) gL_law_X9_entry rfl 2 (by decide +kernel) ⟨(Nat.le_of_ble_eq_true rfl), (Nat.le_of_ble_eq_true rfl)⟩ h_x0 (by omega) rfl rfl hl.1 rfl (Nat.le_of_ble_eq_true rfl) dL_law_1003 hcs) hS (fun r1 g1 H locs hp1 hS => ?_)
  have hMw1 := law_m hMw hp1.2
  obtain ⟨_, _, _, _, _, _, _, _, _, _, h_m1, -⟩ := id hMw1.1
  refine lv_aload_n hx hb dL_law_1006 rfl (lv_at hl 2 rfl) ?_
  refine lv_aload_n hx hb dL_law_1007 rfl (lv_at hl 0 rfl) ?_
  refine lv_iload_n hx hb dL_law_1008 rfl (lv_at hl 3 rfl) ?_
  refine lv_iconst (v := 1) hx hb dL_law_1009 (by decide) ?_
  refine lv_iadd hx hb dL_law_1010 ?_
  refine va_sld hx hb hX hbl hbA hS.2.2.1 (law_ix (j := 1) hi0 hiL hL (by decide) (by decide)) dL_law_1011 ?_
  rw [← ea1]
  refine lv_aload_n hx hb dL_law_1012 rfl (lv_at hl 0 rfl) ?_
  refine lv_iload_n hx hb dL_law_1013 rfl (lv_at hl 3 rfl) ?_
  refine lv_iconst (v := 2) hx hb dL_law_1014 (by decide) ?_
  refine lv_iadd hx hb dL_law_1015 ?_
  refine va_sld hx hb hX hbl hbA hS.2.2.1 (law_ix (j := 2) hi0 hiL hL (by decide) (by decide)) dL_law_1016 ?_
  rw [← ea2]
  refine z_calli (z_runV (As := [.int a1, .int a2]) (rest := [.int r1]) ⟨hx, hb, hml, hown, hts⟩ hK hS ((m_entry Z g1 sg rw9 hMw1 a1 a2) l _) gL_law_X10_entry rfl 2 (by decide +kernel) ⟨(Nat.le_of_ble_eq_true rfl), (Nat.le_of_ble_eq_true rfl)⟩ h_m1 (by omega) rfl rfl hl.1 rfl (Nat.le_of_ble_eq_true rfl) dL_law_1017 hcs) hS (fun r2 g2 H locs hp2 hS => ?_)
  have hlw := law_i hp1 hp2
  refine lv_icmp_eq (tgt := 1429) hx hb dL_law_1020 (by decide) (fun _ => ?_) (fun c9 => absurd hlw.1 c9)
  exact back g2 _ _ H locs ls hlw.2.1 hlw.2.2 hS hl

set_option maxHeartbeats 4000000 in
set_option maxRecDepth 100000 in
theorem lw_case_23 {p : Program} {e : Env} {s : State} {m : MethodId} {below : List Frame} {meth : Method} {c : Code} (l : Launch) {Q : State → Prop} {b L : Nat} {xs : Nat → Int32} (C0 : lw_At p s m meth c b L xs) (hL : L ≤ 3072) (Z : zT) (hZ : 57 ≤ Z.1) (hK : z_K Z s) {cells slots : Nat} (hcs : cells ≤ room_1.cells ∧ slots ≤ room_1.slots) {iv : Int32} (hi0 : 0 ≤ iv.toInt) (hiL : iv.toInt + 6 ≤ L) {g : Nat → va_E} {sg : Nat → zb} {rw9 : Nat → zr} {H : Heap} {locs : List Loc} {ls : Array Slot} (hXw : z_xw Z g g sg rw9) (hMw : z_mw Z g sg rw9) (hS : z_S Z (fun q : Nat => s.heap.size ≤ q) s.heap g H locs) (hl : lv_has ls 4 [(0, .ref b), (1, .ref (Z.2.1 0)), (2, .ref (Z.2.1 41)), (3, .int iv)]) (back : ∀ (g2 : Nat → va_E) (sg2 : Nat → zb) (rw2 : Nat → zr) (H2 : Heap) (locs2 : List Loc) (ls2 : Array Slot), z_xw Z g2 g2 sg2 rw2 → z_mw Z g2 sg2 rw2 → z_S Z (fun q : Nat => s.heap.size ≤ q) s.heap g2 H2 locs2 → lv_has ls2 4 [(0, .ref b), (1, .ref (Z.2.1 0)), (2, .ref (Z.2.1 41)), (3, .int iv)] → W p l e room_1 s m #[Value.ref b] below meth c H2 locs2 cells slots Q (F0 m 1429 ls2 [])) : W p l e room_1 s m #[Value.ref b] below meth c H locs cells slots Q (F0 m 1025 ls []) := by
  obtain ⟨hx, hb, hr, hml, hown, hts0, hX, hbl, hlocks, hgv⟩ := id C0
  have hts : ∀ w ∈ wsL_law, w.before #[Value.ref b] s = true := fun w h => hts0 w (wsL_law_in w h)
  have hown : s.vm.findClass RL = some m.cls := hown
  have hbA : ¬ (fun q : Nat => s.heap.size ≤ q) b := Nat.not_le.mpr hbl
  have h_x0 := hXw.1.2.1
  obtain ⟨a1, ea1⟩ : ∃ z : Int32, z = xs (iv + 1).toNatClampNeg := ⟨_, rfl⟩
  obtain ⟨a2, ea2⟩ : ∃ z : Int32, z = xs (iv + 2).toNatClampNeg := ⟨_, rfl⟩
  obtain ⟨a3, ea3⟩ : ∃ z : Int32, z = xs (iv + 3).toNatClampNeg := ⟨_, rfl⟩
  refine lv_aload_n hx hb dL_law_1025 rfl (lv_at hl 1 rfl) ?_
  refine lv_aload_n hx hb dL_law_1026 rfl (lv_at hl 0 rfl) ?_
  refine lv_iload_n hx hb dL_law_1027 rfl (lv_at hl 3 rfl) ?_
  refine lv_iconst (v := 1) hx hb dL_law_1028 (by decide) ?_
  refine lv_iadd hx hb dL_law_1029 ?_
  refine va_sld hx hb hX hbl hbA hS.2.2.1 (law_ix (j := 1) hi0 hiL hL (by decide) (by decide)) dL_law_1030 ?_
  rw [← ea1]
  refine lv_aload_n hx hb dL_law_1031 rfl (lv_at hl 0 rfl) ?_
  refine lv_iload_n hx hb dL_law_1032 rfl (lv_at hl 3 rfl) ?_
  refine lv_iconst (v := 2) hx hb dL_law_1033 (by decide) ?_
  refine lv_iadd hx hb dL_law_1034 ?_
  refine va_sld hx hb hX hbl hbA hS.2.2.1 (law_ix (j := 2) hi0 hiL hL (by decide) (by decide)) dL_law_1035 ?_
  rw [← ea2]
  refine lv_aload_n hx hb dL_law_1036 rfl (lv_at hl 0 rfl) ?_
  refine lv_iload_n hx hb dL_law_1037 rfl (lv_at hl 3 rfl) ?_
  refine lv_iconst (v := 3) hx hb dL_law_1038 (by decide) ?_
  refine lv_iadd hx hb dL_law_1039 ?_
  refine va_sld hx hb hX hbl hbA hS.2.2.1 (law_ix (j := 3) hi0 hiL hL (by decide) (by decide)) dL_law_1040 ?_
  rw [← ea3]
  refine lv_if_eq (tgt := 1048) hx hb dL_law_1041 (by decide) (fun cz => ?_) (fun cz => ?_)
  · refine lv_iconst (v := 0) hx hb dL_law_1048 (by decide) ?_
    refine z_calll (z_runV (As := [.int a1, .int a2, .int 0]) (rest := []) ⟨hx, hb, hml, hown, hts⟩ hK hS ((k_value Z g sg rw9 hXw a1 a2 0) l _) gL_law_X9_value rfl 3 (by decide +kernel) ⟨(Nat.le_of_ble_eq_true rfl), (Nat.le_of_ble_eq_true rfl)⟩ h_x0 (by omega) rfl rfl hl.1 rfl (Nat.le_of_ble_eq_true rfl) dL_law_1049 hcs) hS (fun r1 g1 H locs hp1 hS => ?_)
    have hMw1 := law_m hMw hp1.2
    obtain ⟨_, _, _, _, _, _, _, _, _, _, h_m1, -⟩ := id hMw1.1
    refine lv_aload_n hx hb dL_law_1052 rfl (lv_at hl 2 rfl) ?_
    refine lv_aload_n hx hb dL_law_1053 rfl (lv_at hl 0 rfl) ?_
    refine lv_iload_n hx hb dL_law_1054 rfl (lv_at hl 3 rfl) ?_
    refine lv_iconst (v := 1) hx hb dL_law_1055 (by decide) ?_
    refine lv_iadd hx hb dL_law_1056 ?_
    refine va_sld hx hb hX hbl hbA hS.2.2.1 (law_ix (j := 1) hi0 hiL hL (by decide) (by decide)) dL_law_1057 ?_
    rw [← ea1]
    refine lv_aload_n hx hb dL_law_1058 rfl (lv_at hl 0 rfl) ?_
    refine lv_iload_n hx hb dL_law_1059 rfl (lv_at hl 3 rfl) ?_
    refine lv_iconst (v := 2) hx hb dL_law_1060 (by decide) ?_
    refine lv_iadd hx hb dL_law_1061 ?_
    refine va_sld hx hb hX hbl hbA hS.2.2.1 (law_ix (j := 2) hi0 hiL hL (by decide) (by decide)) dL_law_1062 ?_
    rw [← ea2]
    refine lv_aload_n hx hb dL_law_1063 rfl (lv_at hl 0 rfl) ?_
    refine lv_iload_n hx hb dL_law_1064 rfl (lv_at hl 3 rfl) ?_
    refine lv_iconst (v := 3) hx hb dL_law_1065 (by decide) ?_
    refine lv_iadd hx hb dL_law_1066 ?_
    refine va_sld hx hb hX hbl hbA hS.2.2.1 (law_ix (j := 3) hi0 hiL hL (by decide) (by decide)) dL_law_1067 ?_
    rw [← ea3]
    refine lv_if_eq (tgt := 1075) hx hb dL_law_1068 (by decide) (fun _ => ?_) (fun c9 => absurd cz c9)
    refine lv_iconst (v := 0) hx hb dL_law_1075 (by decide) ?_
    refine z_calll (z_runV (As := [.int a1, .int a2, .int 0]) (rest := [.long r1]) ⟨hx, hb, hml, hown, hts⟩ hK hS ((m_value Z g1 sg rw9 hMw1 a1 a2 0) l _) gL_law_X10_value rfl 3 (by decide +kernel) ⟨(Nat.le_of_ble_eq_true rfl), (Nat.le_of_ble_eq_true rfl)⟩ h_m1 (by omega) rfl rfl hl.1 rfl (Nat.le_of_ble_eq_true rfl) dL_law_1076 hcs) hS (fun r2 g2 H locs hp2 hS => ?_)
    have hlw := law_l hp1 hp2
    refine W.lcmp hx hb dL_law_1079 ?_
    refine lv_if_eq (tgt := 1429) hx hb dL_law_1080 (by decide) (fun _ => ?_) (fun c9 => absurd (z_cmp0.mpr (congrArg Int64.toInt hlw.1)) c9)
    exact back g2 _ _ H locs ls hlw.2.1 hlw.2.2 hS hl
  · refine lv_iconst (v := 1) hx hb dL_law_1044 (by decide) ?_
    refine lv_goto (tgt := 1049) hx hb dL_law_1045 (by decide) ?_
    refine z_calll (z_runV (As := [.int a1, .int a2, .int 1]) (rest := []) ⟨hx, hb, hml, hown, hts⟩ hK hS ((k_value Z g sg rw9 hXw a1 a2 1) l _) gL_law_X9_value rfl 3 (by decide +kernel) ⟨(Nat.le_of_ble_eq_true rfl), (Nat.le_of_ble_eq_true rfl)⟩ h_x0 (by omega) rfl rfl hl.1 rfl (Nat.le_of_ble_eq_true rfl) dL_law_1049 hcs) hS (fun r1 g1 H locs hp1 hS => ?_)
    have hMw1 := law_m hMw hp1.2
    obtain ⟨_, _, _, _, _, _, _, _, _, _, h_m1, -⟩ := id hMw1.1
    refine lv_aload_n hx hb dL_law_1052 rfl (lv_at hl 2 rfl) ?_
    refine lv_aload_n hx hb dL_law_1053 rfl (lv_at hl 0 rfl) ?_
    refine lv_iload_n hx hb dL_law_1054 rfl (lv_at hl 3 rfl) ?_
    refine lv_iconst (v := 1) hx hb dL_law_1055 (by decide) ?_
    refine lv_iadd hx hb dL_law_1056 ?_
    refine va_sld hx hb hX hbl hbA hS.2.2.1 (law_ix (j := 1) hi0 hiL hL (by decide) (by decide)) dL_law_1057 ?_
    rw [← ea1]
    refine lv_aload_n hx hb dL_law_1058 rfl (lv_at hl 0 rfl) ?_
    refine lv_iload_n hx hb dL_law_1059 rfl (lv_at hl 3 rfl) ?_
    refine lv_iconst (v := 2) hx hb dL_law_1060 (by decide) ?_
    refine lv_iadd hx hb dL_law_1061 ?_
    refine va_sld hx hb hX hbl hbA hS.2.2.1 (law_ix (j := 2) hi0 hiL hL (by decide) (by decide)) dL_law_1062 ?_
    rw [← ea2]
    refine lv_aload_n hx hb dL_law_1063 rfl (lv_at hl 0 rfl) ?_
    refine lv_iload_n hx hb dL_law_1064 rfl (lv_at hl 3 rfl) ?_
    refine lv_iconst (v := 3) hx hb dL_law_1065 (by decide) ?_
    refine lv_iadd hx hb dL_law_1066 ?_
    refine va_sld hx hb hX hbl hbA hS.2.2.1 (law_ix (j := 3) hi0 hiL hL (by decide) (by decide)) dL_law_1067 ?_
    rw [← ea3]
    refine lv_if_eq (tgt := 1075) hx hb dL_law_1068 (by decide) (fun c9 => absurd c9 cz) (fun _ => ?_)
    refine lv_iconst (v := 1) hx hb dL_law_1071 (by decide) ?_
    refine lv_goto (tgt := 1076) hx hb dL_law_1072 (by decide) ?_
    refine z_calll (z_runV (As := [.int a1, .int a2, .int 1]) (rest := [.long r1]) ⟨hx, hb, hml, hown, hts⟩ hK hS ((m_value Z g1 sg rw9 hMw1 a1 a2 1) l _) gL_law_X10_value rfl 3 (by decide +kernel) ⟨(Nat.le_of_ble_eq_true rfl), (Nat.le_of_ble_eq_true rfl)⟩ h_m1 (by omega) rfl rfl hl.1 rfl (Nat.le_of_ble_eq_true rfl) dL_law_1076 hcs) hS (fun r2 g2 H locs hp2 hS => ?_)
    have hlw := law_l hp1 hp2
    refine W.lcmp hx hb dL_law_1079 ?_
    refine lv_if_eq (tgt := 1429) hx hb dL_law_1080 (by decide) (fun _ => ?_) (fun c9 => absurd (z_cmp0.mpr (congrArg Int64.toInt hlw.1)) c9)
    exact back g2 _ _ H locs ls hlw.2.1 hlw.2.2 hS hl

set_option maxHeartbeats 4000000 in
set_option maxRecDepth 100000 in
theorem lw_case_24 {p : Program} {e : Env} {s : State} {m : MethodId} {below : List Frame} {meth : Method} {c : Code} (l : Launch) {Q : State → Prop} {b L : Nat} {xs : Nat → Int32} (C0 : lw_At p s m meth c b L xs) (hL : L ≤ 3072) (Z : zT) (hZ : 57 ≤ Z.1) (hK : z_K Z s) {cells slots : Nat} (hcs : cells ≤ room_1.cells ∧ slots ≤ room_1.slots) {iv : Int32} (hi0 : 0 ≤ iv.toInt) (hiL : iv.toInt + 6 ≤ L) {g : Nat → va_E} {sg : Nat → zb} {rw9 : Nat → zr} {H : Heap} {locs : List Loc} {ls : Array Slot} (hXw : z_xw Z g g sg rw9) (hMw : z_mw Z g sg rw9) (hS : z_S Z (fun q : Nat => s.heap.size ≤ q) s.heap g H locs) (hl : lv_has ls 4 [(0, .ref b), (1, .ref (Z.2.1 0)), (2, .ref (Z.2.1 41)), (3, .int iv)]) (back : ∀ (g2 : Nat → va_E) (sg2 : Nat → zb) (rw2 : Nat → zr) (H2 : Heap) (locs2 : List Loc) (ls2 : Array Slot), z_xw Z g2 g2 sg2 rw2 → z_mw Z g2 sg2 rw2 → z_S Z (fun q : Nat => s.heap.size ≤ q) s.heap g2 H2 locs2 → lv_has ls2 4 [(0, .ref b), (1, .ref (Z.2.1 0)), (2, .ref (Z.2.1 41)), (3, .int iv)] → W p l e room_1 s m #[Value.ref b] below meth c H2 locs2 cells slots Q (F0 m 1429 ls2 [])) : W p l e room_1 s m #[Value.ref b] below meth c H locs cells slots Q (F0 m 1085 ls []) := by
  obtain ⟨hx, hb, hr, hml, hown, hts0, hX, hbl, hlocks, hgv⟩ := id C0
  have hts : ∀ w ∈ wsL_law, w.before #[Value.ref b] s = true := fun w h => hts0 w (wsL_law_in w h)
  have hown : s.vm.findClass RL = some m.cls := hown
  have hbA : ¬ (fun q : Nat => s.heap.size ≤ q) b := Nat.not_le.mpr hbl
  have h_x0 := hXw.1.2.1
  obtain ⟨a1, ea1⟩ : ∃ z : Int32, z = xs (iv + 1).toNatClampNeg := ⟨_, rfl⟩
  obtain ⟨a2, ea2⟩ : ∃ z : Int32, z = xs (iv + 2).toNatClampNeg := ⟨_, rfl⟩
  obtain ⟨a3, ea3⟩ : ∃ z : Int32, z = xs (iv + 3).toNatClampNeg := ⟨_, rfl⟩
  obtain ⟨a4, ea4⟩ : ∃ z : Int32, z = xs (iv + 4).toNatClampNeg := ⟨_, rfl⟩
  refine lv_aload_n hx hb dL_law_1085 rfl (lv_at hl 1 rfl) ?_
  refine lv_aload_n hx hb dL_law_1086 rfl (lv_at hl 0 rfl) ?_
  refine lv_iload_n hx hb dL_law_1087 rfl (lv_at hl 3 rfl) ?_
  refine lv_iconst (v := 1) hx hb dL_law_1088 (by decide) ?_
  refine lv_iadd hx hb dL_law_1089 ?_
  refine va_sld hx hb hX hbl hbA hS.2.2.1 (law_ix (j := 1) hi0 hiL hL (by decide) (by decide)) dL_law_1090 ?_
  rw [← ea1]
  refine lv_aload_n hx hb dL_law_1091 rfl (lv_at hl 0 rfl) ?_
  refine lv_iload_n hx hb dL_law_1092 rfl (lv_at hl 3 rfl) ?_
  refine lv_iconst (v := 2) hx hb dL_law_1093 (by decide) ?_
  refine lv_iadd hx hb dL_law_1094 ?_
  refine va_sld hx hb hX hbl hbA hS.2.2.1 (law_ix (j := 2) hi0 hiL hL (by decide) (by decide)) dL_law_1095 ?_
  rw [← ea2]
  refine lv_aload_n hx hb dL_law_1096 rfl (lv_at hl 0 rfl) ?_
  refine lv_iload_n hx hb dL_law_1097 rfl (lv_at hl 3 rfl) ?_
  refine lv_iconst (v := 3) hx hb dL_law_1098 (by decide) ?_
  refine lv_iadd hx hb dL_law_1099 ?_
  refine va_sld hx hb hX hbl hbA hS.2.2.1 (law_ix (j := 3) hi0 hiL hL (by decide) (by decide)) dL_law_1100 ?_
  rw [← ea3]
  refine lv_aload_n hx hb dL_law_1101 rfl (lv_at hl 0 rfl) ?_
  refine lv_iload_n hx hb dL_law_1102 rfl (lv_at hl 3 rfl) ?_
  refine lv_iconst (v := 4) hx hb dL_law_1103 (by decide) ?_
  refine lv_iadd hx hb dL_law_1104 ?_
  refine va_sld hx hb hX hbl hbA hS.2.2.1 (law_ix (j := 4) hi0 hiL hL (by decide) (by decide)) dL_law_1105 ?_
  rw [← ea4]
  refine z_calli (z_runV (As := [.int a1, .int a2, .int a3, .int a4]) (rest := []) ⟨hx, hb, hml, hown, hts⟩ hK hS ((k_compare Z g sg rw9 hXw a1 a2 a3 a4) l _) gL_law_X9_compare rfl 4 (by decide +kernel) ⟨(Nat.le_of_ble_eq_true rfl), (Nat.le_of_ble_eq_true rfl)⟩ h_x0 (by omega) rfl rfl hl.1 rfl (Nat.le_of_ble_eq_true rfl) dL_law_1106 hcs) hS (fun r1 g1 H locs hp1 hS => ?_)
  have hMw1 := law_m hMw hp1.2
  obtain ⟨_, _, _, _, _, _, _, _, _, _, h_m1, -⟩ := id hMw1.1
  refine lv_aload_n hx hb dL_law_1109 rfl (lv_at hl 2 rfl) ?_
  refine lv_aload_n hx hb dL_law_1110 rfl (lv_at hl 0 rfl) ?_
  refine lv_iload_n hx hb dL_law_1111 rfl (lv_at hl 3 rfl) ?_
  refine lv_iconst (v := 1) hx hb dL_law_1112 (by decide) ?_
  refine lv_iadd hx hb dL_law_1113 ?_
  refine va_sld hx hb hX hbl hbA hS.2.2.1 (law_ix (j := 1) hi0 hiL hL (by decide) (by decide)) dL_law_1114 ?_
  rw [← ea1]
  refine lv_aload_n hx hb dL_law_1115 rfl (lv_at hl 0 rfl) ?_
  refine lv_iload_n hx hb dL_law_1116 rfl (lv_at hl 3 rfl) ?_
  refine lv_iconst (v := 2) hx hb dL_law_1117 (by decide) ?_
  refine lv_iadd hx hb dL_law_1118 ?_
  refine va_sld hx hb hX hbl hbA hS.2.2.1 (law_ix (j := 2) hi0 hiL hL (by decide) (by decide)) dL_law_1119 ?_
  rw [← ea2]
  refine lv_aload_n hx hb dL_law_1120 rfl (lv_at hl 0 rfl) ?_
  refine lv_iload_n hx hb dL_law_1121 rfl (lv_at hl 3 rfl) ?_
  refine lv_iconst (v := 3) hx hb dL_law_1122 (by decide) ?_
  refine lv_iadd hx hb dL_law_1123 ?_
  refine va_sld hx hb hX hbl hbA hS.2.2.1 (law_ix (j := 3) hi0 hiL hL (by decide) (by decide)) dL_law_1124 ?_
  rw [← ea3]
  refine lv_aload_n hx hb dL_law_1125 rfl (lv_at hl 0 rfl) ?_
  refine lv_iload_n hx hb dL_law_1126 rfl (lv_at hl 3 rfl) ?_
  refine lv_iconst (v := 4) hx hb dL_law_1127 (by decide) ?_
  refine lv_iadd hx hb dL_law_1128 ?_
  refine va_sld hx hb hX hbl hbA hS.2.2.1 (law_ix (j := 4) hi0 hiL hL (by decide) (by decide)) dL_law_1129 ?_
  rw [← ea4]
  refine z_calli (z_runV (As := [.int a1, .int a2, .int a3, .int a4]) (rest := [.int r1]) ⟨hx, hb, hml, hown, hts⟩ hK hS ((m_compare Z g1 sg rw9 hMw1 a1 a2 a3 a4) l _) gL_law_X10_compare rfl 4 (by decide +kernel) ⟨(Nat.le_of_ble_eq_true rfl), (Nat.le_of_ble_eq_true rfl)⟩ h_m1 (by omega) rfl rfl hl.1 rfl (Nat.le_of_ble_eq_true rfl) dL_law_1130 hcs) hS (fun r2 g2 H locs hp2 hS => ?_)
  have hlw := law_i hp1 hp2
  refine lv_icmp_eq (tgt := 1429) hx hb dL_law_1133 (by decide) (fun _ => ?_) (fun c9 => absurd hlw.1 c9)
  exact back g2 _ _ H locs ls hlw.2.1 hlw.2.2 hS hl

set_option maxHeartbeats 4000000 in
set_option maxRecDepth 100000 in
theorem lw_case_25 {p : Program} {e : Env} {s : State} {m : MethodId} {below : List Frame} {meth : Method} {c : Code} (l : Launch) {Q : State → Prop} {b L : Nat} {xs : Nat → Int32} (C0 : lw_At p s m meth c b L xs) (hL : L ≤ 3072) (Z : zT) (hZ : 57 ≤ Z.1) (hK : z_K Z s) {cells slots : Nat} (hcs : cells ≤ room_1.cells ∧ slots ≤ room_1.slots) {iv : Int32} (hi0 : 0 ≤ iv.toInt) (hiL : iv.toInt + 6 ≤ L) {g : Nat → va_E} {sg : Nat → zb} {rw9 : Nat → zr} {H : Heap} {locs : List Loc} {ls : Array Slot} (hXw : z_xw Z g g sg rw9) (hMw : z_mw Z g sg rw9) (hS : z_S Z (fun q : Nat => s.heap.size ≤ q) s.heap g H locs) (hl : lv_has ls 4 [(0, .ref b), (1, .ref (Z.2.1 0)), (2, .ref (Z.2.1 41)), (3, .int iv)]) (back : ∀ (g2 : Nat → va_E) (sg2 : Nat → zb) (rw2 : Nat → zr) (H2 : Heap) (locs2 : List Loc) (ls2 : Array Slot), z_xw Z g2 g2 sg2 rw2 → z_mw Z g2 sg2 rw2 → z_S Z (fun q : Nat => s.heap.size ≤ q) s.heap g2 H2 locs2 → lv_has ls2 4 [(0, .ref b), (1, .ref (Z.2.1 0)), (2, .ref (Z.2.1 41)), (3, .int iv)] → W p l e room_1 s m #[Value.ref b] below meth c H2 locs2 cells slots Q (F0 m 1429 ls2 [])) : W p l e room_1 s m #[Value.ref b] below meth c H locs cells slots Q (F0 m 1138 ls []) := by
  obtain ⟨hx, hb, hr, hml, hown, hts0, hX, hbl, hlocks, hgv⟩ := id C0
  have hts : ∀ w ∈ wsL_law, w.before #[Value.ref b] s = true := fun w h => hts0 w (wsL_law_in w h)
  have hown : s.vm.findClass RL = some m.cls := hown
  have hbA : ¬ (fun q : Nat => s.heap.size ≤ q) b := Nat.not_le.mpr hbl
  have h_x0 := hXw.1.2.1
  obtain ⟨a1, ea1⟩ : ∃ z : Int32, z = xs (iv + 1).toNatClampNeg := ⟨_, rfl⟩
  obtain ⟨a2, ea2⟩ : ∃ z : Int32, z = xs (iv + 2).toNatClampNeg := ⟨_, rfl⟩
  obtain ⟨a3, ea3⟩ : ∃ z : Int32, z = xs (iv + 3).toNatClampNeg := ⟨_, rfl⟩
  refine lv_aload_n hx hb dL_law_1138 rfl (lv_at hl 1 rfl) ?_
  refine lv_aload_n hx hb dL_law_1139 rfl (lv_at hl 0 rfl) ?_
  refine lv_iload_n hx hb dL_law_1140 rfl (lv_at hl 3 rfl) ?_
  refine lv_iconst (v := 1) hx hb dL_law_1141 (by decide) ?_
  refine lv_iadd hx hb dL_law_1142 ?_
  refine va_sld hx hb hX hbl hbA hS.2.2.1 (law_ix (j := 1) hi0 hiL hL (by decide) (by decide)) dL_law_1143 ?_
  rw [← ea1]
  refine lv_aload_n hx hb dL_law_1144 rfl (lv_at hl 0 rfl) ?_
  refine lv_iload_n hx hb dL_law_1145 rfl (lv_at hl 3 rfl) ?_
  refine lv_iconst (v := 2) hx hb dL_law_1146 (by decide) ?_
  refine lv_iadd hx hb dL_law_1147 ?_
  refine va_sld hx hb hX hbl hbA hS.2.2.1 (law_ix (j := 2) hi0 hiL hL (by decide) (by decide)) dL_law_1148 ?_
  rw [← ea2]
  refine lv_aload_n hx hb dL_law_1149 rfl (lv_at hl 0 rfl) ?_
  refine lv_iload_n hx hb dL_law_1150 rfl (lv_at hl 3 rfl) ?_
  refine lv_iconst (v := 3) hx hb dL_law_1151 (by decide) ?_
  refine lv_iadd hx hb dL_law_1152 ?_
  refine va_sld hx hb hX hbl hbA hS.2.2.1 (law_ix (j := 3) hi0 hiL hL (by decide) (by decide)) dL_law_1153 ?_
  rw [← ea3]
  refine z_calli (z_runV (As := [.int a1, .int a2, .int a3]) (rest := []) ⟨hx, hb, hml, hown, hts⟩ hK hS ((k_load Z g sg rw9 hXw a1 a2 a3) l _) gL_law_X9_load rfl 3 (by decide +kernel) ⟨(Nat.le_of_ble_eq_true rfl), (Nat.le_of_ble_eq_true rfl)⟩ h_x0 (by omega) rfl rfl hl.1 rfl (Nat.le_of_ble_eq_true rfl) dL_law_1154 hcs) hS (fun r1 g1 H locs hp1 hS => ?_)
  have hMw1 := law_m hMw hp1.2
  obtain ⟨_, _, _, _, _, _, _, _, _, _, h_m1, -⟩ := id hMw1.1
  refine lv_aload_n hx hb dL_law_1157 rfl (lv_at hl 2 rfl) ?_
  refine lv_aload_n hx hb dL_law_1158 rfl (lv_at hl 0 rfl) ?_
  refine lv_iload_n hx hb dL_law_1159 rfl (lv_at hl 3 rfl) ?_
  refine lv_iconst (v := 1) hx hb dL_law_1160 (by decide) ?_
  refine lv_iadd hx hb dL_law_1161 ?_
  refine va_sld hx hb hX hbl hbA hS.2.2.1 (law_ix (j := 1) hi0 hiL hL (by decide) (by decide)) dL_law_1162 ?_
  rw [← ea1]
  refine lv_aload_n hx hb dL_law_1163 rfl (lv_at hl 0 rfl) ?_
  refine lv_iload_n hx hb dL_law_1164 rfl (lv_at hl 3 rfl) ?_
  refine lv_iconst (v := 2) hx hb dL_law_1165 (by decide) ?_
  refine lv_iadd hx hb dL_law_1166 ?_
  refine va_sld hx hb hX hbl hbA hS.2.2.1 (law_ix (j := 2) hi0 hiL hL (by decide) (by decide)) dL_law_1167 ?_
  rw [← ea2]
  refine lv_aload_n hx hb dL_law_1168 rfl (lv_at hl 0 rfl) ?_
  refine lv_iload_n hx hb dL_law_1169 rfl (lv_at hl 3 rfl) ?_
  refine lv_iconst (v := 3) hx hb dL_law_1170 (by decide) ?_
  refine lv_iadd hx hb dL_law_1171 ?_
  refine va_sld hx hb hX hbl hbA hS.2.2.1 (law_ix (j := 3) hi0 hiL hL (by decide) (by decide)) dL_law_1172 ?_
  rw [← ea3]
  refine z_calli (z_runV (As := [.int a1, .int a2, .int a3]) (rest := [.int r1]) ⟨hx, hb, hml, hown, hts⟩ hK hS ((m_load Z g1 sg rw9 hMw1 a1 a2 a3) l _) gL_law_X10_load rfl 3 (by decide +kernel) ⟨(Nat.le_of_ble_eq_true rfl), (Nat.le_of_ble_eq_true rfl)⟩ h_m1 (by omega) rfl rfl hl.1 rfl (Nat.le_of_ble_eq_true rfl) dL_law_1173 hcs) hS (fun r2 g2 H locs hp2 hS => ?_)
  have hlw := law_i hp1 hp2
  refine lv_icmp_eq (tgt := 1429) hx hb dL_law_1176 (by decide) (fun _ => ?_) (fun c9 => absurd hlw.1 c9)
  exact back g2 _ _ H locs ls hlw.2.1 hlw.2.2 hS hl

set_option maxHeartbeats 4000000 in
set_option maxRecDepth 100000 in
theorem lw_case_26 {p : Program} {e : Env} {s : State} {m : MethodId} {below : List Frame} {meth : Method} {c : Code} (l : Launch) {Q : State → Prop} {b L : Nat} {xs : Nat → Int32} (C0 : lw_At p s m meth c b L xs) (hL : L ≤ 3072) (Z : zT) (hZ : 57 ≤ Z.1) (hK : z_K Z s) {cells slots : Nat} (hcs : cells ≤ room_1.cells ∧ slots ≤ room_1.slots) {iv : Int32} (hi0 : 0 ≤ iv.toInt) (hiL : iv.toInt + 6 ≤ L) {g : Nat → va_E} {sg : Nat → zb} {rw9 : Nat → zr} {H : Heap} {locs : List Loc} {ls : Array Slot} (hXw : z_xw Z g g sg rw9) (hMw : z_mw Z g sg rw9) (hS : z_S Z (fun q : Nat => s.heap.size ≤ q) s.heap g H locs) (hl : lv_has ls 4 [(0, .ref b), (1, .ref (Z.2.1 0)), (2, .ref (Z.2.1 41)), (3, .int iv)]) (back : ∀ (g2 : Nat → va_E) (sg2 : Nat → zb) (rw2 : Nat → zr) (H2 : Heap) (locs2 : List Loc) (ls2 : Array Slot), z_xw Z g2 g2 sg2 rw2 → z_mw Z g2 sg2 rw2 → z_S Z (fun q : Nat => s.heap.size ≤ q) s.heap g2 H2 locs2 → lv_has ls2 4 [(0, .ref b), (1, .ref (Z.2.1 0)), (2, .ref (Z.2.1 41)), (3, .int iv)] → W p l e room_1 s m #[Value.ref b] below meth c H2 locs2 cells slots Q (F0 m 1429 ls2 [])) : W p l e room_1 s m #[Value.ref b] below meth c H locs cells slots Q (F0 m 1181 ls []) := by
  obtain ⟨hx, hb, hr, hml, hown, hts0, hX, hbl, hlocks, hgv⟩ := id C0
  have hts : ∀ w ∈ wsL_law, w.before #[Value.ref b] s = true := fun w h => hts0 w (wsL_law_in w h)
  have hown : s.vm.findClass RL = some m.cls := hown
  have hbA : ¬ (fun q : Nat => s.heap.size ≤ q) b := Nat.not_le.mpr hbl
  have h_x0 := hXw.1.2.1
  obtain ⟨a1, ea1⟩ : ∃ z : Int32, z = xs (iv + 1).toNatClampNeg := ⟨_, rfl⟩
  obtain ⟨a2, ea2⟩ : ∃ z : Int32, z = xs (iv + 2).toNatClampNeg := ⟨_, rfl⟩
  obtain ⟨a3, ea3⟩ : ∃ z : Int32, z = xs (iv + 3).toNatClampNeg := ⟨_, rfl⟩
  obtain ⟨a4, ea4⟩ : ∃ z : Int32, z = xs (iv + 4).toNatClampNeg := ⟨_, rfl⟩
  refine lv_aload_n hx hb dL_law_1181 rfl (lv_at hl 1 rfl) ?_
  refine lv_aload_n hx hb dL_law_1182 rfl (lv_at hl 0 rfl) ?_
  refine lv_iload_n hx hb dL_law_1183 rfl (lv_at hl 3 rfl) ?_
  refine lv_iconst (v := 1) hx hb dL_law_1184 (by decide) ?_
  refine lv_iadd hx hb dL_law_1185 ?_
  refine va_sld hx hb hX hbl hbA hS.2.2.1 (law_ix (j := 1) hi0 hiL hL (by decide) (by decide)) dL_law_1186 ?_
  rw [← ea1]
  refine lv_aload_n hx hb dL_law_1187 rfl (lv_at hl 0 rfl) ?_
  refine lv_iload_n hx hb dL_law_1188 rfl (lv_at hl 3 rfl) ?_
  refine lv_iconst (v := 2) hx hb dL_law_1189 (by decide) ?_
  refine lv_iadd hx hb dL_law_1190 ?_
  refine va_sld hx hb hX hbl hbA hS.2.2.1 (law_ix (j := 2) hi0 hiL hL (by decide) (by decide)) dL_law_1191 ?_
  rw [← ea2]
  refine lv_aload_n hx hb dL_law_1192 rfl (lv_at hl 0 rfl) ?_
  refine lv_iload_n hx hb dL_law_1193 rfl (lv_at hl 3 rfl) ?_
  refine lv_iconst (v := 3) hx hb dL_law_1194 (by decide) ?_
  refine lv_iadd hx hb dL_law_1195 ?_
  refine va_sld hx hb hX hbl hbA hS.2.2.1 (law_ix (j := 3) hi0 hiL hL (by decide) (by decide)) dL_law_1196 ?_
  rw [← ea3]
  refine lv_aload_n hx hb dL_law_1197 rfl (lv_at hl 0 rfl) ?_
  refine lv_iload_n hx hb dL_law_1198 rfl (lv_at hl 3 rfl) ?_
  refine lv_iconst (v := 4) hx hb dL_law_1199 (by decide) ?_
  refine lv_iadd hx hb dL_law_1200 ?_
  refine va_sld hx hb hX hbl hbA hS.2.2.1 (law_ix (j := 4) hi0 hiL hL (by decide) (by decide)) dL_law_1201 ?_
  rw [← ea4]
  refine z_calli (z_runV (As := [.int a1, .int a2, .int a3, .int a4]) (rest := []) ⟨hx, hb, hml, hown, hts⟩ hK hS ((k_add Z g sg rw9 hXw a1 a2 a3 a4) l _) gL_law_X9_add rfl 4 (by decide +kernel) ⟨(Nat.le_of_ble_eq_true rfl), (Nat.le_of_ble_eq_true rfl)⟩ h_x0 (by omega) rfl rfl hl.1 rfl (Nat.le_of_ble_eq_true rfl) dL_law_1202 hcs) hS (fun r1 g1 H locs hp1 hS => ?_)
  have hMw1 := law_m hMw hp1.2
  obtain ⟨_, _, _, _, _, _, _, _, _, _, h_m1, -⟩ := id hMw1.1
  refine lv_aload_n hx hb dL_law_1205 rfl (lv_at hl 2 rfl) ?_
  refine lv_aload_n hx hb dL_law_1206 rfl (lv_at hl 0 rfl) ?_
  refine lv_iload_n hx hb dL_law_1207 rfl (lv_at hl 3 rfl) ?_
  refine lv_iconst (v := 1) hx hb dL_law_1208 (by decide) ?_
  refine lv_iadd hx hb dL_law_1209 ?_
  refine va_sld hx hb hX hbl hbA hS.2.2.1 (law_ix (j := 1) hi0 hiL hL (by decide) (by decide)) dL_law_1210 ?_
  rw [← ea1]
  refine lv_aload_n hx hb dL_law_1211 rfl (lv_at hl 0 rfl) ?_
  refine lv_iload_n hx hb dL_law_1212 rfl (lv_at hl 3 rfl) ?_
  refine lv_iconst (v := 2) hx hb dL_law_1213 (by decide) ?_
  refine lv_iadd hx hb dL_law_1214 ?_
  refine va_sld hx hb hX hbl hbA hS.2.2.1 (law_ix (j := 2) hi0 hiL hL (by decide) (by decide)) dL_law_1215 ?_
  rw [← ea2]
  refine lv_aload_n hx hb dL_law_1216 rfl (lv_at hl 0 rfl) ?_
  refine lv_iload_n hx hb dL_law_1217 rfl (lv_at hl 3 rfl) ?_
  refine lv_iconst (v := 3) hx hb dL_law_1218 (by decide) ?_
  refine lv_iadd hx hb dL_law_1219 ?_
  refine va_sld hx hb hX hbl hbA hS.2.2.1 (law_ix (j := 3) hi0 hiL hL (by decide) (by decide)) dL_law_1220 ?_
  rw [← ea3]
  refine lv_aload_n hx hb dL_law_1221 rfl (lv_at hl 0 rfl) ?_
  refine lv_iload_n hx hb dL_law_1222 rfl (lv_at hl 3 rfl) ?_
  refine lv_iconst (v := 4) hx hb dL_law_1223 (by decide) ?_
  refine lv_iadd hx hb dL_law_1224 ?_
  refine va_sld hx hb hX hbl hbA hS.2.2.1 (law_ix (j := 4) hi0 hiL hL (by decide) (by decide)) dL_law_1225 ?_
  rw [← ea4]
  refine z_calli (z_runV (As := [.int a1, .int a2, .int a3, .int a4]) (rest := [.int r1]) ⟨hx, hb, hml, hown, hts⟩ hK hS ((m_add Z g1 sg rw9 hMw1 a1 a2 a3 a4) l _) gL_law_X10_add rfl 4 (by decide +kernel) ⟨(Nat.le_of_ble_eq_true rfl), (Nat.le_of_ble_eq_true rfl)⟩ h_m1 (by omega) rfl rfl hl.1 rfl (Nat.le_of_ble_eq_true rfl) dL_law_1226 hcs) hS (fun r2 g2 H locs hp2 hS => ?_)
  have hlw := law_i hp1 hp2
  refine lv_icmp_eq (tgt := 1429) hx hb dL_law_1229 (by decide) (fun _ => ?_) (fun c9 => absurd hlw.1 c9)
  exact back g2 _ _ H locs ls hlw.2.1 hlw.2.2 hS hl

set_option maxHeartbeats 4000000 in
set_option maxRecDepth 100000 in
theorem lw_case_27 {p : Program} {e : Env} {s : State} {m : MethodId} {below : List Frame} {meth : Method} {c : Code} (l : Launch) {Q : State → Prop} {b L : Nat} {xs : Nat → Int32} (C0 : lw_At p s m meth c b L xs) (hL : L ≤ 3072) (Z : zT) (hZ : 57 ≤ Z.1) (hK : z_K Z s) {cells slots : Nat} (hcs : cells ≤ room_1.cells ∧ slots ≤ room_1.slots) {iv : Int32} (hi0 : 0 ≤ iv.toInt) (hiL : iv.toInt + 6 ≤ L) {g : Nat → va_E} {sg : Nat → zb} {rw9 : Nat → zr} {H : Heap} {locs : List Loc} {ls : Array Slot} (hXw : z_xw Z g g sg rw9) (hMw : z_mw Z g sg rw9) (hS : z_S Z (fun q : Nat => s.heap.size ≤ q) s.heap g H locs) (hl : lv_has ls 4 [(0, .ref b), (1, .ref (Z.2.1 0)), (2, .ref (Z.2.1 41)), (3, .int iv)]) (back : ∀ (g2 : Nat → va_E) (sg2 : Nat → zb) (rw2 : Nat → zr) (H2 : Heap) (locs2 : List Loc) (ls2 : Array Slot), z_xw Z g2 g2 sg2 rw2 → z_mw Z g2 sg2 rw2 → z_S Z (fun q : Nat => s.heap.size ≤ q) s.heap g2 H2 locs2 → lv_has ls2 4 [(0, .ref b), (1, .ref (Z.2.1 0)), (2, .ref (Z.2.1 41)), (3, .int iv)] → W p l e room_1 s m #[Value.ref b] below meth c H2 locs2 cells slots Q (F0 m 1429 ls2 [])) : W p l e room_1 s m #[Value.ref b] below meth c H locs cells slots Q (F0 m 1234 ls []) := by
  obtain ⟨hx, hb, hr, hml, hown, hts0, hX, hbl, hlocks, hgv⟩ := id C0
  have hts : ∀ w ∈ wsL_law, w.before #[Value.ref b] s = true := fun w h => hts0 w (wsL_law_in w h)
  have hown : s.vm.findClass RL = some m.cls := hown
  have hbA : ¬ (fun q : Nat => s.heap.size ≤ q) b := Nat.not_le.mpr hbl
  have h_x0 := hXw.1.2.1
  obtain ⟨a1, ea1⟩ : ∃ z : Int32, z = xs (iv + 1).toNatClampNeg := ⟨_, rfl⟩
  obtain ⟨a2, ea2⟩ : ∃ z : Int32, z = xs (iv + 2).toNatClampNeg := ⟨_, rfl⟩
  obtain ⟨a3, ea3⟩ : ∃ z : Int32, z = xs (iv + 3).toNatClampNeg := ⟨_, rfl⟩
  obtain ⟨a4, ea4⟩ : ∃ z : Int32, z = xs (iv + 4).toNatClampNeg := ⟨_, rfl⟩
  refine lv_aload_n hx hb dL_law_1234 rfl (lv_at hl 1 rfl) ?_
  refine lv_aload_n hx hb dL_law_1235 rfl (lv_at hl 0 rfl) ?_
  refine lv_iload_n hx hb dL_law_1236 rfl (lv_at hl 3 rfl) ?_
  refine lv_iconst (v := 1) hx hb dL_law_1237 (by decide) ?_
  refine lv_iadd hx hb dL_law_1238 ?_
  refine va_sld hx hb hX hbl hbA hS.2.2.1 (law_ix (j := 1) hi0 hiL hL (by decide) (by decide)) dL_law_1239 ?_
  rw [← ea1]
  refine lv_aload_n hx hb dL_law_1240 rfl (lv_at hl 0 rfl) ?_
  refine lv_iload_n hx hb dL_law_1241 rfl (lv_at hl 3 rfl) ?_
  refine lv_iconst (v := 2) hx hb dL_law_1242 (by decide) ?_
  refine lv_iadd hx hb dL_law_1243 ?_
  refine va_sld hx hb hX hbl hbA hS.2.2.1 (law_ix (j := 2) hi0 hiL hL (by decide) (by decide)) dL_law_1244 ?_
  rw [← ea2]
  refine lv_aload_n hx hb dL_law_1245 rfl (lv_at hl 0 rfl) ?_
  refine lv_iload_n hx hb dL_law_1246 rfl (lv_at hl 3 rfl) ?_
  refine lv_iconst (v := 3) hx hb dL_law_1247 (by decide) ?_
  refine lv_iadd hx hb dL_law_1248 ?_
  refine va_sld hx hb hX hbl hbA hS.2.2.1 (law_ix (j := 3) hi0 hiL hL (by decide) (by decide)) dL_law_1249 ?_
  rw [← ea3]
  refine lv_aload_n hx hb dL_law_1250 rfl (lv_at hl 0 rfl) ?_
  refine lv_iload_n hx hb dL_law_1251 rfl (lv_at hl 3 rfl) ?_
  refine lv_iconst (v := 4) hx hb dL_law_1252 (by decide) ?_
  refine lv_iadd hx hb dL_law_1253 ?_
  refine va_sld hx hb hX hbl hbA hS.2.2.1 (law_ix (j := 4) hi0 hiL hL (by decide) (by decide)) dL_law_1254 ?_
  rw [← ea4]
  refine z_calli (z_runV (As := [.int a1, .int a2, .int a3, .int a4]) (rest := []) ⟨hx, hb, hml, hown, hts⟩ hK hS ((k_multiply Z g sg rw9 hXw a1 a2 a3 a4) l _) gL_law_X9_multiply rfl 4 (by decide +kernel) ⟨(Nat.le_of_ble_eq_true rfl), (Nat.le_of_ble_eq_true rfl)⟩ h_x0 (by omega) rfl rfl hl.1 rfl (Nat.le_of_ble_eq_true rfl) dL_law_1255 hcs) hS (fun r1 g1 H locs hp1 hS => ?_)
  have hMw1 := law_m hMw hp1.2
  obtain ⟨_, _, _, _, _, _, _, _, _, _, h_m1, -⟩ := id hMw1.1
  refine lv_aload_n hx hb dL_law_1258 rfl (lv_at hl 2 rfl) ?_
  refine lv_aload_n hx hb dL_law_1259 rfl (lv_at hl 0 rfl) ?_
  refine lv_iload_n hx hb dL_law_1260 rfl (lv_at hl 3 rfl) ?_
  refine lv_iconst (v := 1) hx hb dL_law_1261 (by decide) ?_
  refine lv_iadd hx hb dL_law_1262 ?_
  refine va_sld hx hb hX hbl hbA hS.2.2.1 (law_ix (j := 1) hi0 hiL hL (by decide) (by decide)) dL_law_1263 ?_
  rw [← ea1]
  refine lv_aload_n hx hb dL_law_1264 rfl (lv_at hl 0 rfl) ?_
  refine lv_iload_n hx hb dL_law_1265 rfl (lv_at hl 3 rfl) ?_
  refine lv_iconst (v := 2) hx hb dL_law_1266 (by decide) ?_
  refine lv_iadd hx hb dL_law_1267 ?_
  refine va_sld hx hb hX hbl hbA hS.2.2.1 (law_ix (j := 2) hi0 hiL hL (by decide) (by decide)) dL_law_1268 ?_
  rw [← ea2]
  refine lv_aload_n hx hb dL_law_1269 rfl (lv_at hl 0 rfl) ?_
  refine lv_iload_n hx hb dL_law_1270 rfl (lv_at hl 3 rfl) ?_
  refine lv_iconst (v := 3) hx hb dL_law_1271 (by decide) ?_
  refine lv_iadd hx hb dL_law_1272 ?_
  refine va_sld hx hb hX hbl hbA hS.2.2.1 (law_ix (j := 3) hi0 hiL hL (by decide) (by decide)) dL_law_1273 ?_
  rw [← ea3]
  refine lv_aload_n hx hb dL_law_1274 rfl (lv_at hl 0 rfl) ?_
  refine lv_iload_n hx hb dL_law_1275 rfl (lv_at hl 3 rfl) ?_
  refine lv_iconst (v := 4) hx hb dL_law_1276 (by decide) ?_
  refine lv_iadd hx hb dL_law_1277 ?_
  refine va_sld hx hb hX hbl hbA hS.2.2.1 (law_ix (j := 4) hi0 hiL hL (by decide) (by decide)) dL_law_1278 ?_
  rw [← ea4]
  refine z_calli (z_runV (As := [.int a1, .int a2, .int a3, .int a4]) (rest := [.int r1]) ⟨hx, hb, hml, hown, hts⟩ hK hS ((m_multiply Z g1 sg rw9 hMw1 a1 a2 a3 a4) l _) gL_law_X10_multiply rfl 4 (by decide +kernel) ⟨(Nat.le_of_ble_eq_true rfl), (Nat.le_of_ble_eq_true rfl)⟩ h_m1 (by omega) rfl rfl hl.1 rfl (Nat.le_of_ble_eq_true rfl) dL_law_1279 hcs) hS (fun r2 g2 H locs hp2 hS => ?_)
  have hlw := law_i hp1 hp2
  refine lv_icmp_eq (tgt := 1429) hx hb dL_law_1282 (by decide) (fun _ => ?_) (fun c9 => absurd hlw.1 c9)
  exact back g2 _ _ H locs ls hlw.2.1 hlw.2.2 hS hl

set_option maxHeartbeats 4000000 in
set_option maxRecDepth 100000 in
theorem lw_case_28 {p : Program} {e : Env} {s : State} {m : MethodId} {below : List Frame} {meth : Method} {c : Code} (l : Launch) {Q : State → Prop} {b L : Nat} {xs : Nat → Int32} (C0 : lw_At p s m meth c b L xs) (hL : L ≤ 3072) (Z : zT) (hZ : 57 ≤ Z.1) (hK : z_K Z s) {cells slots : Nat} (hcs : cells ≤ room_1.cells ∧ slots ≤ room_1.slots) {iv : Int32} (hi0 : 0 ≤ iv.toInt) (hiL : iv.toInt + 6 ≤ L) {g : Nat → va_E} {sg : Nat → zb} {rw9 : Nat → zr} {H : Heap} {locs : List Loc} {ls : Array Slot} (hXw : z_xw Z g g sg rw9) (hMw : z_mw Z g sg rw9) (hS : z_S Z (fun q : Nat => s.heap.size ≤ q) s.heap g H locs) (hl : lv_has ls 4 [(0, .ref b), (1, .ref (Z.2.1 0)), (2, .ref (Z.2.1 41)), (3, .int iv)]) (back : ∀ (g2 : Nat → va_E) (sg2 : Nat → zb) (rw2 : Nat → zr) (H2 : Heap) (locs2 : List Loc) (ls2 : Array Slot), z_xw Z g2 g2 sg2 rw2 → z_mw Z g2 sg2 rw2 → z_S Z (fun q : Nat => s.heap.size ≤ q) s.heap g2 H2 locs2 → lv_has ls2 4 [(0, .ref b), (1, .ref (Z.2.1 0)), (2, .ref (Z.2.1 41)), (3, .int iv)] → W p l e room_1 s m #[Value.ref b] below meth c H2 locs2 cells slots Q (F0 m 1429 ls2 [])) : W p l e room_1 s m #[Value.ref b] below meth c H locs cells slots Q (F0 m 1287 ls []) := by
  obtain ⟨hx, hb, hr, hml, hown, hts0, hX, hbl, hlocks, hgv⟩ := id C0
  have hts : ∀ w ∈ wsL_law, w.before #[Value.ref b] s = true := fun w h => hts0 w (wsL_law_in w h)
  have hown : s.vm.findClass RL = some m.cls := hown
  have hbA : ¬ (fun q : Nat => s.heap.size ≤ q) b := Nat.not_le.mpr hbl
  have h_x0 := hXw.1.2.1
  obtain ⟨a1, ea1⟩ : ∃ z : Int32, z = xs (iv + 1).toNatClampNeg := ⟨_, rfl⟩
  obtain ⟨a2, ea2⟩ : ∃ z : Int32, z = xs (iv + 2).toNatClampNeg := ⟨_, rfl⟩
  obtain ⟨a3, ea3⟩ : ∃ z : Int32, z = xs (iv + 3).toNatClampNeg := ⟨_, rfl⟩
  refine lv_aload_n hx hb dL_law_1287 rfl (lv_at hl 1 rfl) ?_
  refine lv_aload_n hx hb dL_law_1288 rfl (lv_at hl 0 rfl) ?_
  refine lv_iload_n hx hb dL_law_1289 rfl (lv_at hl 3 rfl) ?_
  refine lv_iconst (v := 1) hx hb dL_law_1290 (by decide) ?_
  refine lv_iadd hx hb dL_law_1291 ?_
  refine va_sld hx hb hX hbl hbA hS.2.2.1 (law_ix (j := 1) hi0 hiL hL (by decide) (by decide)) dL_law_1292 ?_
  rw [← ea1]
  refine lv_aload_n hx hb dL_law_1293 rfl (lv_at hl 0 rfl) ?_
  refine lv_iload_n hx hb dL_law_1294 rfl (lv_at hl 3 rfl) ?_
  refine lv_iconst (v := 2) hx hb dL_law_1295 (by decide) ?_
  refine lv_iadd hx hb dL_law_1296 ?_
  refine va_sld hx hb hX hbl hbA hS.2.2.1 (law_ix (j := 2) hi0 hiL hL (by decide) (by decide)) dL_law_1297 ?_
  rw [← ea2]
  refine lv_aload_n hx hb dL_law_1298 rfl (lv_at hl 0 rfl) ?_
  refine lv_iload_n hx hb dL_law_1299 rfl (lv_at hl 3 rfl) ?_
  refine lv_iconst (v := 3) hx hb dL_law_1300 (by decide) ?_
  refine lv_iadd hx hb dL_law_1301 ?_
  refine va_sld hx hb hX hbl hbA hS.2.2.1 (law_ix (j := 3) hi0 hiL hL (by decide) (by decide)) dL_law_1302 ?_
  rw [← ea3]
  refine z_calli (z_runV (As := [.int a1, .int a2, .int a3]) (rest := []) ⟨hx, hb, hml, hown, hts⟩ hK hS ((k_convert Z g sg rw9 hXw a1 a2 a3) l _) gL_law_X9_convert rfl 3 (by decide +kernel) ⟨(Nat.le_of_ble_eq_true rfl), (Nat.le_of_ble_eq_true rfl)⟩ h_x0 (by omega) rfl rfl hl.1 rfl (Nat.le_of_ble_eq_true rfl) dL_law_1303 hcs) hS (fun r1 g1 H locs hp1 hS => ?_)
  have hMw1 := law_m hMw hp1.2
  obtain ⟨_, _, _, _, _, _, _, _, _, _, h_m1, -⟩ := id hMw1.1
  refine lv_aload_n hx hb dL_law_1306 rfl (lv_at hl 2 rfl) ?_
  refine lv_aload_n hx hb dL_law_1307 rfl (lv_at hl 0 rfl) ?_
  refine lv_iload_n hx hb dL_law_1308 rfl (lv_at hl 3 rfl) ?_
  refine lv_iconst (v := 1) hx hb dL_law_1309 (by decide) ?_
  refine lv_iadd hx hb dL_law_1310 ?_
  refine va_sld hx hb hX hbl hbA hS.2.2.1 (law_ix (j := 1) hi0 hiL hL (by decide) (by decide)) dL_law_1311 ?_
  rw [← ea1]
  refine lv_aload_n hx hb dL_law_1312 rfl (lv_at hl 0 rfl) ?_
  refine lv_iload_n hx hb dL_law_1313 rfl (lv_at hl 3 rfl) ?_
  refine lv_iconst (v := 2) hx hb dL_law_1314 (by decide) ?_
  refine lv_iadd hx hb dL_law_1315 ?_
  refine va_sld hx hb hX hbl hbA hS.2.2.1 (law_ix (j := 2) hi0 hiL hL (by decide) (by decide)) dL_law_1316 ?_
  rw [← ea2]
  refine lv_aload_n hx hb dL_law_1317 rfl (lv_at hl 0 rfl) ?_
  refine lv_iload_n hx hb dL_law_1318 rfl (lv_at hl 3 rfl) ?_
  refine lv_iconst (v := 3) hx hb dL_law_1319 (by decide) ?_
  refine lv_iadd hx hb dL_law_1320 ?_
  refine va_sld hx hb hX hbl hbA hS.2.2.1 (law_ix (j := 3) hi0 hiL hL (by decide) (by decide)) dL_law_1321 ?_
  rw [← ea3]
  refine z_calli (z_runV (As := [.int a1, .int a2, .int a3]) (rest := [.int r1]) ⟨hx, hb, hml, hown, hts⟩ hK hS ((m_convert Z g1 sg rw9 hMw1 a1 a2 a3) l _) gL_law_X10_convert rfl 3 (by decide +kernel) ⟨(Nat.le_of_ble_eq_true rfl), (Nat.le_of_ble_eq_true rfl)⟩ h_m1 (by omega) rfl rfl hl.1 rfl (Nat.le_of_ble_eq_true rfl) dL_law_1322 hcs) hS (fun r2 g2 H locs hp2 hS => ?_)
  have hlw := law_i hp1 hp2
  refine lv_icmp_eq (tgt := 1429) hx hb dL_law_1325 (by decide) (fun _ => ?_) (fun c9 => absurd hlw.1 c9)
  exact back g2 _ _ H locs ls hlw.2.1 hlw.2.2 hS hl

set_option maxHeartbeats 4000000 in
set_option maxRecDepth 100000 in
theorem lw_case_29 {p : Program} {e : Env} {s : State} {m : MethodId} {below : List Frame} {meth : Method} {c : Code} (l : Launch) {Q : State → Prop} {b L : Nat} {xs : Nat → Int32} (C0 : lw_At p s m meth c b L xs) (hL : L ≤ 3072) (Z : zT) (hZ : 57 ≤ Z.1) (hK : z_K Z s) {cells slots : Nat} (hcs : cells ≤ room_1.cells ∧ slots ≤ room_1.slots) {iv : Int32} (hi0 : 0 ≤ iv.toInt) (hiL : iv.toInt + 6 ≤ L) {g : Nat → va_E} {sg : Nat → zb} {rw9 : Nat → zr} {H : Heap} {locs : List Loc} {ls : Array Slot} (hXw : z_xw Z g g sg rw9) (hMw : z_mw Z g sg rw9) (hS : z_S Z (fun q : Nat => s.heap.size ≤ q) s.heap g H locs) (hl : lv_has ls 4 [(0, .ref b), (1, .ref (Z.2.1 0)), (2, .ref (Z.2.1 41)), (3, .int iv)]) (back : ∀ (g2 : Nat → va_E) (sg2 : Nat → zb) (rw2 : Nat → zr) (H2 : Heap) (locs2 : List Loc) (ls2 : Array Slot), z_xw Z g2 g2 sg2 rw2 → z_mw Z g2 sg2 rw2 → z_S Z (fun q : Nat => s.heap.size ≤ q) s.heap g2 H2 locs2 → lv_has ls2 4 [(0, .ref b), (1, .ref (Z.2.1 0)), (2, .ref (Z.2.1 41)), (3, .int iv)] → W p l e room_1 s m #[Value.ref b] below meth c H2 locs2 cells slots Q (F0 m 1429 ls2 [])) : W p l e room_1 s m #[Value.ref b] below meth c H locs cells slots Q (F0 m 1330 ls []) := by
  obtain ⟨hx, hb, hr, hml, hown, hts0, hX, hbl, hlocks, hgv⟩ := id C0
  have hts : ∀ w ∈ wsL_law, w.before #[Value.ref b] s = true := fun w h => hts0 w (wsL_law_in w h)
  have hown : s.vm.findClass RL = some m.cls := hown
  have hbA : ¬ (fun q : Nat => s.heap.size ≤ q) b := Nat.not_le.mpr hbl
  have h_x0 := hXw.1.2.1
  obtain ⟨a1, ea1⟩ : ∃ z : Int32, z = xs (iv + 1).toNatClampNeg := ⟨_, rfl⟩
  obtain ⟨a2, ea2⟩ : ∃ z : Int32, z = xs (iv + 2).toNatClampNeg := ⟨_, rfl⟩
  obtain ⟨a3, ea3⟩ : ∃ z : Int32, z = xs (iv + 3).toNatClampNeg := ⟨_, rfl⟩
  refine lv_aload_n hx hb dL_law_1330 rfl (lv_at hl 1 rfl) ?_
  refine lv_aload_n hx hb dL_law_1331 rfl (lv_at hl 0 rfl) ?_
  refine lv_iload_n hx hb dL_law_1332 rfl (lv_at hl 3 rfl) ?_
  refine lv_iconst (v := 1) hx hb dL_law_1333 (by decide) ?_
  refine lv_iadd hx hb dL_law_1334 ?_
  refine va_sld hx hb hX hbl hbA hS.2.2.1 (law_ix (j := 1) hi0 hiL hL (by decide) (by decide)) dL_law_1335 ?_
  rw [← ea1]
  refine lv_aload_n hx hb dL_law_1336 rfl (lv_at hl 0 rfl) ?_
  refine lv_iload_n hx hb dL_law_1337 rfl (lv_at hl 3 rfl) ?_
  refine lv_iconst (v := 2) hx hb dL_law_1338 (by decide) ?_
  refine lv_iadd hx hb dL_law_1339 ?_
  refine va_sld hx hb hX hbl hbA hS.2.2.1 (law_ix (j := 2) hi0 hiL hL (by decide) (by decide)) dL_law_1340 ?_
  rw [← ea2]
  refine lv_aload_n hx hb dL_law_1341 rfl (lv_at hl 0 rfl) ?_
  refine lv_iload_n hx hb dL_law_1342 rfl (lv_at hl 3 rfl) ?_
  refine lv_iconst (v := 3) hx hb dL_law_1343 (by decide) ?_
  refine lv_iadd hx hb dL_law_1344 ?_
  refine va_sld hx hb hX hbl hbA hS.2.2.1 (law_ix (j := 3) hi0 hiL hL (by decide) (by decide)) dL_law_1345 ?_
  rw [← ea3]
  refine z_calli (z_runV (As := [.int a1, .int a2, .int a3]) (rest := []) ⟨hx, hb, hml, hown, hts⟩ hK hS ((k_nextCarry Z g sg rw9 hXw a1 a2 a3) l _) gL_law_X9_nextCarry rfl 3 (by decide +kernel) ⟨(Nat.le_of_ble_eq_true rfl), (Nat.le_of_ble_eq_true rfl)⟩ h_x0 (by omega) rfl rfl hl.1 rfl (Nat.le_of_ble_eq_true rfl) dL_law_1346 hcs) hS (fun r1 g1 H locs hp1 hS => ?_)
  have hMw1 := law_m hMw hp1.2
  obtain ⟨_, _, _, _, _, _, _, _, _, _, h_m1, -⟩ := id hMw1.1
  refine lv_aload_n hx hb dL_law_1349 rfl (lv_at hl 2 rfl) ?_
  refine lv_aload_n hx hb dL_law_1350 rfl (lv_at hl 0 rfl) ?_
  refine lv_iload_n hx hb dL_law_1351 rfl (lv_at hl 3 rfl) ?_
  refine lv_iconst (v := 1) hx hb dL_law_1352 (by decide) ?_
  refine lv_iadd hx hb dL_law_1353 ?_
  refine va_sld hx hb hX hbl hbA hS.2.2.1 (law_ix (j := 1) hi0 hiL hL (by decide) (by decide)) dL_law_1354 ?_
  rw [← ea1]
  refine lv_aload_n hx hb dL_law_1355 rfl (lv_at hl 0 rfl) ?_
  refine lv_iload_n hx hb dL_law_1356 rfl (lv_at hl 3 rfl) ?_
  refine lv_iconst (v := 2) hx hb dL_law_1357 (by decide) ?_
  refine lv_iadd hx hb dL_law_1358 ?_
  refine va_sld hx hb hX hbl hbA hS.2.2.1 (law_ix (j := 2) hi0 hiL hL (by decide) (by decide)) dL_law_1359 ?_
  rw [← ea2]
  refine lv_aload_n hx hb dL_law_1360 rfl (lv_at hl 0 rfl) ?_
  refine lv_iload_n hx hb dL_law_1361 rfl (lv_at hl 3 rfl) ?_
  refine lv_iconst (v := 3) hx hb dL_law_1362 (by decide) ?_
  refine lv_iadd hx hb dL_law_1363 ?_
  refine va_sld hx hb hX hbl hbA hS.2.2.1 (law_ix (j := 3) hi0 hiL hL (by decide) (by decide)) dL_law_1364 ?_
  rw [← ea3]
  refine z_calli (z_runV (As := [.int a1, .int a2, .int a3]) (rest := [.int r1]) ⟨hx, hb, hml, hown, hts⟩ hK hS ((m_nextCarry Z g1 sg rw9 hMw1 a1 a2 a3) l _) gL_law_X10_nextCarry rfl 3 (by decide +kernel) ⟨(Nat.le_of_ble_eq_true rfl), (Nat.le_of_ble_eq_true rfl)⟩ h_m1 (by omega) rfl rfl hl.1 rfl (Nat.le_of_ble_eq_true rfl) dL_law_1365 hcs) hS (fun r2 g2 H locs hp2 hS => ?_)
  have hlw := law_i hp1 hp2
  refine lv_icmp_eq (tgt := 1429) hx hb dL_law_1368 (by decide) (fun _ => ?_) (fun c9 => absurd hlw.1 c9)
  exact back g2 _ _ H locs ls hlw.2.1 hlw.2.2 hS hl

set_option maxHeartbeats 4000000 in
set_option maxRecDepth 100000 in
theorem lw_case_30 {p : Program} {e : Env} {s : State} {m : MethodId} {below : List Frame} {meth : Method} {c : Code} (l : Launch) {Q : State → Prop} {b L : Nat} {xs : Nat → Int32} (C0 : lw_At p s m meth c b L xs) (hL : L ≤ 3072) (Z : zT) (hZ : 57 ≤ Z.1) (hK : z_K Z s) {cells slots : Nat} (hcs : cells ≤ room_1.cells ∧ slots ≤ room_1.slots) {iv : Int32} (hi0 : 0 ≤ iv.toInt) (hiL : iv.toInt + 6 ≤ L) {g : Nat → va_E} {sg : Nat → zb} {rw9 : Nat → zr} {H : Heap} {locs : List Loc} {ls : Array Slot} (hXw : z_xw Z g g sg rw9) (hMw : z_mw Z g sg rw9) (hS : z_S Z (fun q : Nat => s.heap.size ≤ q) s.heap g H locs) (hl : lv_has ls 4 [(0, .ref b), (1, .ref (Z.2.1 0)), (2, .ref (Z.2.1 41)), (3, .int iv)]) (back : ∀ (g2 : Nat → va_E) (sg2 : Nat → zb) (rw2 : Nat → zr) (H2 : Heap) (locs2 : List Loc) (ls2 : Array Slot), z_xw Z g2 g2 sg2 rw2 → z_mw Z g2 sg2 rw2 → z_S Z (fun q : Nat => s.heap.size ≤ q) s.heap g2 H2 locs2 → lv_has ls2 4 [(0, .ref b), (1, .ref (Z.2.1 0)), (2, .ref (Z.2.1 41)), (3, .int iv)] → W p l e room_1 s m #[Value.ref b] below meth c H2 locs2 cells slots Q (F0 m 1429 ls2 [])) : W p l e room_1 s m #[Value.ref b] below meth c H locs cells slots Q (F0 m 1373 ls []) := by
  obtain ⟨hx, hb, hr, hml, hown, hts0, hX, hbl, hlocks, hgv⟩ := id C0
  have hts : ∀ w ∈ wsL_law, w.before #[Value.ref b] s = true := fun w h => hts0 w (wsL_law_in w h)
  have hown : s.vm.findClass RL = some m.cls := hown
  have hbA : ¬ (fun q : Nat => s.heap.size ≤ q) b := Nat.not_le.mpr hbl
  have h_x0 := hXw.1.2.1
  obtain ⟨a1, ea1⟩ : ∃ z : Int32, z = xs (iv + 1).toNatClampNeg := ⟨_, rfl⟩
  refine lv_aload_n hx hb dL_law_1373 rfl (lv_at hl 1 rfl) ?_
  refine lv_aload_n hx hb dL_law_1374 rfl (lv_at hl 0 rfl) ?_
  refine lv_iload_n hx hb dL_law_1375 rfl (lv_at hl 3 rfl) ?_
  refine lv_iconst (v := 1) hx hb dL_law_1376 (by decide) ?_
  refine lv_iadd hx hb dL_law_1377 ?_
  refine va_sld hx hb hX hbl hbA hS.2.2.1 (law_ix (j := 1) hi0 hiL hL (by decide) (by decide)) dL_law_1378 ?_
  rw [← ea1]
  refine z_calli (z_runV (As := [.int a1]) (rest := []) ⟨hx, hb, hml, hown, hts⟩ hK hS ((k_carryCount Z g sg rw9 hXw a1) l _) gL_law_X9_carryCount rfl 1 (by decide +kernel) ⟨(Nat.le_of_ble_eq_true rfl), (Nat.le_of_ble_eq_true rfl)⟩ h_x0 (by omega) rfl rfl hl.1 rfl (Nat.le_of_ble_eq_true rfl) dL_law_1379 hcs) hS (fun r1 g1 H locs hp1 hS => ?_)
  have hMw1 := law_m hMw hp1.2
  obtain ⟨_, _, _, _, _, _, _, _, _, _, h_m1, -⟩ := id hMw1.1
  refine lv_aload_n hx hb dL_law_1382 rfl (lv_at hl 2 rfl) ?_
  refine lv_aload_n hx hb dL_law_1383 rfl (lv_at hl 0 rfl) ?_
  refine lv_iload_n hx hb dL_law_1384 rfl (lv_at hl 3 rfl) ?_
  refine lv_iconst (v := 1) hx hb dL_law_1385 (by decide) ?_
  refine lv_iadd hx hb dL_law_1386 ?_
  refine va_sld hx hb hX hbl hbA hS.2.2.1 (law_ix (j := 1) hi0 hiL hL (by decide) (by decide)) dL_law_1387 ?_
  rw [← ea1]
  refine z_calli (z_runV (As := [.int a1]) (rest := [.int r1]) ⟨hx, hb, hml, hown, hts⟩ hK hS ((m_carryCount Z g1 sg rw9 hMw1 a1) l _) gL_law_X10_carryCount rfl 1 (by decide +kernel) ⟨(Nat.le_of_ble_eq_true rfl), (Nat.le_of_ble_eq_true rfl)⟩ h_m1 (by omega) rfl rfl hl.1 rfl (Nat.le_of_ble_eq_true rfl) dL_law_1388 hcs) hS (fun r2 g2 H locs hp2 hS => ?_)
  have hlw := law_i hp1 hp2
  refine lv_icmp_eq (tgt := 1429) hx hb dL_law_1391 (by decide) (fun _ => ?_) (fun c9 => absurd hlw.1 c9)
  exact back g2 _ _ H locs ls hlw.2.1 hlw.2.2 hS hl

set_option maxHeartbeats 4000000 in
set_option maxRecDepth 100000 in
theorem lw_case_31 {p : Program} {e : Env} {s : State} {m : MethodId} {below : List Frame} {meth : Method} {c : Code} (l : Launch) {Q : State → Prop} {b L : Nat} {xs : Nat → Int32} (C0 : lw_At p s m meth c b L xs) (hL : L ≤ 3072) (Z : zT) (hZ : 57 ≤ Z.1) (hK : z_K Z s) {cells slots : Nat} (hcs : cells ≤ room_1.cells ∧ slots ≤ room_1.slots) {iv : Int32} (hi0 : 0 ≤ iv.toInt) (hiL : iv.toInt + 6 ≤ L) {g : Nat → va_E} {sg : Nat → zb} {rw9 : Nat → zr} {H : Heap} {locs : List Loc} {ls : Array Slot} (hXw : z_xw Z g g sg rw9) (hMw : z_mw Z g sg rw9) (hS : z_S Z (fun q : Nat => s.heap.size ≤ q) s.heap g H locs) (hl : lv_has ls 4 [(0, .ref b), (1, .ref (Z.2.1 0)), (2, .ref (Z.2.1 41)), (3, .int iv)]) (back : ∀ (g2 : Nat → va_E) (sg2 : Nat → zb) (rw2 : Nat → zr) (H2 : Heap) (locs2 : List Loc) (ls2 : Array Slot), z_xw Z g2 g2 sg2 rw2 → z_mw Z g2 sg2 rw2 → z_S Z (fun q : Nat => s.heap.size ≤ q) s.heap g2 H2 locs2 → lv_has ls2 4 [(0, .ref b), (1, .ref (Z.2.1 0)), (2, .ref (Z.2.1 41)), (3, .int iv)] → W p l e room_1 s m #[Value.ref b] below meth c H2 locs2 cells slots Q (F0 m 1429 ls2 [])) : W p l e room_1 s m #[Value.ref b] below meth c H locs cells slots Q (F0 m 1396 ls []) := by
  obtain ⟨hx, hb, hr, hml, hown, hts0, hX, hbl, hlocks, hgv⟩ := id C0
  have hts : ∀ w ∈ wsL_law, w.before #[Value.ref b] s = true := fun w h => hts0 w (wsL_law_in w h)
  have hown : s.vm.findClass RL = some m.cls := hown
  have hbA : ¬ (fun q : Nat => s.heap.size ≤ q) b := Nat.not_le.mpr hbl
  have h_x0 := hXw.1.2.1
  obtain ⟨a1, ea1⟩ : ∃ z : Int32, z = xs (iv + 1).toNatClampNeg := ⟨_, rfl⟩
  obtain ⟨a2, ea2⟩ : ∃ z : Int32, z = xs (iv + 2).toNatClampNeg := ⟨_, rfl⟩
  refine lv_aload_n hx hb dL_law_1396 rfl (lv_at hl 1 rfl) ?_
  refine lv_aload_n hx hb dL_law_1397 rfl (lv_at hl 0 rfl) ?_
  refine lv_iload_n hx hb dL_law_1398 rfl (lv_at hl 3 rfl) ?_
  refine lv_iconst (v := 1) hx hb dL_law_1399 (by decide) ?_
  refine lv_iadd hx hb dL_law_1400 ?_
  refine va_sld hx hb hX hbl hbA hS.2.2.1 (law_ix (j := 1) hi0 hiL hL (by decide) (by decide)) dL_law_1401 ?_
  rw [← ea1]
  refine lv_aload_n hx hb dL_law_1402 rfl (lv_at hl 0 rfl) ?_
  refine lv_iload_n hx hb dL_law_1403 rfl (lv_at hl 3 rfl) ?_
  refine lv_iconst (v := 2) hx hb dL_law_1404 (by decide) ?_
  refine lv_iadd hx hb dL_law_1405 ?_
  refine va_sld hx hb hX hbl hbA hS.2.2.1 (law_ix (j := 2) hi0 hiL hL (by decide) (by decide)) dL_law_1406 ?_
  rw [← ea2]
  refine z_calli (z_runV (As := [.int a1, .int a2]) (rest := []) ⟨hx, hb, hml, hown, hts⟩ hK hS ((k_carry Z g sg rw9 hXw a1 a2) l _) gL_law_X9_carry rfl 2 (by decide +kernel) ⟨(Nat.le_of_ble_eq_true rfl), (Nat.le_of_ble_eq_true rfl)⟩ h_x0 (by omega) rfl rfl hl.1 rfl (Nat.le_of_ble_eq_true rfl) dL_law_1407 hcs) hS (fun r1 g1 H locs hp1 hS => ?_)
  have hMw1 := law_m hMw hp1.2
  obtain ⟨_, _, _, _, _, _, _, _, _, _, h_m1, -⟩ := id hMw1.1
  refine lv_aload_n hx hb dL_law_1410 rfl (lv_at hl 2 rfl) ?_
  refine lv_aload_n hx hb dL_law_1411 rfl (lv_at hl 0 rfl) ?_
  refine lv_iload_n hx hb dL_law_1412 rfl (lv_at hl 3 rfl) ?_
  refine lv_iconst (v := 1) hx hb dL_law_1413 (by decide) ?_
  refine lv_iadd hx hb dL_law_1414 ?_
  refine va_sld hx hb hX hbl hbA hS.2.2.1 (law_ix (j := 1) hi0 hiL hL (by decide) (by decide)) dL_law_1415 ?_
  rw [← ea1]
  refine lv_aload_n hx hb dL_law_1416 rfl (lv_at hl 0 rfl) ?_
  refine lv_iload_n hx hb dL_law_1417 rfl (lv_at hl 3 rfl) ?_
  refine lv_iconst (v := 2) hx hb dL_law_1418 (by decide) ?_
  refine lv_iadd hx hb dL_law_1419 ?_
  refine va_sld hx hb hX hbl hbA hS.2.2.1 (law_ix (j := 2) hi0 hiL hL (by decide) (by decide)) dL_law_1420 ?_
  rw [← ea2]
  refine z_calli (z_runV (As := [.int a1, .int a2]) (rest := [.int r1]) ⟨hx, hb, hml, hown, hts⟩ hK hS ((m_carry Z g1 sg rw9 hMw1 a1 a2) l _) gL_law_X10_carry rfl 2 (by decide +kernel) ⟨(Nat.le_of_ble_eq_true rfl), (Nat.le_of_ble_eq_true rfl)⟩ h_m1 (by omega) rfl rfl hl.1 rfl (Nat.le_of_ble_eq_true rfl) dL_law_1421 hcs) hS (fun r2 g2 H locs hp2 hS => ?_)
  have hlw := law_i hp1 hp2
  refine lv_icmp_eq (tgt := 1429) hx hb dL_law_1424 (by decide) (fun _ => ?_) (fun c9 => absurd hlw.1 c9)
  exact back g2 _ _ H locs ls hlw.2.1 hlw.2.2 hS hl
