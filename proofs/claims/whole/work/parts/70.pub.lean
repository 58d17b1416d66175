/-! the whole object: its cells by their numbers -/
noncomputable def zite {α : Type} (P : Prop) (a c : α) : α := @ite α P (Classical.propDecidable P) a c
theorem zite_t {α : Type} {P : Prop} (h : P) (a c : α) : zite P a c = a := @if_pos P (Classical.propDecidable P) h α a c
theorem zite_f {α : Type} {P : Prop} (h : ¬ P) (a c : α) : zite P a c = c := @if_neg P (Classical.propDecidable P) h α a c
def zupd {α : Type} (f : Nat → α) (k : Nat) (x : α) : Nat → α := fun j => if j = k then x else f j
theorem zupd_s {α : Type} (f : Nat → α) (k : Nat) (x : α) : zupd f k x k = x := by unfold zupd; rw [if_pos rfl]
theorem zupd_n {α : Type} {f : Nat → α} {k j : Nat} {x : α} (h : j ≠ k) : zupd f k x j = f j := by unfold zupd; rw [if_neg h]
theorem zo_walk.congr {Z : zT} {g g1 : Nat → va_E} {k kb : Nat} {v1 v2 v3 v4 v5 v6 : Int32} (h : zo_walk Z g k kb v1 v2 v3 v4 v5 v6) (h0 : g1 k = g k) : zo_walk Z g1 k kb v1 v2 v3 v4 v5 v6 := ⟨h0.trans h.1, h.2⟩
theorem zo_ways.congr {Z : zT} {g g1 : Nat → va_E} {k kb : Nat} {lw hw : Nat → Int32} {tb : Nat → Int64} {v1 v2 : Int32} {v3 : Int64} (h : zo_ways Z g k kb lw hw tb v1 v2 v3) (h0 : ∀ j, k ≤ j → j < k + 4 → g1 j = g j) : zo_ways Z g1 k kb lw hw tb v1 v2 v3 := by
  obtain ⟨a1, a2, a3, a4, a5⟩ := h
  exact ⟨(h0 _ (by omega) (by omega)).trans a1, (h0 _ (by omega) (by omega)).trans a2, (h0 _ (by omega) (by omega)).trans a3, (h0 _ (by omega) (by omega)).trans a4, a5⟩
theorem z_cs.congr {Z : zT} {g g1 : Nat → va_E} {k kb : Nat} {l : List Int} (h : z_cs Z g k kb l) (h0 : ∀ j, k ≤ j → j < k + 3 → g1 j = g j) : z_cs Z g1 k kb l := by
  obtain ⟨fd, sn, a1, a2, a3, a4⟩ := h
  exact ⟨fd, sn, (h0 _ (by omega) (by omega)).trans a1, (h0 _ (by omega) (by omega)).trans a2, (h0 _ (by omega) (by omega)).trans a3, a4⟩
theorem z_cr.congr {Z : zT} {g g1 : Nat → va_E} {k : Nat} (h : z_cr Z g k) (h0 : ∀ j, k ≤ j → j < k + 4 → g1 j = g j) : z_cr Z g1 k := by
  obtain ⟨v1, sv, w, a1, a2, a3, a4⟩ := h
  exact ⟨v1, sv, w, (h0 _ (by omega) (by omega)).trans a1, (h0 _ (by omega) (by omega)).trans a2, a3, a4.congr (h0 _ (by omega) (by omega)) (h0 _ (by omega) (by omega))⟩
def z_sys (Z : zT) (g : Nat → va_E) (s : Nat) (b : zb) : Prop := g (15 + 13 * s) = .inr (5, [.ref (Z.2.1 (16 + 13 * s)), .ref (Z.2.1 (19 + 13 * s)), .ref (Z.2.1 (20 + 13 * s)), .ref (Z.2.1 (21 + 13 * s)), .ref (Z.2.1 (25 + 13 * s))]) ∧ z_bs Z g (16 + 13 * s) b ∧ (∃ v1 v2 v3 v4 v5 v6, zo_walk Z g (19 + 13 * s) (16 + 13 * s) v1 v2 v3 v4 v5 v6) ∧ g (20 + 13 * s) = .inr (3, [.ref (Z.2.1 (16 + 13 * s))]) ∧ (∃ lw hw tb v1 v2 v3, zo_ways Z g (21 + 13 * s) (16 + 13 * s) lw hw tb v1 v2 v3) ∧ ∃ l, z_cs Z g (25 + 13 * s) (16 + 13 * s) l
theorem z_sys.congr {Z : zT} {g g1 : Nat → va_E} {s : Nat} {b : zb} (h : z_sys Z g s b) (h0 : ∀ j, 15 + 13 * s ≤ j → j < 28 + 13 * s → g1 j = g j) : z_sys Z g1 s b := by
  obtain ⟨a1, a2, ⟨v1, v2, v3, v4, v5, v6, a3⟩, a4, ⟨lw, hw, tb, u1, u2, u3, a5⟩, l, a6⟩ := h
  exact ⟨(h0 _ (by omega) (by omega)).trans a1, a2.congr (h0 _ (by omega) (by omega)) (h0 _ (by omega) (by omega)) (h0 _ (by omega) (by omega)), ⟨v1, v2, v3, v4, v5, v6, a3.congr (h0 _ (by omega) (by omega))⟩, (h0 _ (by omega) (by omega)).trans a4, ⟨lw, hw, tb, u1, u2, u3, a5.congr (fun j h1 h2 => h0 j (by omega) (by omega))⟩, l, a6.congr (fun j h1 h2 => h0 j (by omega) (by omega))⟩
def z_x0 (Z : zT) (g : Nat → va_E) : Prop := 41 ≤ Z.1 ∧ g 0 = .inr (9, [.ref (Z.2.1 1), .ref (Z.2.1 2), .ref (Z.2.1 3), .ref (Z.2.1 7), .ref (Z.2.1 8)]) ∧ (∃ f : Nat → Option Nat, g 1 = .inl (Z.2.2.2 3, 2, .inr (.inr (.inr (.inr f)))) ∧ ∀ i, i < 2 → f i = some (Z.2.1 (15 + 13 * i))) ∧ ∃ f : Nat → Option Nat, g 2 = .inl (Z.2.2.2 4, 3, .inr (.inr (.inr (.inr f)))) ∧ ∀ i, i < 3 → f i = some (Z.2.1 (9 + 2 * i))
theorem z_x0.congr {Z : zT} {g g1 : Nat → va_E} (h : z_x0 Z g) (h0 : ∀ j, j < 3 → g1 j = g j) : z_x0 Z g1 := by
  obtain ⟨a0, a1, ⟨f, a2, a3⟩, f2, a4, a5⟩ := h
  exact ⟨a0, (h0 _ (by omega)).trans a1, ⟨f, (h0 _ (by omega)).trans a2, a3⟩, f2, (h0 _ (by omega)).trans a4, a5⟩
def z_fc (g : Nat → va_E) (k : Nat) : Prop := ∃ v1 v2 : Int64, g k = .inr (4, [.long v1, .long v2])
def z_fg (G9 g : Nat → va_E) : Prop := z_fc g 7 ∧ ∀ j, 41 ≤ j → g j = G9 j
theorem z_fg.up {G9 g g1 : Nat → va_E} {lo n : Nat} (h : z_fg G9 g) (hf : z_fr lo n g g1) (h7 : g1 7 = g 7) (hn : lo + n ≤ 41) : z_fg G9 g1 := by
  obtain ⟨⟨v1, v2, h1⟩, h2⟩ := h
  exact ⟨⟨v1, v2, h7.trans h1⟩, fun j hj => (hf j (by omega)).trans (h2 j hj)⟩
def z_xw (Z : zT) (G9 g : Nat → va_E) (sg : Nat → zb) (rw9 : Nat → zr) : Prop := z_x0 Z g ∧ z_cr Z g 3 ∧ z_fg G9 g ∧ z_fc g 8 ∧ (∀ r, r < 3 → z_row Z g (9 + 2 * r) (rw9 r)) ∧ ∀ s, s < 2 → z_sys Z g s (sg s)
theorem z_xw.sys {Z : zT} {G9 g g1 : Nat → va_E} {sg : Nat → zb} {rw9 : Nat → zr} (h : z_xw Z G9 g sg rw9) {s : Nat} (hs : s < 2) {b : zb} (hf : z_fr (15 + 13 * s) 13 g g1) (hb : z_sys Z g1 s b) : z_xw Z G9 g1 (zupd sg s b) rw9 := by
  obtain ⟨a1, a2, a3, ⟨u3, u4, a4⟩, a5, a6⟩ := h
  refine ⟨a1.congr (fun j hj => hf j (by omega)), a2.congr (fun j h1 h2 => hf j (by omega)), a3.up hf (hf _ (by omega)) (by omega), ⟨u3, u4, (hf _ (by omega)).trans a4⟩, fun r hr => (a5 r hr).congr (hf _ (by omega)) (hf _ (by omega)), fun t ht => ?_⟩
  by_cases e : t = s
  · subst e; rw [zupd_s]; exact hb
  · rw [zupd_n e]
    exact (a6 t ht).congr (fun j h1 h2 => hf j (by omega))
theorem zupd_id {α : Type} (f : Nat → α) (k : Nat) : zupd f k (f k) = f := by
  funext j
  by_cases e : j = k
  · subst e; rw [zupd_s]
  · rw [zupd_n e]
theorem z_xw.base {Z : zT} {G9 g g1 : Nat → va_E} {sg : Nat → zb} {rw9 : Nat → zr} (h : z_xw Z G9 g sg rw9) {s : Nat} (hs : s < 2) {b : zb} (hf : z_fr (16 + 13 * s) 3 g g1) (hb : z_bs Z g1 (16 + 13 * s) b) : z_xw Z G9 g1 (zupd sg s b) rw9 := by
  refine h.sys hs (hf.wide (by omega) (by omega)) ?_
  obtain ⟨a1, a2, ⟨v1, v2, v3, v4, v5, v6, a3⟩, a4, ⟨lw, hw, tb, u1, u2, u3, a5⟩, l, a6⟩ := h.2.2.2.2.2 s hs
  exact ⟨(hf _ (by omega)).trans a1, hb, ⟨v1, v2, v3, v4, v5, v6, a3.congr (hf _ (by omega))⟩, (hf _ (by omega)).trans a4, ⟨lw, hw, tb, u1, u2, u3, a5.congr (fun j h1 h2 => hf j (by omega))⟩, l, a6.congr (fun j h1 h2 => hf j (by omega))⟩
theorem z_xw.walk {Z : zT} {G9 g g1 : Nat → va_E} {sg : Nat → zb} {rw9 : Nat → zr} (h : z_xw Z G9 g sg rw9) {s : Nat} (hs : s < 2) {v1 v2 v3 v4 v5 v6 : Int32} (hf : z_fr (19 + 13 * s) 1 g g1) (hb : zo_walk Z g1 (19 + 13 * s) (16 + 13 * s) v1 v2 v3 v4 v5 v6) : z_xw Z G9 g1 sg rw9 := by
  have := h.sys hs (b := sg s) (hf.wide (by omega) (by omega)) (by
    obtain ⟨a1, a2, -, a4, ⟨lw, hw, tb, u1, u2, u3, a5⟩, l, a6⟩ := h.2.2.2.2.2 s hs
    exact ⟨(hf _ (by omega)).trans a1, a2.congr (hf _ (by omega)) (hf _ (by omega)) (hf _ (by omega)), ⟨v1, v2, v3, v4, v5, v6, hb⟩, (hf _ (by omega)).trans a4, ⟨lw, hw, tb, u1, u2, u3, a5.congr (fun j h1 h2 => hf j (by omega))⟩, l, a6.congr (fun j h1 h2 => hf j (by omega))⟩)
  rwa [zupd_id] at this
theorem z_xw.ways {Z : zT} {G9 g g1 : Nat → va_E} {sg : Nat → zb} {rw9 : Nat → zr} (h : z_xw Z G9 g sg rw9) {s : Nat} (hs : s < 2) {lw hw : Nat → Int32} {tb : Nat → Int64} {v1 v2 : Int32} {v3 : Int64} (hf : z_fr (21 + 13 * s) 4 g g1) (hb : zo_ways Z g1 (21 + 13 * s) (16 + 13 * s) lw hw tb v1 v2 v3) : z_xw Z G9 g1 sg rw9 := by
  have := h.sys hs (b := sg s) (hf.wide (by omega) (by omega)) (by
    obtain ⟨a1, a2, ⟨v1, v2, v3, v4, v5, v6, a3⟩, a4, -, l, a6⟩ := h.2.2.2.2.2 s hs
    exact ⟨(hf _ (by omega)).trans a1, a2.congr (hf _ (by omega)) (hf _ (by omega)) (hf _ (by omega)), ⟨v1, v2, v3, v4, v5, v6, a3.congr (hf _ (by omega))⟩, (hf _ (by omega)).trans a4, ⟨_, _, _, _, _, _, hb⟩, l, a6.congr (fun j h1 h2 => hf j (by omega))⟩)
  rwa [zupd_id] at this
theorem z_xw.carries {Z : zT} {G9 g g1 : Nat → va_E} {sg : Nat → zb} {rw9 : Nat → zr} (h : z_xw Z G9 g sg rw9) {s : Nat} (hs : s < 2) {l : List Int} (hf : z_fr (25 + 13 * s) 3 g g1) (hb : z_cs Z g1 (25 + 13 * s) (16 + 13 * s) l) : z_xw Z G9 g1 sg rw9 := by
  have := h.sys hs (b := sg s) (hf.wide (by omega) (by omega)) (by
    obtain ⟨a1, a2, ⟨v1, v2, v3, v4, v5, v6, a3⟩, a4, ⟨lw, hw, tb, u1, u2, u3, a5⟩, -⟩ := h.2.2.2.2.2 s hs
    exact ⟨(hf _ (by omega)).trans a1, a2.congr (hf _ (by omega)) (hf _ (by omega)) (hf _ (by omega)), ⟨v1, v2, v3, v4, v5, v6, a3.congr (hf _ (by omega))⟩, (hf _ (by omega)).trans a4, ⟨lw, hw, tb, u1, u2, u3, a5.congr (fun j h1 h2 => hf j (by omega))⟩, l, hb⟩)
  rwa [zupd_id] at this
theorem z_xw.row {Z : zT} {G9 g g1 : Nat → va_E} {sg : Nat → zb} {rw9 : Nat → zr} (h : z_xw Z G9 g sg rw9) {r : Nat} (hr : r < 3) {w : zr} (hf : z_fr (9 + 2 * r) 2 g g1) (hb : z_row Z g1 (9 + 2 * r) w) : z_xw Z G9 g1 sg (zupd rw9 r w) := by
  obtain ⟨a1, a2, a3, ⟨u3, u4, a4⟩, a5, a6⟩ := h
  refine ⟨a1.congr (fun j hj => hf j (by omega)), a2.congr (fun j h1 h2 => hf j (by omega)), a3.up hf (hf _ (by omega)) (by omega), ⟨u3, u4, (hf _ (by omega)).trans a4⟩, fun t ht => ?_, fun t ht => (a6 t ht).congr (fun j h1 h2 => hf j (by omega))⟩
  by_cases e : t = r
  · subst e; rw [zupd_s]; exact hb
  · rw [zupd_n e]; exact (a5 t ht).congr (hf _ (by omega)) (hf _ (by omega))
theorem z_xw.comp {Z : zT} {G9 g g1 : Nat → va_E} {sg : Nat → zb} {rw9 : Nat → zr} (h : z_xw Z G9 g sg rw9) (hf : z_fr 3 4 g g1) (hb : z_cr Z g1 3) : z_xw Z G9 g1 sg rw9 := by
  obtain ⟨a1, a2, a3, ⟨u3, u4, a4⟩, a5, a6⟩ := h
  exact ⟨a1.congr (fun j hj => hf j (by omega)), hb, a3.up hf (hf _ (by omega)) (by omega), ⟨u3, u4, (hf _ (by omega)).trans a4⟩, fun t ht => (a5 t ht).congr (hf _ (by omega)) (hf _ (by omega)), fun t ht => (a6 t ht).congr (fun j h1 h2 => hf j (by omega))⟩
theorem z_xw.fr7 {Z : zT} {G9 g g1 : Nat → va_E} {sg : Nat → zb} {rw9 : Nat → zr} (h : z_xw Z G9 g sg rw9) (hf : z_fr 7 1 g g1) (hb : z_fc g1 7) : z_xw Z G9 g1 sg rw9 := by
  obtain ⟨a1, a2, a3, ⟨u3, u4, a4⟩, a5, a6⟩ := h
  exact ⟨a1.congr (fun j hj => hf j (by omega)), a2.congr (fun j h1 h2 => hf j (by omega)), ⟨hb, fun j hj => (hf j (by omega)).trans (a3.2 j hj)⟩, ⟨u3, u4, (hf _ (by omega)).trans a4⟩, fun t ht => (a5 t ht).congr (hf _ (by omega)) (hf _ (by omega)), fun t ht => (a6 t ht).congr (fun j h1 h2 => hf j (by omega))⟩
theorem z_xw.fr8 {Z : zT} {G9 g g1 : Nat → va_E} {sg : Nat → zb} {rw9 : Nat → zr} (h : z_xw Z G9 g sg rw9) (hf : z_fr 8 1 g g1) (hb : z_fc g1 8) : z_xw Z G9 g1 sg rw9 := by
  obtain ⟨a1, a2, a3, -, a5, a6⟩ := h
  exact ⟨a1.congr (fun j hj => hf j (by omega)), a2.congr (fun j h1 h2 => hf j (by omega)), a3.up hf (hf _ (by omega)) (by omega), hb, fun t ht => (a5 t ht).congr (hf _ (by omega)) (hf _ (by omega)), fun t ht => (a6 t ht).congr (fun j h1 h2 => hf j (by omega))⟩
/-- which system, which row -/
def zsy (x : Int) : Prop := 0 ≤ x ∧ x < 2
def zro (x : Int) : Prop := 0 ≤ x ∧ x < 3
/-! what each call answers and leaves -/
abbrev zS : Type := (Nat → zb) × (Nat → zr)
abbrev z_po (Z : zT) (G9 : Nat → va_E) (R : Int × zS) (r : Int32) (g1 : Nat → va_E) : Prop := r.toInt = R.1 ∧ z_xw Z G9 g1 R.2.1 R.2.2
def zdi (b : zb) (x : Int) : Nat := zfi (fun i => decide (b.2.2.2 i = x)) b.2.2.1
noncomputable def sp_setBase (S : zS) (sy p q : Int) : Int × zS := zite (zsy sy) (zite (zib p q) ((p.natAbs : Int), (zupd S.1 sy.toNat (p, q, p.natAbs, fun i => (i : Int)), S.2)) (-1000002, S)) (-1000001, S)
noncomputable def sp_addDigit (S : zS) (sy x : Int) : Int × zS := zite (zsy sy) (zite (-20 ≤ x ∧ x ≤ 20) (zite (zdi (S.1 sy.toNat) x < (S.1 sy.toNat).2.2.1) (-1000004, S) (zite ((S.1 sy.toNat).2.2.1 < 12) (((S.1 sy.toNat).2.2.1 : Int) + 1, (zupd S.1 sy.toNat ((S.1 sy.toNat).1, (S.1 sy.toNat).2.1, (S.1 sy.toNat).2.2.1 + 1, fun i => if i = (S.1 sy.toNat).2.2.1 then x else (S.1 sy.toNat).2.2.2 i), S.2)) (-1000005, S))) (-1000002, S)) (-1000001, S)
noncomputable def sp_removeDigit (S : zS) (sy x : Int) : Int × zS := zite (zsy sy) (zite (zdi (S.1 sy.toNat) x < (S.1 sy.toNat).2.2.1) (((S.1 sy.toNat).2.2.1 : Int) - 1, (zupd S.1 sy.toNat ((S.1 sy.toNat).1, (S.1 sy.toNat).2.1, (S.1 sy.toNat).2.2.1 - 1, fun i => if i < zdi (S.1 sy.toNat) x then (S.1 sy.toNat).2.2.2 i else (S.1 sy.toNat).2.2.2 (i + 1)), S.2)) (-1000004, S)) (-1000001, S)
noncomputable def sp_choose (S : zS) (sy x : Int) : Int × zS := zite (zsy sy) (zite (zdi (S.1 sy.toNat) x < (S.1 sy.toNat).2.2.1) ((zdi (S.1 sy.toNat) x : Int), (zupd S.1 sy.toNat ((S.1 sy.toNat).1, (S.1 sy.toNat).2.1, (S.1 sy.toNat).2.2.1, fun i => if i = 0 then (S.1 sy.toNat).2.2.2 (zdi (S.1 sy.toNat) x) else if i ≤ zdi (S.1 sy.toNat) x then (S.1 sy.toNat).2.2.2 (i - 1) else (S.1 sy.toNat).2.2.2 i), S.2)) (-1000004, S)) (-1000001, S)
noncomputable def sp_digitAt (S : zS) (sy x : Int) : Int × zS := zite (zsy sy) (zite (0 ≤ x ∧ x < (S.1 sy.toNat).2.2.1) ((S.1 sy.toNat).2.2.2 x.toNat, S) (-1000001, S)) (-1000001, S)
noncomputable def sp_chosen (S : zS) (sy x : Int) : Int × zS := zite (zsy sy) (zite (0 ≤ x ∧ x < zP (S.1 sy.toNat)) (zch (S.1 sy.toNat) x, S) (-1000002, S)) (-1000001, S)
noncomputable def sp_system (S : zS) (sy x : Int) : Int × zS := zite (zsy sy) (zite (x = 0) ((S.1 sy.toNat).1, S) (zite (x = 1) ((S.1 sy.toNat).2.1, S) (zite (x = 2) (((S.1 sy.toNat).2.2.1 : Int), S) (zite (x = 3) (zite (zcm (S.1 sy.toNat)) 1 0, S) (zite (x = 4) (zab (S.1 sy.toNat).2.2.2 (S.1 sy.toNat).2.2.1, S) (-1000002, S)))))) (-1000001, S)
noncomputable def sp_push (S : zS) (ro x : Int) : Int × zS := zite (zro ro) (zite (-20 ≤ x ∧ x ≤ 20) (zite ((S.2 ro.toNat).1 < 12) (((S.2 ro.toNat).1 : Int) + 1, (S.1, zupd S.2 ro.toNat ((S.2 ro.toNat).1 + 1, fun i => if i = (S.2 ro.toNat).1 then x else (S.2 ro.toNat).2 i))) (-1000005, S)) (-1000002, S)) (-1000001, S)
noncomputable def sp_clear (S : zS) (ro : Int) : Int × zS := zite (zro ro) (((S.2 ro.toNat).1 : Int), (S.1, zupd S.2 ro.toNat (0, (S.2 ro.toNat).2))) (-1000001, S)
noncomputable def sp_size (S : zS) (ro : Int) : Int × zS := zite (zro ro) (((S.2 ro.toNat).1 : Int), S) (-1000001, S)
noncomputable def sp_entry (S : zS) (ro x : Int) : Int × zS := zite (zro ro) (zite (0 ≤ x ∧ x < (S.2 ro.toNat).1) ((S.2 ro.toNat).2 x.toNat, S) (-1000001, S)) (-1000001, S)
theorem in_X9_systemAt_9 : ∀ w ∈ wsX90, w ∈ wsX9_systemAt := by decide +kernel
set_option maxHeartbeats 4000000 in
set_option maxRecDepth 100000 in
theorem k_systemAt (Z : zT) (g : Nat → va_E) (h0 : z_x0 Z g) (x : Int32) : z_Mq Z yX9_systemAt wsX9_systemAt 0 0 [.ref (Z.2.1 0), .int x] g (fun r g1 => g = g1 ∧ ((∃ s : Nat, s < 2 ∧ x.toInt = (s : Int) ∧ r = some (Z.2.1 (15 + 13 * s))) ∨ (¬ zsy x.toInt ∧ r = none))) := by
  intro l sz
  obtain ⟨hN, h_x, ⟨fS, h_x1, hfS⟩, fR, h_x2, hfR⟩ := id h0
  have hN0 : 0 < Z.1 := by omega
  have hN1 : 1 < Z.1 := by omega
  have hN2 : 2 < Z.1 := by omega
  refine z_enter (maxL := 2) (ret := (some (.object "NumerationSystems$NumberSystem"))) (lv := [(0, .ref (Z.2.1 0)), (1, .int x)]) (plainFor_of_name (by decide +kernel)) rfl (fun ls h => by subst h; exact lv_entry [.ref (Z.2.1 0), .int x] (n := 2) (Nat.le_of_ble_eq_true rfl)) ?_
  intro p e s m args below meth c hx hb hml hr hlocks hown hts hK hS hsz ls hl
  refine lv_iload_n hx hb dX9_systemAt_0 rfl (lv_at hl 1 rfl) ?_
  refine lv_if_lt (tgt := 13) hx hb dX9_systemAt_1 (by decide) (fun c_1 => ?_) (fun c_1 => ?_)
  · have i_1 := z_lt c_1
    rw [tI_0] at i_1
    have hno : ¬ zsy x.toInt := fun h9 => by have := h9.1; omega
    refine lv_null hx hb dX9_systemAt_13 ?_
    refine lv_goto (tgt := 23) hx hb dX9_systemAt_14 (by decide) ?_
    refine z_qret (r := none) hx hb hr hlocks hS ?_ dX9_systemAt_23
    exact ⟨rfl, Or.inr ⟨hno, rfl⟩⟩
  · have i_1 := z_nlt c_1
    rw [tI_0] at i_1
    refine lv_iload_n hx hb dX9_systemAt_4 rfl (lv_at hl 1 rfl) ?_
    refine lv_aload_n hx hb dX9_systemAt_5 rfl (lv_at hl 0 rfl) ?_
    refine z_get (own := RX9) (C := RX9) (T := TX9) (N := 5) hx hb hts in_X9_systemAt_9 hown hK hS h_x hN0 rfl 0 (by decide) (List.mem_of_getElem? (i := 1) rfl) rfl rfl dX9_systemAt_6 ?_
    refine z_alen (v := 2) hx hb hK hS 3 h_x1 hN1 rfl rfl dX9_systemAt_9 ?_
    refine lv_icmp_lt (tgt := 17) hx hb dX9_systemAt_10 (by decide) (fun c_2 => ?_) (fun c_2 => ?_)
    · have i_2 := z_lt c_2
      rw [tI_2] at i_2
      obtain ⟨s9, es9, hs9, -⟩ := z_nI_of (x := x) (by omega)
      subst es9
      rw [nI_toInt (by omega)] at i_2
      refine lv_aload_n hx hb dX9_systemAt_17 rfl (lv_at hl 0 rfl) ?_
      refine z_get (own := RX9) (C := RX9) (T := TX9) (N := 5) hx hb hts in_X9_systemAt_9 hown hK hS h_x hN0 rfl 0 (by decide) (List.mem_of_getElem? (i := 1) rfl) rfl rfl dX9_systemAt_18 ?_
      refine lv_iload_n hx hb dX9_systemAt_21 rfl (lv_at hl 1 rfl) ?_
      refine z_aald3 hx hb hK hS h_x1 hN1 (vp_in_nI (by omega) (by omega)) dX9_systemAt_22 ?_
      rw [show fS (nI s9).toNatClampNeg = fS s9 from by rw [nI_clamp (by omega)]]
      refine z_qret (r := fS s9) hx hb hr hlocks hS ?_ dX9_systemAt_23
      exact ⟨rfl, Or.inl ⟨s9, by omega, nI_toInt (by omega), hfS s9 (by omega)⟩⟩
    · have i_2 := z_nlt c_2
      rw [tI_2] at i_2
      have hno : ¬ zsy x.toInt := fun h9 => by have := h9.2; omega
      refine lv_null hx hb dX9_systemAt_13 ?_
      refine lv_goto (tgt := 23) hx hb dX9_systemAt_14 (by decide) ?_
      refine z_qret (r := none) hx hb hr hlocks hS ?_ dX9_systemAt_23
      exact ⟨rfl, Or.inr ⟨hno, rfl⟩⟩

theorem in_X9_rowAt_9 : ∀ w ∈ wsX90, w ∈ wsX9_rowAt := by decide +kernel
set_option maxHeartbeats 4000000 in
set_option maxRecDepth 100000 in
theorem k_rowAt (Z : zT) (g : Nat → va_E) (h0 : z_x0 Z g) (x : Int32) : z_Mq Z yX9_rowAt wsX9_rowAt 0 0 [.ref (Z.2.1 0), .int x] g (fun r g1 => g = g1 ∧ ((∃ s : Nat, s < 3 ∧ x.toInt = (s : Int) ∧ r = some (Z.2.1 (9 + 2 * s))) ∨ (¬ zro x.toInt ∧ r = none))) := by
  intro l sz
  obtain ⟨hN, h_x, ⟨fS, h_x1, hfS⟩, fR, h_x2, hfR⟩ := id h0
  have hN0 : 0 < Z.1 := by omega
  have hN1 : 1 < Z.1 := by omega
  have hN2 : 2 < Z.1 := by omega
  refine z_enter (maxL := 2) (ret := (some (.object "NumerationSystems$Row"))) (lv := [(0, .ref (Z.2.1 0)), (1, .int x)]) (plainFor_of_name (by decide +kernel)) rfl (fun ls h => by subst h; exact lv_entry [.ref (Z.2.1 0), .int x] (n := 2) (Nat.le_of_ble_eq_true rfl)) ?_
  intro p e s m args below meth c hx hb hml hr hlocks hown hts hK hS hsz ls hl
  refine lv_iload_n hx hb dX9_rowAt_0 rfl (lv_at hl 1 rfl) ?_
  refine lv_if_lt (tgt := 13) hx hb dX9_rowAt_1 (by decide) (fun c_1 => ?_) (fun c_1 => ?_)
  · have i_1 := z_lt c_1
    rw [tI_0] at i_1
    have hno : ¬ zro x.toInt := fun h9 => by have := h9.1; omega
    refine lv_null hx hb dX9_rowAt_13 ?_
    refine lv_goto (tgt := 23) hx hb dX9_rowAt_14 (by decide) ?_
    refine z_qret (r := none) hx hb hr hlocks hS ?_ dX9_rowAt_23
    exact ⟨rfl, Or.inr ⟨hno, rfl⟩⟩
  · have i_1 := z_nlt c_1
    rw [tI_0] at i_1
    refine lv_iload_n hx hb dX9_rowAt_4 rfl (lv_at hl 1 rfl) ?_
    refine lv_aload_n hx hb dX9_rowAt_5 rfl (lv_at hl 0 rfl) ?_
    refine z_get (own := RX9) (C := RX9) (T := TX9) (N := 5) hx hb hts in_X9_rowAt_9 hown hK hS h_x hN0 rfl 1 (by decide) (List.mem_of_getElem? (i := 1) rfl) rfl rfl dX9_rowAt_6 ?_
    refine z_alen (v := 3) hx hb hK hS 4 h_x2 hN2 rfl rfl dX9_rowAt_9 ?_
    refine lv_icmp_lt (tgt := 17) hx hb dX9_rowAt_10 (by decide) (fun c_2 => ?_) (fun c_2 => ?_)
    · have i_2 := z_lt c_2
      rw [tI_3] at i_2
      obtain ⟨s9, es9, hs9, -⟩ := z_nI_of (x := x) (by omega)
      subst es9
      rw [nI_toInt (by omega)] at i_2
      refine lv_aload_n hx hb dX9_rowAt_17 rfl (lv_at hl 0 rfl) ?_
      refine z_get (own := RX9) (C := RX9) (T := TX9) (N := 5) hx hb hts in_X9_rowAt_9 hown hK hS h_x hN0 rfl 1 (by decide) (List.mem_of_getElem? (i := 1) rfl) rfl rfl dX9_rowAt_18 ?_
      refine lv_iload_n hx hb dX9_rowAt_21 rfl (lv_at hl 1 rfl) ?_
      refine z_aald4 hx hb hK hS h_x2 hN2 (vp_in_nI (by omega) (by omega)) dX9_rowAt_22 ?_
      rw [show fR (nI s9).toNatClampNeg = fR s9 from by rw [nI_clamp (by omega)]]
      refine z_qret (r := fR s9) hx hb hr hlocks hS ?_ dX9_rowAt_23
      exact ⟨rfl, Or.inl ⟨s9, by omega, nI_toInt (by omega), hfR s9 (by omega)⟩⟩
    · have i_2 := z_nlt c_2
      rw [tI_3] at i_2
      have hno : ¬ zro x.toInt := fun h9 => by have := h9.2; omega
      refine lv_null hx hb dX9_rowAt_13 ?_
      refine lv_goto (tgt := 23) hx hb dX9_rowAt_14 (by decide) ?_
      refine z_qret (r := none) hx hb hr hlocks hS ?_ dX9_rowAt_23
      exact ⟨rfl, Or.inr ⟨hno, rfl⟩⟩

theorem in_X9_setBase_0 : ∀ w ∈ wsX00, w ∈ wsX9_setBase := by decide +kernel
theorem in_X9_setBase_5 : ∀ w ∈ wsX50, w ∈ wsX9_setBase := by decide +kernel
set_option maxHeartbeats 4000000 in
set_option maxRecDepth 100000 in
theorem k_setBase (Z : zT) {G9 : Nat → va_E} (g : Nat → va_E) (sg : Nat → zb) (rw9 : Nat → zr) (hX : z_xw Z G9 g sg rw9) (x y z : Int32) : z_Mi Z yX9_setBase wsX9_setBase 4 90 [.ref (Z.2.1 0), .int x, .int y, .int z] g (fun r g1 => z_po Z G9 (sp_setBase (sg, rw9) x.toInt y.toInt z.toInt) r g1) := by
  intro l sz
  have h0 := hX.1
  obtain ⟨hN, h_x, ⟨fS, h_x1, hfS⟩, fR, h_x2, hfR⟩ := id h0
  have hN0 : 0 < Z.1 := by omega
  have hN1 : 1 < Z.1 := by omega
  have hN2 : 2 < Z.1 := by omega
  refine z_enter (maxL := 5) (ret := (some .int)) (lv := [(0, .ref (Z.2.1 0)), (1, .int x), (2, .int y), (3, .int z)]) (plainFor_of_name (by decide +kernel)) rfl (fun ls h => by subst h; exact lv_entry [.ref (Z.2.1 0), .int x, .int y, .int z] (n := 5) (Nat.le_of_ble_eq_true rfl)) ?_
  intro p e s m args below meth c hx hb hml hr hlocks hown hts hK hS hsz ls hl
  refine lv_aload_n hx hb dX9_setBase_0 rfl (lv_at hl 0 rfl) ?_
  refine lv_iload_n hx hb dX9_setBase_1 rfl (lv_at hl 1 rfl) ?_
  refine z_callq (z_runV (As := [.int x]) (rest := []) ⟨hx, hb, hml, hown, hts⟩ hK hS ((k_systemAt Z g h0 x) l _) gX9_setBase_X9_systemAt rfl 1 (by decide +kernel) ⟨Nat.le_of_ble_eq_true rfl, Nat.le_of_ble_eq_true rfl⟩ h_x hN0 rfl rfl hl.1 rfl (Nat.le_of_ble_eq_true rfl) dX9_setBase_2 ⟨Nat.le_of_ble_eq_true rfl, Nat.le_of_ble_eq_true rfl⟩) hS (fun r_1 g_2 H locs hp_3 hS => ?_)
  obtain ⟨rfl, hp_3⟩ := hp_3
  rcases hp_3 with ⟨s1, hs2, hsv, er⟩ | ⟨hnv, er⟩
  · subst er
    obtain ⟨h_n, hBs, ⟨w1, w2, w3, w4, w5, w6, hW⟩, h_y, ⟨lw, hw, tb, y1, y2, y3, hO⟩, l0, hC⟩ := hX.2.2.2.2.2 s1 hs2
    have hzs : zsy x.toInt := ⟨by omega, by omega⟩
    have htn : x.toInt.toNat = s1 := by omega
    obtain ⟨pb, qb, res, cmp, dg, ch, ⟨h_b, h_d, h_c, hkN, hok, hp, hq, hres, hdg⟩, hch, hcmp⟩ := id hBs
    have hkn : 15 + 13 * s1 < Z.1 := by omega
    have hk0 : 16 + 13 * s1 < Z.1 := by omega
    have hk1 : 16 + 13 * s1 + 1 < Z.1 := by omega
    have hk2 : 16 + 13 * s1 + 2 < Z.1 := by omega
    have hPb := zP_bd hok
    have hn12 := hok.2.2.2.1
    have hq1 := hok.2.1
    refine lv_astore (lv' := [(4, .ref (Z.2.1 (15 + 13 * s1))), (0, .ref (Z.2.1 0)), (1, .int x), (2, .int y), (3, .int z)]) hx hb dX9_setBase_5 hl (by decide) rfl (fun ls hl => ?_)
    refine lv_aload hx hb dX9_setBase_7 (lv_at hl 0 rfl) ?_
    refine lv_ifnonnull (tgt := 15) hx hb dX9_setBase_9 (by decide) ?_
    refine lv_iload_n hx hb dX9_setBase_15 rfl (lv_at hl 3 rfl) ?_
    refine lv_iload_n hx hb dX9_setBase_16 rfl (lv_at hl 4 rfl) ?_
    refine z_calli (z_runS (As := [.int y, .int z]) (rest := []) ⟨hx, hb, hml, hown, hts⟩ hK hS ((k_isBase Z g y z) l _) gX9_setBase_X9_isBase rfl 2 (by decide +kernel) ⟨Nat.le_of_ble_eq_true rfl, Nat.le_of_ble_eq_true rfl⟩ rfl hl.1 rfl (Nat.le_of_ble_eq_true rfl) dX9_setBase_17 ⟨Nat.le_of_ble_eq_true rfl, Nat.le_of_ble_eq_true rfl⟩) hS (fun rb g_4 H locs hp_5 hS => ?_)
    obtain ⟨rfl, hp_5⟩ := hp_5
    have hrb := hp_5
    refine lv_if_ne (tgt := 26) hx hb dX9_setBase_20 (by decide) (fun c_6 => ?_) (fun c_6 => ?_)
    · have i_6 := z_ne c_6
      rw [tI_0] at i_6
      have hib := zbo_t hrb c_6
      have hyr := fb_rng y
      refine lv_aload hx hb dX9_setBase_26 (lv_at hl 0 rfl) ?_
      refine z_getN (own := RX9) (C := RX5) (T := TX5) (N := 5) hx hb hts in_X9_setBase_5 hown hK hS h_n hkn rfl 0 (by decide) 14 rfl rfl rfl dX9_setBase_28 ?_
      refine lv_iload_n hx hb dX9_setBase_31 rfl (lv_at hl 3 rfl) ?_
      refine lv_iload_n hx hb dX9_setBase_32 rfl (lv_at hl 4 rfl) ?_
      refine z_callv (z_runVN (As := [.int y, .int z]) (rest := []) (C := RX0) ⟨hx, hb, hml, hown, hts⟩ hK hS ((k_become Z g (16 + 13 * s1) y z pb qb res (nI (sg s1).2.2.1) cmp dg ch h_b h_d h_c (by omega) (by have := hib.1; have := hib.2.1; omega) y.toInt.natAbs (by split <;> omega) ⟨hib.2.2.1, by have := hib.2.2.2.1; omega⟩) l _) gX9_setBase_X0_become_n59 rfl 2 35 rfl (List.mem_of_getElem? (i := 26) rfl) (List.mem_of_getElem? (i := 25) rfl) (List.mem_of_getElem? (i := 27) rfl) (by decide +kernel) ⟨Nat.le_of_ble_eq_true rfl, Nat.le_of_ble_eq_true rfl⟩ h_b hk0 rfl rfl hl.1 rfl (Nat.le_of_ble_eq_true rfl) dX9_setBase_33 ⟨Nat.le_of_ble_eq_true rfl, Nat.le_of_ble_eq_true rfl⟩) hS (fun g_8 H locs hp_9 hS => ?_)
      obtain ⟨hB2, hfr_10⟩ := hp_9
      have h_x := (hfr_10 _ (by omega)).trans h_x
      have h_x1 := (hfr_10 _ (by omega)).trans h_x1
      have h_x2 := (hfr_10 _ (by omega)).trans h_x2
      have h_n := (hfr_10 _ (by omega)).trans h_n
      obtain ⟨pb2, qb2, res2, cmp2, dg2, ch2, ⟨h_b, -, -, -, -, -, -, hres2, -⟩, -⟩ := id hB2
      refine lv_aload hx hb dX9_setBase_36 (lv_at hl 0 rfl) ?_
      refine z_getN (own := RX9) (C := RX5) (T := TX5) (N := 5) hx hb hts in_X9_setBase_5 hown hK hS h_n hkn rfl 0 (by decide) 14 rfl rfl rfl dX9_setBase_38 ?_
      refine z_getN (own := RX9) (C := RX0) (T := TX0) (N := 7) hx hb hts in_X9_setBase_0 hown hK hS h_b hk0 rfl 2 (by decide) 15 rfl rfl rfl dX9_setBase_41 ?_
      refine z_iret hx hb hr hlocks hS ?_ dX9_setBase_44
      show z_po Z G9 (sp_setBase (sg, rw9) x.toInt y.toInt z.toInt) _ _
      unfold sp_setBase
      rw [zite_t hzs, zite_t hib, htn]
      exact ⟨by rw [hres2]; unfold zP; simp only; split <;> omega, hX.base hs2 (z_fr.rf.tr (hfr_10.wide (by omega) (by omega))) hB2⟩
    · have i_6 := z_eq c_6
      rw [tI_0] at i_6
      have hib := zbo_f hrb c_6
      refine lv_ldc (v := (-1000002)) hx hb hown (hts _ (List.mem_of_getElem? (i := 2) rfl)) dX9_setBase_23 ?_
      refine z_iret hx hb hr hlocks hS ?_ dX9_setBase_25
      show z_po Z G9 (sp_setBase (sg, rw9) x.toInt y.toInt z.toInt) _ _
      unfold sp_setBase
      rw [zite_t hzs, zite_f hib]
      exact ⟨rfl, hX⟩
  · subst er
    refine lv_astoreN (lv' := [(4, .null), (0, .ref (Z.2.1 0)), (1, .int x), (2, .int y), (3, .int z)]) hx hb dX9_setBase_5 hl (by decide) rfl (fun ls hl => ?_)
    refine lv_aloadN hx hb dX9_setBase_7 (lv_at hl 0 rfl) ?_
    refine lv_ifnonnullN hx hb dX9_setBase_9 ?_
    refine lv_ldc (v := (-1000001)) hx hb hown (hts _ (List.mem_of_getElem? (i := 1) rfl)) dX9_setBase_12 ?_
    refine z_iret hx hb hr hlocks hS ?_ dX9_setBase_14
    show z_po Z G9 (sp_setBase (sg, rw9) x.toInt y.toInt z.toInt) _ _
    unfold sp_setBase
    rw [zite_f hnv]
    exact ⟨rfl, hX⟩

