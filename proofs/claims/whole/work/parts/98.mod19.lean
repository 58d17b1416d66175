/-! the reference: carries that can occur -/
def zTs (b : zb) (ds k x : Nat) : Int := (if 0 < ds then b.2.2.2 k else 0) + (if 1 < ds then b.2.2.2 x else 0)
def zNk (b : zb) (ds : Nat) : Nat := if ds = 0 then 1 else b.2.2.1
def zNx (b : zb) (ds : Nat) : Nat := if ds < 2 then 1 else b.2.2.1
def zs9 (b : zb) (ds : Nat) (x y : Int) : Prop := ∃ i j, i < zNk b ds ∧ j < zNx b ds ∧ y = zcr b x (zTs b ds i j)
theorem zs9_2 (b : zb) : zs9 b 2 = zs2 b := rfl
theorem zs9_1 (b : zb) : zs9 b 1 = zs1 b := by
  funext x y
  refine propext ⟨fun ⟨i, j, h1, h2, e⟩ => ⟨i, h1, e.trans (congrArg _ (Int.add_zero _))⟩, fun ⟨i, h1, e⟩ => ⟨i, 0, h1, Nat.one_pos, e.trans (congrArg _ (Int.add_zero _).symm)⟩⟩
theorem zs9_0 (b : zb) : zs9 b 0 = zs0 b := by
  funext x y
  exact propext ⟨fun ⟨i, j, h1, h2, e⟩ => e, fun e => ⟨0, 0, Nat.one_pos, Nat.one_pos, e⟩⟩
theorem zTs_bd {b : zb} (hok : zb_ok b) {ds i j : Nat} (hi : i < zNk b ds) (hj : j < zNx b ds) : -40 ≤ zTs b ds i j ∧ zTs b ds i j ≤ 40 := by
  have h5 := hok.2.2.2.2
  unfold zNk at hi
  unfold zNx at hj
  unfold zTs
  by_cases h0 : ds = 0
  · rw [if_neg (by omega), if_neg (by omega)]; omega
  · rw [if_neg h0] at hi
    have h1 := h5 i hi
    rw [if_pos (by omega)]
    by_cases h2 : ds < 2
    · rw [if_neg (by omega)]; omega
    · rw [if_neg h2] at hj
      have h3 := h5 j hj
      rw [if_pos (by omega)]; omega
theorem zcl_b60 {b : zb} (hok : zb_ok b) (hcm : zcm b) {ds : Nat} {X : Int → Prop} (hX : ∀ y, X y → -60 ≤ y ∧ y ≤ 60) {y : Int} (h : zcl (zs9 b ds) X y) : -60 ≤ y ∧ y ≤ 60 :=
  h (fun y => -60 ≤ y ∧ y ≤ 60) hX (fun x z hx ⟨i, j, hi, hj, e⟩ => by
    rw [e]; exact zcr_bd60 hok hcm hx (zTs_bd hok hi hj))
def zsp (C X : Int → Prop) (oc : Nat → Int32) : Prop := (∀ t, t < 129 → oc t = 0 ∨ oc t = 1) ∧ (∀ t, t < 129 → oc t = 1 → C ((t : Int) - 64)) ∧ ∀ t : Nat, t < 129 → X ((t : Int) - 64) → oc t = 1
def zcu (oc : Nat → Int32) : Nat := zct (fun t => decide (oc t = 1)) 129
theorem z_upd_id {oc : Nat → Int32} {n : Nat} (h : oc n = 1) : upd oc n 1 = oc := by
  funext t
  by_cases e : t = n
  · rw [e, pk_us, h]
  · rw [pk_un e]
theorem z_upd_up {oc : Nat → Int32} {n t : Nat} (h : oc t = 1) : upd oc n 1 t = 1 := by
  by_cases e : t = n
  · rw [e, pk_us]
  · rw [pk_un e]; exact h
theorem zcu_put {oc : Nat → Int32} {n : Nat} (h : oc n = 0) (hn : n < 129) : zcu (upd oc n 1) = zcu oc + 1 := by
  unfold zcu
  rw [zct_ins (c := fun t => decide (oc t = 1)) (c2 := fun t => decide (upd oc n 1 t = 1)) (j := n) (by
    rw [h]; decide) (by
    rw [pk_us]; decide) (fun t ht => by
    rw [pk_un ht]) 129, if_pos hn]
theorem zcu_le {oc : Nat → Int32} {n : Nat} (h : oc n = 0 ∨ oc n = 1) (hn : n < 129) : zcu oc ≤ zcu (upd oc n 1) := by
  rcases h with h | h
  · rw [zcu_put h hn]; omega
  · rw [z_upd_id h]; exact Nat.le_refl _
theorem zsp_put {C X : Int → Prop} {oc : Nat → Int32} {n : Nat} (h : zsp C X oc) (hC : C ((n : Int) - 64)) : zsp C X (upd oc n 1) :=
  ⟨fun t ht => by
    by_cases e : t = n
    · rw [e, pk_us]; exact Or.inr rfl
    · rw [pk_un e]; exact h.1 t ht, fun t ht h1 => by
    by_cases e : t = n
    · rw [e]; exact hC
    · rw [pk_un e] at h1; exact h.2.1 t ht h1, fun t ht hx => z_upd_up (h.2.2 t ht hx)⟩
theorem zsp_of {C X : Int → Prop} {oc : Nat → Int32} (h : ∀ t, t < 129 → zbo (oc t) (X ((t : Int) - 64))) (hC : ∀ y, X y → C y) : zsp C X oc :=
  ⟨fun t ht => (h t ht).elim (fun q => Or.inr q.2) (fun q => Or.inl q.2), fun t ht h1 => by
    rcases h t ht with q | q
    · exact hC _ q.1
    · rw [q.2] at h1; exact absurd h1 (by decide), fun t ht hx => by
    rcases h t ht with q | q
    · exact q.2
    · exact absurd hx q.1⟩
theorem zsp_end {b : zb} (hok : zb_ok b) (hcm : zcm b) {ds : Nat} {X : Int → Prop} {oc : Nat → Int32} (h : zsp (zcl (zs9 b ds) X) X oc) (hX : ∀ y, X y → -60 ≤ y ∧ y ≤ 60) (hc : ∀ u, u < 129 → oc u = 1 → ∀ k, k < zNk b ds → ∀ x, x < zNx b ds → oc (zcr b ((u : Int) - 64) (zTs b ds k x) + 64).toNat = 1) : ∀ t, t < 129 → zbo (oc t) (zcl (zs9 b ds) X ((t : Int) - 64)) := by
  intro t ht
  rcases h.1 t ht with e | e
  · refine Or.inr ⟨fun hC => ?_, e⟩
    have hY := hC (fun y => (-60 ≤ y ∧ y ≤ 60) ∧ oc (y + 64).toNat = 1) (fun y hy => by
      have h1 := hX y hy
      refine ⟨h1, h.2.2 _ (by omega) ?_⟩
      rw [show (((y + 64).toNat : Nat) : Int) - 64 = y by omega]; exact hy) (fun x z hx ⟨i, j, hi, hj, e2⟩ => by
      obtain ⟨h1, h2⟩ := hx
      have h3 := hc (x + 64).toNat (by omega) h2 i hi j hj
      rw [show (((x + 64).toNat : Nat) : Int) - 64 = x by omega, ← e2] at h3
      exact ⟨by rw [e2]; exact zcr_bd60 hok hcm h1 (zTs_bd hok hi hj), h3⟩)
    have h4 := hY.2
    rw [show ((t : Int) - 64 + 64).toNat = t by omega, e] at h4
    exact absurd h4 (by decide)
  · exact Or.inl ⟨h.2.1 t ht e, e⟩
noncomputable def zc64 (b : zb) (t : Nat) : Bool := @decide (zcs b ((t : Int) - 64)) (Classical.propDecidable _)
theorem zc64_t {b : zb} {t : Nat} : zc64 b t = true ↔ zcs b ((t : Int) - 64) := by
  unfold zc64
  exact @decide_eq_true_iff _ (Classical.propDecidable _)
theorem zc64_f {b : zb} {t : Nat} (h : ¬ zcs b ((t : Int) - 64)) : zc64 b t = false := by
  cases e : zc64 b t
  · rfl
  · exact absurd (zc64_t.mp e) h
theorem zcs_b60 {b : zb} (hok : zb_ok b) (hcm : zcm b) {y : Int} (h : zcs b y) : -60 ≤ y ∧ y ≤ 60 := by
  unfold zcs at h
  rw [← zs9_0, ← zs9_1, ← zs9_2] at h
  exact zcl_b60 hok hcm (fun y hy => zcl_b60 hok hcm (fun y hy => zcl_b60 hok hcm (fun y hy => by
    have e : y = 0 := hy
    rw [e]; omega) hy) hy) h
theorem zc64_s {b : zb} (t : Nat) : zc64 b (4 + t) = zcsB b t := by
  unfold zc64 zcsB
  rw [show (((4 + t : Nat) : Int) - 64) = (t : Int) - 60 by omega]
theorem zc64_sh {b : zb} (hok : zb_ok b) (hcm : zcm b) : ∀ n, zct (zc64 b) (4 + n) = zct (zcsB b) n
  | 0 => zct_false (c := zc64 b) 0 (j := 4) (fun t _ ht => zc64_f (fun h => by
      have := zcs_b60 hok hcm h
      omega))
  | n + 1 => by
    have ih := zc64_sh hok hcm n
    show zct (zc64 b) (4 + n) + (if zc64 b (4 + n) then 1 else 0) = zct (zcsB b) n + (if zcsB b n then 1 else 0)
    rw [ih, zc64_s]
theorem zc64_all {b : zb} (hok : zb_ok b) (hcm : zcm b) : zct (zc64 b) 129 = zcc b := by
  have h1 := zct_false (c := zc64 b) 125 (j := 4) (fun t h1 h2 => zc64_f (fun h => by
    have := zcs_b60 hok hcm h
    omega))
  exact h1.trans (zc64_sh hok hcm 121)
theorem zck64 {b : zb} (hok : zb_ok b) (hcm : zcm b) {t k : Nat} (h : zc64 b t = true) (hk : zct (zc64 b) t = k) : zck b k = (t : Int) - 64 := by
  have h1 := zcs_b60 hok hcm (zc64_t.mp h)
  obtain ⟨u, hu⟩ : ∃ u, t = 4 + u := ⟨t - 4, by omega⟩
  subst hu
  rw [zc64_s] at h
  rw [zc64_sh hok hcm] at hk
  rw [zck_is (t := u) (by omega) h hk]; omega
theorem z_mx.occ {Z : zT} {g g1 : Nat → va_E} {rw9 : Nat → zr} (h : z_mx Z g rw9) {f : Nat → Int32} (h56 : g1 56 = .inl (Z.2.2.2 2, 129, .inl f)) (hf : ∀ j, 46 ≤ j → j < 56 → g1 j = g j) : z_mx Z g1 rw9 := by
  obtain ⟨⟨f1, a1⟩, ⟨f2, a2⟩, ⟨f3, a3⟩, ⟨f4, a4⟩, ⟨f5, a5⟩, ⟨f6, a6⟩, ⟨f7, a7, b7⟩, ⟨f8, a8, b8⟩, ⟨f9, a9⟩, ⟨f10, a10⟩, -⟩ := h
  exact ⟨⟨f1, (hf _ (by omega) (by omega)).trans a1⟩, ⟨f2, (hf _ (by omega) (by omega)).trans a2⟩, ⟨f3, (hf _ (by omega) (by omega)).trans a3⟩, ⟨f4, (hf _ (by omega) (by omega)).trans a4⟩, ⟨f5, (hf _ (by omega) (by omega)).trans a5⟩, ⟨f6, (hf _ (by omega) (by omega)).trans a6⟩, ⟨f7, (hf _ (by omega) (by omega)).trans a7, b7⟩, ⟨f8, (hf _ (by omega) (by omega)).trans a8, b8⟩, ⟨f9, (hf _ (by omega) (by omega)).trans a9⟩, ⟨f10, (hf _ (by omega) (by omega)).trans a10⟩, f, h56⟩
theorem in_X10_spread_10 : ∀ w ∈ wsX100, w ∈ wsX10_spread := by decide +kernel
set_option maxHeartbeats 4000000 in
set_option maxRecDepth 100000 in
theorem m_spread2 (Z : zT) (g : Nat → va_E) (sg : Nat → zb) (hM : z_mr Z g sg) (s1 : Nat) (hs1 : s1 < 2) (oc : Nat → Int32) (h_oc : g 56 = .inl (Z.2.2.2 2, 129, .inl oc)) (hcm : zcm (sg s1)) (X : Int → Prop) (hX : ∀ t, t < 129 → zbo (oc t) (X ((t : Int) - 64))) (hXb : ∀ y, X y → -60 ≤ y ∧ y ≤ 60) : z_Mv Z yX10_spread wsX10_spread 6 134 [.ref (Z.2.1 41), .int (nI s1), .int 2] g (fun g1 => ∃ oc1 : Nat → Int32, g1 56 = .inl (Z.2.2.2 2, 129, .inl oc1) ∧ (∀ t, t < 129 → zbo (oc1 t) (zcl (zs9 (sg s1) 2) X ((t : Int) - 64))) ∧ z_fr 56 1 g g1) := by
  intro l sz
  obtain ⟨v4, v5, v6, v15, v16, v17, fu, fq, fm, fd, h_m, h_u, h_q, h_n9, h_g, hMN, hSg⟩ := id hM
  have hM41 : 41 < Z.1 := by omega
  have hM42 : 42 < Z.1 := by omega
  have hM43 : 43 < Z.1 := by omega
  have hM44 : 44 < Z.1 := by omega
  have hM45 : 45 < Z.1 := by omega
  obtain ⟨hok, hp, hq, hm, hd⟩ := hSg s1 hs1
  have hPb := zP_bd hok
  have hn12 := hok.2.2.2.1
  have hq1 := hok.2.1
  have hM56 : 56 < Z.1 := by omega
  have hnk9 : zNk (sg s1) 2 = (sg s1).2.2.1 := rfl
  have hnx9 : zNx (sg s1) 2 = (sg s1).2.2.1 := rfl
  refine z_enter (maxL := 9) (ret := none) (lv := [(0, .ref (Z.2.1 41)), (1, .int (nI s1)), (2, .int 2)]) (plainFor_of_name (by decide +kernel)) rfl (fun ls h => by subst h; exact lv_entry [.ref (Z.2.1 41), .int (nI s1), .int 2] (n := 9) (Nat.le_of_ble_eq_true rfl)) ?_
  intro p e s m args below meth c hx hb hml hr hlocks hown hts hK hS hsz ls hl
  refine lv_iconst (v := 1) hx hb dX10_spread_0 (by decide) ?_
  refine lv_istore_n (lv' := [(3, .int 1), (0, .ref (Z.2.1 41)), (1, .int (nI s1)), (2, .int 2)]) hx hb dX10_spread_1 rfl hl (by decide) rfl (fun ls hl => ?_)
  have hcut_2 : ∀ (nn_2 : Nat) (oc0 : Nat → Int32) (mo : Int32) (ga : Nat → va_E) (h_m : ga 41 = .inr (10, [.ref (Z.2.1 42), .ref (Z.2.1 43), .ref (Z.2.1 44), .ref (Z.2.1 45), .int v4, .int v5, .int v6, .ref (Z.2.1 46), .ref (Z.2.1 47), .ref (Z.2.1 48), .ref (Z.2.1 49), .ref (Z.2.1 50), .ref (Z.2.1 51), .ref (Z.2.1 52), .ref (Z.2.1 53), .long v15, .long v16, .int v17, .ref (Z.2.1 54), .ref (Z.2.1 55), .ref (Z.2.1 56)])) (h_u : ga 42 = .inl (Z.2.2.2 0, 2, .inl fu)) (h_q : ga 43 = .inl (Z.2.2.2 0, 2, .inl fq)) (h_n9 : ga 44 = .inl (Z.2.2.2 0, 2, .inl fm)) (h_g : ga 45 = .inl (Z.2.2.2 0, 24, .inl fd)) (h_oc : ga 56 = .inl (Z.2.2.2 2, 129, .inl oc0)) (hfr_ga : z_fr 56 1 g ga) (hsp0 : zsp (zcl (zs9 (sg s1) 2) X) X oc0) (hmo : mo = 1 ∨ (mo = 0 ∧ ∀ u, u < 129 → oc0 u = 1 → ∀ k, k < zNk (sg s1) 2 → ∀ x, x < zNx (sg s1) 2 → oc0 (zcr (sg s1) ((u : Int) - 64) (zTs (sg s1) 2 k x) + 64).toNat = 1)) (hm_2 : 129 - zcu oc0 + mo.toInt.toNat < nn_2) (H : Heap) (locs : List Loc) (ls : Array Slot), z_S Z (z_A Z sz) s.heap ga H locs → lv_has ls 9 [(0, .ref (Z.2.1 41)), (1, .int (nI s1)), (2, .int 2), (3, .int mo)] → W p l e (headSpec wsX10_spread (z_rm 6 134)).room s m args below meth c H locs 0 0 (MQ below (va_Qv (fun g1 => ∃ oc1 : Nat → Int32, g1 56 = .inl (Z.2.2.2 2, 129, .inl oc1) ∧ (∀ t, t < 129 → zbo (oc1 t) (zcl (zs9 (sg s1) 2) X ((t : Int) - 64))) ∧ z_fr 56 1 g g1) (z_B Z) (z_A Z sz)) args s 0 0 (z_A Z sz)) (F0 m 2 ls []) := by
    intro nn_2
    induction nn_2 with
    | zero => intro oc0 mo ga h_m h_u h_q h_n9 h_g h_oc hfr_ga hsp0 hmo hm_2 H locs ls hS hl; exact absurd hm_2 (Nat.not_lt_zero _)
    | succ nn_2 ih_2 =>
      intro oc0 mo ga h_m h_u h_q h_n9 h_g h_oc hfr_ga hsp0 hmo hm_2 H locs ls hS hl
      refine lv_iload_n hx hb dX10_spread_2 rfl (lv_at hl 3 rfl) ?_
      refine lv_if_eq (tgt := 184) hx hb dX10_spread_3 (by decide) (fun c_1 => ?_) (fun c_1 => ?_)
      · have i_1 := z_eq c_1
        rw [tI_0] at i_1
        have hmo0 := (hmo.resolve_left (fun h9 => by rw [h9] at c_1; exact absurd c_1 (by decide))).2
        refine z_vret hx hb hr hlocks hS ?_ dX10_spread_184
        exact ⟨oc0, h_oc, zsp_end hok hcm hsp0 hXb hmo0, hfr_ga⟩
      · have i_1 := z_ne c_1
        rw [tI_0] at i_1
        have hmo1 : mo = 1 := hmo.resolve_right (fun h9 => c_1 h9.1)
        refine lv_iconst (v := 0) hx hb dX10_spread_6 (by decide) ?_
        refine lv_istore_n (lv' := [(3, .int 0), (0, .ref (Z.2.1 41)), (1, .int (nI s1)), (2, .int 2)]) hx hb dX10_spread_7 rfl hl (by decide) rfl (fun ls hl => ?_)
        refine lv_bipush (v := (-64)) hx hb dX10_spread_8 (by decide) ?_
        refine lv_istore (lv' := [(4, .int (-64)), (3, .int 0), (0, .ref (Z.2.1 41)), (1, .int (nI s1)), (2, .int 2)]) hx hb dX10_spread_10 hl (by decide) rfl (fun ls hl => ?_)
        have hcut_12 : ∀ (nn_12 : Nat) (ci : Nat) (cv : Int32) (oc1 : Nat → Int32) (m1 : Int32) (gb : Nat → va_E) (h_m : gb 41 = .inr (10, [.ref (Z.2.1 42), .ref (Z.2.1 43), .ref (Z.2.1 44), .ref (Z.2.1 45), .int v4, .int v5, .int v6, .ref (Z.2.1 46), .ref (Z.2.1 47), .ref (Z.2.1 48), .ref (Z.2.1 49), .ref (Z.2.1 50), .ref (Z.2.1 51), .ref (Z.2.1 52), .ref (Z.2.1 53), .long v15, .long v16, .int v17, .ref (Z.2.1 54), .ref (Z.2.1 55), .ref (Z.2.1 56)])) (h_u : gb 42 = .inl (Z.2.2.2 0, 2, .inl fu)) (h_q : gb 43 = .inl (Z.2.2.2 0, 2, .inl fq)) (h_n9 : gb 44 = .inl (Z.2.2.2 0, 2, .inl fm)) (h_g : gb 45 = .inl (Z.2.2.2 0, 24, .inl fd)) (h_oc : gb 56 = .inl (Z.2.2.2 2, 129, .inl oc1)) (hfr_gb : z_fr 56 1 g gb) (hci : ci ≤ 129) (hcv : cv.toInt = (ci : Int) - 64) (hsp1 : zsp (zcl (zs9 (sg s1) 2) X) X oc1) (hmn1 : ∀ t, t < 129 → oc0 t = 1 → oc1 t = 1) (hm1 : (m1 = 0 ∧ oc1 = oc0) ∨ (m1 = 1 ∧ zcu oc0 < zcu oc1)) (hcc : ∀ u, u < ci → oc0 u = 1 → ∀ k, k < zNk (sg s1) 2 → ∀ x, x < zNx (sg s1) 2 → oc1 (zcr (sg s1) ((u : Int) - 64) (zTs (sg s1) 2 k x) + 64).toNat = 1) (hm_12 : 129 - ci < nn_12) (H : Heap) (locs : List Loc) (ls : Array Slot), z_S Z (z_A Z sz) s.heap gb H locs → lv_has ls 9 [(0, .ref (Z.2.1 41)), (1, .int (nI s1)), (2, .int 2), (3, .int m1), (4, .int cv)] → W p l e (headSpec wsX10_spread (z_rm 6 134)).room s m args below meth c H locs 0 0 (MQ below (va_Qv (fun g1 => ∃ oc1 : Nat → Int32, g1 56 = .inl (Z.2.2.2 2, 129, .inl oc1) ∧ (∀ t, t < 129 → zbo (oc1 t) (zcl (zs9 (sg s1) 2) X ((t : Int) - 64))) ∧ z_fr 56 1 g g1) (z_B Z) (z_A Z sz)) args s 0 0 (z_A Z sz)) (F0 m 12 ls []) := by
          intro nn_12
          induction nn_12 with
          | zero => intro ci cv oc1 m1 gb h_m h_u h_q h_n9 h_g h_oc hfr_gb hci hcv hsp1 hmn1 hm1 hcc hm_12 H locs ls hS hl; exact absurd hm_12 (Nat.not_lt_zero _)
          | succ nn_12 ih_12 =>
            intro ci cv oc1 m1 gb h_m h_u h_q h_n9 h_g h_oc hfr_gb hci hcv hsp1 hmn1 hm1 hcc hm_12 H locs ls hS hl
            refine lv_iload hx hb dX10_spread_12 (lv_at hl 4 rfl) ?_
            refine lv_bipush (v := 64) hx hb dX10_spread_14 (by decide) ?_
            refine lv_icmp_gt (tgt := 181) hx hb dX10_spread_16 (by decide) (fun c_2 => ?_) (fun c_2 => ?_)
            · have i_2 := z_lt c_2
              rw [tI_64] at i_2
              have hci129 : ci = 129 := by omega
              refine lv_goto (tgt := 2) hx hb dX10_spread_181 (by decide) ?_
              exact ih_2 oc1 m1 gb h_m h_u h_q h_n9 h_g h_oc hfr_gb hsp1 (by
                  rcases hm1 with ⟨h9, h8⟩ | ⟨h9, h8⟩
                  · refine Or.inr ⟨h9, ?_⟩
                    subst hci129
                    have h7 := hcc
                    rw [h8] at h7 ⊢
                    exact h7
                  · exact Or.inl h9) (by
                  have h7 : zcu oc1 ≤ 129 := zct_le _ 129
                  rw [hmo1, tI_1] at hm_2
                  rcases hm1 with ⟨h9, h8⟩ | ⟨h9, h8⟩
                  · rw [h9, h8, tI_0]; omega
                  · rw [h9, tI_1]; omega) _ _ _ hS (lv_sub hl [0, 1, 2, 3] rfl)
            · have i_2 := z_nlt c_2
              rw [tI_64] at i_2
              have hci128 : ci < 129 := by omega
              have hcx : cv + 64 = nI ci := z_nI_is (by rw [fb_addI (by rw [tI_64]; omega) (by rw [tI_64]; omega), tI_64]; omega)
              refine lv_iconst (v := 0) hx hb dX10_spread_19 (by decide) ?_
              refine lv_istore (lv' := [(5, .int 0), (0, .ref (Z.2.1 41)), (1, .int (nI s1)), (2, .int 2), (3, .int m1), (4, .int cv)]) hx hb dX10_spread_20 hl (by decide) rfl (fun ls hl => ?_)
              have hcut_22 : ∀ (nn_22 : Nat) (k : Nat) (oc2 : Nat → Int32) (m2 : Int32) (gc : Nat → va_E) (h_m : gc 41 = .inr (10, [.ref (Z.2.1 42), .ref (Z.2.1 43), .ref (Z.2.1 44), .ref (Z.2.1 45), .int v4, .int v5, .int v6, .ref (Z.2.1 46), .ref (Z.2.1 47), .ref (Z.2.1 48), .ref (Z.2.1 49), .ref (Z.2.1 50), .ref (Z.2.1 51), .ref (Z.2.1 52), .ref (Z.2.1 53), .long v15, .long v16, .int v17, .ref (Z.2.1 54), .ref (Z.2.1 55), .ref (Z.2.1 56)])) (h_u : gc 42 = .inl (Z.2.2.2 0, 2, .inl fu)) (h_q : gc 43 = .inl (Z.2.2.2 0, 2, .inl fq)) (h_n9 : gc 44 = .inl (Z.2.2.2 0, 2, .inl fm)) (h_g : gc 45 = .inl (Z.2.2.2 0, 24, .inl fd)) (h_oc : gc 56 = .inl (Z.2.2.2 2, 129, .inl oc2)) (hfr_gc : z_fr 56 1 g gc) (hk : k ≤ zNk (sg s1) 2) (hsp2 : zsp (zcl (zs9 (sg s1) 2) X) X oc2) (hmn2 : ∀ t, t < 129 → oc1 t = 1 → oc2 t = 1) (hm2 : (m2 = 0 ∧ oc2 = oc0) ∨ (m2 = 1 ∧ zcu oc0 < zcu oc2)) (hkk : ∀ k8, k8 < k → ∀ x, x < zNx (sg s1) 2 → oc2 (zcr (sg s1) cv.toInt (zTs (sg s1) 2 k8 x) + 64).toNat = 1) (hm_22 : zNk (sg s1) 2 - k < nn_22) (H : Heap) (locs : List Loc) (ls : Array Slot), z_S Z (z_A Z sz) s.heap gc H locs → lv_has ls 9 [(0, .ref (Z.2.1 41)), (1, .int (nI s1)), (2, .int 2), (3, .int m2), (4, .int cv), (5, .int (nI k))] → W p l e (headSpec wsX10_spread (z_rm 6 134)).room s m args below meth c H locs 0 0 (MQ below (va_Qv (fun g1 => ∃ oc1 : Nat → Int32, g1 56 = .inl (Z.2.2.2 2, 129, .inl oc1) ∧ (∀ t, t < 129 → zbo (oc1 t) (zcl (zs9 (sg s1) 2) X ((t : Int) - 64))) ∧ z_fr 56 1 g g1) (z_B Z) (z_A Z sz)) args s 0 0 (z_A Z sz)) (F0 m 22 ls []) := by
                intro nn_22
                induction nn_22 with
                | zero => intro k oc2 m2 gc h_m h_u h_q h_n9 h_g h_oc hfr_gc hk hsp2 hmn2 hm2 hkk hm_22 H locs ls hS hl; exact absurd hm_22 (Nat.not_lt_zero _)
                | succ nn_22 ih_22 =>
                  intro k oc2 m2 gc h_m h_u h_q h_n9 h_g h_oc hfr_gc hk hsp2 hmn2 hm2 hkk hm_22 H locs ls hS hl
                  refine lv_iload hx hb dX10_spread_22 (lv_at hl 5 rfl) ?_
                  refine lv_iload_n hx hb dX10_spread_24 rfl (lv_at hl 2 rfl) ?_
                  refine lv_if_ne (tgt := 32) hx hb dX10_spread_25 (by decide) (fun c_3 => ?_) (fun c_3 => ?_)
                  · have i_3 := z_ne c_3
                    rw [tI_2] at i_3
                    rw [tI_0] at i_3
                    
                    refine lv_aload_n hx hb dX10_spread_32 rfl (lv_at hl 0 rfl) ?_
                    refine z_get (own := RX10) (C := RX10) (T := TX10) (N := 21) hx hb hts in_X10_spread_10 hown hK hS h_m hM41 rfl 2 (by decide) (List.mem_of_getElem? (i := 1) rfl) rfl rfl dX10_spread_33 ?_
                    refine lv_iload_n hx hb dX10_spread_36 rfl (lv_at hl 1 rfl) ?_
                    refine z_iald hx hb hK hS h_n9 hM44 (vp_in_nI (by omega) (by omega)) dX10_spread_37 ?_
                    rw [show fm (nI s1).toNatClampNeg = nI (sg s1).2.2.1 from by rw [nI_clamp (by omega)]; exact hm]
                    refine lv_icmp_ge (tgt := 175) hx hb dX10_spread_38 (by decide) (fun c_4 => ?_) (fun c_4 => ?_)
                    · have i_4 := z_le c_4
                      rw [nI_toInt (by omega)] at i_4
                      rw [nI_toInt (by omega)] at i_4
                      have hkn : k = zNk (sg s1) 2 := by omega
                      have hci2 : oc0 ci = 1 → ∀ k, k < zNk (sg s1) 2 → ∀ x, x < zNx (sg s1) 2 → oc2 (zcr (sg s1) ((ci : Int) - 64) (zTs (sg s1) 2 k x) + 64).toNat = 1 := by
                        rw [← hcv, ← hkn]; exact fun _ => hkk
                      obtain ⟨cv2, ecv2⟩ : ∃ zz9 : Int32, zz9 = cv + 1 := ⟨_, rfl⟩
                      have hcv2 : cv2.toInt = ((ci + 1 : Nat) : Int) - 64 := by rw [ecv2, fb_addI (by rw [tI_1]; omega) (by rw [tI_1]; omega), tI_1, hcv]; omega
                      refine lv_iinc (v := cv2) (lv' := [(4, .int cv2), (0, .ref (Z.2.1 41)), (1, .int (nI s1)), (2, .int 2), (3, .int m2), (5, .int (nI k))]) hx hb dX10_spread_175 hl (k := 4) rfl (by rw [ecv2]; rfl) (by decide) rfl (fun ls hl => ?_)
                      refine lv_goto (tgt := 12) hx hb dX10_spread_178 (by decide) ?_
                      exact ih_12 (ci + 1) cv2 oc2 m2 gc h_m h_u h_q h_n9 h_g h_oc hfr_gc (by omega) hcv2 hsp2 (fun t ht h9 => hmn2 t ht (hmn1 t ht h9)) hm2 (fun u hu h9 k hk x hx => by
                          by_cases h8 : u = ci
                          · subst h8; exact hci2 h9 k hk x hx
                          · have h7 := zcl_b60 hok hcm hXb (hsp0.2.1 u (by omega) h9)
                            have h6 := zcr_bd60 hok hcm h7 (zTs_bd hok hk hx)
                            exact hmn2 _ (by omega) (hcc u (by omega) h9 k hk x hx)) (by omega) _ _ _ hS (lv_sub hl [1, 2, 3, 4, 0] rfl)
                    · have i_4 := z_nle c_4
                      rw [nI_toInt (by omega)] at i_4
                      rw [nI_toInt (by omega)] at i_4
                      have hkn : k < zNk (sg s1) 2 := by omega
                      refine lv_aload_n hx hb dX10_spread_41 rfl (lv_at hl 0 rfl) ?_
                      refine z_get (own := RX10) (C := RX10) (T := TX10) (N := 21) hx hb hts in_X10_spread_10 hown hK hS h_m hM41 rfl 20 (by decide) (List.mem_of_getElem? (i := 2) rfl) rfl rfl dX10_spread_42 ?_
                      refine lv_iload hx hb dX10_spread_45 (lv_at hl 4 rfl) ?_
                      refine lv_bipush (v := 64) hx hb dX10_spread_47 (by decide) ?_
                      refine lv_iadd hx hb dX10_spread_49 ?_
                      rw [show cv + 64 = nI ci from hcx]
                      refine z_zald hx hb hK hS h_oc hM56 (vp_in_nI (by omega) (by omega)) dX10_spread_50 ?_
                      rw [show oc2 (nI ci).toNatClampNeg = oc2 ci from by rw [nI_clamp (by omega)]]
                      refine lv_if_eq (tgt := 175) hx hb dX10_spread_51 (by decide) (fun c_5 => ?_) (fun c_5 => ?_)
                      · have i_5 := z_eq c_5
                        rw [tI_0] at i_5
                        have hci2 : oc0 ci = 1 → ∀ k, k < zNk (sg s1) 2 → ∀ x, x < zNx (sg s1) 2 → oc2 (zcr (sg s1) ((ci : Int) - 64) (zTs (sg s1) 2 k x) + 64).toNat = 1 := fun h9 => by
                          have h8 := hmn2 ci hci128 (hmn1 ci hci128 h9)
                          rw [c_5] at h8; exact absurd h8 (by decide)
                        obtain ⟨cv2, ecv2⟩ : ∃ zz9 : Int32, zz9 = cv + 1 := ⟨_, rfl⟩
                        have hcv2 : cv2.toInt = ((ci + 1 : Nat) : Int) - 64 := by rw [ecv2, fb_addI (by rw [tI_1]; omega) (by rw [tI_1]; omega), tI_1, hcv]; omega
                        refine lv_iinc (v := cv2) (lv' := [(4, .int cv2), (0, .ref (Z.2.1 41)), (1, .int (nI s1)), (2, .int 2), (3, .int m2), (5, .int (nI k))]) hx hb dX10_spread_175 hl (k := 4) rfl (by rw [ecv2]; rfl) (by decide) rfl (fun ls hl => ?_)
                        refine lv_goto (tgt := 12) hx hb dX10_spread_178 (by decide) ?_
                        exact ih_12 (ci + 1) cv2 oc2 m2 gc h_m h_u h_q h_n9 h_g h_oc hfr_gc (by omega) hcv2 hsp2 (fun t ht h9 => hmn2 t ht (hmn1 t ht h9)) hm2 (fun u hu h9 k hk x hx => by
                            by_cases h8 : u = ci
                            · subst h8; exact hci2 h9 k hk x hx
                            · have h7 := zcl_b60 hok hcm hXb (hsp0.2.1 u (by omega) h9)
                              have h6 := zcr_bd60 hok hcm h7 (zTs_bd hok hk hx)
                              exact hmn2 _ (by omega) (hcc u (by omega) h9 k hk x hx)) (by omega) _ _ _ hS (lv_sub hl [1, 2, 3, 4, 0] rfl)
                      · have i_5 := z_ne c_5
                        rw [tI_0] at i_5
                        have hc1 : oc2 ci = 1 := (hsp2.1 ci hci128).resolve_left c_5
                        have hCc := hsp2.2.1 ci hci128 hc1
                        have hcb := zcl_b60 hok hcm hXb hCc
                        rw [← hcv] at hCc hcb
                        refine lv_iconst (v := 0) hx hb dX10_spread_54 (by decide) ?_
                        refine lv_istore (lv' := [(6, .int 0), (0, .ref (Z.2.1 41)), (1, .int (nI s1)), (2, .int 2), (3, .int m2), (4, .int cv), (5, .int (nI k))]) hx hb dX10_spread_55 hl (by decide) rfl (fun ls hl => ?_)
                        have hcut_57 : ∀ (nn_57 : Nat) (x9 : Nat) (oc3 : Nat → Int32) (m3 : Int32) (gd : Nat → va_E) (h_m : gd 41 = .inr (10, [.ref (Z.2.1 42), .ref (Z.2.1 43), .ref (Z.2.1 44), .ref (Z.2.1 45), .int v4, .int v5, .int v6, .ref (Z.2.1 46), .ref (Z.2.1 47), .ref (Z.2.1 48), .ref (Z.2.1 49), .ref (Z.2.1 50), .ref (Z.2.1 51), .ref (Z.2.1 52), .ref (Z.2.1 53), .long v15, .long v16, .int v17, .ref (Z.2.1 54), .ref (Z.2.1 55), .ref (Z.2.1 56)])) (h_u : gd 42 = .inl (Z.2.2.2 0, 2, .inl fu)) (h_q : gd 43 = .inl (Z.2.2.2 0, 2, .inl fq)) (h_n9 : gd 44 = .inl (Z.2.2.2 0, 2, .inl fm)) (h_g : gd 45 = .inl (Z.2.2.2 0, 24, .inl fd)) (h_oc : gd 56 = .inl (Z.2.2.2 2, 129, .inl oc3)) (hfr_gd : z_fr 56 1 g gd) (hx9 : x9 ≤ zNx (sg s1) 2) (hsp3 : zsp (zcl (zs9 (sg s1) 2) X) X oc3) (hmn3 : ∀ t, t < 129 → oc2 t = 1 → oc3 t = 1) (hm3 : (m3 = 0 ∧ oc3 = oc0) ∨ (m3 = 1 ∧ zcu oc0 < zcu oc3)) (hkk3 : ∀ k8, k8 < k → ∀ x, x < zNx (sg s1) 2 → oc3 (zcr (sg s1) cv.toInt (zTs (sg s1) 2 k8 x) + 64).toNat = 1) (hxx : ∀ x, x < x9 → oc3 (zcr (sg s1) cv.toInt (zTs (sg s1) 2 k x) + 64).toNat = 1) (hm_57 : zNx (sg s1) 2 - x9 < nn_57) (H : Heap) (locs : List Loc) (ls : Array Slot), z_S Z (z_A Z sz) s.heap gd H locs → lv_has ls 9 [(0, .ref (Z.2.1 41)), (1, .int (nI s1)), (2, .int 2), (3, .int m3), (4, .int cv), (5, .int (nI k)), (6, .int (nI x9))] → W p l e (headSpec wsX10_spread (z_rm 6 134)).room s m args below meth c H locs 0 0 (MQ below (va_Qv (fun g1 => ∃ oc1 : Nat → Int32, g1 56 = .inl (Z.2.2.2 2, 129, .inl oc1) ∧ (∀ t, t < 129 → zbo (oc1 t) (zcl (zs9 (sg s1) 2) X ((t : Int) - 64))) ∧ z_fr 56 1 g g1) (z_B Z) (z_A Z sz)) args s 0 0 (z_A Z sz)) (F0 m 57 ls []) := by
                          intro nn_57
                          induction nn_57 with
                          | zero => intro x9 oc3 m3 gd h_m h_u h_q h_n9 h_g h_oc hfr_gd hx9 hsp3 hmn3 hm3 hkk3 hxx hm_57 H locs ls hS hl; exact absurd hm_57 (Nat.not_lt_zero _)
                          | succ nn_57 ih_57 =>
                            intro x9 oc3 m3 gd h_m h_u h_q h_n9 h_g h_oc hfr_gd hx9 hsp3 hmn3 hm3 hkk3 hxx hm_57 H locs ls hS hl
                            refine lv_iload hx hb dX10_spread_57 (lv_at hl 6 rfl) ?_
                            refine lv_iload_n hx hb dX10_spread_59 rfl (lv_at hl 2 rfl) ?_
                            refine lv_iconst (v := 2) hx hb dX10_spread_60 (by decide) ?_
                            refine lv_icmp_ge (tgt := 68) hx hb dX10_spread_61 (by decide) (fun c_6 => ?_) (fun c_6 => ?_)
                            · have i_6 := z_le c_6
                              rw [tI_2] at i_6
                              
                              refine lv_aload_n hx hb dX10_spread_68 rfl (lv_at hl 0 rfl) ?_
                              refine z_get (own := RX10) (C := RX10) (T := TX10) (N := 21) hx hb hts in_X10_spread_10 hown hK hS h_m hM41 rfl 2 (by decide) (List.mem_of_getElem? (i := 1) rfl) rfl rfl dX10_spread_69 ?_
                              refine lv_iload_n hx hb dX10_spread_72 rfl (lv_at hl 1 rfl) ?_
                              refine z_iald hx hb hK hS h_n9 hM44 (vp_in_nI (by omega) (by omega)) dX10_spread_73 ?_
                              rw [show fm (nI s1).toNatClampNeg = nI (sg s1).2.2.1 from by rw [nI_clamp (by omega)]; exact hm]
                              refine lv_icmp_ge (tgt := 169) hx hb dX10_spread_74 (by decide) (fun c_7 => ?_) (fun c_7 => ?_)
                              · have i_7 := z_le c_7
                                rw [nI_toInt (by omega)] at i_7
                                rw [nI_toInt (by omega)] at i_7
                                have hxn : x9 = zNx (sg s1) 2 := by omega
                                refine lv_iinc (v := (nI (k + 1))) (lv' := [(5, .int (nI (k + 1))), (0, .ref (Z.2.1 41)), (1, .int (nI s1)), (2, .int 2), (3, .int m3), (4, .int cv), (6, .int (nI x9))]) hx hb dX10_spread_169 hl (k := 5) rfl (nI_1 _) (by decide) rfl (fun ls hl => ?_)
                                refine lv_goto (tgt := 22) hx hb dX10_spread_172 (by decide) ?_
                                exact ih_22 (k + 1) oc3 m3 gd h_m h_u h_q h_n9 h_g h_oc hfr_gd (by omega) hsp3 (fun t ht h9 => hmn3 t ht (hmn2 t ht h9)) hm3 (fun k8 h8 x hx => by
                                    by_cases h9 : k8 = k
                                    · rw [h9]; exact hxx x (by omega)
                                    · exact hkk3 k8 (by omega) x hx) (by omega) _ _ _ hS (lv_sub hl [1, 2, 3, 4, 5, 0] rfl)
                              · have i_7 := z_nle c_7
                                rw [nI_toInt (by omega)] at i_7
                                rw [nI_toInt (by omega)] at i_7
                                have hxn : x9 < zNx (sg s1) 2 := by omega
                                have hTb := zTs_bd hok hkn hxn
                                have hzb := zcr_bd60 hok hcm hcb hTb
                                have hdk := hd k (by omega)
                                have hdkb := hok.2.2.2.2 k (by omega)
                                have hdx := hd x9 (by omega)
                                have hdxb := hok.2.2.2.2 x9 (by omega)
                                refine lv_iload_n hx hb dX10_spread_77 rfl (lv_at hl 2 rfl) ?_
                                refine lv_if_le (tgt := 96) hx hb dX10_spread_78 (by decide) (fun c_8 => ?_) (fun c_8 => ?_)
                                · have i_8 := z_le c_8
                                  rw [tI_2] at i_8
                                  rw [tI_0] at i_8
                                  exfalso; omega
                                · have i_8 := z_nle c_8
                                  rw [tI_2] at i_8
                                  rw [tI_0] at i_8
                                  
                                  refine lv_aload_n hx hb dX10_spread_81 rfl (lv_at hl 0 rfl) ?_
                                  refine z_get (own := RX10) (C := RX10) (T := TX10) (N := 21) hx hb hts in_X10_spread_10 hown hK hS h_m hM41 rfl 3 (by decide) (List.mem_of_getElem? (i := 3) rfl) rfl rfl dX10_spread_82 ?_
                                  refine lv_bipush (v := 12) hx hb dX10_spread_85 (by decide) ?_
                                  refine lv_iload_n hx hb dX10_spread_87 rfl (lv_at hl 1 rfl) ?_
                                  refine lv_imul hx hb dX10_spread_88 ?_
                                  refine lv_iload hx hb dX10_spread_89 (lv_at hl 5 rfl) ?_
                                  refine lv_iadd hx hb dX10_spread_91 ?_
                                  rw [show (12 * (nI s1)) + (nI k) = nI (12 * s1 + k) from zm_ix (by omega) (by omega)]
                                  refine z_iald hx hb hK hS h_g hM45 (vp_in_nI (by omega) (by omega)) dX10_spread_92 ?_
                                  rw [show fd (nI (12 * s1 + k)).toNatClampNeg = fd (12 * s1 + k) from by rw [nI_clamp (by omega)]]
                                  refine lv_goto (tgt := 97) hx hb dX10_spread_93 (by decide) ?_
                                  refine lv_iload_n hx hb dX10_spread_97 rfl (lv_at hl 2 rfl) ?_
                                  refine lv_iconst (v := 1) hx hb dX10_spread_98 (by decide) ?_
                                  refine lv_icmp_le (tgt := 117) hx hb dX10_spread_99 (by decide) (fun c_9 => ?_) (fun c_9 => ?_)
                                  · have i_9 := z_le c_9
                                    rw [tI_2] at i_9
                                    rw [tI_1] at i_9
                                    exfalso; omega
                                  · have i_9 := z_nle c_9
                                    rw [tI_2] at i_9
                                    rw [tI_1] at i_9
                                    
                                    refine lv_aload_n hx hb dX10_spread_102 rfl (lv_at hl 0 rfl) ?_
                                    refine z_get (own := RX10) (C := RX10) (T := TX10) (N := 21) hx hb hts in_X10_spread_10 hown hK hS h_m hM41 rfl 3 (by decide) (List.mem_of_getElem? (i := 3) rfl) rfl rfl dX10_spread_103 ?_
                                    refine lv_bipush (v := 12) hx hb dX10_spread_106 (by decide) ?_
                                    refine lv_iload_n hx hb dX10_spread_108 rfl (lv_at hl 1 rfl) ?_
                                    refine lv_imul hx hb dX10_spread_109 ?_
                                    refine lv_iload hx hb dX10_spread_110 (lv_at hl 6 rfl) ?_
                                    refine lv_iadd hx hb dX10_spread_112 ?_
                                    rw [show (12 * (nI s1)) + (nI x9) = nI (12 * s1 + x9) from zm_ix (by omega) (by omega)]
                                    refine z_iald hx hb hK hS h_g hM45 (vp_in_nI (by omega) (by omega)) dX10_spread_113 ?_
                                    rw [show fd (nI (12 * s1 + x9)).toNatClampNeg = fd (12 * s1 + x9) from by rw [nI_clamp (by omega)]]
                                    refine lv_goto (tgt := 118) hx hb dX10_spread_114 (by decide) ?_
                                    refine lv_iadd hx hb dX10_spread_118 ?_
                                    refine lv_topi (fun tt ett => ?_)
                                    have htt : tt.toInt = (zTs (sg s1) 2 k x9) := by rw [ett, fb_addI (by omega) (by omega), hdk, hdx]; rfl
                                    refine lv_istore (lv' := [(7, .int tt), (0, .ref (Z.2.1 41)), (1, .int (nI s1)), (2, .int 2), (3, .int m3), (4, .int cv), (5, .int (nI k)), (6, .int (nI x9))]) hx hb dX10_spread_119 hl (by decide) rfl (fun ls hl => ?_)
                                    refine lv_aload_n hx hb dX10_spread_121 rfl (lv_at hl 1 rfl) ?_
                                    refine lv_iload_n hx hb dX10_spread_122 rfl (lv_at hl 2 rfl) ?_
                                    refine lv_iload hx hb dX10_spread_123 (lv_at hl 5 rfl) ?_
                                    refine lv_iload hx hb dX10_spread_125 (lv_at hl 0 rfl) ?_
                                    refine z_calli (z_runV (As := [.int (nI s1), .int cv, .int tt]) (rest := []) ⟨hx, hb, hml, hown, hts⟩ hK hS ((m_carried Z gd sg ⟨_, _, _, _, _, _, fu, fq, fm, fd, h_m, h_u, h_q, h_n9, h_g, hMN, hSg⟩ s1 hs1 cv tt hcm (by omega) (by omega)) l _) gX10_spread_X10_carried rfl 3 (by decide +kernel) ⟨Nat.le_of_ble_eq_true rfl, Nat.le_of_ble_eq_true rfl⟩ h_m hM41 rfl rfl hl.1 rfl (Nat.le_of_ble_eq_true rfl) dX10_spread_127 ⟨Nat.le_of_ble_eq_true rfl, Nat.le_of_ble_eq_true rfl⟩) hS (fun cr g_10 H locs hp_11 hS => ?_)
                                    obtain ⟨rfl, hp_11⟩ := hp_11
                                    have hcr := hp_11
                                    rw [htt] at hcr
                                    have hCn9 : (zcl (zs9 (sg s1) 2) X) cr.toInt := zcl_step hCc ⟨k, x9, hkn, hxn, hcr⟩
                                    refine lv_bipush (v := 64) hx hb dX10_spread_130 (by decide) ?_
                                    refine lv_iadd hx hb dX10_spread_132 ?_
                                    refine lv_topi (fun ii eii => ?_)
                                    have hii : ii.toInt = cr.toInt + 64 := by rw [eii, fb_addI (by rw [tI_64]; omega) (by rw [tI_64]; omega), tI_64]
                                    obtain ⟨n9, en9, hn9, -⟩ := z_nI_of (x := ii) (by omega)
                                    subst en9
                                    have hn9b : n9 < 129 := by omega
                                    have hne : (zcr (sg s1) cv.toInt (zTs (sg s1) 2 k x9) + 64).toNat = n9 := by omega
                                    have hCn : (zcl (zs9 (sg s1) 2) X) ((n9 : Int) - 64) := by rw [show (n9 : Int) - 64 = cr.toInt by omega]; exact hCn9
                                    refine lv_istore (lv' := [(8, .int (nI n9)), (7, .int tt), (0, .ref (Z.2.1 41)), (1, .int (nI s1)), (2, .int 2), (3, .int m3), (4, .int cv), (5, .int (nI k)), (6, .int (nI x9))]) hx hb dX10_spread_133 hl (by decide) rfl (fun ls hl => ?_)
                                    refine lv_iload_n hx hb dX10_spread_135 rfl (lv_at hl 5 rfl) ?_
                                    refine lv_if_ne (tgt := 149) hx hb dX10_spread_136 (by decide) (fun c_12 => ?_) (fun c_12 => ?_)
                                    · have i_12 := z_ne c_12
                                      rw [tI_0] at i_12
                                      have hm39 : ¬ m3 = 0 := c_12
                                      refine lv_iconst (v := 1) hx hb dX10_spread_149 (by decide) ?_
                                      refine lv_goto (tgt := 154) hx hb dX10_spread_150 (by decide) ?_
                                      refine lv_istore_n (lv' := [(3, .int 1), (8, .int (nI n9)), (7, .int tt), (0, .ref (Z.2.1 41)), (1, .int (nI s1)), (2, .int 2), (4, .int cv), (5, .int (nI k)), (6, .int (nI x9))]) hx hb dX10_spread_154 rfl hl (by decide) rfl (fun ls hl => ?_)
                                      refine lv_aload_n hx hb dX10_spread_155 rfl (lv_at hl 3 rfl) ?_
                                      refine z_get (own := RX10) (C := RX10) (T := TX10) (N := 21) hx hb hts in_X10_spread_10 hown hK hS h_m hM41 rfl 20 (by decide) (List.mem_of_getElem? (i := 2) rfl) rfl rfl dX10_spread_156 ?_
                                      refine lv_iload hx hb dX10_spread_159 (lv_at hl 1 rfl) ?_
                                      refine lv_iconst (v := 1) hx hb dX10_spread_161 (by decide) ?_
                                      refine z_zast (y := 1) hx hb hK hS h_oc hM56 rfl (vp_in_nI (by omega) (by omega)) dX10_spread_162 (fun g_13 H locs hg_13 hS => ?_)
                                      have h_oc : g_13 56 = .inl (Z.2.2.2 2, 129, .inl (upd oc3 (nI n9).toNatClampNeg 1)) := z_up_s hg_13
                                      have h_m := z_up_n hg_13 h_m (by omega)
                                      have h_u := z_up_n hg_13 h_u (by omega)
                                      have h_q := z_up_n hg_13 h_q (by omega)
                                      have h_n9 := z_up_n hg_13 h_n9 (by omega)
                                      have h_g := z_up_n hg_13 h_g (by omega)
                                      rw [nI_clamp (by omega)] at h_oc
                                      refine lv_iinc (v := (nI (x9 + 1))) (lv' := [(6, .int (nI (x9 + 1))), (3, .int 1), (8, .int (nI n9)), (7, .int tt), (0, .ref (Z.2.1 41)), (1, .int (nI s1)), (2, .int 2), (4, .int cv), (5, .int (nI k))]) hx hb dX10_spread_163 hl (k := 8) rfl (nI_1 _) (by decide) rfl (fun ls hl => ?_)
                                      refine lv_goto (tgt := 57) hx hb dX10_spread_166 (by decide) ?_
                                      exact ih_57 (x9 + 1) (upd oc3 n9 1) 1 g_13 h_m h_u h_q h_n9 h_g h_oc (hfr_gd.up hg_13 (by omega)) (by omega) (zsp_put hsp3 hCn) (fun t ht h9 => z_upd_up (hmn3 t ht h9)) (Or.inr ⟨rfl, Nat.lt_of_lt_of_le (hm3.resolve_left (fun q => hm39 q.1)).2 (zcu_le (hsp3.1 n9 (by omega)) (by omega))⟩) (fun k8 h8 x hx => z_upd_up (hkk3 k8 h8 x hx)) (fun x hx => by
                                          by_cases h9 : x = x9
                                          · rw [h9, hne]; exact pk_us
                                          · exact z_upd_up (hxx x (by omega))) (by omega) _ _ _ hS (lv_sub hl [4, 5, 6, 1, 7, 8, 0] rfl)
                                    · have i_12 := z_eq c_12
                                      rw [tI_0] at i_12
                                      have hm39 : m3 = 0 := c_12
                                      refine lv_aload_n hx hb dX10_spread_139 rfl (lv_at hl 2 rfl) ?_
                                      refine z_get (own := RX10) (C := RX10) (T := TX10) (N := 21) hx hb hts in_X10_spread_10 hown hK hS h_m hM41 rfl 20 (by decide) (List.mem_of_getElem? (i := 2) rfl) rfl rfl dX10_spread_140 ?_
                                      refine lv_iload hx hb dX10_spread_143 (lv_at hl 0 rfl) ?_
                                      refine z_zald hx hb hK hS h_oc hM56 (vp_in_nI (by omega) (by omega)) dX10_spread_145 ?_
                                      rw [show oc3 (nI n9).toNatClampNeg = oc3 n9 from by rw [nI_clamp (by omega)]]
                                      refine lv_if_ne (tgt := 153) hx hb dX10_spread_146 (by decide) (fun c_14 => ?_) (fun c_14 => ?_)
                                      · have i_14 := z_ne c_14
                                        rw [tI_0] at i_14
                                        have hon := (hsp3.1 n9 hn9b).resolve_left c_14
                                        refine lv_iconst (v := 0) hx hb dX10_spread_153 (by decide) ?_
                                        refine lv_istore_n (lv' := [(3, .int 0), (8, .int (nI n9)), (7, .int tt), (0, .ref (Z.2.1 41)), (1, .int (nI s1)), (2, .int 2), (4, .int cv), (5, .int (nI k)), (6, .int (nI x9))]) hx hb dX10_spread_154 rfl hl (by decide) rfl (fun ls hl => ?_)
                                        refine lv_aload_n hx hb dX10_spread_155 rfl (lv_at hl 3 rfl) ?_
                                        refine z_get (own := RX10) (C := RX10) (T := TX10) (N := 21) hx hb hts in_X10_spread_10 hown hK hS h_m hM41 rfl 20 (by decide) (List.mem_of_getElem? (i := 2) rfl) rfl rfl dX10_spread_156 ?_
                                        refine lv_iload hx hb dX10_spread_159 (lv_at hl 1 rfl) ?_
                                        refine lv_iconst (v := 1) hx hb dX10_spread_161 (by decide) ?_
                                        refine z_zast (y := 1) hx hb hK hS h_oc hM56 rfl (vp_in_nI (by omega) (by omega)) dX10_spread_162 (fun g_15 H locs hg_15 hS => ?_)
                                        have h_oc : g_15 56 = .inl (Z.2.2.2 2, 129, .inl (upd oc3 (nI n9).toNatClampNeg 1)) := z_up_s hg_15
                                        have h_m := z_up_n hg_15 h_m (by omega)
                                        have h_u := z_up_n hg_15 h_u (by omega)
                                        have h_q := z_up_n hg_15 h_q (by omega)
                                        have h_n9 := z_up_n hg_15 h_n9 (by omega)
                                        have h_g := z_up_n hg_15 h_g (by omega)
                                        rw [nI_clamp (by omega)] at h_oc
                                        refine lv_iinc (v := (nI (x9 + 1))) (lv' := [(6, .int (nI (x9 + 1))), (3, .int 0), (8, .int (nI n9)), (7, .int tt), (0, .ref (Z.2.1 41)), (1, .int (nI s1)), (2, .int 2), (4, .int cv), (5, .int (nI k))]) hx hb dX10_spread_163 hl (k := 8) rfl (nI_1 _) (by decide) rfl (fun ls hl => ?_)
                                        refine lv_goto (tgt := 57) hx hb dX10_spread_166 (by decide) ?_
                                        exact ih_57 (x9 + 1) (upd oc3 n9 1) 0 g_15 h_m h_u h_q h_n9 h_g h_oc (hfr_gd.up hg_15 (by omega)) (by omega) (zsp_put hsp3 hCn) (fun t ht h9 => z_upd_up (hmn3 t ht h9)) (Or.inl ⟨rfl, by rw [z_upd_id hon]; exact (hm3.resolve_right (fun q => by rw [hm39] at q; exact absurd q.1 (by decide))).2⟩) (fun k8 h8 x hx => z_upd_up (hkk3 k8 h8 x hx)) (fun x hx => by
                                            by_cases h9 : x = x9
                                            · rw [h9, hne]; exact pk_us
                                            · exact z_upd_up (hxx x (by omega))) (by omega) _ _ _ hS (lv_sub hl [4, 5, 6, 1, 7, 8, 0] rfl)
                                      · have i_14 := z_eq c_14
                                        rw [tI_0] at i_14
                                        have hon : oc3 n9 = 0 := c_14
                                        refine lv_iconst (v := 1) hx hb dX10_spread_149 (by decide) ?_
                                        refine lv_goto (tgt := 154) hx hb dX10_spread_150 (by decide) ?_
                                        refine lv_istore_n (lv' := [(3, .int 1), (8, .int (nI n9)), (7, .int tt), (0, .ref (Z.2.1 41)), (1, .int (nI s1)), (2, .int 2), (4, .int cv), (5, .int (nI k)), (6, .int (nI x9))]) hx hb dX10_spread_154 rfl hl (by decide) rfl (fun ls hl => ?_)
                                        refine lv_aload_n hx hb dX10_spread_155 rfl (lv_at hl 3 rfl) ?_
                                        refine z_get (own := RX10) (C := RX10) (T := TX10) (N := 21) hx hb hts in_X10_spread_10 hown hK hS h_m hM41 rfl 20 (by decide) (List.mem_of_getElem? (i := 2) rfl) rfl rfl dX10_spread_156 ?_
                                        refine lv_iload hx hb dX10_spread_159 (lv_at hl 1 rfl) ?_
                                        refine lv_iconst (v := 1) hx hb dX10_spread_161 (by decide) ?_
                                        refine z_zast (y := 1) hx hb hK hS h_oc hM56 rfl (vp_in_nI (by omega) (by omega)) dX10_spread_162 (fun g_16 H locs hg_16 hS => ?_)
                                        have h_oc : g_16 56 = .inl (Z.2.2.2 2, 129, .inl (upd oc3 (nI n9).toNatClampNeg 1)) := z_up_s hg_16
                                        have h_m := z_up_n hg_16 h_m (by omega)
                                        have h_u := z_up_n hg_16 h_u (by omega)
                                        have h_q := z_up_n hg_16 h_q (by omega)
                                        have h_n9 := z_up_n hg_16 h_n9 (by omega)
                                        have h_g := z_up_n hg_16 h_g (by omega)
                                        rw [nI_clamp (by omega)] at h_oc
                                        refine lv_iinc (v := (nI (x9 + 1))) (lv' := [(6, .int (nI (x9 + 1))), (3, .int 1), (8, .int (nI n9)), (7, .int tt), (0, .ref (Z.2.1 41)), (1, .int (nI s1)), (2, .int 2), (4, .int cv), (5, .int (nI k))]) hx hb dX10_spread_163 hl (k := 8) rfl (nI_1 _) (by decide) rfl (fun ls hl => ?_)
                                        refine lv_goto (tgt := 57) hx hb dX10_spread_166 (by decide) ?_
                                        exact ih_57 (x9 + 1) (upd oc3 n9 1) 1 g_16 h_m h_u h_q h_n9 h_g h_oc (hfr_gd.up hg_16 (by omega)) (by omega) (zsp_put hsp3 hCn) (fun t ht h9 => z_upd_up (hmn3 t ht h9)) (Or.inr ⟨rfl, by rw [zcu_put hon (by omega), (hm3.resolve_right (fun q => by rw [hm39] at q; exact absurd q.1 (by decide))).2]; omega⟩) (fun k8 h8 x hx => z_upd_up (hkk3 k8 h8 x hx)) (fun x hx => by
                                            by_cases h9 : x = x9
                                            · rw [h9, hne]; exact pk_us
                                            · exact z_upd_up (hxx x (by omega))) (by omega) _ _ _ hS (lv_sub hl [4, 5, 6, 1, 7, 8, 0] rfl)
                            · have i_6 := z_nle c_6
                              rw [tI_2] at i_6
                              exfalso; omega
                        exact hcut_57 (zNx (sg s1) 2 - 0 + 1) 0 oc2 m2 gc h_m h_u h_q h_n9 h_g h_oc hfr_gc (Nat.zero_le _) hsp2 (fun t _ h9 => h9) hm2 hkk (fun x hx => absurd hx (Nat.not_lt_zero x)) (Nat.lt_succ_self _) _ _ _ hS (lv_sub hl [1, 2, 3, 4, 5, 6, 0] rfl)
                  · have i_3 := z_eq c_3
                    rw [tI_2] at i_3
                    rw [tI_0] at i_3
                    exfalso; omega
              exact hcut_22 (zNk (sg s1) 2 - 0 + 1) 0 oc1 m1 gb h_m h_u h_q h_n9 h_g h_oc hfr_gb (Nat.zero_le _) hsp1 (fun t _ h9 => h9) hm1 (fun k8 h8 => absurd h8 (Nat.not_lt_zero k8)) (Nat.lt_succ_self _) _ _ _ hS (lv_sub hl [1, 2, 3, 4, 5, 0] rfl)
        exact hcut_12 (129 - 0 + 1) 0 (-64) oc0 0 ga h_m h_u h_q h_n9 h_g h_oc hfr_ga (by omega) (by rw [tI_m64]; omega) hsp0 (fun t _ h9 => h9) (Or.inl ⟨rfl, rfl⟩) (fun u hu => absurd hu (Nat.not_lt_zero u)) (Nat.lt_succ_self _) _ _ _ hS (lv_sub hl [2, 3, 4, 1, 0] rfl)
  exact hcut_2 (129 - zcu oc + (1 : Int32).toInt.toNat + 1) oc (1 : Int32) g h_m h_u h_q h_n9 h_g h_oc z_fr.rf (zsp_of hX (fun y hy => zcl_base hy)) (Or.inl rfl) (Nat.lt_succ_self _) _ _ _ hS (lv_sub hl [1, 2, 3, 0] rfl)

set_option maxHeartbeats 4000000 in
set_option maxRecDepth 100000 in
theorem m_spread1 (Z : zT) (g : Nat → va_E) (sg : Nat → zb) (hM : z_mr Z g sg) (s1 : Nat) (hs1 : s1 < 2) (oc : Nat → Int32) (h_oc : g 56 = .inl (Z.2.2.2 2, 129, .inl oc)) (hcm : zcm (sg s1)) (X : Int → Prop) (hX : ∀ t, t < 129 → zbo (oc t) (X ((t : Int) - 64))) (hXb : ∀ y, X y → -60 ≤ y ∧ y ≤ 60) : z_Mv Z yX10_spread wsX10_spread 6 134 [.ref (Z.2.1 41), .int (nI s1), .int 1] g (fun g1 => ∃ oc1 : Nat → Int32, g1 56 = .inl (Z.2.2.2 2, 129, .inl oc1) ∧ (∀ t, t < 129 → zbo (oc1 t) (zcl (zs9 (sg s1) 1) X ((t : Int) - 64))) ∧ z_fr 56 1 g g1) := by
  intro l sz
  obtain ⟨v4, v5, v6, v15, v16, v17, fu, fq, fm, fd, h_m, h_u, h_q, h_n9, h_g, hMN, hSg⟩ := id hM
  have hM41 : 41 < Z.1 := by omega
  have hM42 : 42 < Z.1 := by omega
  have hM43 : 43 < Z.1 := by omega
  have hM44 : 44 < Z.1 := by omega
  have hM45 : 45 < Z.1 := by omega
  obtain ⟨hok, hp, hq, hm, hd⟩ := hSg s1 hs1
  have hPb := zP_bd hok
  have hn12 := hok.2.2.2.1
  have hq1 := hok.2.1
  have hM56 : 56 < Z.1 := by omega
  have hnk9 : zNk (sg s1) 1 = (sg s1).2.2.1 := rfl
  have hnx9 : zNx (sg s1) 1 = 1 := rfl
  refine z_enter (maxL := 9) (ret := none) (lv := [(0, .ref (Z.2.1 41)), (1, .int (nI s1)), (2, .int 1)]) (plainFor_of_name (by decide +kernel)) rfl (fun ls h => by subst h; exact lv_entry [.ref (Z.2.1 41), .int (nI s1), .int 1] (n := 9) (Nat.le_of_ble_eq_true rfl)) ?_
  intro p e s m args below meth c hx hb hml hr hlocks hown hts hK hS hsz ls hl
  refine lv_iconst (v := 1) hx hb dX10_spread_0 (by decide) ?_
  refine lv_istore_n (lv' := [(3, .int 1), (0, .ref (Z.2.1 41)), (1, .int (nI s1)), (2, .int 1)]) hx hb dX10_spread_1 rfl hl (by decide) rfl (fun ls hl => ?_)
  have hcut_2 : ∀ (nn_2 : Nat) (oc0 : Nat → Int32) (mo : Int32) (ga : Nat → va_E) (h_m : ga 41 = .inr (10, [.ref (Z.2.1 42), .ref (Z.2.1 43), .ref (Z.2.1 44), .ref (Z.2.1 45), .int v4, .int v5, .int v6, .ref (Z.2.1 46), .ref (Z.2.1 47), .ref (Z.2.1 48), .ref (Z.2.1 49), .ref (Z.2.1 50), .ref (Z.2.1 51), .ref (Z.2.1 52), .ref (Z.2.1 53), .long v15, .long v16, .int v17, .ref (Z.2.1 54), .ref (Z.2.1 55), .ref (Z.2.1 56)])) (h_u : ga 42 = .inl (Z.2.2.2 0, 2, .inl fu)) (h_q : ga 43 = .inl (Z.2.2.2 0, 2, .inl fq)) (h_n9 : ga 44 = .inl (Z.2.2.2 0, 2, .inl fm)) (h_g : ga 45 = .inl (Z.2.2.2 0, 24, .inl fd)) (h_oc : ga 56 = .inl (Z.2.2.2 2, 129, .inl oc0)) (hfr_ga : z_fr 56 1 g ga) (hsp0 : zsp (zcl (zs9 (sg s1) 1) X) X oc0) (hmo : mo = 1 ∨ (mo = 0 ∧ ∀ u, u < 129 → oc0 u = 1 → ∀ k, k < zNk (sg s1) 1 → ∀ x, x < zNx (sg s1) 1 → oc0 (zcr (sg s1) ((u : Int) - 64) (zTs (sg s1) 1 k x) + 64).toNat = 1)) (hm_2 : 129 - zcu oc0 + mo.toInt.toNat < nn_2) (H : Heap) (locs : List Loc) (ls : Array Slot), z_S Z (z_A Z sz) s.heap ga H locs → lv_has ls 9 [(0, .ref (Z.2.1 41)), (1, .int (nI s1)), (2, .int 1), (3, .int mo)] → W p l e (headSpec wsX10_spread (z_rm 6 134)).room s m args below meth c H locs 0 0 (MQ below (va_Qv (fun g1 => ∃ oc1 : Nat → Int32, g1 56 = .inl (Z.2.2.2 2, 129, .inl oc1) ∧ (∀ t, t < 129 → zbo (oc1 t) (zcl (zs9 (sg s1) 1) X ((t : Int) - 64))) ∧ z_fr 56 1 g g1) (z_B Z) (z_A Z sz)) args s 0 0 (z_A Z sz)) (F0 m 2 ls []) := by
    intro nn_2
    induction nn_2 with
    | zero => intro oc0 mo ga h_m h_u h_q h_n9 h_g h_oc hfr_ga hsp0 hmo hm_2 H locs ls hS hl; exact absurd hm_2 (Nat.not_lt_zero _)
    | succ nn_2 ih_2 =>
      intro oc0 mo ga h_m h_u h_q h_n9 h_g h_oc hfr_ga hsp0 hmo hm_2 H locs ls hS hl
      refine lv_iload_n hx hb dX10_spread_2 rfl (lv_at hl 3 rfl) ?_
      refine lv_if_eq (tgt := 184) hx hb dX10_spread_3 (by decide) (fun c_1 => ?_) (fun c_1 => ?_)
      · have i_1 := z_eq c_1
        rw [tI_0] at i_1
        have hmo0 := (hmo.resolve_left (fun h9 => by rw [h9] at c_1; exact absurd c_1 (by decide))).2
        refine z_vret hx hb hr hlocks hS ?_ dX10_spread_184
        exact ⟨oc0, h_oc, zsp_end hok hcm hsp0 hXb hmo0, hfr_ga⟩
      · have i_1 := z_ne c_1
        rw [tI_0] at i_1
        have hmo1 : mo = 1 := hmo.resolve_right (fun h9 => c_1 h9.1)
        refine lv_iconst (v := 0) hx hb dX10_spread_6 (by decide) ?_
        refine lv_istore_n (lv' := [(3, .int 0), (0, .ref (Z.2.1 41)), (1, .int (nI s1)), (2, .int 1)]) hx hb dX10_spread_7 rfl hl (by decide) rfl (fun ls hl => ?_)
        refine lv_bipush (v := (-64)) hx hb dX10_spread_8 (by decide) ?_
        refine lv_istore (lv' := [(4, .int (-64)), (3, .int 0), (0, .ref (Z.2.1 41)), (1, .int (nI s1)), (2, .int 1)]) hx hb dX10_spread_10 hl (by decide) rfl (fun ls hl => ?_)
        have hcut_12 : ∀ (nn_12 : Nat) (ci : Nat) (cv : Int32) (oc1 : Nat → Int32) (m1 : Int32) (gb : Nat → va_E) (h_m : gb 41 = .inr (10, [.ref (Z.2.1 42), .ref (Z.2.1 43), .ref (Z.2.1 44), .ref (Z.2.1 45), .int v4, .int v5, .int v6, .ref (Z.2.1 46), .ref (Z.2.1 47), .ref (Z.2.1 48), .ref (Z.2.1 49), .ref (Z.2.1 50), .ref (Z.2.1 51), .ref (Z.2.1 52), .ref (Z.2.1 53), .long v15, .long v16, .int v17, .ref (Z.2.1 54), .ref (Z.2.1 55), .ref (Z.2.1 56)])) (h_u : gb 42 = .inl (Z.2.2.2 0, 2, .inl fu)) (h_q : gb 43 = .inl (Z.2.2.2 0, 2, .inl fq)) (h_n9 : gb 44 = .inl (Z.2.2.2 0, 2, .inl fm)) (h_g : gb 45 = .inl (Z.2.2.2 0, 24, .inl fd)) (h_oc : gb 56 = .inl (Z.2.2.2 2, 129, .inl oc1)) (hfr_gb : z_fr 56 1 g gb) (hci : ci ≤ 129) (hcv : cv.toInt = (ci : Int) - 64) (hsp1 : zsp (zcl (zs9 (sg s1) 1) X) X oc1) (hmn1 : ∀ t, t < 129 → oc0 t = 1 → oc1 t = 1) (hm1 : (m1 = 0 ∧ oc1 = oc0) ∨ (m1 = 1 ∧ zcu oc0 < zcu oc1)) (hcc : ∀ u, u < ci → oc0 u = 1 → ∀ k, k < zNk (sg s1) 1 → ∀ x, x < zNx (sg s1) 1 → oc1 (zcr (sg s1) ((u : Int) - 64) (zTs (sg s1) 1 k x) + 64).toNat = 1) (hm_12 : 129 - ci < nn_12) (H : Heap) (locs : List Loc) (ls : Array Slot), z_S Z (z_A Z sz) s.heap gb H locs → lv_has ls 9 [(0, .ref (Z.2.1 41)), (1, .int (nI s1)), (2, .int 1), (3, .int m1), (4, .int cv)] → W p l e (headSpec wsX10_spread (z_rm 6 134)).room s m args below meth c H locs 0 0 (MQ below (va_Qv (fun g1 => ∃ oc1 : Nat → Int32, g1 56 = .inl (Z.2.2.2 2, 129, .inl oc1) ∧ (∀ t, t < 129 → zbo (oc1 t) (zcl (zs9 (sg s1) 1) X ((t : Int) - 64))) ∧ z_fr 56 1 g g1) (z_B Z) (z_A Z sz)) args s 0 0 (z_A Z sz)) (F0 m 12 ls []) := by
          intro nn_12
          induction nn_12 with
          | zero => intro ci cv oc1 m1 gb h_m h_u h_q h_n9 h_g h_oc hfr_gb hci hcv hsp1 hmn1 hm1 hcc hm_12 H locs ls hS hl; exact absurd hm_12 (Nat.not_lt_zero _)
          | succ nn_12 ih_12 =>
            intro ci cv oc1 m1 gb h_m h_u h_q h_n9 h_g h_oc hfr_gb hci hcv hsp1 hmn1 hm1 hcc hm_12 H locs ls hS hl
            refine lv_iload hx hb dX10_spread_12 (lv_at hl 4 rfl) ?_
            refine lv_bipush (v := 64) hx hb dX10_spread_14 (by decide) ?_
            refine lv_icmp_gt (tgt := 181) hx hb dX10_spread_16 (by decide) (fun c_2 => ?_) (fun c_2 => ?_)
            · have i_2 := z_lt c_2
              rw [tI_64] at i_2
              have hci129 : ci = 129 := by omega
              refine lv_goto (tgt := 2) hx hb dX10_spread_181 (by decide) ?_
              exact ih_2 oc1 m1 gb h_m h_u h_q h_n9 h_g h_oc hfr_gb hsp1 (by
                  rcases hm1 with ⟨h9, h8⟩ | ⟨h9, h8⟩
                  · refine Or.inr ⟨h9, ?_⟩
                    subst hci129
                    have h7 := hcc
                    rw [h8] at h7 ⊢
                    exact h7
                  · exact Or.inl h9) (by
                  have h7 : zcu oc1 ≤ 129 := zct_le _ 129
                  rw [hmo1, tI_1] at hm_2
                  rcases hm1 with ⟨h9, h8⟩ | ⟨h9, h8⟩
                  · rw [h9, h8, tI_0]; omega
                  · rw [h9, tI_1]; omega) _ _ _ hS (lv_sub hl [0, 1, 2, 3] rfl)
            · have i_2 := z_nlt c_2
              rw [tI_64] at i_2
              have hci128 : ci < 129 := by omega
              have hcx : cv + 64 = nI ci := z_nI_is (by rw [fb_addI (by rw [tI_64]; omega) (by rw [tI_64]; omega), tI_64]; omega)
              refine lv_iconst (v := 0) hx hb dX10_spread_19 (by decide) ?_
              refine lv_istore (lv' := [(5, .int 0), (0, .ref (Z.2.1 41)), (1, .int (nI s1)), (2, .int 1), (3, .int m1), (4, .int cv)]) hx hb dX10_spread_20 hl (by decide) rfl (fun ls hl => ?_)
              have hcut_22 : ∀ (nn_22 : Nat) (k : Nat) (oc2 : Nat → Int32) (m2 : Int32) (gc : Nat → va_E) (h_m : gc 41 = .inr (10, [.ref (Z.2.1 42), .ref (Z.2.1 43), .ref (Z.2.1 44), .ref (Z.2.1 45), .int v4, .int v5, .int v6, .ref (Z.2.1 46), .ref (Z.2.1 47), .ref (Z.2.1 48), .ref (Z.2.1 49), .ref (Z.2.1 50), .ref (Z.2.1 51), .ref (Z.2.1 52), .ref (Z.2.1 53), .long v15, .long v16, .int v17, .ref (Z.2.1 54), .ref (Z.2.1 55), .ref (Z.2.1 56)])) (h_u : gc 42 = .inl (Z.2.2.2 0, 2, .inl fu)) (h_q : gc 43 = .inl (Z.2.2.2 0, 2, .inl fq)) (h_n9 : gc 44 = .inl (Z.2.2.2 0, 2, .inl fm)) (h_g : gc 45 = .inl (Z.2.2.2 0, 24, .inl fd)) (h_oc : gc 56 = .inl (Z.2.2.2 2, 129, .inl oc2)) (hfr_gc : z_fr 56 1 g gc) (hk : k ≤ zNk (sg s1) 1) (hsp2 : zsp (zcl (zs9 (sg s1) 1) X) X oc2) (hmn2 : ∀ t, t < 129 → oc1 t = 1 → oc2 t = 1) (hm2 : (m2 = 0 ∧ oc2 = oc0) ∨ (m2 = 1 ∧ zcu oc0 < zcu oc2)) (hkk : ∀ k8, k8 < k → ∀ x, x < zNx (sg s1) 1 → oc2 (zcr (sg s1) cv.toInt (zTs (sg s1) 1 k8 x) + 64).toNat = 1) (hm_22 : zNk (sg s1) 1 - k < nn_22) (H : Heap) (locs : List Loc) (ls : Array Slot), z_S Z (z_A Z sz) s.heap gc H locs → lv_has ls 9 [(0, .ref (Z.2.1 41)), (1, .int (nI s1)), (2, .int 1), (3, .int m2), (4, .int cv), (5, .int (nI k))] → W p l e (headSpec wsX10_spread (z_rm 6 134)).room s m args below meth c H locs 0 0 (MQ below (va_Qv (fun g1 => ∃ oc1 : Nat → Int32, g1 56 = .inl (Z.2.2.2 2, 129, .inl oc1) ∧ (∀ t, t < 129 → zbo (oc1 t) (zcl (zs9 (sg s1) 1) X ((t : Int) - 64))) ∧ z_fr 56 1 g g1) (z_B Z) (z_A Z sz)) args s 0 0 (z_A Z sz)) (F0 m 22 ls []) := by
                intro nn_22
                induction nn_22 with
                | zero => intro k oc2 m2 gc h_m h_u h_q h_n9 h_g h_oc hfr_gc hk hsp2 hmn2 hm2 hkk hm_22 H locs ls hS hl; exact absurd hm_22 (Nat.not_lt_zero _)
                | succ nn_22 ih_22 =>
                  intro k oc2 m2 gc h_m h_u h_q h_n9 h_g h_oc hfr_gc hk hsp2 hmn2 hm2 hkk hm_22 H locs ls hS hl
                  refine lv_iload hx hb dX10_spread_22 (lv_at hl 5 rfl) ?_
                  refine lv_iload_n hx hb dX10_spread_24 rfl (lv_at hl 2 rfl) ?_
                  refine lv_if_ne (tgt := 32) hx hb dX10_spread_25 (by decide) (fun c_3 => ?_) (fun c_3 => ?_)
                  · have i_3 := z_ne c_3
                    rw [tI_1] at i_3
                    rw [tI_0] at i_3
                    
                    refine lv_aload_n hx hb dX10_spread_32 rfl (lv_at hl 0 rfl) ?_
                    refine z_get (own := RX10) (C := RX10) (T := TX10) (N := 21) hx hb hts in_X10_spread_10 hown hK hS h_m hM41 rfl 2 (by decide) (List.mem_of_getElem? (i := 1) rfl) rfl rfl dX10_spread_33 ?_
                    refine lv_iload_n hx hb dX10_spread_36 rfl (lv_at hl 1 rfl) ?_
                    refine z_iald hx hb hK hS h_n9 hM44 (vp_in_nI (by omega) (by omega)) dX10_spread_37 ?_
                    rw [show fm (nI s1).toNatClampNeg = nI (sg s1).2.2.1 from by rw [nI_clamp (by omega)]; exact hm]
                    refine lv_icmp_ge (tgt := 175) hx hb dX10_spread_38 (by decide) (fun c_4 => ?_) (fun c_4 => ?_)
                    · have i_4 := z_le c_4
                      rw [nI_toInt (by omega)] at i_4
                      rw [nI_toInt (by omega)] at i_4
                      have hkn : k = zNk (sg s1) 1 := by omega
                      have hci2 : oc0 ci = 1 → ∀ k, k < zNk (sg s1) 1 → ∀ x, x < zNx (sg s1) 1 → oc2 (zcr (sg s1) ((ci : Int) - 64) (zTs (sg s1) 1 k x) + 64).toNat = 1 := by
                        rw [← hcv, ← hkn]; exact fun _ => hkk
                      obtain ⟨cv2, ecv2⟩ : ∃ zz9 : Int32, zz9 = cv + 1 := ⟨_, rfl⟩
                      have hcv2 : cv2.toInt = ((ci + 1 : Nat) : Int) - 64 := by rw [ecv2, fb_addI (by rw [tI_1]; omega) (by rw [tI_1]; omega), tI_1, hcv]; omega
                      refine lv_iinc (v := cv2) (lv' := [(4, .int cv2), (0, .ref (Z.2.1 41)), (1, .int (nI s1)), (2, .int 1), (3, .int m2), (5, .int (nI k))]) hx hb dX10_spread_175 hl (k := 4) rfl (by rw [ecv2]; rfl) (by decide) rfl (fun ls hl => ?_)
                      refine lv_goto (tgt := 12) hx hb dX10_spread_178 (by decide) ?_
                      exact ih_12 (ci + 1) cv2 oc2 m2 gc h_m h_u h_q h_n9 h_g h_oc hfr_gc (by omega) hcv2 hsp2 (fun t ht h9 => hmn2 t ht (hmn1 t ht h9)) hm2 (fun u hu h9 k hk x hx => by
                          by_cases h8 : u = ci
                          · subst h8; exact hci2 h9 k hk x hx
                          · have h7 := zcl_b60 hok hcm hXb (hsp0.2.1 u (by omega) h9)
                            have h6 := zcr_bd60 hok hcm h7 (zTs_bd hok hk hx)
                            exact hmn2 _ (by omega) (hcc u (by omega) h9 k hk x hx)) (by omega) _ _ _ hS (lv_sub hl [1, 2, 3, 4, 0] rfl)
                    · have i_4 := z_nle c_4
                      rw [nI_toInt (by omega)] at i_4
                      rw [nI_toInt (by omega)] at i_4
                      have hkn : k < zNk (sg s1) 1 := by omega
                      refine lv_aload_n hx hb dX10_spread_41 rfl (lv_at hl 0 rfl) ?_
                      refine z_get (own := RX10) (C := RX10) (T := TX10) (N := 21) hx hb hts in_X10_spread_10 hown hK hS h_m hM41 rfl 20 (by decide) (List.mem_of_getElem? (i := 2) rfl) rfl rfl dX10_spread_42 ?_
                      refine lv_iload hx hb dX10_spread_45 (lv_at hl 4 rfl) ?_
                      refine lv_bipush (v := 64) hx hb dX10_spread_47 (by decide) ?_
                      refine lv_iadd hx hb dX10_spread_49 ?_
                      rw [show cv + 64 = nI ci from hcx]
                      refine z_zald hx hb hK hS h_oc hM56 (vp_in_nI (by omega) (by omega)) dX10_spread_50 ?_
                      rw [show oc2 (nI ci).toNatClampNeg = oc2 ci from by rw [nI_clamp (by omega)]]
                      refine lv_if_eq (tgt := 175) hx hb dX10_spread_51 (by decide) (fun c_5 => ?_) (fun c_5 => ?_)
                      · have i_5 := z_eq c_5
                        rw [tI_0] at i_5
                        have hci2 : oc0 ci = 1 → ∀ k, k < zNk (sg s1) 1 → ∀ x, x < zNx (sg s1) 1 → oc2 (zcr (sg s1) ((ci : Int) - 64) (zTs (sg s1) 1 k x) + 64).toNat = 1 := fun h9 => by
                          have h8 := hmn2 ci hci128 (hmn1 ci hci128 h9)
                          rw [c_5] at h8; exact absurd h8 (by decide)
                        obtain ⟨cv2, ecv2⟩ : ∃ zz9 : Int32, zz9 = cv + 1 := ⟨_, rfl⟩
                        have hcv2 : cv2.toInt = ((ci + 1 : Nat) : Int) - 64 := by rw [ecv2, fb_addI (by rw [tI_1]; omega) (by rw [tI_1]; omega), tI_1, hcv]; omega
                        refine lv_iinc (v := cv2) (lv' := [(4, .int cv2), (0, .ref (Z.2.1 41)), (1, .int (nI s1)), (2, .int 1), (3, .int m2), (5, .int (nI k))]) hx hb dX10_spread_175 hl (k := 4) rfl (by rw [ecv2]; rfl) (by decide) rfl (fun ls hl => ?_)
                        refine lv_goto (tgt := 12) hx hb dX10_spread_178 (by decide) ?_
                        exact ih_12 (ci + 1) cv2 oc2 m2 gc h_m h_u h_q h_n9 h_g h_oc hfr_gc (by omega) hcv2 hsp2 (fun t ht h9 => hmn2 t ht (hmn1 t ht h9)) hm2 (fun u hu h9 k hk x hx => by
                            by_cases h8 : u = ci
                            · subst h8; exact hci2 h9 k hk x hx
                            · have h7 := zcl_b60 hok hcm hXb (hsp0.2.1 u (by omega) h9)
                              have h6 := zcr_bd60 hok hcm h7 (zTs_bd hok hk hx)
                              exact hmn2 _ (by omega) (hcc u (by omega) h9 k hk x hx)) (by omega) _ _ _ hS (lv_sub hl [1, 2, 3, 4, 0] rfl)
                      · have i_5 := z_ne c_5
                        rw [tI_0] at i_5
                        have hc1 : oc2 ci = 1 := (hsp2.1 ci hci128).resolve_left c_5
                        have hCc := hsp2.2.1 ci hci128 hc1
                        have hcb := zcl_b60 hok hcm hXb hCc
                        rw [← hcv] at hCc hcb
                        refine lv_iconst (v := 0) hx hb dX10_spread_54 (by decide) ?_
                        refine lv_istore (lv' := [(6, .int 0), (0, .ref (Z.2.1 41)), (1, .int (nI s1)), (2, .int 1), (3, .int m2), (4, .int cv), (5, .int (nI k))]) hx hb dX10_spread_55 hl (by decide) rfl (fun ls hl => ?_)
                        have hcut_57 : ∀ (nn_57 : Nat) (x9 : Nat) (oc3 : Nat → Int32) (m3 : Int32) (gd : Nat → va_E) (h_m : gd 41 = .inr (10, [.ref (Z.2.1 42), .ref (Z.2.1 43), .ref (Z.2.1 44), .ref (Z.2.1 45), .int v4, .int v5, .int v6, .ref (Z.2.1 46), .ref (Z.2.1 47), .ref (Z.2.1 48), .ref (Z.2.1 49), .ref (Z.2.1 50), .ref (Z.2.1 51), .ref (Z.2.1 52), .ref (Z.2.1 53), .long v15, .long v16, .int v17, .ref (Z.2.1 54), .ref (Z.2.1 55), .ref (Z.2.1 56)])) (h_u : gd 42 = .inl (Z.2.2.2 0, 2, .inl fu)) (h_q : gd 43 = .inl (Z.2.2.2 0, 2, .inl fq)) (h_n9 : gd 44 = .inl (Z.2.2.2 0, 2, .inl fm)) (h_g : gd 45 = .inl (Z.2.2.2 0, 24, .inl fd)) (h_oc : gd 56 = .inl (Z.2.2.2 2, 129, .inl oc3)) (hfr_gd : z_fr 56 1 g gd) (hx9 : x9 ≤ zNx (sg s1) 1) (hsp3 : zsp (zcl (zs9 (sg s1) 1) X) X oc3) (hmn3 : ∀ t, t < 129 → oc2 t = 1 → oc3 t = 1) (hm3 : (m3 = 0 ∧ oc3 = oc0) ∨ (m3 = 1 ∧ zcu oc0 < zcu oc3)) (hkk3 : ∀ k8, k8 < k → ∀ x, x < zNx (sg s1) 1 → oc3 (zcr (sg s1) cv.toInt (zTs (sg s1) 1 k8 x) + 64).toNat = 1) (hxx : ∀ x, x < x9 → oc3 (zcr (sg s1) cv.toInt (zTs (sg s1) 1 k x) + 64).toNat = 1) (hm_57 : zNx (sg s1) 1 - x9 < nn_57) (H : Heap) (locs : List Loc) (ls : Array Slot), z_S Z (z_A Z sz) s.heap gd H locs → lv_has ls 9 [(0, .ref (Z.2.1 41)), (1, .int (nI s1)), (2, .int 1), (3, .int m3), (4, .int cv), (5, .int (nI k)), (6, .int (nI x9))] → W p l e (headSpec wsX10_spread (z_rm 6 134)).room s m args below meth c H locs 0 0 (MQ below (va_Qv (fun g1 => ∃ oc1 : Nat → Int32, g1 56 = .inl (Z.2.2.2 2, 129, .inl oc1) ∧ (∀ t, t < 129 → zbo (oc1 t) (zcl (zs9 (sg s1) 1) X ((t : Int) - 64))) ∧ z_fr 56 1 g g1) (z_B Z) (z_A Z sz)) args s 0 0 (z_A Z sz)) (F0 m 57 ls []) := by
                          intro nn_57
                          induction nn_57 with
                          | zero => intro x9 oc3 m3 gd h_m h_u h_q h_n9 h_g h_oc hfr_gd hx9 hsp3 hmn3 hm3 hkk3 hxx hm_57 H locs ls hS hl; exact absurd hm_57 (Nat.not_lt_zero _)
                          | succ nn_57 ih_57 =>
                            intro x9 oc3 m3 gd h_m h_u h_q h_n9 h_g h_oc hfr_gd hx9 hsp3 hmn3 hm3 hkk3 hxx hm_57 H locs ls hS hl
                            refine lv_iload hx hb dX10_spread_57 (lv_at hl 6 rfl) ?_
                            refine lv_iload_n hx hb dX10_spread_59 rfl (lv_at hl 2 rfl) ?_
                            refine lv_iconst (v := 2) hx hb dX10_spread_60 (by decide) ?_
                            refine lv_icmp_ge (tgt := 68) hx hb dX10_spread_61 (by decide) (fun c_6 => ?_) (fun c_6 => ?_)
                            · have i_6 := z_le c_6
                              rw [tI_1] at i_6
                              rw [tI_2] at i_6
                              exfalso; omega
                            · have i_6 := z_nle c_6
                              rw [tI_1] at i_6
                              rw [tI_2] at i_6
                              
                              refine lv_iconst (v := 1) hx hb dX10_spread_64 (by decide) ?_
                              refine lv_goto (tgt := 74) hx hb dX10_spread_65 (by decide) ?_
                              refine lv_icmp_ge (tgt := 169) hx hb dX10_spread_74 (by decide) (fun c_7 => ?_) (fun c_7 => ?_)
                              · have i_7 := z_le c_7
                                rw [nI_toInt (by omega)] at i_7
                                rw [tI_1] at i_7
                                have hxn : x9 = zNx (sg s1) 1 := by omega
                                refine lv_iinc (v := (nI (k + 1))) (lv' := [(5, .int (nI (k + 1))), (0, .ref (Z.2.1 41)), (1, .int (nI s1)), (2, .int 1), (3, .int m3), (4, .int cv), (6, .int (nI x9))]) hx hb dX10_spread_169 hl (k := 5) rfl (nI_1 _) (by decide) rfl (fun ls hl => ?_)
                                refine lv_goto (tgt := 22) hx hb dX10_spread_172 (by decide) ?_
                                exact ih_22 (k + 1) oc3 m3 gd h_m h_u h_q h_n9 h_g h_oc hfr_gd (by omega) hsp3 (fun t ht h9 => hmn3 t ht (hmn2 t ht h9)) hm3 (fun k8 h8 x hx => by
                                    by_cases h9 : k8 = k
                                    · rw [h9]; exact hxx x (by omega)
                                    · exact hkk3 k8 (by omega) x hx) (by omega) _ _ _ hS (lv_sub hl [1, 2, 3, 4, 5, 0] rfl)
                              · have i_7 := z_nle c_7
                                rw [nI_toInt (by omega)] at i_7
                                rw [tI_1] at i_7
                                have hxn : x9 < zNx (sg s1) 1 := by omega
                                have hTb := zTs_bd hok hkn hxn
                                have hzb := zcr_bd60 hok hcm hcb hTb
                                have hdk := hd k (by omega)
                                have hdkb := hok.2.2.2.2 k (by omega)
                                refine lv_iload_n hx hb dX10_spread_77 rfl (lv_at hl 2 rfl) ?_
                                refine lv_if_le (tgt := 96) hx hb dX10_spread_78 (by decide) (fun c_8 => ?_) (fun c_8 => ?_)
                                · have i_8 := z_le c_8
                                  rw [tI_1] at i_8
                                  rw [tI_0] at i_8
                                  exfalso; omega
                                · have i_8 := z_nle c_8
                                  rw [tI_1] at i_8
                                  rw [tI_0] at i_8
                                  
                                  refine lv_aload_n hx hb dX10_spread_81 rfl (lv_at hl 0 rfl) ?_
                                  refine z_get (own := RX10) (C := RX10) (T := TX10) (N := 21) hx hb hts in_X10_spread_10 hown hK hS h_m hM41 rfl 3 (by decide) (List.mem_of_getElem? (i := 3) rfl) rfl rfl dX10_spread_82 ?_
                                  refine lv_bipush (v := 12) hx hb dX10_spread_85 (by decide) ?_
                                  refine lv_iload_n hx hb dX10_spread_87 rfl (lv_at hl 1 rfl) ?_
                                  refine lv_imul hx hb dX10_spread_88 ?_
                                  refine lv_iload hx hb dX10_spread_89 (lv_at hl 5 rfl) ?_
                                  refine lv_iadd hx hb dX10_spread_91 ?_
                                  rw [show (12 * (nI s1)) + (nI k) = nI (12 * s1 + k) from zm_ix (by omega) (by omega)]
                                  refine z_iald hx hb hK hS h_g hM45 (vp_in_nI (by omega) (by omega)) dX10_spread_92 ?_
                                  rw [show fd (nI (12 * s1 + k)).toNatClampNeg = fd (12 * s1 + k) from by rw [nI_clamp (by omega)]]
                                  refine lv_goto (tgt := 97) hx hb dX10_spread_93 (by decide) ?_
                                  refine lv_iload_n hx hb dX10_spread_97 rfl (lv_at hl 2 rfl) ?_
                                  refine lv_iconst (v := 1) hx hb dX10_spread_98 (by decide) ?_
                                  refine lv_icmp_le (tgt := 117) hx hb dX10_spread_99 (by decide) (fun c_9 => ?_) (fun c_9 => ?_)
                                  · have i_9 := z_le c_9
                                    rw [tI_1] at i_9
                                    
                                    refine lv_iconst (v := 0) hx hb dX10_spread_117 (by decide) ?_
                                    refine lv_iadd hx hb dX10_spread_118 ?_
                                    refine lv_topi (fun tt ett => ?_)
                                    have htt : tt.toInt = (zTs (sg s1) 1 k x9) := by rw [ett, Int32_add0, hdk]; exact (Int.add_zero _).symm
                                    refine lv_istore (lv' := [(7, .int tt), (0, .ref (Z.2.1 41)), (1, .int (nI s1)), (2, .int 1), (3, .int m3), (4, .int cv), (5, .int (nI k)), (6, .int (nI x9))]) hx hb dX10_spread_119 hl (by decide) rfl (fun ls hl => ?_)
                                    refine lv_aload_n hx hb dX10_spread_121 rfl (lv_at hl 1 rfl) ?_
                                    refine lv_iload_n hx hb dX10_spread_122 rfl (lv_at hl 2 rfl) ?_
                                    refine lv_iload hx hb dX10_spread_123 (lv_at hl 5 rfl) ?_
                                    refine lv_iload hx hb dX10_spread_125 (lv_at hl 0 rfl) ?_
                                    refine z_calli (z_runV (As := [.int (nI s1), .int cv, .int tt]) (rest := []) ⟨hx, hb, hml, hown, hts⟩ hK hS ((m_carried Z gd sg ⟨_, _, _, _, _, _, fu, fq, fm, fd, h_m, h_u, h_q, h_n9, h_g, hMN, hSg⟩ s1 hs1 cv tt hcm (by omega) (by omega)) l _) gX10_spread_X10_carried rfl 3 (by decide +kernel) ⟨Nat.le_of_ble_eq_true rfl, Nat.le_of_ble_eq_true rfl⟩ h_m hM41 rfl rfl hl.1 rfl (Nat.le_of_ble_eq_true rfl) dX10_spread_127 ⟨Nat.le_of_ble_eq_true rfl, Nat.le_of_ble_eq_true rfl⟩) hS (fun cr g_10 H locs hp_11 hS => ?_)
                                    obtain ⟨rfl, hp_11⟩ := hp_11
                                    have hcr := hp_11
                                    rw [htt] at hcr
                                    have hCn9 : (zcl (zs9 (sg s1) 1) X) cr.toInt := zcl_step hCc ⟨k, x9, hkn, hxn, hcr⟩
                                    refine lv_bipush (v := 64) hx hb dX10_spread_130 (by decide) ?_
                                    refine lv_iadd hx hb dX10_spread_132 ?_
                                    refine lv_topi (fun ii eii => ?_)
                                    have hii : ii.toInt = cr.toInt + 64 := by rw [eii, fb_addI (by rw [tI_64]; omega) (by rw [tI_64]; omega), tI_64]
                                    obtain ⟨n9, en9, hn9, -⟩ := z_nI_of (x := ii) (by omega)
                                    subst en9
                                    have hn9b : n9 < 129 := by omega
                                    have hne : (zcr (sg s1) cv.toInt (zTs (sg s1) 1 k x9) + 64).toNat = n9 := by omega
                                    have hCn : (zcl (zs9 (sg s1) 1) X) ((n9 : Int) - 64) := by rw [show (n9 : Int) - 64 = cr.toInt by omega]; exact hCn9
                                    refine lv_istore (lv' := [(8, .int (nI n9)), (7, .int tt), (0, .ref (Z.2.1 41)), (1, .int (nI s1)), (2, .int 1), (3, .int m3), (4, .int cv), (5, .int (nI k)), (6, .int (nI x9))]) hx hb dX10_spread_133 hl (by decide) rfl (fun ls hl => ?_)
                                    refine lv_iload_n hx hb dX10_spread_135 rfl (lv_at hl 5 rfl) ?_
                                    refine lv_if_ne (tgt := 149) hx hb dX10_spread_136 (by decide) (fun c_12 => ?_) (fun c_12 => ?_)
                                    · have i_12 := z_ne c_12
                                      rw [tI_0] at i_12
                                      have hm39 : ¬ m3 = 0 := c_12
                                      refine lv_iconst (v := 1) hx hb dX10_spread_149 (by decide) ?_
                                      refine lv_goto (tgt := 154) hx hb dX10_spread_150 (by decide) ?_
                                      refine lv_istore_n (lv' := [(3, .int 1), (8, .int (nI n9)), (7, .int tt), (0, .ref (Z.2.1 41)), (1, .int (nI s1)), (2, .int 1), (4, .int cv), (5, .int (nI k)), (6, .int (nI x9))]) hx hb dX10_spread_154 rfl hl (by decide) rfl (fun ls hl => ?_)
                                      refine lv_aload_n hx hb dX10_spread_155 rfl (lv_at hl 3 rfl) ?_
                                      refine z_get (own := RX10) (C := RX10) (T := TX10) (N := 21) hx hb hts in_X10_spread_10 hown hK hS h_m hM41 rfl 20 (by decide) (List.mem_of_getElem? (i := 2) rfl) rfl rfl dX10_spread_156 ?_
                                      refine lv_iload hx hb dX10_spread_159 (lv_at hl 1 rfl) ?_
                                      refine lv_iconst (v := 1) hx hb dX10_spread_161 (by decide) ?_
                                      refine z_zast (y := 1) hx hb hK hS h_oc hM56 rfl (vp_in_nI (by omega) (by omega)) dX10_spread_162 (fun g_13 H locs hg_13 hS => ?_)
                                      have h_oc : g_13 56 = .inl (Z.2.2.2 2, 129, .inl (upd oc3 (nI n9).toNatClampNeg 1)) := z_up_s hg_13
                                      have h_m := z_up_n hg_13 h_m (by omega)
                                      have h_u := z_up_n hg_13 h_u (by omega)
                                      have h_q := z_up_n hg_13 h_q (by omega)
                                      have h_n9 := z_up_n hg_13 h_n9 (by omega)
                                      have h_g := z_up_n hg_13 h_g (by omega)
                                      rw [nI_clamp (by omega)] at h_oc
                                      refine lv_iinc (v := (nI (x9 + 1))) (lv' := [(6, .int (nI (x9 + 1))), (3, .int 1), (8, .int (nI n9)), (7, .int tt), (0, .ref (Z.2.1 41)), (1, .int (nI s1)), (2, .int 1), (4, .int cv), (5, .int (nI k))]) hx hb dX10_spread_163 hl (k := 8) rfl (nI_1 _) (by decide) rfl (fun ls hl => ?_)
                                      refine lv_goto (tgt := 57) hx hb dX10_spread_166 (by decide) ?_
                                      exact ih_57 (x9 + 1) (upd oc3 n9 1) 1 g_13 h_m h_u h_q h_n9 h_g h_oc (hfr_gd.up hg_13 (by omega)) (by omega) (zsp_put hsp3 hCn) (fun t ht h9 => z_upd_up (hmn3 t ht h9)) (Or.inr ⟨rfl, Nat.lt_of_lt_of_le (hm3.resolve_left (fun q => hm39 q.1)).2 (zcu_le (hsp3.1 n9 (by omega)) (by omega))⟩) (fun k8 h8 x hx => z_upd_up (hkk3 k8 h8 x hx)) (fun x hx => by
                                          by_cases h9 : x = x9
                                          · rw [h9, hne]; exact pk_us
                                          · exact z_upd_up (hxx x (by omega))) (by omega) _ _ _ hS (lv_sub hl [4, 5, 6, 1, 7, 8, 0] rfl)
                                    · have i_12 := z_eq c_12
                                      rw [tI_0] at i_12
                                      have hm39 : m3 = 0 := c_12
                                      refine lv_aload_n hx hb dX10_spread_139 rfl (lv_at hl 2 rfl) ?_
                                      refine z_get (own := RX10) (C := RX10) (T := TX10) (N := 21) hx hb hts in_X10_spread_10 hown hK hS h_m hM41 rfl 20 (by decide) (List.mem_of_getElem? (i := 2) rfl) rfl rfl dX10_spread_140 ?_
                                      refine lv_iload hx hb dX10_spread_143 (lv_at hl 0 rfl) ?_
                                      refine z_zald hx hb hK hS h_oc hM56 (vp_in_nI (by omega) (by omega)) dX10_spread_145 ?_
                                      rw [show oc3 (nI n9).toNatClampNeg = oc3 n9 from by rw [nI_clamp (by omega)]]
                                      refine lv_if_ne (tgt := 153) hx hb dX10_spread_146 (by decide) (fun c_14 => ?_) (fun c_14 => ?_)
                                      · have i_14 := z_ne c_14
                                        rw [tI_0] at i_14
                                        have hon := (hsp3.1 n9 hn9b).resolve_left c_14
                                        refine lv_iconst (v := 0) hx hb dX10_spread_153 (by decide) ?_
                                        refine lv_istore_n (lv' := [(3, .int 0), (8, .int (nI n9)), (7, .int tt), (0, .ref (Z.2.1 41)), (1, .int (nI s1)), (2, .int 1), (4, .int cv), (5, .int (nI k)), (6, .int (nI x9))]) hx hb dX10_spread_154 rfl hl (by decide) rfl (fun ls hl => ?_)
                                        refine lv_aload_n hx hb dX10_spread_155 rfl (lv_at hl 3 rfl) ?_
                                        refine z_get (own := RX10) (C := RX10) (T := TX10) (N := 21) hx hb hts in_X10_spread_10 hown hK hS h_m hM41 rfl 20 (by decide) (List.mem_of_getElem? (i := 2) rfl) rfl rfl dX10_spread_156 ?_
                                        refine lv_iload hx hb dX10_spread_159 (lv_at hl 1 rfl) ?_
                                        refine lv_iconst (v := 1) hx hb dX10_spread_161 (by decide) ?_
                                        refine z_zast (y := 1) hx hb hK hS h_oc hM56 rfl (vp_in_nI (by omega) (by omega)) dX10_spread_162 (fun g_15 H locs hg_15 hS => ?_)
                                        have h_oc : g_15 56 = .inl (Z.2.2.2 2, 129, .inl (upd oc3 (nI n9).toNatClampNeg 1)) := z_up_s hg_15
                                        have h_m := z_up_n hg_15 h_m (by omega)
                                        have h_u := z_up_n hg_15 h_u (by omega)
                                        have h_q := z_up_n hg_15 h_q (by omega)
                                        have h_n9 := z_up_n hg_15 h_n9 (by omega)
                                        have h_g := z_up_n hg_15 h_g (by omega)
                                        rw [nI_clamp (by omega)] at h_oc
                                        refine lv_iinc (v := (nI (x9 + 1))) (lv' := [(6, .int (nI (x9 + 1))), (3, .int 0), (8, .int (nI n9)), (7, .int tt), (0, .ref (Z.2.1 41)), (1, .int (nI s1)), (2, .int 1), (4, .int cv), (5, .int (nI k))]) hx hb dX10_spread_163 hl (k := 8) rfl (nI_1 _) (by decide) rfl (fun ls hl => ?_)
                                        refine lv_goto (tgt := 57) hx hb dX10_spread_166 (by decide) ?_
                                        exact ih_57 (x9 + 1) (upd oc3 n9 1) 0 g_15 h_m h_u h_q h_n9 h_g h_oc (hfr_gd.up hg_15 (by omega)) (by omega) (zsp_put hsp3 hCn) (fun t ht h9 => z_upd_up (hmn3 t ht h9)) (Or.inl ⟨rfl, by rw [z_upd_id hon]; exact (hm3.resolve_right (fun q => by rw [hm39] at q; exact absurd q.1 (by decide))).2⟩) (fun k8 h8 x hx => z_upd_up (hkk3 k8 h8 x hx)) (fun x hx => by
                                            by_cases h9 : x = x9
                                            · rw [h9, hne]; exact pk_us
                                            · exact z_upd_up (hxx x (by omega))) (by omega) _ _ _ hS (lv_sub hl [4, 5, 6, 1, 7, 8, 0] rfl)
                                      · have i_14 := z_eq c_14
                                        rw [tI_0] at i_14
                                        have hon : oc3 n9 = 0 := c_14
                                        refine lv_iconst (v := 1) hx hb dX10_spread_149 (by decide) ?_
                                        refine lv_goto (tgt := 154) hx hb dX10_spread_150 (by decide) ?_
                                        refine lv_istore_n (lv' := [(3, .int 1), (8, .int (nI n9)), (7, .int tt), (0, .ref (Z.2.1 41)), (1, .int (nI s1)), (2, .int 1), (4, .int cv), (5, .int (nI k)), (6, .int (nI x9))]) hx hb dX10_spread_154 rfl hl (by decide) rfl (fun ls hl => ?_)
                                        refine lv_aload_n hx hb dX10_spread_155 rfl (lv_at hl 3 rfl) ?_
                                        refine z_get (own := RX10) (C := RX10) (T := TX10) (N := 21) hx hb hts in_X10_spread_10 hown hK hS h_m hM41 rfl 20 (by decide) (List.mem_of_getElem? (i := 2) rfl) rfl rfl dX10_spread_156 ?_
                                        refine lv_iload hx hb dX10_spread_159 (lv_at hl 1 rfl) ?_
                                        refine lv_iconst (v := 1) hx hb dX10_spread_161 (by decide) ?_
                                        refine z_zast (y := 1) hx hb hK hS h_oc hM56 rfl (vp_in_nI (by omega) (by omega)) dX10_spread_162 (fun g_16 H locs hg_16 hS => ?_)
                                        have h_oc : g_16 56 = .inl (Z.2.2.2 2, 129, .inl (upd oc3 (nI n9).toNatClampNeg 1)) := z_up_s hg_16
                                        have h_m := z_up_n hg_16 h_m (by omega)
                                        have h_u := z_up_n hg_16 h_u (by omega)
                                        have h_q := z_up_n hg_16 h_q (by omega)
                                        have h_n9 := z_up_n hg_16 h_n9 (by omega)
                                        have h_g := z_up_n hg_16 h_g (by omega)
                                        rw [nI_clamp (by omega)] at h_oc
                                        refine lv_iinc (v := (nI (x9 + 1))) (lv' := [(6, .int (nI (x9 + 1))), (3, .int 1), (8, .int (nI n9)), (7, .int tt), (0, .ref (Z.2.1 41)), (1, .int (nI s1)), (2, .int 1), (4, .int cv), (5, .int (nI k))]) hx hb dX10_spread_163 hl (k := 8) rfl (nI_1 _) (by decide) rfl (fun ls hl => ?_)
                                        refine lv_goto (tgt := 57) hx hb dX10_spread_166 (by decide) ?_
                                        exact ih_57 (x9 + 1) (upd oc3 n9 1) 1 g_16 h_m h_u h_q h_n9 h_g h_oc (hfr_gd.up hg_16 (by omega)) (by omega) (zsp_put hsp3 hCn) (fun t ht h9 => z_upd_up (hmn3 t ht h9)) (Or.inr ⟨rfl, by rw [zcu_put hon (by omega), (hm3.resolve_right (fun q => by rw [hm39] at q; exact absurd q.1 (by decide))).2]; omega⟩) (fun k8 h8 x hx => z_upd_up (hkk3 k8 h8 x hx)) (fun x hx => by
                                            by_cases h9 : x = x9
                                            · rw [h9, hne]; exact pk_us
                                            · exact z_upd_up (hxx x (by omega))) (by omega) _ _ _ hS (lv_sub hl [4, 5, 6, 1, 7, 8, 0] rfl)
                                  · have i_9 := z_nle c_9
                                    rw [tI_1] at i_9
                                    exfalso; omega
                        exact hcut_57 (zNx (sg s1) 1 - 0 + 1) 0 oc2 m2 gc h_m h_u h_q h_n9 h_g h_oc hfr_gc (Nat.zero_le _) hsp2 (fun t _ h9 => h9) hm2 hkk (fun x hx => absurd hx (Nat.not_lt_zero x)) (Nat.lt_succ_self _) _ _ _ hS (lv_sub hl [1, 2, 3, 4, 5, 6, 0] rfl)
                  · have i_3 := z_eq c_3
                    rw [tI_1] at i_3
                    rw [tI_0] at i_3
                    exfalso; omega
              exact hcut_22 (zNk (sg s1) 1 - 0 + 1) 0 oc1 m1 gb h_m h_u h_q h_n9 h_g h_oc hfr_gb (Nat.zero_le _) hsp1 (fun t _ h9 => h9) hm1 (fun k8 h8 => absurd h8 (Nat.not_lt_zero k8)) (Nat.lt_succ_self _) _ _ _ hS (lv_sub hl [1, 2, 3, 4, 5, 0] rfl)
        exact hcut_12 (129 - 0 + 1) 0 (-64) oc0 0 ga h_m h_u h_q h_n9 h_g h_oc hfr_ga (by omega) (by rw [tI_m64]; omega) hsp0 (fun t _ h9 => h9) (Or.inl ⟨rfl, rfl⟩) (fun u hu => absurd hu (Nat.not_lt_zero u)) (Nat.lt_succ_self _) _ _ _ hS (lv_sub hl [2, 3, 4, 1, 0] rfl)
  exact hcut_2 (129 - zcu oc + (1 : Int32).toInt.toNat + 1) oc (1 : Int32) g h_m h_u h_q h_n9 h_g h_oc z_fr.rf (zsp_of hX (fun y hy => zcl_base hy)) (Or.inl rfl) (Nat.lt_succ_self _) _ _ _ hS (lv_sub hl [1, 2, 3, 0] rfl)

set_option maxHeartbeats 4000000 in
set_option maxRecDepth 100000 in
theorem m_spread0 (Z : zT) (g : Nat → va_E) (sg : Nat → zb) (hM : z_mr Z g sg) (s1 : Nat) (hs1 : s1 < 2) (oc : Nat → Int32) (h_oc : g 56 = .inl (Z.2.2.2 2, 129, .inl oc)) (hcm : zcm (sg s1)) (X : Int → Prop) (hX : ∀ t, t < 129 → zbo (oc t) (X ((t : Int) - 64))) (hXb : ∀ y, X y → -60 ≤ y ∧ y ≤ 60) : z_Mv Z yX10_spread wsX10_spread 6 134 [.ref (Z.2.1 41), .int (nI s1), .int 0] g (fun g1 => ∃ oc1 : Nat → Int32, g1 56 = .inl (Z.2.2.2 2, 129, .inl oc1) ∧ (∀ t, t < 129 → zbo (oc1 t) (zcl (zs9 (sg s1) 0) X ((t : Int) - 64))) ∧ z_fr 56 1 g g1) := by
  intro l sz
  obtain ⟨v4, v5, v6, v15, v16, v17, fu, fq, fm, fd, h_m, h_u, h_q, h_n9, h_g, hMN, hSg⟩ := id hM
  have hM41 : 41 < Z.1 := by omega
  have hM42 : 42 < Z.1 := by omega
  have hM43 : 43 < Z.1 := by omega
  have hM44 : 44 < Z.1 := by omega
  have hM45 : 45 < Z.1 := by omega
  obtain ⟨hok, hp, hq, hm, hd⟩ := hSg s1 hs1
  have hPb := zP_bd hok
  have hn12 := hok.2.2.2.1
  have hq1 := hok.2.1
  have hM56 : 56 < Z.1 := by omega
  have hnk9 : zNk (sg s1) 0 = 1 := rfl
  have hnx9 : zNx (sg s1) 0 = 1 := rfl
  refine z_enter (maxL := 9) (ret := none) (lv := [(0, .ref (Z.2.1 41)), (1, .int (nI s1)), (2, .int 0)]) (plainFor_of_name (by decide +kernel)) rfl (fun ls h => by subst h; exact lv_entry [.ref (Z.2.1 41), .int (nI s1), .int 0] (n := 9) (Nat.le_of_ble_eq_true rfl)) ?_
  intro p e s m args below meth c hx hb hml hr hlocks hown hts hK hS hsz ls hl
  refine lv_iconst (v := 1) hx hb dX10_spread_0 (by decide) ?_
  refine lv_istore_n (lv' := [(3, .int 1), (0, .ref (Z.2.1 41)), (1, .int (nI s1)), (2, .int 0)]) hx hb dX10_spread_1 rfl hl (by decide) rfl (fun ls hl => ?_)
  have hcut_2 : ∀ (nn_2 : Nat) (oc0 : Nat → Int32) (mo : Int32) (ga : Nat → va_E) (h_m : ga 41 = .inr (10, [.ref (Z.2.1 42), .ref (Z.2.1 43), .ref (Z.2.1 44), .ref (Z.2.1 45), .int v4, .int v5, .int v6, .ref (Z.2.1 46), .ref (Z.2.1 47), .ref (Z.2.1 48), .ref (Z.2.1 49), .ref (Z.2.1 50), .ref (Z.2.1 51), .ref (Z.2.1 52), .ref (Z.2.1 53), .long v15, .long v16, .int v17, .ref (Z.2.1 54), .ref (Z.2.1 55), .ref (Z.2.1 56)])) (h_u : ga 42 = .inl (Z.2.2.2 0, 2, .inl fu)) (h_q : ga 43 = .inl (Z.2.2.2 0, 2, .inl fq)) (h_n9 : ga 44 = .inl (Z.2.2.2 0, 2, .inl fm)) (h_g : ga 45 = .inl (Z.2.2.2 0, 24, .inl fd)) (h_oc : ga 56 = .inl (Z.2.2.2 2, 129, .inl oc0)) (hfr_ga : z_fr 56 1 g ga) (hsp0 : zsp (zcl (zs9 (sg s1) 0) X) X oc0) (hmo : mo = 1 ∨ (mo = 0 ∧ ∀ u, u < 129 → oc0 u = 1 → ∀ k, k < zNk (sg s1) 0 → ∀ x, x < zNx (sg s1) 0 → oc0 (zcr (sg s1) ((u : Int) - 64) (zTs (sg s1) 0 k x) + 64).toNat = 1)) (hm_2 : 129 - zcu oc0 + mo.toInt.toNat < nn_2) (H : Heap) (locs : List Loc) (ls : Array Slot), z_S Z (z_A Z sz) s.heap ga H locs → lv_has ls 9 [(0, .ref (Z.2.1 41)), (1, .int (nI s1)), (2, .int 0), (3, .int mo)] → W p l e (headSpec wsX10_spread (z_rm 6 134)).room s m args below meth c H locs 0 0 (MQ below (va_Qv (fun g1 => ∃ oc1 : Nat → Int32, g1 56 = .inl (Z.2.2.2 2, 129, .inl oc1) ∧ (∀ t, t < 129 → zbo (oc1 t) (zcl (zs9 (sg s1) 0) X ((t : Int) - 64))) ∧ z_fr 56 1 g g1) (z_B Z) (z_A Z sz)) args s 0 0 (z_A Z sz)) (F0 m 2 ls []) := by
    intro nn_2
    induction nn_2 with
    | zero => intro oc0 mo ga h_m h_u h_q h_n9 h_g h_oc hfr_ga hsp0 hmo hm_2 H locs ls hS hl; exact absurd hm_2 (Nat.not_lt_zero _)
    | succ nn_2 ih_2 =>
      intro oc0 mo ga h_m h_u h_q h_n9 h_g h_oc hfr_ga hsp0 hmo hm_2 H locs ls hS hl
      refine lv_iload_n hx hb dX10_spread_2 rfl (lv_at hl 3 rfl) ?_
      refine lv_if_eq (tgt := 184) hx hb dX10_spread_3 (by decide) (fun c_1 => ?_) (fun c_1 => ?_)
      · have i_1 := z_eq c_1
        rw [tI_0] at i_1
        have hmo0 := (hmo.resolve_left (fun h9 => by rw [h9] at c_1; exact absurd c_1 (by decide))).2
        refine z_vret hx hb hr hlocks hS ?_ dX10_spread_184
        exact ⟨oc0, h_oc, zsp_end hok hcm hsp0 hXb hmo0, hfr_ga⟩
      · have i_1 := z_ne c_1
        rw [tI_0] at i_1
        have hmo1 : mo = 1 := hmo.resolve_right (fun h9 => c_1 h9.1)
        refine lv_iconst (v := 0) hx hb dX10_spread_6 (by decide) ?_
        refine lv_istore_n (lv' := [(3, .int 0), (0, .ref (Z.2.1 41)), (1, .int (nI s1)), (2, .int 0)]) hx hb dX10_spread_7 rfl hl (by decide) rfl (fun ls hl => ?_)
        refine lv_bipush (v := (-64)) hx hb dX10_spread_8 (by decide) ?_
        refine lv_istore (lv' := [(4, .int (-64)), (3, .int 0), (0, .ref (Z.2.1 41)), (1, .int (nI s1)), (2, .int 0)]) hx hb dX10_spread_10 hl (by decide) rfl (fun ls hl => ?_)
        have hcut_12 : ∀ (nn_12 : Nat) (ci : Nat) (cv : Int32) (oc1 : Nat → Int32) (m1 : Int32) (gb : Nat → va_E) (h_m : gb 41 = .inr (10, [.ref (Z.2.1 42), .ref (Z.2.1 43), .ref (Z.2.1 44), .ref (Z.2.1 45), .int v4, .int v5, .int v6, .ref (Z.2.1 46), .ref (Z.2.1 47), .ref (Z.2.1 48), .ref (Z.2.1 49), .ref (Z.2.1 50), .ref (Z.2.1 51), .ref (Z.2.1 52), .ref (Z.2.1 53), .long v15, .long v16, .int v17, .ref (Z.2.1 54), .ref (Z.2.1 55), .ref (Z.2.1 56)])) (h_u : gb 42 = .inl (Z.2.2.2 0, 2, .inl fu)) (h_q : gb 43 = .inl (Z.2.2.2 0, 2, .inl fq)) (h_n9 : gb 44 = .inl (Z.2.2.2 0, 2, .inl fm)) (h_g : gb 45 = .inl (Z.2.2.2 0, 24, .inl fd)) (h_oc : gb 56 = .inl (Z.2.2.2 2, 129, .inl oc1)) (hfr_gb : z_fr 56 1 g gb) (hci : ci ≤ 129) (hcv : cv.toInt = (ci : Int) - 64) (hsp1 : zsp (zcl (zs9 (sg s1) 0) X) X oc1) (hmn1 : ∀ t, t < 129 → oc0 t = 1 → oc1 t = 1) (hm1 : (m1 = 0 ∧ oc1 = oc0) ∨ (m1 = 1 ∧ zcu oc0 < zcu oc1)) (hcc : ∀ u, u < ci → oc0 u = 1 → ∀ k, k < zNk (sg s1) 0 → ∀ x, x < zNx (sg s1) 0 → oc1 (zcr (sg s1) ((u : Int) - 64) (zTs (sg s1) 0 k x) + 64).toNat = 1) (hm_12 : 129 - ci < nn_12) (H : Heap) (locs : List Loc) (ls : Array Slot), z_S Z (z_A Z sz) s.heap gb H locs → lv_has ls 9 [(0, .ref (Z.2.1 41)), (1, .int (nI s1)), (2, .int 0), (3, .int m1), (4, .int cv)] → W p l e (headSpec wsX10_spread (z_rm 6 134)).room s m args below meth c H locs 0 0 (MQ below (va_Qv (fun g1 => ∃ oc1 : Nat → Int32, g1 56 = .inl (Z.2.2.2 2, 129, .inl oc1) ∧ (∀ t, t < 129 → zbo (oc1 t) (zcl (zs9 (sg s1) 0) X ((t : Int) - 64))) ∧ z_fr 56 1 g g1) (z_B Z) (z_A Z sz)) args s 0 0 (z_A Z sz)) (F0 m 12 ls []) := by
          intro nn_12
          induction nn_12 with
          | zero => intro ci cv oc1 m1 gb h_m h_u h_q h_n9 h_g h_oc hfr_gb hci hcv hsp1 hmn1 hm1 hcc hm_12 H locs ls hS hl; exact absurd hm_12 (Nat.not_lt_zero _)
          | succ nn_12 ih_12 =>
            intro ci cv oc1 m1 gb h_m h_u h_q h_n9 h_g h_oc hfr_gb hci hcv hsp1 hmn1 hm1 hcc hm_12 H locs ls hS hl
            refine lv_iload hx hb dX10_spread_12 (lv_at hl 4 rfl) ?_
            refine lv_bipush (v := 64) hx hb dX10_spread_14 (by decide) ?_
            refine lv_icmp_gt (tgt := 181) hx hb dX10_spread_16 (by decide) (fun c_2 => ?_) (fun c_2 => ?_)
            · have i_2 := z_lt c_2
              rw [tI_64] at i_2
              have hci129 : ci = 129 := by omega
              refine lv_goto (tgt := 2) hx hb dX10_spread_181 (by decide) ?_
              exact ih_2 oc1 m1 gb h_m h_u h_q h_n9 h_g h_oc hfr_gb hsp1 (by
                  rcases hm1 with ⟨h9, h8⟩ | ⟨h9, h8⟩
                  · refine Or.inr ⟨h9, ?_⟩
                    subst hci129
                    have h7 := hcc
                    rw [h8] at h7 ⊢
                    exact h7
                  · exact Or.inl h9) (by
                  have h7 : zcu oc1 ≤ 129 := zct_le _ 129
                  rw [hmo1, tI_1] at hm_2
                  rcases hm1 with ⟨h9, h8⟩ | ⟨h9, h8⟩
                  · rw [h9, h8, tI_0]; omega
                  · rw [h9, tI_1]; omega) _ _ _ hS (lv_sub hl [0, 1, 2, 3] rfl)
            · have i_2 := z_nlt c_2
              rw [tI_64] at i_2
              have hci128 : ci < 129 := by omega
              have hcx : cv + 64 = nI ci := z_nI_is (by rw [fb_addI (by rw [tI_64]; omega) (by rw [tI_64]; omega), tI_64]; omega)
              refine lv_iconst (v := 0) hx hb dX10_spread_19 (by decide) ?_
              refine lv_istore (lv' := [(5, .int 0), (0, .ref (Z.2.1 41)), (1, .int (nI s1)), (2, .int 0), (3, .int m1), (4, .int cv)]) hx hb dX10_spread_20 hl (by decide) rfl (fun ls hl => ?_)
              have hcut_22 : ∀ (nn_22 : Nat) (k : Nat) (oc2 : Nat → Int32) (m2 : Int32) (gc : Nat → va_E) (h_m : gc 41 = .inr (10, [.ref (Z.2.1 42), .ref (Z.2.1 43), .ref (Z.2.1 44), .ref (Z.2.1 45), .int v4, .int v5, .int v6, .ref (Z.2.1 46), .ref (Z.2.1 47), .ref (Z.2.1 48), .ref (Z.2.1 49), .ref (Z.2.1 50), .ref (Z.2.1 51), .ref (Z.2.1 52), .ref (Z.2.1 53), .long v15, .long v16, .int v17, .ref (Z.2.1 54), .ref (Z.2.1 55), .ref (Z.2.1 56)])) (h_u : gc 42 = .inl (Z.2.2.2 0, 2, .inl fu)) (h_q : gc 43 = .inl (Z.2.2.2 0, 2, .inl fq)) (h_n9 : gc 44 = .inl (Z.2.2.2 0, 2, .inl fm)) (h_g : gc 45 = .inl (Z.2.2.2 0, 24, .inl fd)) (h_oc : gc 56 = .inl (Z.2.2.2 2, 129, .inl oc2)) (hfr_gc : z_fr 56 1 g gc) (hk : k ≤ zNk (sg s1) 0) (hsp2 : zsp (zcl (zs9 (sg s1) 0) X) X oc2) (hmn2 : ∀ t, t < 129 → oc1 t = 1 → oc2 t = 1) (hm2 : (m2 = 0 ∧ oc2 = oc0) ∨ (m2 = 1 ∧ zcu oc0 < zcu oc2)) (hkk : ∀ k8, k8 < k → ∀ x, x < zNx (sg s1) 0 → oc2 (zcr (sg s1) cv.toInt (zTs (sg s1) 0 k8 x) + 64).toNat = 1) (hm_22 : zNk (sg s1) 0 - k < nn_22) (H : Heap) (locs : List Loc) (ls : Array Slot), z_S Z (z_A Z sz) s.heap gc H locs → lv_has ls 9 [(0, .ref (Z.2.1 41)), (1, .int (nI s1)), (2, .int 0), (3, .int m2), (4, .int cv), (5, .int (nI k))] → W p l e (headSpec wsX10_spread (z_rm 6 134)).room s m args below meth c H locs 0 0 (MQ below (va_Qv (fun g1 => ∃ oc1 : Nat → Int32, g1 56 = .inl (Z.2.2.2 2, 129, .inl oc1) ∧ (∀ t, t < 129 → zbo (oc1 t) (zcl (zs9 (sg s1) 0) X ((t : Int) - 64))) ∧ z_fr 56 1 g g1) (z_B Z) (z_A Z sz)) args s 0 0 (z_A Z sz)) (F0 m 22 ls []) := by
                intro nn_22
                induction nn_22 with
                | zero => intro k oc2 m2 gc h_m h_u h_q h_n9 h_g h_oc hfr_gc hk hsp2 hmn2 hm2 hkk hm_22 H locs ls hS hl; exact absurd hm_22 (Nat.not_lt_zero _)
                | succ nn_22 ih_22 =>
                  intro k oc2 m2 gc h_m h_u h_q h_n9 h_g h_oc hfr_gc hk hsp2 hmn2 hm2 hkk hm_22 H locs ls hS hl
                  refine lv_iload hx hb dX10_spread_22 (lv_at hl 5 rfl) ?_
                  refine lv_iload_n hx hb dX10_spread_24 rfl (lv_at hl 2 rfl) ?_
                  refine lv_if_ne (tgt := 32) hx hb dX10_spread_25 (by decide) (fun c_3 => ?_) (fun c_3 => ?_)
                  · have i_3 := z_ne c_3
                    rw [tI_0] at i_3
                    exfalso; omega
                  · have i_3 := z_eq c_3
                    rw [tI_0] at i_3
                    
                    refine lv_iconst (v := 1) hx hb dX10_spread_28 (by decide) ?_
                    refine lv_goto (tgt := 38) hx hb dX10_spread_29 (by decide) ?_
                    refine lv_icmp_ge (tgt := 175) hx hb dX10_spread_38 (by decide) (fun c_4 => ?_) (fun c_4 => ?_)
                    · have i_4 := z_le c_4
                      rw [nI_toInt (by omega)] at i_4
                      rw [tI_1] at i_4
                      have hkn : k = zNk (sg s1) 0 := by omega
                      have hci2 : oc0 ci = 1 → ∀ k, k < zNk (sg s1) 0 → ∀ x, x < zNx (sg s1) 0 → oc2 (zcr (sg s1) ((ci : Int) - 64) (zTs (sg s1) 0 k x) + 64).toNat = 1 := by
                        rw [← hcv, ← hkn]; exact fun _ => hkk
                      obtain ⟨cv2, ecv2⟩ : ∃ zz9 : Int32, zz9 = cv + 1 := ⟨_, rfl⟩
                      have hcv2 : cv2.toInt = ((ci + 1 : Nat) : Int) - 64 := by rw [ecv2, fb_addI (by rw [tI_1]; omega) (by rw [tI_1]; omega), tI_1, hcv]; omega
                      refine lv_iinc (v := cv2) (lv' := [(4, .int cv2), (0, .ref (Z.2.1 41)), (1, .int (nI s1)), (2, .int 0), (3, .int m2), (5, .int (nI k))]) hx hb dX10_spread_175 hl (k := 4) rfl (by rw [ecv2]; rfl) (by decide) rfl (fun ls hl => ?_)
                      refine lv_goto (tgt := 12) hx hb dX10_spread_178 (by decide) ?_
                      exact ih_12 (ci + 1) cv2 oc2 m2 gc h_m h_u h_q h_n9 h_g h_oc hfr_gc (by omega) hcv2 hsp2 (fun t ht h9 => hmn2 t ht (hmn1 t ht h9)) hm2 (fun u hu h9 k hk x hx => by
                          by_cases h8 : u = ci
                          · subst h8; exact hci2 h9 k hk x hx
                          · have h7 := zcl_b60 hok hcm hXb (hsp0.2.1 u (by omega) h9)
                            have h6 := zcr_bd60 hok hcm h7 (zTs_bd hok hk hx)
                            exact hmn2 _ (by omega) (hcc u (by omega) h9 k hk x hx)) (by omega) _ _ _ hS (lv_sub hl [1, 2, 3, 4, 0] rfl)
                    · have i_4 := z_nle c_4
                      rw [nI_toInt (by omega)] at i_4
                      rw [tI_1] at i_4
                      have hkn : k < zNk (sg s1) 0 := by omega
                      refine lv_aload_n hx hb dX10_spread_41 rfl (lv_at hl 0 rfl) ?_
                      refine z_get (own := RX10) (C := RX10) (T := TX10) (N := 21) hx hb hts in_X10_spread_10 hown hK hS h_m hM41 rfl 20 (by decide) (List.mem_of_getElem? (i := 2) rfl) rfl rfl dX10_spread_42 ?_
                      refine lv_iload hx hb dX10_spread_45 (lv_at hl 4 rfl) ?_
                      refine lv_bipush (v := 64) hx hb dX10_spread_47 (by decide) ?_
                      refine lv_iadd hx hb dX10_spread_49 ?_
                      rw [show cv + 64 = nI ci from hcx]
                      refine z_zald hx hb hK hS h_oc hM56 (vp_in_nI (by omega) (by omega)) dX10_spread_50 ?_
                      rw [show oc2 (nI ci).toNatClampNeg = oc2 ci from by rw [nI_clamp (by omega)]]
                      refine lv_if_eq (tgt := 175) hx hb dX10_spread_51 (by decide) (fun c_5 => ?_) (fun c_5 => ?_)
                      · have i_5 := z_eq c_5
                        rw [tI_0] at i_5
                        have hci2 : oc0 ci = 1 → ∀ k, k < zNk (sg s1) 0 → ∀ x, x < zNx (sg s1) 0 → oc2 (zcr (sg s1) ((ci : Int) - 64) (zTs (sg s1) 0 k x) + 64).toNat = 1 := fun h9 => by
                          have h8 := hmn2 ci hci128 (hmn1 ci hci128 h9)
                          rw [c_5] at h8; exact absurd h8 (by decide)
                        obtain ⟨cv2, ecv2⟩ : ∃ zz9 : Int32, zz9 = cv + 1 := ⟨_, rfl⟩
                        have hcv2 : cv2.toInt = ((ci + 1 : Nat) : Int) - 64 := by rw [ecv2, fb_addI (by rw [tI_1]; omega) (by rw [tI_1]; omega), tI_1, hcv]; omega
                        refine lv_iinc (v := cv2) (lv' := [(4, .int cv2), (0, .ref (Z.2.1 41)), (1, .int (nI s1)), (2, .int 0), (3, .int m2), (5, .int (nI k))]) hx hb dX10_spread_175 hl (k := 4) rfl (by rw [ecv2]; rfl) (by decide) rfl (fun ls hl => ?_)
                        refine lv_goto (tgt := 12) hx hb dX10_spread_178 (by decide) ?_
                        exact ih_12 (ci + 1) cv2 oc2 m2 gc h_m h_u h_q h_n9 h_g h_oc hfr_gc (by omega) hcv2 hsp2 (fun t ht h9 => hmn2 t ht (hmn1 t ht h9)) hm2 (fun u hu h9 k hk x hx => by
                            by_cases h8 : u = ci
                            · subst h8; exact hci2 h9 k hk x hx
                            · have h7 := zcl_b60 hok hcm hXb (hsp0.2.1 u (by omega) h9)
                              have h6 := zcr_bd60 hok hcm h7 (zTs_bd hok hk hx)
                              exact hmn2 _ (by omega) (hcc u (by omega) h9 k hk x hx)) (by omega) _ _ _ hS (lv_sub hl [1, 2, 3, 4, 0] rfl)
                      · have i_5 := z_ne c_5
                        rw [tI_0] at i_5
                        have hc1 : oc2 ci = 1 := (hsp2.1 ci hci128).resolve_left c_5
                        have hCc := hsp2.2.1 ci hci128 hc1
                        have hcb := zcl_b60 hok hcm hXb hCc
                        rw [← hcv] at hCc hcb
                        refine lv_iconst (v := 0) hx hb dX10_spread_54 (by decide) ?_
                        refine lv_istore (lv' := [(6, .int 0), (0, .ref (Z.2.1 41)), (1, .int (nI s1)), (2, .int 0), (3, .int m2), (4, .int cv), (5, .int (nI k))]) hx hb dX10_spread_55 hl (by decide) rfl (fun ls hl => ?_)
                        have hcut_57 : ∀ (nn_57 : Nat) (x9 : Nat) (oc3 : Nat → Int32) (m3 : Int32) (gd : Nat → va_E) (h_m : gd 41 = .inr (10, [.ref (Z.2.1 42), .ref (Z.2.1 43), .ref (Z.2.1 44), .ref (Z.2.1 45), .int v4, .int v5, .int v6, .ref (Z.2.1 46), .ref (Z.2.1 47), .ref (Z.2.1 48), .ref (Z.2.1 49), .ref (Z.2.1 50), .ref (Z.2.1 51), .ref (Z.2.1 52), .ref (Z.2.1 53), .long v15, .long v16, .int v17, .ref (Z.2.1 54), .ref (Z.2.1 55), .ref (Z.2.1 56)])) (h_u : gd 42 = .inl (Z.2.2.2 0, 2, .inl fu)) (h_q : gd 43 = .inl (Z.2.2.2 0, 2, .inl fq)) (h_n9 : gd 44 = .inl (Z.2.2.2 0, 2, .inl fm)) (h_g : gd 45 = .inl (Z.2.2.2 0, 24, .inl fd)) (h_oc : gd 56 = .inl (Z.2.2.2 2, 129, .inl oc3)) (hfr_gd : z_fr 56 1 g gd) (hx9 : x9 ≤ zNx (sg s1) 0) (hsp3 : zsp (zcl (zs9 (sg s1) 0) X) X oc3) (hmn3 : ∀ t, t < 129 → oc2 t = 1 → oc3 t = 1) (hm3 : (m3 = 0 ∧ oc3 = oc0) ∨ (m3 = 1 ∧ zcu oc0 < zcu oc3)) (hkk3 : ∀ k8, k8 < k → ∀ x, x < zNx (sg s1) 0 → oc3 (zcr (sg s1) cv.toInt (zTs (sg s1) 0 k8 x) + 64).toNat = 1) (hxx : ∀ x, x < x9 → oc3 (zcr (sg s1) cv.toInt (zTs (sg s1) 0 k x) + 64).toNat = 1) (hm_57 : zNx (sg s1) 0 - x9 < nn_57) (H : Heap) (locs : List Loc) (ls : Array Slot), z_S Z (z_A Z sz) s.heap gd H locs → lv_has ls 9 [(0, .ref (Z.2.1 41)), (1, .int (nI s1)), (2, .int 0), (3, .int m3), (4, .int cv), (5, .int (nI k)), (6, .int (nI x9))] → W p l e (headSpec wsX10_spread (z_rm 6 134)).room s m args below meth c H locs 0 0 (MQ below (va_Qv (fun g1 => ∃ oc1 : Nat → Int32, g1 56 = .inl (Z.2.2.2 2, 129, .inl oc1) ∧ (∀ t, t < 129 → zbo (oc1 t) (zcl (zs9 (sg s1) 0) X ((t : Int) - 64))) ∧ z_fr 56 1 g g1) (z_B Z) (z_A Z sz)) args s 0 0 (z_A Z sz)) (F0 m 57 ls []) := by
                          intro nn_57
                          induction nn_57 with
                          | zero => intro x9 oc3 m3 gd h_m h_u h_q h_n9 h_g h_oc hfr_gd hx9 hsp3 hmn3 hm3 hkk3 hxx hm_57 H locs ls hS hl; exact absurd hm_57 (Nat.not_lt_zero _)
                          | succ nn_57 ih_57 =>
                            intro x9 oc3 m3 gd h_m h_u h_q h_n9 h_g h_oc hfr_gd hx9 hsp3 hmn3 hm3 hkk3 hxx hm_57 H locs ls hS hl
                            refine lv_iload hx hb dX10_spread_57 (lv_at hl 6 rfl) ?_
                            refine lv_iload_n hx hb dX10_spread_59 rfl (lv_at hl 2 rfl) ?_
                            refine lv_iconst (v := 2) hx hb dX10_spread_60 (by decide) ?_
                            refine lv_icmp_ge (tgt := 68) hx hb dX10_spread_61 (by decide) (fun c_6 => ?_) (fun c_6 => ?_)
                            · have i_6 := z_le c_6
                              rw [tI_0] at i_6
                              rw [tI_2] at i_6
                              exfalso; omega
                            · have i_6 := z_nle c_6
                              rw [tI_0] at i_6
                              rw [tI_2] at i_6
                              
                              refine lv_iconst (v := 1) hx hb dX10_spread_64 (by decide) ?_
                              refine lv_goto (tgt := 74) hx hb dX10_spread_65 (by decide) ?_
                              refine lv_icmp_ge (tgt := 169) hx hb dX10_spread_74 (by decide) (fun c_7 => ?_) (fun c_7 => ?_)
                              · have i_7 := z_le c_7
                                rw [nI_toInt (by omega)] at i_7
                                rw [tI_1] at i_7
                                have hxn : x9 = zNx (sg s1) 0 := by omega
                                refine lv_iinc (v := (nI (k + 1))) (lv' := [(5, .int (nI (k + 1))), (0, .ref (Z.2.1 41)), (1, .int (nI s1)), (2, .int 0), (3, .int m3), (4, .int cv), (6, .int (nI x9))]) hx hb dX10_spread_169 hl (k := 5) rfl (nI_1 _) (by decide) rfl (fun ls hl => ?_)
                                refine lv_goto (tgt := 22) hx hb dX10_spread_172 (by decide) ?_
                                exact ih_22 (k + 1) oc3 m3 gd h_m h_u h_q h_n9 h_g h_oc hfr_gd (by omega) hsp3 (fun t ht h9 => hmn3 t ht (hmn2 t ht h9)) hm3 (fun k8 h8 x hx => by
                                    by_cases h9 : k8 = k
                                    · rw [h9]; exact hxx x (by omega)
                                    · exact hkk3 k8 (by omega) x hx) (by omega) _ _ _ hS (lv_sub hl [1, 2, 3, 4, 5, 0] rfl)
                              · have i_7 := z_nle c_7
                                rw [nI_toInt (by omega)] at i_7
                                rw [tI_1] at i_7
                                have hxn : x9 < zNx (sg s1) 0 := by omega
                                have hTb := zTs_bd hok hkn hxn
                                have hzb := zcr_bd60 hok hcm hcb hTb
                                refine lv_iload_n hx hb dX10_spread_77 rfl (lv_at hl 2 rfl) ?_
                                refine lv_if_le (tgt := 96) hx hb dX10_spread_78 (by decide) (fun c_8 => ?_) (fun c_8 => ?_)
                                · have i_8 := z_le c_8
                                  rw [tI_0] at i_8
                                  
                                  refine lv_iconst (v := 0) hx hb dX10_spread_96 (by decide) ?_
                                  refine lv_iload_n hx hb dX10_spread_97 rfl (lv_at hl 2 rfl) ?_
                                  refine lv_iconst (v := 1) hx hb dX10_spread_98 (by decide) ?_
                                  refine lv_icmp_le (tgt := 117) hx hb dX10_spread_99 (by decide) (fun c_9 => ?_) (fun c_9 => ?_)
                                  · have i_9 := z_le c_9
                                    rw [tI_0] at i_9
                                    rw [tI_1] at i_9
                                    
                                    refine lv_iconst (v := 0) hx hb dX10_spread_117 (by decide) ?_
                                    refine lv_iadd hx hb dX10_spread_118 ?_
                                    refine lv_topi (fun tt ett => ?_)
                                    have htt : tt.toInt = (zTs (sg s1) 0 k x9) := by rw [ett]; rfl
                                    refine lv_istore (lv' := [(7, .int tt), (0, .ref (Z.2.1 41)), (1, .int (nI s1)), (2, .int 0), (3, .int m3), (4, .int cv), (5, .int (nI k)), (6, .int (nI x9))]) hx hb dX10_spread_119 hl (by decide) rfl (fun ls hl => ?_)
                                    refine lv_aload_n hx hb dX10_spread_121 rfl (lv_at hl 1 rfl) ?_
                                    refine lv_iload_n hx hb dX10_spread_122 rfl (lv_at hl 2 rfl) ?_
                                    refine lv_iload hx hb dX10_spread_123 (lv_at hl 5 rfl) ?_
                                    refine lv_iload hx hb dX10_spread_125 (lv_at hl 0 rfl) ?_
                                    refine z_calli (z_runV (As := [.int (nI s1), .int cv, .int tt]) (rest := []) ⟨hx, hb, hml, hown, hts⟩ hK hS ((m_carried Z gd sg ⟨_, _, _, _, _, _, fu, fq, fm, fd, h_m, h_u, h_q, h_n9, h_g, hMN, hSg⟩ s1 hs1 cv tt hcm (by omega) (by omega)) l _) gX10_spread_X10_carried rfl 3 (by decide +kernel) ⟨Nat.le_of_ble_eq_true rfl, Nat.le_of_ble_eq_true rfl⟩ h_m hM41 rfl rfl hl.1 rfl (Nat.le_of_ble_eq_true rfl) dX10_spread_127 ⟨Nat.le_of_ble_eq_true rfl, Nat.le_of_ble_eq_true rfl⟩) hS (fun cr g_10 H locs hp_11 hS => ?_)
                                    obtain ⟨rfl, hp_11⟩ := hp_11
                                    have hcr := hp_11
                                    rw [htt] at hcr
                                    have hCn9 : (zcl (zs9 (sg s1) 0) X) cr.toInt := zcl_step hCc ⟨k, x9, hkn, hxn, hcr⟩
                                    refine lv_bipush (v := 64) hx hb dX10_spread_130 (by decide) ?_
                                    refine lv_iadd hx hb dX10_spread_132 ?_
                                    refine lv_topi (fun ii eii => ?_)
                                    have hii : ii.toInt = cr.toInt + 64 := by rw [eii, fb_addI (by rw [tI_64]; omega) (by rw [tI_64]; omega), tI_64]
                                    obtain ⟨n9, en9, hn9, -⟩ := z_nI_of (x := ii) (by omega)
                                    subst en9
                                    have hn9b : n9 < 129 := by omega
                                    have hne : (zcr (sg s1) cv.toInt (zTs (sg s1) 0 k x9) + 64).toNat = n9 := by omega
                                    have hCn : (zcl (zs9 (sg s1) 0) X) ((n9 : Int) - 64) := by rw [show (n9 : Int) - 64 = cr.toInt by omega]; exact hCn9
                                    refine lv_istore (lv' := [(8, .int (nI n9)), (7, .int tt), (0, .ref (Z.2.1 41)), (1, .int (nI s1)), (2, .int 0), (3, .int m3), (4, .int cv), (5, .int (nI k)), (6, .int (nI x9))]) hx hb dX10_spread_133 hl (by decide) rfl (fun ls hl => ?_)
                                    refine lv_iload_n hx hb dX10_spread_135 rfl (lv_at hl 5 rfl) ?_
                                    refine lv_if_ne (tgt := 149) hx hb dX10_spread_136 (by decide) (fun c_12 => ?_) (fun c_12 => ?_)
                                    · have i_12 := z_ne c_12
                                      rw [tI_0] at i_12
                                      have hm39 : ¬ m3 = 0 := c_12
                                      refine lv_iconst (v := 1) hx hb dX10_spread_149 (by decide) ?_
                                      refine lv_goto (tgt := 154) hx hb dX10_spread_150 (by decide) ?_
                                      refine lv_istore_n (lv' := [(3, .int 1), (8, .int (nI n9)), (7, .int tt), (0, .ref (Z.2.1 41)), (1, .int (nI s1)), (2, .int 0), (4, .int cv), (5, .int (nI k)), (6, .int (nI x9))]) hx hb dX10_spread_154 rfl hl (by decide) rfl (fun ls hl => ?_)
                                      refine lv_aload_n hx hb dX10_spread_155 rfl (lv_at hl 3 rfl) ?_
                                      refine z_get (own := RX10) (C := RX10) (T := TX10) (N := 21) hx hb hts in_X10_spread_10 hown hK hS h_m hM41 rfl 20 (by decide) (List.mem_of_getElem? (i := 2) rfl) rfl rfl dX10_spread_156 ?_
                                      refine lv_iload hx hb dX10_spread_159 (lv_at hl 1 rfl) ?_
                                      refine lv_iconst (v := 1) hx hb dX10_spread_161 (by decide) ?_
                                      refine z_zast (y := 1) hx hb hK hS h_oc hM56 rfl (vp_in_nI (by omega) (by omega)) dX10_spread_162 (fun g_13 H locs hg_13 hS => ?_)
                                      have h_oc : g_13 56 = .inl (Z.2.2.2 2, 129, .inl (upd oc3 (nI n9).toNatClampNeg 1)) := z_up_s hg_13
                                      have h_m := z_up_n hg_13 h_m (by omega)
                                      have h_u := z_up_n hg_13 h_u (by omega)
                                      have h_q := z_up_n hg_13 h_q (by omega)
                                      have h_n9 := z_up_n hg_13 h_n9 (by omega)
                                      have h_g := z_up_n hg_13 h_g (by omega)
                                      rw [nI_clamp (by omega)] at h_oc
                                      refine lv_iinc (v := (nI (x9 + 1))) (lv' := [(6, .int (nI (x9 + 1))), (3, .int 1), (8, .int (nI n9)), (7, .int tt), (0, .ref (Z.2.1 41)), (1, .int (nI s1)), (2, .int 0), (4, .int cv), (5, .int (nI k))]) hx hb dX10_spread_163 hl (k := 8) rfl (nI_1 _) (by decide) rfl (fun ls hl => ?_)
                                      refine lv_goto (tgt := 57) hx hb dX10_spread_166 (by decide) ?_
                                      exact ih_57 (x9 + 1) (upd oc3 n9 1) 1 g_13 h_m h_u h_q h_n9 h_g h_oc (hfr_gd.up hg_13 (by omega)) (by omega) (zsp_put hsp3 hCn) (fun t ht h9 => z_upd_up (hmn3 t ht h9)) (Or.inr ⟨rfl, Nat.lt_of_lt_of_le (hm3.resolve_left (fun q => hm39 q.1)).2 (zcu_le (hsp3.1 n9 (by omega)) (by omega))⟩) (fun k8 h8 x hx => z_upd_up (hkk3 k8 h8 x hx)) (fun x hx => by
                                          by_cases h9 : x = x9
                                          · rw [h9, hne]; exact pk_us
                                          · exact z_upd_up (hxx x (by omega))) (by omega) _ _ _ hS (lv_sub hl [4, 5, 6, 1, 7, 8, 0] rfl)
                                    · have i_12 := z_eq c_12
                                      rw [tI_0] at i_12
                                      have hm39 : m3 = 0 := c_12
                                      refine lv_aload_n hx hb dX10_spread_139 rfl (lv_at hl 2 rfl) ?_
                                      refine z_get (own := RX10) (C := RX10) (T := TX10) (N := 21) hx hb hts in_X10_spread_10 hown hK hS h_m hM41 rfl 20 (by decide) (List.mem_of_getElem? (i := 2) rfl) rfl rfl dX10_spread_140 ?_
                                      refine lv_iload hx hb dX10_spread_143 (lv_at hl 0 rfl) ?_
                                      refine z_zald hx hb hK hS h_oc hM56 (vp_in_nI (by omega) (by omega)) dX10_spread_145 ?_
                                      rw [show oc3 (nI n9).toNatClampNeg = oc3 n9 from by rw [nI_clamp (by omega)]]
                                      refine lv_if_ne (tgt := 153) hx hb dX10_spread_146 (by decide) (fun c_14 => ?_) (fun c_14 => ?_)
                                      · have i_14 := z_ne c_14
                                        rw [tI_0] at i_14
                                        have hon := (hsp3.1 n9 hn9b).resolve_left c_14
                                        refine lv_iconst (v := 0) hx hb dX10_spread_153 (by decide) ?_
                                        refine lv_istore_n (lv' := [(3, .int 0), (8, .int (nI n9)), (7, .int tt), (0, .ref (Z.2.1 41)), (1, .int (nI s1)), (2, .int 0), (4, .int cv), (5, .int (nI k)), (6, .int (nI x9))]) hx hb dX10_spread_154 rfl hl (by decide) rfl (fun ls hl => ?_)
                                        refine lv_aload_n hx hb dX10_spread_155 rfl (lv_at hl 3 rfl) ?_
                                        refine z_get (own := RX10) (C := RX10) (T := TX10) (N := 21) hx hb hts in_X10_spread_10 hown hK hS h_m hM41 rfl 20 (by decide) (List.mem_of_getElem? (i := 2) rfl) rfl rfl dX10_spread_156 ?_
                                        refine lv_iload hx hb dX10_spread_159 (lv_at hl 1 rfl) ?_
                                        refine lv_iconst (v := 1) hx hb dX10_spread_161 (by decide) ?_
                                        refine z_zast (y := 1) hx hb hK hS h_oc hM56 rfl (vp_in_nI (by omega) (by omega)) dX10_spread_162 (fun g_15 H locs hg_15 hS => ?_)
                                        have h_oc : g_15 56 = .inl (Z.2.2.2 2, 129, .inl (upd oc3 (nI n9).toNatClampNeg 1)) := z_up_s hg_15
                                        have h_m := z_up_n hg_15 h_m (by omega)
                                        have h_u := z_up_n hg_15 h_u (by omega)
                                        have h_q := z_up_n hg_15 h_q (by omega)
                                        have h_n9 := z_up_n hg_15 h_n9 (by omega)
                                        have h_g := z_up_n hg_15 h_g (by omega)
                                        rw [nI_clamp (by omega)] at h_oc
                                        refine lv_iinc (v := (nI (x9 + 1))) (lv' := [(6, .int (nI (x9 + 1))), (3, .int 0), (8, .int (nI n9)), (7, .int tt), (0, .ref (Z.2.1 41)), (1, .int (nI s1)), (2, .int 0), (4, .int cv), (5, .int (nI k))]) hx hb dX10_spread_163 hl (k := 8) rfl (nI_1 _) (by decide) rfl (fun ls hl => ?_)
                                        refine lv_goto (tgt := 57) hx hb dX10_spread_166 (by decide) ?_
                                        exact ih_57 (x9 + 1) (upd oc3 n9 1) 0 g_15 h_m h_u h_q h_n9 h_g h_oc (hfr_gd.up hg_15 (by omega)) (by omega) (zsp_put hsp3 hCn) (fun t ht h9 => z_upd_up (hmn3 t ht h9)) (Or.inl ⟨rfl, by rw [z_upd_id hon]; exact (hm3.resolve_right (fun q => by rw [hm39] at q; exact absurd q.1 (by decide))).2⟩) (fun k8 h8 x hx => z_upd_up (hkk3 k8 h8 x hx)) (fun x hx => by
                                            by_cases h9 : x = x9
                                            · rw [h9, hne]; exact pk_us
                                            · exact z_upd_up (hxx x (by omega))) (by omega) _ _ _ hS (lv_sub hl [4, 5, 6, 1, 7, 8, 0] rfl)
                                      · have i_14 := z_eq c_14
                                        rw [tI_0] at i_14
                                        have hon : oc3 n9 = 0 := c_14
                                        refine lv_iconst (v := 1) hx hb dX10_spread_149 (by decide) ?_
                                        refine lv_goto (tgt := 154) hx hb dX10_spread_150 (by decide) ?_
                                        refine lv_istore_n (lv' := [(3, .int 1), (8, .int (nI n9)), (7, .int tt), (0, .ref (Z.2.1 41)), (1, .int (nI s1)), (2, .int 0), (4, .int cv), (5, .int (nI k)), (6, .int (nI x9))]) hx hb dX10_spread_154 rfl hl (by decide) rfl (fun ls hl => ?_)
                                        refine lv_aload_n hx hb dX10_spread_155 rfl (lv_at hl 3 rfl) ?_
                                        refine z_get (own := RX10) (C := RX10) (T := TX10) (N := 21) hx hb hts in_X10_spread_10 hown hK hS h_m hM41 rfl 20 (by decide) (List.mem_of_getElem? (i := 2) rfl) rfl rfl dX10_spread_156 ?_
                                        refine lv_iload hx hb dX10_spread_159 (lv_at hl 1 rfl) ?_
                                        refine lv_iconst (v := 1) hx hb dX10_spread_161 (by decide) ?_
                                        refine z_zast (y := 1) hx hb hK hS h_oc hM56 rfl (vp_in_nI (by omega) (by omega)) dX10_spread_162 (fun g_16 H locs hg_16 hS => ?_)
                                        have h_oc : g_16 56 = .inl (Z.2.2.2 2, 129, .inl (upd oc3 (nI n9).toNatClampNeg 1)) := z_up_s hg_16
                                        have h_m := z_up_n hg_16 h_m (by omega)
                                        have h_u := z_up_n hg_16 h_u (by omega)
                                        have h_q := z_up_n hg_16 h_q (by omega)
                                        have h_n9 := z_up_n hg_16 h_n9 (by omega)
                                        have h_g := z_up_n hg_16 h_g (by omega)
                                        rw [nI_clamp (by omega)] at h_oc
                                        refine lv_iinc (v := (nI (x9 + 1))) (lv' := [(6, .int (nI (x9 + 1))), (3, .int 1), (8, .int (nI n9)), (7, .int tt), (0, .ref (Z.2.1 41)), (1, .int (nI s1)), (2, .int 0), (4, .int cv), (5, .int (nI k))]) hx hb dX10_spread_163 hl (k := 8) rfl (nI_1 _) (by decide) rfl (fun ls hl => ?_)
                                        refine lv_goto (tgt := 57) hx hb dX10_spread_166 (by decide) ?_
                                        exact ih_57 (x9 + 1) (upd oc3 n9 1) 1 g_16 h_m h_u h_q h_n9 h_g h_oc (hfr_gd.up hg_16 (by omega)) (by omega) (zsp_put hsp3 hCn) (fun t ht h9 => z_upd_up (hmn3 t ht h9)) (Or.inr ⟨rfl, by rw [zcu_put hon (by omega), (hm3.resolve_right (fun q => by rw [hm39] at q; exact absurd q.1 (by decide))).2]; omega⟩) (fun k8 h8 x hx => z_upd_up (hkk3 k8 h8 x hx)) (fun x hx => by
                                            by_cases h9 : x = x9
                                            · rw [h9, hne]; exact pk_us
                                            · exact z_upd_up (hxx x (by omega))) (by omega) _ _ _ hS (lv_sub hl [4, 5, 6, 1, 7, 8, 0] rfl)
                                  · have i_9 := z_nle c_9
                                    rw [tI_0] at i_9
                                    rw [tI_1] at i_9
                                    exfalso; omega
                                · have i_8 := z_nle c_8
                                  rw [tI_0] at i_8
                                  exfalso; omega
                        exact hcut_57 (zNx (sg s1) 0 - 0 + 1) 0 oc2 m2 gc h_m h_u h_q h_n9 h_g h_oc hfr_gc (Nat.zero_le _) hsp2 (fun t _ h9 => h9) hm2 hkk (fun x hx => absurd hx (Nat.not_lt_zero x)) (Nat.lt_succ_self _) _ _ _ hS (lv_sub hl [1, 2, 3, 4, 5, 6, 0] rfl)
              exact hcut_22 (zNk (sg s1) 0 - 0 + 1) 0 oc1 m1 gb h_m h_u h_q h_n9 h_g h_oc hfr_gb (Nat.zero_le _) hsp1 (fun t _ h9 => h9) hm1 (fun k8 h8 => absurd h8 (Nat.not_lt_zero k8)) (Nat.lt_succ_self _) _ _ _ hS (lv_sub hl [1, 2, 3, 4, 5, 0] rfl)
        exact hcut_12 (129 - 0 + 1) 0 (-64) oc0 0 ga h_m h_u h_q h_n9 h_g h_oc hfr_ga (by omega) (by rw [tI_m64]; omega) hsp0 (fun t _ h9 => h9) (Or.inl ⟨rfl, rfl⟩) (fun u hu => absurd hu (Nat.not_lt_zero u)) (Nat.lt_succ_self _) _ _ _ hS (lv_sub hl [2, 3, 4, 1, 0] rfl)
  exact hcut_2 (129 - zcu oc + (1 : Int32).toInt.toNat + 1) oc (1 : Int32) g h_m h_u h_q h_n9 h_g h_oc z_fr.rf (zsp_of hX (fun y hy => zcl_base hy)) (Or.inl rfl) (Nat.lt_succ_self _) _ _ _ hS (lv_sub hl [1, 2, 3, 0] rfl)

theorem in_X10_findCarries_10 : ∀ w ∈ wsX100, w ∈ wsX10_findCarries := by decide +kernel
set_option maxHeartbeats 4000000 in
set_option maxRecDepth 100000 in
theorem m_findCarries (Z : zT) (g : Nat → va_E) (sg : Nat → zb) (hM : z_mr Z g sg) (s1 : Nat) (hs1 : s1 < 2) (oc : Nat → Int32) (h_oc : g 56 = .inl (Z.2.2.2 2, 129, .inl oc)) (hcm : zcm (sg s1)) : z_Mv Z yX10_findCarries wsX10_findCarries 7 162 [.ref (Z.2.1 41), .int (nI s1)] g (fun g1 => ∃ oc1 : Nat → Int32, g1 56 = .inl (Z.2.2.2 2, 129, .inl oc1) ∧ (∀ t, t < 129 → zbo (oc1 t) (zcs (sg s1) ((t : Int) - 64))) ∧ z_fr 56 1 g g1) := by
  intro l sz
  obtain ⟨v4, v5, v6, v15, v16, v17, fu, fq, fm, fd, h_m, h_u, h_q, h_n9, h_g, hMN, hSg⟩ := id hM
  have hM41 : 41 < Z.1 := by omega
  have hM42 : 42 < Z.1 := by omega
  have hM43 : 43 < Z.1 := by omega
  have hM44 : 44 < Z.1 := by omega
  have hM45 : 45 < Z.1 := by omega
  obtain ⟨hok, hp, hq, hm, hd⟩ := hSg s1 hs1
  have hPb := zP_bd hok
  have hn12 := hok.2.2.2.1
  have hq1 := hok.2.1
  have hM56 : 56 < Z.1 := by omega
  refine z_enter (maxL := 3) (ret := none) (lv := [(0, .ref (Z.2.1 41)), (1, .int (nI s1))]) (plainFor_of_name (by decide +kernel)) rfl (fun ls h => by subst h; exact lv_entry [.ref (Z.2.1 41), .int (nI s1)] (n := 3) (Nat.le_of_ble_eq_true rfl)) ?_
  intro p e s m args below meth c hx hb hml hr hlocks hown hts hK hS hsz ls hl
  refine lv_iconst (v := 0) hx hb dX10_findCarries_0 (by decide) ?_
  refine lv_istore_n (lv' := [(2, .int 0), (0, .ref (Z.2.1 41)), (1, .int (nI s1))]) hx hb dX10_findCarries_1 rfl hl (by decide) rfl (fun ls hl => ?_)
  have hcut_2 : ∀ (nn_2 : Nat) (t : Nat) (oc1 : Nat → Int32) (ga : Nat → va_E) (h_m : ga 41 = .inr (10, [.ref (Z.2.1 42), .ref (Z.2.1 43), .ref (Z.2.1 44), .ref (Z.2.1 45), .int v4, .int v5, .int v6, .ref (Z.2.1 46), .ref (Z.2.1 47), .ref (Z.2.1 48), .ref (Z.2.1 49), .ref (Z.2.1 50), .ref (Z.2.1 51), .ref (Z.2.1 52), .ref (Z.2.1 53), .long v15, .long v16, .int v17, .ref (Z.2.1 54), .ref (Z.2.1 55), .ref (Z.2.1 56)])) (h_u : ga 42 = .inl (Z.2.2.2 0, 2, .inl fu)) (h_q : ga 43 = .inl (Z.2.2.2 0, 2, .inl fq)) (h_n9 : ga 44 = .inl (Z.2.2.2 0, 2, .inl fm)) (h_g : ga 45 = .inl (Z.2.2.2 0, 24, .inl fd)) (h_oc : ga 56 = .inl (Z.2.2.2 2, 129, .inl oc1)) (hfr_ga : z_fr 56 1 g ga) (ht : t ≤ 129) (ho : ∀ u, u < t → zbo (oc1 u) ((u : Int) - 64 = 0)) (hm_2 : 129 - t < nn_2) (H : Heap) (locs : List Loc) (ls : Array Slot), z_S Z (z_A Z sz) s.heap ga H locs → lv_has ls 3 [(0, .ref (Z.2.1 41)), (1, .int (nI s1)), (2, .int (nI t))] → W p l e (headSpec wsX10_findCarries (z_rm 7 162)).room s m args below meth c H locs 0 0 (MQ below (va_Qv (fun g1 => ∃ oc1 : Nat → Int32, g1 56 = .inl (Z.2.2.2 2, 129, .inl oc1) ∧ (∀ t, t < 129 → zbo (oc1 t) (zcs (sg s1) ((t : Int) - 64))) ∧ z_fr 56 1 g g1) (z_B Z) (z_A Z sz)) args s 0 0 (z_A Z sz)) (F0 m 2 ls []) := by
    intro nn_2
    induction nn_2 with
    | zero => intro t oc1 ga h_m h_u h_q h_n9 h_g h_oc hfr_ga ht ho hm_2 H locs ls hS hl; exact absurd hm_2 (Nat.not_lt_zero _)
    | succ nn_2 ih_2 =>
      intro t oc1 ga h_m h_u h_q h_n9 h_g h_oc hfr_ga ht ho hm_2 H locs ls hS hl
      refine lv_iload_n hx hb dX10_findCarries_2 rfl (lv_at hl 2 rfl) ?_
      refine lv_sipush (v := 129) hx hb dX10_findCarries_3 (by decide) ?_
      refine lv_icmp_ge (tgt := 32) hx hb dX10_findCarries_6 (by decide) (fun c_1 => ?_) (fun c_1 => ?_)
      · have i_1 := z_le c_1
        rw [nI_toInt (by omega)] at i_1
        rw [tI_129] at i_1
        have ht9 : t = 129 := by omega
        refine lv_aload_n hx hb dX10_findCarries_32 rfl (lv_at hl 0 rfl) ?_
        refine lv_iload_n hx hb dX10_findCarries_33 rfl (lv_at hl 1 rfl) ?_
        refine lv_iconst (v := 2) hx hb dX10_findCarries_34 (by decide) ?_
        refine z_callv (z_runV (As := [.int (nI s1), .int 2]) (rest := []) ⟨hx, hb, hml, hown, hts⟩ hK hS ((m_spread2 Z ga sg ⟨_, _, _, _, _, _, fu, fq, fm, fd, h_m, h_u, h_q, h_n9, h_g, hMN, hSg⟩ s1 hs1 oc1 h_oc hcm (fun y => y = 0) (fun u hu => ho u (by omega)) (fun y hy => by
            have h9 : y = 0 := hy
            omega)) l _) gX10_findCarries_X10_spread rfl 2 (by decide +kernel) ⟨Nat.le_of_ble_eq_true rfl, Nat.le_of_ble_eq_true rfl⟩ h_m hM41 rfl rfl hl.1 rfl (Nat.le_of_ble_eq_true rfl) dX10_findCarries_35 ⟨Nat.le_of_ble_eq_true rfl, Nat.le_of_ble_eq_true rfl⟩) hS (fun g_3 H locs hp_4 hS => ?_)
        obtain ⟨oc2, h_oc, hoc2, hfr_5⟩ := hp_4
        have h_m := (hfr_5 _ (by omega)).trans h_m
        have h_u := (hfr_5 _ (by omega)).trans h_u
        have h_q := (hfr_5 _ (by omega)).trans h_q
        have h_n9 := (hfr_5 _ (by omega)).trans h_n9
        have h_g := (hfr_5 _ (by omega)).trans h_g
        refine lv_aload_n hx hb dX10_findCarries_38 rfl (lv_at hl 0 rfl) ?_
        refine lv_iload_n hx hb dX10_findCarries_39 rfl (lv_at hl 1 rfl) ?_
        refine lv_iconst (v := 1) hx hb dX10_findCarries_40 (by decide) ?_
        refine z_callv (z_runV (As := [.int (nI s1), .int 1]) (rest := []) ⟨hx, hb, hml, hown, hts⟩ hK hS ((m_spread1 Z g_3 sg ⟨_, _, _, _, _, _, fu, fq, fm, fd, h_m, h_u, h_q, h_n9, h_g, hMN, hSg⟩ s1 hs1 oc2 h_oc hcm (zcl (zs9 (sg s1) 2) (fun y => y = 0)) hoc2 (fun y hy => zcl_b60 hok hcm (fun y hy => by
            have h9 : y = 0 := hy
            omega) hy)) l _) gX10_findCarries_X10_spread rfl 2 (by decide +kernel) ⟨Nat.le_of_ble_eq_true rfl, Nat.le_of_ble_eq_true rfl⟩ h_m hM41 rfl rfl hl.1 rfl (Nat.le_of_ble_eq_true rfl) dX10_findCarries_41 ⟨Nat.le_of_ble_eq_true rfl, Nat.le_of_ble_eq_true rfl⟩) hS (fun g_7 H locs hp_8 hS => ?_)
        obtain ⟨oc3, h_oc, hoc3, hfr_9⟩ := hp_8
        have h_m := (hfr_9 _ (by omega)).trans h_m
        have h_u := (hfr_9 _ (by omega)).trans h_u
        have h_q := (hfr_9 _ (by omega)).trans h_q
        have h_n9 := (hfr_9 _ (by omega)).trans h_n9
        have h_g := (hfr_9 _ (by omega)).trans h_g
        refine lv_aload_n hx hb dX10_findCarries_44 rfl (lv_at hl 0 rfl) ?_
        refine lv_iload_n hx hb dX10_findCarries_45 rfl (lv_at hl 1 rfl) ?_
        refine lv_iconst (v := 0) hx hb dX10_findCarries_46 (by decide) ?_
        refine z_callv (z_runV (As := [.int (nI s1), .int 0]) (rest := []) ⟨hx, hb, hml, hown, hts⟩ hK hS ((m_spread0 Z g_7 sg ⟨_, _, _, _, _, _, fu, fq, fm, fd, h_m, h_u, h_q, h_n9, h_g, hMN, hSg⟩ s1 hs1 oc3 h_oc hcm (zcl (zs9 (sg s1) 1) (zcl (zs9 (sg s1) 2) (fun y => y = 0))) hoc3 (fun y hy => zcl_b60 hok hcm (fun y hy => zcl_b60 hok hcm (fun y hy => by
            have h9 : y = 0 := hy
            omega) hy) hy)) l _) gX10_findCarries_X10_spread rfl 2 (by decide +kernel) ⟨Nat.le_of_ble_eq_true rfl, Nat.le_of_ble_eq_true rfl⟩ h_m hM41 rfl rfl hl.1 rfl (Nat.le_of_ble_eq_true rfl) dX10_findCarries_47 ⟨Nat.le_of_ble_eq_true rfl, Nat.le_of_ble_eq_true rfl⟩) hS (fun g_11 H locs hp_12 hS => ?_)
        obtain ⟨oc4, h_oc, hoc4, hfr_13⟩ := hp_12
        have h_m := (hfr_13 _ (by omega)).trans h_m
        have h_u := (hfr_13 _ (by omega)).trans h_u
        have h_q := (hfr_13 _ (by omega)).trans h_q
        have h_n9 := (hfr_13 _ (by omega)).trans h_n9
        have h_g := (hfr_13 _ (by omega)).trans h_g
        refine z_vret hx hb hr hlocks hS ?_ dX10_findCarries_50
        rw [zs9_0, zs9_1, zs9_2] at hoc4
        exact ⟨oc4, h_oc, hoc4, (((hfr_ga.tr (hfr_5.wide (by omega) (by omega))).tr (hfr_9.wide (by omega) (by omega))).tr (hfr_13.wide (by omega) (by omega)))⟩
      · have i_1 := z_nle c_1
        rw [nI_toInt (by omega)] at i_1
        rw [tI_129] at i_1
        refine lv_aload_n hx hb dX10_findCarries_9 rfl (lv_at hl 0 rfl) ?_
        refine z_get (own := RX10) (C := RX10) (T := TX10) (N := 21) hx hb hts in_X10_findCarries_10 hown hK hS h_m hM41 rfl 20 (by decide) (List.mem_of_getElem? (i := 1) rfl) rfl rfl dX10_findCarries_10 ?_
        refine lv_iload_n hx hb dX10_findCarries_13 rfl (lv_at hl 2 rfl) ?_
        refine lv_iload_n hx hb dX10_findCarries_14 rfl (lv_at hl 2 rfl) ?_
        refine lv_bipush (v := 64) hx hb dX10_findCarries_15 (by decide) ?_
        refine lv_icmp_ne (tgt := 24) hx hb dX10_findCarries_17 (by decide) (fun c_14 => ?_) (fun c_14 => ?_)
        · have i_14 := z_ne c_14
          rw [nI_toInt (by omega)] at i_14
          rw [tI_64] at i_14
          have hbv : zbo 0 ((t : Int) - 64 = 0) := zbo_0 (by omega)
          refine lv_iconst (v := 0) hx hb dX10_findCarries_24 (by decide) ?_
          refine z_zast (y := 0) hx hb hK hS h_oc hM56 rfl (vp_in_nI (by omega) (by omega)) dX10_findCarries_25 (fun g_15 H locs hg_15 hS => ?_)
          have h_oc : g_15 56 = .inl (Z.2.2.2 2, 129, .inl (upd oc1 (nI t).toNatClampNeg 0)) := z_up_s hg_15
          have h_m := z_up_n hg_15 h_m (by omega)
          have h_u := z_up_n hg_15 h_u (by omega)
          have h_q := z_up_n hg_15 h_q (by omega)
          have h_n9 := z_up_n hg_15 h_n9 (by omega)
          have h_g := z_up_n hg_15 h_g (by omega)
          rw [nI_clamp (by omega)] at h_oc
          refine lv_iinc (v := (nI (t + 1))) (lv' := [(2, .int (nI (t + 1))), (0, .ref (Z.2.1 41)), (1, .int (nI s1))]) hx hb dX10_findCarries_26 hl (k := 2) rfl (nI_1 _) (by decide) rfl (fun ls hl => ?_)
          refine lv_goto (tgt := 2) hx hb dX10_findCarries_29 (by decide) ?_
          exact ih_2 (t + 1) (upd oc1 t 0) g_15 h_m h_u h_q h_n9 h_g h_oc (hfr_ga.up hg_15 (by omega)) (by omega) (fun u hu => by
              by_cases h9 : u = t
              · rw [h9, pk_us]; exact hbv
              · rw [pk_un h9]; exact ho u (by omega)) (by omega) _ _ _ hS (lv_sub hl [1, 2, 0] rfl)
        · have i_14 := z_eq c_14
          rw [nI_toInt (by omega)] at i_14
          rw [tI_64] at i_14
          have hbv : zbo 1 ((t : Int) - 64 = 0) := zbo_1 (by omega)
          refine lv_iconst (v := 1) hx hb dX10_findCarries_20 (by decide) ?_
          refine lv_goto (tgt := 25) hx hb dX10_findCarries_21 (by decide) ?_
          refine z_zast (y := 1) hx hb hK hS h_oc hM56 rfl (vp_in_nI (by omega) (by omega)) dX10_findCarries_25 (fun g_16 H locs hg_16 hS => ?_)
          have h_oc : g_16 56 = .inl (Z.2.2.2 2, 129, .inl (upd oc1 (nI t).toNatClampNeg 1)) := z_up_s hg_16
          have h_m := z_up_n hg_16 h_m (by omega)
          have h_u := z_up_n hg_16 h_u (by omega)
          have h_q := z_up_n hg_16 h_q (by omega)
          have h_n9 := z_up_n hg_16 h_n9 (by omega)
          have h_g := z_up_n hg_16 h_g (by omega)
          rw [nI_clamp (by omega)] at h_oc
          refine lv_iinc (v := (nI (t + 1))) (lv' := [(2, .int (nI (t + 1))), (0, .ref (Z.2.1 41)), (1, .int (nI s1))]) hx hb dX10_findCarries_26 hl (k := 2) rfl (nI_1 _) (by decide) rfl (fun ls hl => ?_)
          refine lv_goto (tgt := 2) hx hb dX10_findCarries_29 (by decide) ?_
          exact ih_2 (t + 1) (upd oc1 t 1) g_16 h_m h_u h_q h_n9 h_g h_oc (hfr_ga.up hg_16 (by omega)) (by omega) (fun u hu => by
              by_cases h9 : u = t
              · rw [h9, pk_us]; exact hbv
              · rw [pk_un h9]; exact ho u (by omega)) (by omega) _ _ _ hS (lv_sub hl [1, 2, 0] rfl)
  exact hcut_2 (129 - 0 + 1) 0 oc g h_m h_u h_q h_n9 h_g h_oc z_fr.rf (by omega) (fun u hu => absurd hu (Nat.not_lt_zero u)) (Nat.lt_succ_self _) _ _ _ hS (lv_sub hl [1, 2, 0] rfl)

theorem in_X10_carryCount_10 : ∀ w ∈ wsX100, w ∈ wsX10_carryCount := by decide +kernel
set_option maxHeartbeats 4000000 in
set_option maxRecDepth 100000 in
theorem m_carryCount (Z : zT) (g : Nat → va_E) (sg : Nat → zb) (rw9 : Nat → zr) (hW : z_mw Z g sg rw9) (x : Int32) : z_Mi Z yX10_carryCount wsX10_carryCount 8 184 [.ref (Z.2.1 41), .int x] g (fun r g1 => z_pm Z g (sp_carryCount (sg, rw9) x.toInt) r g1) := by
  intro l sz
  obtain ⟨v4, v5, v6, v15, v16, v17, hM9⟩ := hW.1.mp
  have hM := hM9.mr
  obtain ⟨fu, fq, fm, fd, h_m, h_u, h_q, h_n9, h_g, hMN, hSg⟩ := id hM9
  have hM41 : 41 < Z.1 := by omega
  have hM42 : 42 < Z.1 := by omega
  have hM43 : 43 < Z.1 := by omega
  have hM44 : 44 < Z.1 := by omega
  have hM45 : 45 < Z.1 := by omega
  obtain ⟨-, -, -, -, -, -, -, -, -, -, ⟨oc, h_oc⟩⟩ := id hW.2
  have hM56 : 56 < Z.1 := by omega
  refine z_enter (maxL := 5) (ret := (some .int)) (lv := [(0, .ref (Z.2.1 41)), (1, .int x)]) (plainFor_of_name (by decide +kernel)) rfl (fun ls h => by subst h; exact lv_entry [.ref (Z.2.1 41), .int x] (n := 5) (Nat.le_of_ble_eq_true rfl)) ?_
  intro p e s m args below meth c hx hb hml hr hlocks hown hts hK hS hsz ls hl
  refine lv_aload_n hx hb dX10_carryCount_0 rfl (lv_at hl 0 rfl) ?_
  refine lv_iload_n hx hb dX10_carryCount_1 rfl (lv_at hl 1 rfl) ?_
  refine z_calli (z_runV (As := [.int x]) (rest := []) ⟨hx, hb, hml, hown, hts⟩ hK hS ((m_systemBarred Z g sg hM x) l _) gX10_carryCount_X10_systemBarred rfl 1 (by decide +kernel) ⟨Nat.le_of_ble_eq_true rfl, Nat.le_of_ble_eq_true rfl⟩ h_m hM41 rfl rfl hl.1 rfl (Nat.le_of_ble_eq_true rfl) dX10_carryCount_2 ⟨Nat.le_of_ble_eq_true rfl, Nat.le_of_ble_eq_true rfl⟩) hS (fun rb g_1 H locs hp_2 hS => ?_)
  obtain ⟨rfl, hp_2⟩ := hp_2
  have hrb := hp_2
  refine lv_istore_n (lv' := [(2, .int rb), (0, .ref (Z.2.1 41)), (1, .int x)]) hx hb dX10_carryCount_5 rfl hl (by decide) rfl (fun ls hl => ?_)
  refine lv_iload_n hx hb dX10_carryCount_6 rfl (lv_at hl 0 rfl) ?_
  refine lv_if_ge (tgt := 12) hx hb dX10_carryCount_7 (by decide) (fun c_3 => ?_) (fun c_3 => ?_)
  · have i_3 := z_le c_3
    rw [tI_0] at i_3
    obtain ⟨hzs, hcm⟩ : zsy x.toInt ∧ zcm (sg x.toInt.toNat) := by
      rcases hrb with ⟨-, h9⟩ | ⟨h8, h7, -⟩ | ⟨-, -, h9⟩
      · rw [h9] at i_3; exact absurd i_3 (by decide)
      · exact ⟨h8, h7⟩
      · rw [h9] at i_3; exact absurd i_3 (by decide)
    obtain ⟨s1, es1, hs1x, -⟩ := z_nI_of (x := x) hzs.1
    subst es1
    have hs1 : s1 < 2 := by have := hzs.2; omega
    have htn1 : (nI s1).toInt.toNat = s1 := by omega
    rw [htn1] at hcm
    obtain ⟨hok, hp, hq, hm, hd⟩ := hSg s1 hs1
    have hPb := zP_bd hok
    have hn12 := hok.2.2.2.1
    have hq1 := hok.2.1
    refine lv_aload_n hx hb dX10_carryCount_12 rfl (lv_at hl 1 rfl) ?_
    refine lv_iload_n hx hb dX10_carryCount_13 rfl (lv_at hl 2 rfl) ?_
    refine z_callv (z_runV (As := [.int (nI s1)]) (rest := []) ⟨hx, hb, hml, hown, hts⟩ hK hS ((m_findCarries Z g sg ⟨_, _, _, _, _, _, fu, fq, fm, fd, h_m, h_u, h_q, h_n9, h_g, hMN, hSg⟩ s1 hs1 oc h_oc hcm) l _) gX10_carryCount_X10_findCarries rfl 1 (by decide +kernel) ⟨Nat.le_of_ble_eq_true rfl, Nat.le_of_ble_eq_true rfl⟩ h_m hM41 rfl rfl hl.1 rfl (Nat.le_of_ble_eq_true rfl) dX10_carryCount_14 ⟨Nat.le_of_ble_eq_true rfl, Nat.le_of_ble_eq_true rfl⟩) hS (fun g_5 H locs hp_6 hS => ?_)
    obtain ⟨oc1, h_oc, ho1, hfr_7⟩ := hp_6
    have h_m := (hfr_7 _ (by omega)).trans h_m
    have h_u := (hfr_7 _ (by omega)).trans h_u
    have h_q := (hfr_7 _ (by omega)).trans h_q
    have h_n9 := (hfr_7 _ (by omega)).trans h_n9
    have h_g := (hfr_7 _ (by omega)).trans h_g
    have hml9 : zct (zc64 (sg s1)) 129 ≤ 129 := zct_le _ 129
    refine lv_iconst (v := 0) hx hb dX10_carryCount_17 (by decide) ?_
    refine lv_istore_n (lv' := [(3, .int 0), (2, .int rb), (0, .ref (Z.2.1 41)), (1, .int (nI s1))]) hx hb dX10_carryCount_18 rfl hl (by decide) rfl (fun ls hl => ?_)
    refine lv_iconst (v := 0) hx hb dX10_carryCount_19 (by decide) ?_
    refine lv_istore (lv' := [(4, .int 0), (3, .int 0), (2, .int rb), (0, .ref (Z.2.1 41)), (1, .int (nI s1))]) hx hb dX10_carryCount_20 hl (by decide) rfl (fun ls hl => ?_)
    have hcut_22 : ∀ (nn_22 : Nat) (c9 : Nat) (n9 : Int32) (hc9 : c9 ≤ 129) (hn9 : n9.toInt = (zct (zc64 (sg s1)) c9 : Nat)) (hm_22 : 129 - c9 < nn_22) (H : Heap) (locs : List Loc) (ls : Array Slot), z_S Z (z_A Z sz) s.heap g_5 H locs → lv_has ls 5 [(0, .ref (Z.2.1 41)), (1, .int (nI s1)), (3, .int n9), (4, .int (nI c9))] → W p l e (headSpec wsX10_carryCount (z_rm 8 184)).room s m args below meth c H locs 0 0 (MQ below (va_Qi (fun r g1 => z_pm Z g (sp_carryCount (sg, rw9) (nI s1).toInt) r g1) (z_B Z) (z_A Z sz)) args s 0 0 (z_A Z sz)) (F0 m 22 ls []) := by
      intro nn_22
      induction nn_22 with
      | zero => intro c9 n9 hc9 hn9 hm_22 H locs ls hS hl; exact absurd hm_22 (Nat.not_lt_zero _)
      | succ nn_22 ih_22 =>
        intro c9 n9 hc9 hn9 hm_22 H locs ls hS hl
        have hzl : zct (zc64 (sg s1)) c9 ≤ c9 := zct_le _ c9
        refine lv_iload hx hb dX10_carryCount_22 (lv_at hl 3 rfl) ?_
        refine lv_sipush (v := 129) hx hb dX10_carryCount_24 (by decide) ?_
        refine lv_icmp_ge (tgt := 54) hx hb dX10_carryCount_27 (by decide) (fun c_8 => ?_) (fun c_8 => ?_)
        · have i_8 := z_le c_8
          rw [nI_toInt (by omega)] at i_8
          rw [tI_129] at i_8
          have hc129 : c9 = 129 := by omega
          refine lv_iload_n hx hb dX10_carryCount_54 rfl (lv_at hl 2 rfl) ?_
          refine z_iret hx hb hr hlocks hS ?_ dX10_carryCount_55
          show z_pm Z g (sp_carryCount (sg, rw9) (nI s1).toInt) _ _
          unfold sp_carryCount
          rw [zite_t hzs, htn1, zite_t hcm]
          have hfz : z_fr 56 1 g g_5 := (z_fr.rf.tr (hfr_7.wide (by omega) (by omega)))
          exact ⟨by rw [hn9, hc129, zc64_all hok hcm], ⟨⟨_, _, _, _, _, _, fu, fq, fm, fd, h_m, h_u, h_q, h_n9, h_g, hMN, hSg⟩, hW.2.occ h_oc (fun j h1 h2 => hfz j (by omega))⟩, hfz.wide (by omega) (by omega)⟩
        · have i_8 := z_nle c_8
          rw [nI_toInt (by omega)] at i_8
          rw [tI_129] at i_8
          have hc128 : c9 < 129 := by omega
          refine lv_iload_n hx hb dX10_carryCount_30 rfl (lv_at hl 2 rfl) ?_
          refine lv_aload_n hx hb dX10_carryCount_31 rfl (lv_at hl 0 rfl) ?_
          refine z_get (own := RX10) (C := RX10) (T := TX10) (N := 21) hx hb hts in_X10_carryCount_10 hown hK hS h_m hM41 rfl 20 (by decide) (List.mem_of_getElem? (i := 1) rfl) rfl rfl dX10_carryCount_32 ?_
          refine lv_iload hx hb dX10_carryCount_35 (lv_at hl 3 rfl) ?_
          refine z_zald hx hb hK hS h_oc hM56 (vp_in_nI (by omega) (by omega)) dX10_carryCount_37 ?_
          rw [show oc1 (nI c9).toNatClampNeg = oc1 c9 from by rw [nI_clamp (by omega)]]
          refine lv_if_eq (tgt := 45) hx hb dX10_carryCount_38 (by decide) (fun c_9 => ?_) (fun c_9 => ?_)
          · have i_9 := z_eq c_9
            rw [tI_0] at i_9
            have hzf := zct_f (zc64_f (zbo_f (ho1 c9 hc128) c_9))
            refine lv_iconst (v := 0) hx hb dX10_carryCount_45 (by decide) ?_
            refine lv_iadd hx hb dX10_carryCount_46 ?_
            refine lv_topi (fun n2 en2 => ?_)
            have hn2 : n2.toInt = (zct (zc64 (sg s1)) (c9 + 1) : Nat) := by rw [hzf, en2, fb_addI (by rw [tI_0]; omega) (by rw [tI_0]; omega), tI_0, hn9]; omega
            refine lv_istore_n (lv' := [(3, .int n2), (0, .ref (Z.2.1 41)), (1, .int (nI s1)), (4, .int (nI c9))]) hx hb dX10_carryCount_47 rfl hl (by decide) rfl (fun ls hl => ?_)
            refine lv_iinc (v := (nI (c9 + 1))) (lv' := [(4, .int (nI (c9 + 1))), (3, .int n2), (0, .ref (Z.2.1 41)), (1, .int (nI s1))]) hx hb dX10_carryCount_48 hl (k := 3) rfl (nI_1 _) (by decide) rfl (fun ls hl => ?_)
            refine lv_goto (tgt := 22) hx hb dX10_carryCount_51 (by decide) ?_
            exact ih_22 (c9 + 1) n2 (by omega) hn2 (by omega) _ _ _ hS (lv_sub hl [2, 3, 1, 0] rfl)
          · have i_9 := z_ne c_9
            rw [tI_0] at i_9
            have hzf := zct_t (zc64_t.mpr (zbo_t (ho1 c9 hc128) c_9))
            refine lv_iconst (v := 1) hx hb dX10_carryCount_41 (by decide) ?_
            refine lv_goto (tgt := 46) hx hb dX10_carryCount_42 (by decide) ?_
            refine lv_iadd hx hb dX10_carryCount_46 ?_
            refine lv_topi (fun n2 en2 => ?_)
            have hn2 : n2.toInt = (zct (zc64 (sg s1)) (c9 + 1) : Nat) := by rw [hzf, en2, fb_addI (by rw [tI_1]; omega) (by rw [tI_1]; omega), tI_1, hn9]; omega
            refine lv_istore_n (lv' := [(3, .int n2), (0, .ref (Z.2.1 41)), (1, .int (nI s1)), (4, .int (nI c9))]) hx hb dX10_carryCount_47 rfl hl (by decide) rfl (fun ls hl => ?_)
            refine lv_iinc (v := (nI (c9 + 1))) (lv' := [(4, .int (nI (c9 + 1))), (3, .int n2), (0, .ref (Z.2.1 41)), (1, .int (nI s1))]) hx hb dX10_carryCount_48 hl (k := 3) rfl (nI_1 _) (by decide) rfl (fun ls hl => ?_)
            refine lv_goto (tgt := 22) hx hb dX10_carryCount_51 (by decide) ?_
            exact ih_22 (c9 + 1) n2 (by omega) hn2 (by omega) _ _ _ hS (lv_sub hl [2, 3, 1, 0] rfl)
    exact hcut_22 (129 - 0 + 1) 0 0 (by omega) rfl (Nat.lt_succ_self _) _ _ _ hS (lv_sub hl [3, 4, 1, 0] rfl)
  · have i_3 := z_nle c_3
    rw [tI_0] at i_3
    refine lv_iload_n hx hb dX10_carryCount_10 rfl (lv_at hl 0 rfl) ?_
    refine z_iret hx hb hr hlocks hS ?_ dX10_carryCount_11
    show z_pm Z g (sp_carryCount (sg, rw9) x.toInt) _ _
    unfold sp_carryCount
    rcases hrb with ⟨h8, h9⟩ | ⟨h8, h7, h9⟩ | ⟨h8, h7, h9⟩
    · rw [zite_f h8]; exact ⟨by rw [h9]; rfl, hW, z_fr.rf⟩
    · exfalso; rw [h9] at i_3; exact absurd i_3 (by decide)
    · rw [zite_t h8, zite_f h7]; exact ⟨by rw [h9]; rfl, hW, z_fr.rf⟩

theorem in_X10_carry_10 : ∀ w ∈ wsX100, w ∈ wsX10_carry := by decide +kernel
set_option maxHeartbeats 4000000 in
set_option maxRecDepth 100000 in
theorem m_carry (Z : zT) (g : Nat → va_E) (sg : Nat → zb) (rw9 : Nat → zr) (hW : z_mw Z g sg rw9) (x y : Int32) : z_Mi Z yX10_carry wsX10_carry 8 184 [.ref (Z.2.1 41), .int x, .int y] g (fun r g1 => z_pm Z g (sp_carry (sg, rw9) x.toInt y.toInt) r g1) := by
  intro l sz
  obtain ⟨v4, v5, v6, v15, v16, v17, hM9⟩ := hW.1.mp
  have hM := hM9.mr
  obtain ⟨fu, fq, fm, fd, h_m, h_u, h_q, h_n9, h_g, hMN, hSg⟩ := id hM9
  have hM41 : 41 < Z.1 := by omega
  have hM42 : 42 < Z.1 := by omega
  have hM43 : 43 < Z.1 := by omega
  have hM44 : 44 < Z.1 := by omega
  have hM45 : 45 < Z.1 := by omega
  obtain ⟨-, -, -, -, -, -, -, -, -, -, ⟨oc, h_oc⟩⟩ := id hW.2
  have hM56 : 56 < Z.1 := by omega
  refine z_enter (maxL := 5) (ret := (some .int)) (lv := [(0, .ref (Z.2.1 41)), (1, .int x), (2, .int y)]) (plainFor_of_name (by decide +kernel)) rfl (fun ls h => by subst h; exact lv_entry [.ref (Z.2.1 41), .int x, .int y] (n := 5) (Nat.le_of_ble_eq_true rfl)) ?_
  intro p e s m args below meth c hx hb hml hr hlocks hown hts hK hS hsz ls hl
  refine lv_iload_n hx hb dX10_carry_0 rfl (lv_at hl 1 rfl) ?_
  refine z_calli (z_runS (As := [.int x]) (rest := []) ⟨hx, hb, hml, hown, hts⟩ hK hS ((m_noSystem Z g x) l _) gX10_carry_X10_noSystem rfl 1 (by decide +kernel) ⟨Nat.le_of_ble_eq_true rfl, Nat.le_of_ble_eq_true rfl⟩ rfl hl.1 rfl (Nat.le_of_ble_eq_true rfl) dX10_carry_1 ⟨Nat.le_of_ble_eq_true rfl, Nat.le_of_ble_eq_true rfl⟩) hS (fun rn g_1 H locs hp_2 hS => ?_)
  obtain ⟨rfl, hp_2⟩ := hp_2
  have hrn := hp_2
  refine lv_if_eq (tgt := 10) hx hb dX10_carry_4 (by decide) (fun c_3 => ?_) (fun c_3 => ?_)
  · have i_3 := z_eq c_3
    rw [tI_0] at i_3
    have hzs : zsy x.toInt := Classical.byContradiction (zbo_f hrn c_3)
    obtain ⟨s1, es1, hs1x, -⟩ := z_nI_of (x := x) hzs.1
    subst es1
    have hs1 : s1 < 2 := by have := hzs.2; omega
    have htn1 : (nI s1).toInt.toNat = s1 := by omega
    obtain ⟨hok, hp, hq, hm, hd⟩ := hSg s1 hs1
    have hPb := zP_bd hok
    have hn12 := hok.2.2.2.1
    have hq1 := hok.2.1
    refine lv_iload_n hx hb dX10_carry_10 rfl (lv_at hl 2 rfl) ?_
    refine lv_if_ge (tgt := 17) hx hb dX10_carry_11 (by decide) (fun c_4 => ?_) (fun c_4 => ?_)
    · have i_4 := z_le c_4
      rw [tI_0] at i_4
      have hy0 : 0 ≤ y.toInt := by omega
      refine lv_aload_n hx hb dX10_carry_17 rfl (lv_at hl 0 rfl) ?_
      refine lv_iload_n hx hb dX10_carry_18 rfl (lv_at hl 1 rfl) ?_
      refine z_calli (z_runV (As := [.int (nI s1)]) (rest := []) ⟨hx, hb, hml, hown, hts⟩ hK hS ((m_isComplete Z g sg hM s1 hs1) l _) gX10_carry_X10_isComplete rfl 1 (by decide +kernel) ⟨Nat.le_of_ble_eq_true rfl, Nat.le_of_ble_eq_true rfl⟩ h_m hM41 rfl rfl hl.1 rfl (Nat.le_of_ble_eq_true rfl) dX10_carry_19 ⟨Nat.le_of_ble_eq_true rfl, Nat.le_of_ble_eq_true rfl⟩) hS (fun rc g_5 H locs hp_6 hS => ?_)
      obtain ⟨rfl, hp_6⟩ := hp_6
      have hrc := hp_6
      refine lv_if_ne (tgt := 28) hx hb dX10_carry_22 (by decide) (fun c_7 => ?_) (fun c_7 => ?_)
      · have i_7 := z_ne c_7
        rw [tI_0] at i_7
        have hcm := zbo_t hrc c_7
        refine lv_aload_n hx hb dX10_carry_28 rfl (lv_at hl 0 rfl) ?_
        refine lv_iload_n hx hb dX10_carry_29 rfl (lv_at hl 1 rfl) ?_
        refine z_callv (z_runV (As := [.int (nI s1)]) (rest := []) ⟨hx, hb, hml, hown, hts⟩ hK hS ((m_findCarries Z g sg ⟨_, _, _, _, _, _, fu, fq, fm, fd, h_m, h_u, h_q, h_n9, h_g, hMN, hSg⟩ s1 hs1 oc h_oc hcm) l _) gX10_carry_X10_findCarries rfl 1 (by decide +kernel) ⟨Nat.le_of_ble_eq_true rfl, Nat.le_of_ble_eq_true rfl⟩ h_m hM41 rfl rfl hl.1 rfl (Nat.le_of_ble_eq_true rfl) dX10_carry_30 ⟨Nat.le_of_ble_eq_true rfl, Nat.le_of_ble_eq_true rfl⟩) hS (fun g_9 H locs hp_10 hS => ?_)
        obtain ⟨oc1, h_oc, ho1, hfr_11⟩ := hp_10
        have h_m := (hfr_11 _ (by omega)).trans h_m
        have h_u := (hfr_11 _ (by omega)).trans h_u
        have h_q := (hfr_11 _ (by omega)).trans h_q
        have h_n9 := (hfr_11 _ (by omega)).trans h_n9
        have h_g := (hfr_11 _ (by omega)).trans h_g
        have hml9 : zct (zc64 (sg s1)) 129 ≤ 129 := zct_le _ 129
        refine lv_iconst (v := (-1)) hx hb dX10_carry_33 (by decide) ?_
        refine lv_istore_n (lv' := [(3, .int (-1)), (0, .ref (Z.2.1 41)), (1, .int (nI s1)), (2, .int y)]) hx hb dX10_carry_34 rfl hl (by decide) rfl (fun ls hl => ?_)
        refine lv_iconst (v := 0) hx hb dX10_carry_35 (by decide) ?_
        refine lv_istore (lv' := [(4, .int 0), (3, .int (-1)), (0, .ref (Z.2.1 41)), (1, .int (nI s1)), (2, .int y)]) hx hb dX10_carry_36 hl (by decide) rfl (fun ls hl => ?_)
        have hcut_38 : ∀ (nn_38 : Nat) (c9 : Nat) (n9 : Int32) (hc9 : c9 ≤ 129) (hn9 : n9.toInt = (zct (zc64 (sg s1)) c9 : Nat) - 1) (hno : ∀ u, u < c9 → zc64 (sg s1) u = true → ((zct (zc64 (sg s1)) u : Nat) : Int) ≠ y.toInt) (hm_38 : 129 - c9 < nn_38) (H : Heap) (locs : List Loc) (ls : Array Slot), z_S Z (z_A Z sz) s.heap g_9 H locs → lv_has ls 5 [(0, .ref (Z.2.1 41)), (1, .int (nI s1)), (2, .int y), (3, .int n9), (4, .int (nI c9))] → W p l e (headSpec wsX10_carry (z_rm 8 184)).room s m args below meth c H locs 0 0 (MQ below (va_Qi (fun r g1 => z_pm Z g (sp_carry (sg, rw9) (nI s1).toInt y.toInt) r g1) (z_B Z) (z_A Z sz)) args s 0 0 (z_A Z sz)) (F0 m 38 ls []) := by
          intro nn_38
          induction nn_38 with
          | zero => intro c9 n9 hc9 hn9 hno hm_38 H locs ls hS hl; exact absurd hm_38 (Nat.not_lt_zero _)
          | succ nn_38 ih_38 =>
            intro c9 n9 hc9 hn9 hno hm_38 H locs ls hS hl
            have hzl : zct (zc64 (sg s1)) c9 ≤ c9 := zct_le _ c9
            refine lv_iload hx hb dX10_carry_38 (lv_at hl 4 rfl) ?_
            refine lv_sipush (v := 129) hx hb dX10_carry_40 (by decide) ?_
            refine lv_icmp_ge (tgt := 91) hx hb dX10_carry_43 (by decide) (fun c_12 => ?_) (fun c_12 => ?_)
            · have i_12 := z_le c_12
              rw [nI_toInt (by omega)] at i_12
              rw [tI_129] at i_12
              have hc129 : c9 = 129 := by omega
              have hnk : ¬ y.toInt < (zcc (sg s1) : Int) := fun h9 => by
                rw [← zc64_all hok hcm] at h9
                obtain ⟨u, h1, h2, h3⟩ := zct_ex (c := (zc64 (sg s1))) (k := y.toInt.toNat) (n := 129) (by omega)
                exact hno u (by omega) h2 (by omega)
              refine lv_ldc (v := (-1000006)) hx hb hown (hts _ (List.mem_of_getElem? (i := 5) rfl)) dX10_carry_91 ?_
              refine z_iret hx hb hr hlocks hS ?_ dX10_carry_93
              show z_pm Z g (sp_carry (sg, rw9) (nI s1).toInt y.toInt) _ _
              unfold sp_carry
              rw [zite_t hzs, zite_t hy0, htn1, zite_t hcm, zite_f hnk]
              have hfz : z_fr 56 1 g g_9 := (z_fr.rf.tr (hfr_11.wide (by omega) (by omega)))
              exact ⟨rfl, ⟨⟨_, _, _, _, _, _, fu, fq, fm, fd, h_m, h_u, h_q, h_n9, h_g, hMN, hSg⟩, hW.2.occ h_oc (fun j h1 h2 => hfz j (by omega))⟩, hfz.wide (by omega) (by omega)⟩
            · have i_12 := z_nle c_12
              rw [nI_toInt (by omega)] at i_12
              rw [tI_129] at i_12
              have hc128 : c9 < 129 := by omega
              refine lv_iload_n hx hb dX10_carry_46 rfl (lv_at hl 3 rfl) ?_
              refine lv_aload_n hx hb dX10_carry_47 rfl (lv_at hl 0 rfl) ?_
              refine z_get (own := RX10) (C := RX10) (T := TX10) (N := 21) hx hb hts in_X10_carry_10 hown hK hS h_m hM41 rfl 20 (by decide) (List.mem_of_getElem? (i := 4) rfl) rfl rfl dX10_carry_48 ?_
              refine lv_iload hx hb dX10_carry_51 (lv_at hl 4 rfl) ?_
              refine z_zald hx hb hK hS h_oc hM56 (vp_in_nI (by omega) (by omega)) dX10_carry_53 ?_
              rw [show oc1 (nI c9).toNatClampNeg = oc1 c9 from by rw [nI_clamp (by omega)]]
              refine lv_if_eq (tgt := 61) hx hb dX10_carry_54 (by decide) (fun c_13 => ?_) (fun c_13 => ?_)
              · have i_13 := z_eq c_13
                rw [tI_0] at i_13
                have hb9 := zc64_f (zbo_f (ho1 c9 hc128) c_13)
                have hzf := zct_f hb9
                refine lv_iconst (v := 0) hx hb dX10_carry_61 (by decide) ?_
                refine lv_iadd hx hb dX10_carry_62 ?_
                refine lv_topi (fun n2 en2 => ?_)
                have hn2 : n2.toInt = (zct (zc64 (sg s1)) (c9 + 1) : Nat) - 1 := by rw [hzf, en2, fb_addI (by rw [tI_0]; omega) (by rw [tI_0]; omega), tI_0, hn9]; omega
                refine lv_istore_n (lv' := [(3, .int n2), (0, .ref (Z.2.1 41)), (1, .int (nI s1)), (2, .int y), (4, .int (nI c9))]) hx hb dX10_carry_63 rfl hl (by decide) rfl (fun ls hl => ?_)
                refine lv_iload_n hx hb dX10_carry_64 rfl (lv_at hl 0 rfl) ?_
                refine lv_iload_n hx hb dX10_carry_65 rfl (lv_at hl 3 rfl) ?_
                refine lv_icmp_ne (tgt := 85) hx hb dX10_carry_66 (by decide) (fun c_14 => ?_) (fun c_14 => ?_)
                · have i_14 := z_ne c_14
                  have hnx : zc64 (sg s1) c9 = true → ((zct (zc64 (sg s1)) c9 : Nat) : Int) ≠ y.toInt := fun h9 => by rw [hb9] at h9; exact absurd h9 (by decide)
                  refine lv_iinc (v := (nI (c9 + 1))) (lv' := [(4, .int (nI (c9 + 1))), (3, .int n2), (0, .ref (Z.2.1 41)), (1, .int (nI s1)), (2, .int y)]) hx hb dX10_carry_85 hl (k := 4) rfl (nI_1 _) (by decide) rfl (fun ls hl => ?_)
                  refine lv_goto (tgt := 38) hx hb dX10_carry_88 (by decide) ?_
                  exact ih_38 (c9 + 1) n2 (by omega) hn2 (fun u hu h9 => by
                      by_cases h8 : u = c9
                      · subst h8; exact hnx h9
                      · exact hno u (by omega) h9) (by omega) _ _ _ hS (lv_sub hl [2, 3, 4, 1, 0] rfl)
                · have i_14 := z_eq c_14
                  have hyn : n2.toInt = y.toInt := by omega
                  refine lv_aload_n hx hb dX10_carry_69 rfl (lv_at hl 1 rfl) ?_
                  refine z_get (own := RX10) (C := RX10) (T := TX10) (N := 21) hx hb hts in_X10_carry_10 hown hK hS h_m hM41 rfl 20 (by decide) (List.mem_of_getElem? (i := 4) rfl) rfl rfl dX10_carry_70 ?_
                  refine lv_iload hx hb dX10_carry_73 (lv_at hl 4 rfl) ?_
                  refine z_zald hx hb hK hS h_oc hM56 (vp_in_nI (by omega) (by omega)) dX10_carry_75 ?_
                  rw [show oc1 (nI c9).toNatClampNeg = oc1 c9 from by rw [nI_clamp (by omega)]]
                  refine lv_if_eq (tgt := 85) hx hb dX10_carry_76 (by decide) (fun c_15 => ?_) (fun c_15 => ?_)
                  · have i_15 := z_eq c_15
                    rw [tI_0] at i_15
                    have hnx : zc64 (sg s1) c9 = true → ((zct (zc64 (sg s1)) c9 : Nat) : Int) ≠ y.toInt := fun h9 => by rw [zc64_f (zbo_f (ho1 c9 hc128) c_15)] at h9; exact absurd h9 (by decide)
                    refine lv_iinc (v := (nI (c9 + 1))) (lv' := [(4, .int (nI (c9 + 1))), (3, .int n2), (0, .ref (Z.2.1 41)), (1, .int (nI s1)), (2, .int y)]) hx hb dX10_carry_85 hl (k := 4) rfl (nI_1 _) (by decide) rfl (fun ls hl => ?_)
                    refine lv_goto (tgt := 38) hx hb dX10_carry_88 (by decide) ?_
                    exact ih_38 (c9 + 1) n2 (by omega) hn2 (fun u hu h9 => by
                        by_cases h8 : u = c9
                        · subst h8; exact hnx h9
                        · exact hno u (by omega) h9) (by omega) _ _ _ hS (lv_sub hl [2, 3, 4, 1, 0] rfl)
                  · have i_15 := z_ne c_15
                    rw [tI_0] at i_15
                    exact absurd ((zc64_t.mpr (zbo_t (ho1 c9 hc128) c_15)).symm.trans hb9) (by decide)
              · have i_13 := z_ne c_13
                rw [tI_0] at i_13
                have hb9 := zc64_t.mpr (zbo_t (ho1 c9 hc128) c_13)
                have hzf := zct_t hb9
                refine lv_iconst (v := 1) hx hb dX10_carry_57 (by decide) ?_
                refine lv_goto (tgt := 62) hx hb dX10_carry_58 (by decide) ?_
                refine lv_iadd hx hb dX10_carry_62 ?_
                refine lv_topi (fun n2 en2 => ?_)
                have hn2 : n2.toInt = (zct (zc64 (sg s1)) (c9 + 1) : Nat) - 1 := by rw [hzf, en2, fb_addI (by rw [tI_1]; omega) (by rw [tI_1]; omega), tI_1, hn9]; omega
                refine lv_istore_n (lv' := [(3, .int n2), (0, .ref (Z.2.1 41)), (1, .int (nI s1)), (2, .int y), (4, .int (nI c9))]) hx hb dX10_carry_63 rfl hl (by decide) rfl (fun ls hl => ?_)
                refine lv_iload_n hx hb dX10_carry_64 rfl (lv_at hl 0 rfl) ?_
                refine lv_iload_n hx hb dX10_carry_65 rfl (lv_at hl 3 rfl) ?_
                refine lv_icmp_ne (tgt := 85) hx hb dX10_carry_66 (by decide) (fun c_16 => ?_) (fun c_16 => ?_)
                · have i_16 := z_ne c_16
                  have hnx : zc64 (sg s1) c9 = true → ((zct (zc64 (sg s1)) c9 : Nat) : Int) ≠ y.toInt := fun _ => by omega
                  refine lv_iinc (v := (nI (c9 + 1))) (lv' := [(4, .int (nI (c9 + 1))), (3, .int n2), (0, .ref (Z.2.1 41)), (1, .int (nI s1)), (2, .int y)]) hx hb dX10_carry_85 hl (k := 4) rfl (nI_1 _) (by decide) rfl (fun ls hl => ?_)
                  refine lv_goto (tgt := 38) hx hb dX10_carry_88 (by decide) ?_
                  exact ih_38 (c9 + 1) n2 (by omega) hn2 (fun u hu h9 => by
                      by_cases h8 : u = c9
                      · subst h8; exact hnx h9
                      · exact hno u (by omega) h9) (by omega) _ _ _ hS (lv_sub hl [2, 3, 4, 1, 0] rfl)
                · have i_16 := z_eq c_16
                  have hyn : n2.toInt = y.toInt := by omega
                  refine lv_aload_n hx hb dX10_carry_69 rfl (lv_at hl 1 rfl) ?_
                  refine z_get (own := RX10) (C := RX10) (T := TX10) (N := 21) hx hb hts in_X10_carry_10 hown hK hS h_m hM41 rfl 20 (by decide) (List.mem_of_getElem? (i := 4) rfl) rfl rfl dX10_carry_70 ?_
                  refine lv_iload hx hb dX10_carry_73 (lv_at hl 4 rfl) ?_
                  refine z_zald hx hb hK hS h_oc hM56 (vp_in_nI (by omega) (by omega)) dX10_carry_75 ?_
                  rw [show oc1 (nI c9).toNatClampNeg = oc1 c9 from by rw [nI_clamp (by omega)]]
                  refine lv_if_eq (tgt := 85) hx hb dX10_carry_76 (by decide) (fun c_17 => ?_) (fun c_17 => ?_)
                  · have i_17 := z_eq c_17
                    rw [tI_0] at i_17
                    have hnx : zc64 (sg s1) c9 = true → ((zct (zc64 (sg s1)) c9 : Nat) : Int) ≠ y.toInt := fun h9 => by rw [zc64_f (zbo_f (ho1 c9 hc128) c_17)] at h9; exact absurd h9 (by decide)
                    refine lv_iinc (v := (nI (c9 + 1))) (lv' := [(4, .int (nI (c9 + 1))), (3, .int n2), (0, .ref (Z.2.1 41)), (1, .int (nI s1)), (2, .int y)]) hx hb dX10_carry_85 hl (k := 4) rfl (nI_1 _) (by decide) rfl (fun ls hl => ?_)
                    refine lv_goto (tgt := 38) hx hb dX10_carry_88 (by decide) ?_
                    exact ih_38 (c9 + 1) n2 (by omega) hn2 (fun u hu h9 => by
                        by_cases h8 : u = c9
                        · subst h8; exact hnx h9
                        · exact hno u (by omega) h9) (by omega) _ _ _ hS (lv_sub hl [2, 3, 4, 1, 0] rfl)
                  · have i_17 := z_ne c_17
                    rw [tI_0] at i_17
                    have hyk : zct (zc64 (sg s1)) c9 = y.toInt.toNat := by omega
                    have hkc : y.toInt < (zcc (sg s1) : Int) := by
                      rw [← zc64_all hok hcm]
                      have := zct_lt (c := (zc64 (sg s1))) hb9 hc128
                      omega
                    refine lv_iload hx hb dX10_carry_79 (lv_at hl 4 rfl) ?_
                    refine lv_bipush (v := 64) hx hb dX10_carry_81 (by decide) ?_
                    refine lv_isub hx hb dX10_carry_83 ?_
                    refine z_iret hx hb hr hlocks hS ?_ dX10_carry_84
                    show z_pm Z g (sp_carry (sg, rw9) (nI s1).toInt y.toInt) _ _
                    unfold sp_carry
                    rw [zite_t hzs, zite_t hy0, htn1, zite_t hcm, zite_t hkc]
                    have hfz : z_fr 56 1 g g_9 := (z_fr.rf.tr (hfr_11.wide (by omega) (by omega)))
                    exact ⟨by rw [fb_subI (by rw [nI_toInt (by omega), tI_64]; omega) (by rw [nI_toInt (by omega), tI_64]; omega), nI_toInt (by omega), tI_64]; exact (zck64 hok hcm hb9 hyk).symm, ⟨⟨_, _, _, _, _, _, fu, fq, fm, fd, h_m, h_u, h_q, h_n9, h_g, hMN, hSg⟩, hW.2.occ h_oc (fun j h1 h2 => hfz j (by omega))⟩, hfz.wide (by omega) (by omega)⟩
        exact hcut_38 (129 - 0 + 1) 0 (-1) (by omega) rfl (fun u hu => absurd hu (Nat.not_lt_zero u)) (Nat.lt_succ_self _) _ _ _ hS (lv_sub hl [2, 3, 4, 1, 0] rfl)
      · have i_7 := z_eq c_7
        rw [tI_0] at i_7
        have hncm := zbo_f hrc c_7
        refine lv_ldc (v := (-1000003)) hx hb hown (hts _ (List.mem_of_getElem? (i := 3) rfl)) dX10_carry_25 ?_
        refine z_iret hx hb hr hlocks hS ?_ dX10_carry_27
        show z_pm Z g (sp_carry (sg, rw9) (nI s1).toInt y.toInt) _ _
        unfold sp_carry
        rw [zite_t hzs, zite_t hy0, htn1, zite_f hncm]
        exact ⟨rfl, hW, z_fr.rf⟩
    · have i_4 := z_nle c_4
      rw [tI_0] at i_4
      have hbad : ¬ 0 ≤ y.toInt := by omega
      refine lv_ldc (v := (-1000002)) hx hb hown (hts _ (List.mem_of_getElem? (i := 2) rfl)) dX10_carry_14 ?_
      refine z_iret hx hb hr hlocks hS ?_ dX10_carry_16
      show z_pm Z g (sp_carry (sg, rw9) (nI s1).toInt y.toInt) _ _
      unfold sp_carry
      rw [zite_t hzs, zite_f hbad]
      exact ⟨rfl, hW, z_fr.rf⟩
  · have i_3 := z_ne c_3
    rw [tI_0] at i_3
    have hnv := zbo_t hrn c_3
    refine lv_ldc (v := (-1000001)) hx hb hown (hts _ (List.mem_of_getElem? (i := 1) rfl)) dX10_carry_7 ?_
    refine z_iret hx hb hr hlocks hS ?_ dX10_carry_9
    show z_pm Z g (sp_carry (sg, rw9) x.toInt y.toInt) _ _
    unfold sp_carry
    rw [zite_f hnv]
    exact ⟨rfl, hW, z_fr.rf⟩

