/-! rows of entries -/
abbrev zr : Type := Nat × (Nat → Int)
def z_row (Z : zT) (g : Nat → va_E) (k : Nat) (w : zr) : Prop := ∃ av : Nat → Int32, g k = .inr (6, [.ref (Z.2.1 (k + 1)), .int (nI w.1)]) ∧ g (k + 1) = .inl (Z.2.2.2 0, 12, .inl av) ∧ k + 1 < Z.1 ∧ w.1 ≤ 12 ∧ ∀ i, i < w.1 → (av i).toInt = w.2 i ∧ -20 ≤ w.2 i ∧ w.2 i ≤ 20
def zeg (w : zr) (t : Nat) : Int := if t < w.1 then w.2 t else 0
def ztr (a : Nat → Int) : Nat → Nat
  | 0 => 0
  | n + 1 => if a n = 0 then ztr a n else n + 1
theorem ztr_le (a : Nat → Int) : ∀ n, ztr a n ≤ n
  | 0 => Nat.le_refl 0
  | n + 1 => by
    have := ztr_le a n
    unfold ztr
    split <;> omega
theorem ztr_cong {a c : Nat → Int} : ∀ {n : Nat}, (∀ i, i < n → a i = c i) → ztr a n = ztr c n
  | 0, _ => rfl
  | n + 1, h => by
    unfold ztr
    rw [ztr_cong (n := n) (fun i hi => h i (by omega)), h n (by omega)]
theorem z_row.congr {Z : zT} {g g1 : Nat → va_E} {k : Nat} {w : zr} (h : z_row Z g k w) (h0 : g1 k = g k) (h1 : g1 (k + 1) = g (k + 1)) : z_row Z g1 k w := by
  obtain ⟨av, a1, a2, a3⟩ := h
  exact ⟨av, h0.trans a1, h1.trans a2, a3⟩
theorem zeg_bd {Z : zT} {g : Nat → va_E} {k : Nat} {w : zr} (h : z_row Z g k w) (t : Nat) : -20 ≤ zeg w t ∧ zeg w t ≤ 20 := by
  obtain ⟨av, a1, a2, a3, a4, a5⟩ := h
  unfold zeg
  split
  · exact (a5 t ‹_›).2
  · omega
theorem in_X6_entryOrZero_6 : ∀ w ∈ wsX60, w ∈ wsX6_entryOrZero := by decide +kernel
set_option maxHeartbeats 4000000 in
set_option maxRecDepth 100000 in
theorem k_entryOrZero (Z : zT) (g : Nat → va_E) (k : Nat) (w : zr) (hR : z_row Z g k w) (j : Nat) (hj : j < 1000) : z_Mi Z yX6_entryOrZero wsX6_entryOrZero 0 0 [.ref (Z.2.1 k), .int (nI j)] g (fun r g1 => g = g1 ∧ r.toInt = zeg w j) := by
  intro l sz
  obtain ⟨av, h_r, h_a, hkN, hn12, hav⟩ := id hR
  have hk0 : k < Z.1 := by omega
  have hk1 : k + 1 < Z.1 := by omega
  refine z_enter (maxL := 2) (ret := (some .int)) (lv := [(0, .ref (Z.2.1 k)), (1, .int (nI j))]) (plainFor_of_name (by decide +kernel)) rfl (fun ls h => by subst h; exact lv_entry [.ref (Z.2.1 k), .int (nI j)] (n := 2) (Nat.le_of_ble_eq_true rfl)) ?_
  intro p e s m args below meth c hx hb hml hr hlocks hown hts hK hS hsz ls hl
  refine lv_iload_n hx hb dX6_entryOrZero_0 rfl (lv_at hl 1 rfl) ?_
  refine lv_if_lt (tgt := 30) hx hb dX6_entryOrZero_1 (by decide) (fun c_1 => ?_) (fun c_1 => ?_)
  · have i_1 := z_lt c_1
    rw [nI_toInt (by omega)] at i_1
    rw [tI_0] at i_1
    exfalso; omega
  · have i_1 := z_nlt c_1
    rw [nI_toInt (by omega)] at i_1
    rw [tI_0] at i_1
    refine lv_iload_n hx hb dX6_entryOrZero_4 rfl (lv_at hl 1 rfl) ?_
    refine lv_aload_n hx hb dX6_entryOrZero_5 rfl (lv_at hl 0 rfl) ?_
    refine z_get (own := RX6) (C := RX6) (T := TX6) (N := 2) hx hb hts in_X6_entryOrZero_6 hown hK hS h_r hk0 rfl 1 (by decide) (List.mem_of_getElem? (i := 1) rfl) rfl rfl dX6_entryOrZero_6 ?_
    refine lv_icmp_ge (tgt := 30) hx hb dX6_entryOrZero_9 (by decide) (fun c_2 => ?_) (fun c_2 => ?_)
    · have i_2 := z_le c_2
      rw [nI_toInt (by omega)] at i_2
      rw [nI_toInt (by omega)] at i_2
      have hz : zeg w j = 0 := by unfold zeg; rw [if_neg (by omega)]
      refine lv_iconst (v := 0) hx hb dX6_entryOrZero_30 (by decide) ?_
      refine z_iret hx hb hr hlocks hS ?_ dX6_entryOrZero_31
      exact ⟨rfl, by rw [hz]; rfl⟩
    · have i_2 := z_nle c_2
      rw [nI_toInt (by omega)] at i_2
      rw [nI_toInt (by omega)] at i_2
      have hz : zeg w j = w.2 j := by unfold zeg; rw [if_pos (by omega)]
      refine lv_iload_n hx hb dX6_entryOrZero_12 rfl (lv_at hl 1 rfl) ?_
      refine lv_aload_n hx hb dX6_entryOrZero_13 rfl (lv_at hl 0 rfl) ?_
      refine z_get (own := RX6) (C := RX6) (T := TX6) (N := 2) hx hb hts in_X6_entryOrZero_6 hown hK hS h_r hk0 rfl 0 (by decide) (List.mem_of_getElem? (i := 2) rfl) rfl rfl dX6_entryOrZero_14 ?_
      refine z_alen (v := 12) hx hb hK hS 0 h_a hk1 rfl rfl dX6_entryOrZero_17 ?_
      refine lv_icmp_ge (tgt := 30) hx hb dX6_entryOrZero_18 (by decide) (fun c_3 => ?_) (fun c_3 => ?_)
      · have i_3 := z_le c_3
        rw [nI_toInt (by omega)] at i_3
        rw [tI_12] at i_3
        exfalso; omega
      · have i_3 := z_nle c_3
        rw [nI_toInt (by omega)] at i_3
        rw [tI_12] at i_3
        refine lv_aload_n hx hb dX6_entryOrZero_21 rfl (lv_at hl 0 rfl) ?_
        refine z_get (own := RX6) (C := RX6) (T := TX6) (N := 2) hx hb hts in_X6_entryOrZero_6 hown hK hS h_r hk0 rfl 0 (by decide) (List.mem_of_getElem? (i := 2) rfl) rfl rfl dX6_entryOrZero_22 ?_
        refine lv_iload_n hx hb dX6_entryOrZero_25 rfl (lv_at hl 1 rfl) ?_
        refine z_iald hx hb hK hS h_a hk1 (vp_in_nI (by omega) (by omega)) dX6_entryOrZero_26 ?_
        rw [show av (nI j).toNatClampNeg = av j from by rw [nI_clamp (by omega)]]
        refine lv_goto (tgt := 31) hx hb dX6_entryOrZero_27 (by decide) ?_
        refine z_iret hx hb hr hlocks hS ?_ dX6_entryOrZero_31
        exact ⟨rfl, by rw [hz]; exact (hav j (by omega)).1⟩

theorem in_X6_append_6 : ∀ w ∈ wsX60, w ∈ wsX6_append := by decide +kernel
set_option maxHeartbeats 4000000 in
set_option maxRecDepth 100000 in
theorem k_rappend (Z : zT) (g : Nat → va_E) (k : Nat) (w : zr) (hR : z_row Z g k w) (x : Int32) (hx20 : -20 ≤ x.toInt ∧ x.toInt ≤ 20) (hn : w.1 < 12) : z_Mv Z yX6_append wsX6_append 0 0 [.ref (Z.2.1 k), .int x] g (fun g1 => z_row Z g1 k (w.1 + 1, fun i => if i = w.1 then x.toInt else w.2 i) ∧ z_fr k 2 g g1) := by
  intro l sz
  obtain ⟨av, h_r, h_a, hkN, hn12, hav⟩ := id hR
  have hk0 : k < Z.1 := by omega
  have hk1 : k + 1 < Z.1 := by omega
  refine z_enter (maxL := 2) (ret := none) (lv := [(0, .ref (Z.2.1 k)), (1, .int x)]) (plainFor_of_name (by decide +kernel)) rfl (fun ls h => by subst h; exact lv_entry [.ref (Z.2.1 k), .int x] (n := 2) (Nat.le_of_ble_eq_true rfl)) ?_
  intro p e s m args below meth c hx hb hml hr hlocks hown hts hK hS hsz ls hl
  refine lv_aload_n hx hb dX6_append_0 rfl (lv_at hl 0 rfl) ?_
  refine z_get (own := RX6) (C := RX6) (T := TX6) (N := 2) hx hb hts in_X6_append_6 hown hK hS h_r hk0 rfl 1 (by decide) (List.mem_of_getElem? (i := 1) rfl) rfl rfl dX6_append_1 ?_
  refine lv_if_lt (tgt := 39) hx hb dX6_append_4 (by decide) (fun c_1 => ?_) (fun c_1 => ?_)
  · have i_1 := z_lt c_1
    rw [nI_toInt (by omega)] at i_1
    rw [tI_0] at i_1
    exfalso; omega
  · have i_1 := z_nlt c_1
    rw [nI_toInt (by omega)] at i_1
    rw [tI_0] at i_1
    refine lv_aload_n hx hb dX6_append_7 rfl (lv_at hl 0 rfl) ?_
    refine z_get (own := RX6) (C := RX6) (T := TX6) (N := 2) hx hb hts in_X6_append_6 hown hK hS h_r hk0 rfl 1 (by decide) (List.mem_of_getElem? (i := 1) rfl) rfl rfl dX6_append_8 ?_
    refine lv_aload_n hx hb dX6_append_11 rfl (lv_at hl 0 rfl) ?_
    refine z_get (own := RX6) (C := RX6) (T := TX6) (N := 2) hx hb hts in_X6_append_6 hown hK hS h_r hk0 rfl 0 (by decide) (List.mem_of_getElem? (i := 2) rfl) rfl rfl dX6_append_12 ?_
    refine z_alen (v := 12) hx hb hK hS 0 h_a hk1 rfl rfl dX6_append_15 ?_
    refine lv_icmp_ge (tgt := 39) hx hb dX6_append_16 (by decide) (fun c_2 => ?_) (fun c_2 => ?_)
    · have i_2 := z_le c_2
      rw [nI_toInt (by omega)] at i_2
      rw [tI_12] at i_2
      exfalso; omega
    · have i_2 := z_nle c_2
      rw [nI_toInt (by omega)] at i_2
      rw [tI_12] at i_2
      refine lv_aload_n hx hb dX6_append_19 rfl (lv_at hl 0 rfl) ?_
      refine z_get (own := RX6) (C := RX6) (T := TX6) (N := 2) hx hb hts in_X6_append_6 hown hK hS h_r hk0 rfl 0 (by decide) (List.mem_of_getElem? (i := 2) rfl) rfl rfl dX6_append_20 ?_
      refine lv_aload_n hx hb dX6_append_23 rfl (lv_at hl 0 rfl) ?_
      refine z_get (own := RX6) (C := RX6) (T := TX6) (N := 2) hx hb hts in_X6_append_6 hown hK hS h_r hk0 rfl 1 (by decide) (List.mem_of_getElem? (i := 1) rfl) rfl rfl dX6_append_24 ?_
      refine lv_iload_n hx hb dX6_append_27 rfl (lv_at hl 1 rfl) ?_
      refine z_iast hx hb hK hS h_a hk1 (vp_in_nI (by omega) (by omega)) dX6_append_28 (fun g_3 H locs hg_3 hS => ?_)
      have h_a : g_3 (k + 1) = .inl (Z.2.2.2 0, 12, .inl (upd av (nI w.1).toNatClampNeg x)) := z_up_s hg_3
      have h_r := z_up_n hg_3 h_r (by omega)
      refine lv_aload_n hx hb dX6_append_29 rfl (lv_at hl 0 rfl) ?_
      refine lv_dup hx hb dX6_append_30 rfl ?_
      refine z_get (own := RX6) (C := RX6) (T := TX6) (N := 2) hx hb hts in_X6_append_6 hown hK hS h_r hk0 rfl 1 (by decide) (List.mem_of_getElem? (i := 1) rfl) rfl rfl dX6_append_31 ?_
      refine lv_iconst (v := 1) hx hb dX6_append_34 (by decide) ?_
      refine lv_iadd hx hb dX6_append_35 ?_
      rw [show (nI w.1) + 1 = nI (w.1 + 1) from nI_1 _]
      refine z_put (fs' := [.ref (Z.2.1 (k + 1)), .int (nI (w.1 + 1))]) (own := RX6) (C := RX6) (T := TX6) (N := 2) hx hb hts in_X6_append_6 tyX6 tyX6_ok nmX6 hown hK hS h_r hk0 rfl 1 (by decide) (List.mem_of_getElem? (i := 1) rfl) rfl rfl rfl rfl (Nat.le_of_ble_eq_true rfl) rfl dX6_append_36 (fun g_4 H locs hg_4 hS => ?_)
      have h_r : g_4 k = .inr (6, [.ref (Z.2.1 (k + 1)), .int (nI (w.1 + 1))]) := z_up_s hg_4
      have h_a := z_up_n hg_4 h_a (by omega)
      refine z_vret hx hb hr hlocks hS ?_ dX6_append_39
      exact ⟨⟨_, h_r, h_a, hkN, hn, fun i hi => by
        simp only at hi ⊢
        rw [nI_clamp (by omega)]
        by_cases h1 : i = w.1
        · subst h1; rw [pk_us, if_pos rfl]; exact ⟨rfl, hx20⟩
        · rw [pk_un h1, if_neg h1]; exact hav i (by omega)⟩, ((z_fr.rf.up hg_3 (by omega)).up hg_4 (by omega))⟩

theorem in_X6_become_6 : ∀ w ∈ wsX60, w ∈ wsX6_become := by decide +kernel
set_option maxHeartbeats 4000000 in
set_option maxRecDepth 100000 in
theorem k_rbecome (Z : zT) (g : Nat → va_E) (k : Nat) (w : zr) (hR : z_row Z g k w) (k2 : Nat) (w2 : zr) (hR2 : z_row Z g k2 w2) (hkk : k + 2 ≤ k2 ∨ k2 + 2 ≤ k) : z_Mv Z yX6_become wsX6_become 1 21 [.ref (Z.2.1 k), .ref (Z.2.1 k2)] g (fun g1 => z_row Z g1 k w2 ∧ z_fr k 2 g g1) := by
  intro l sz
  obtain ⟨av, h_r, h_a, hkN, hn12, hav⟩ := id hR
  have hk0 : k < Z.1 := by omega
  have hk1 : k + 1 < Z.1 := by omega
  obtain ⟨av2, h_r2, h_a2, hkN2, hn122, hav2⟩ := id hR2
  have hk02 : k2 < Z.1 := by omega
  have hk12 : k2 + 1 < Z.1 := by omega
  refine z_enter (maxL := 3) (ret := none) (lv := [(0, .ref (Z.2.1 k)), (1, .ref (Z.2.1 k2))]) (plainFor_of_name (by decide +kernel)) rfl (fun ls h => by subst h; exact lv_entry [.ref (Z.2.1 k), .ref (Z.2.1 k2)] (n := 3) (Nat.le_of_ble_eq_true rfl)) ?_
  intro p e s m args below meth c hx hb hml hr hlocks hown hts hK hS hsz ls hl
  refine lv_iconst (v := 0) hx hb dX6_become_0 (by decide) ?_
  refine lv_istore_n (lv' := [(2, .int 0), (0, .ref (Z.2.1 k)), (1, .ref (Z.2.1 k2))]) hx hb dX6_become_1 rfl hl (by decide) rfl (fun ls hl => ?_)
  have hcut_2 : ∀ (nn_2 : Nat) (j : Nat) (cv : Nat → Int32) (ga : Nat → va_E) (h_r : ga k = .inr (6, [.ref (Z.2.1 (k + 1)), .int (nI w.1)])) (h_a : ga (k + 1) = .inl (Z.2.2.2 0, 12, .inl cv)) (h_r2 : ga k2 = .inr (6, [.ref (Z.2.1 (k2 + 1)), .int (nI w2.1)])) (h_a2 : ga (k2 + 1) = .inl (Z.2.2.2 0, 12, .inl av2)) (hfr_ga : z_fr k 2 g ga) (hj : j ≤ 12) (hcv : ∀ i, i < j → (cv i).toInt = zeg w2 i) (hm_2 : 12 - j < nn_2) (H : Heap) (locs : List Loc) (ls : Array Slot), z_S Z (z_A Z sz) s.heap ga H locs → lv_has ls 3 [(0, .ref (Z.2.1 k)), (1, .ref (Z.2.1 k2)), (2, .int (nI j))] → W p l e (headSpec wsX6_become (z_rm 1 21)).room s m args below meth c H locs 0 0 (MQ below (va_Qv (fun g1 => z_row Z g1 k w2 ∧ z_fr k 2 g g1) (z_B Z) (z_A Z sz)) args s 0 0 (z_A Z sz)) (F0 m 2 ls []) := by
    intro nn_2
    induction nn_2 with
    | zero => intro j cv ga h_r h_a h_r2 h_a2 hfr_ga hj hcv hm_2 H locs ls hS hl; exact absurd hm_2 (Nat.not_lt_zero _)
    | succ nn_2 ih_2 =>
      intro j cv ga h_r h_a h_r2 h_a2 hfr_ga hj hcv hm_2 H locs ls hS hl
      refine lv_iload_n hx hb dX6_become_2 rfl (lv_at hl 2 rfl) ?_
      refine lv_aload_n hx hb dX6_become_3 rfl (lv_at hl 0 rfl) ?_
      refine z_get (own := RX6) (C := RX6) (T := TX6) (N := 2) hx hb hts in_X6_become_6 hown hK hS h_r hk0 rfl 0 (by decide) (List.mem_of_getElem? (i := 1) rfl) rfl rfl dX6_become_4 ?_
      refine z_alen (v := 12) hx hb hK hS 0 h_a hk1 rfl rfl dX6_become_7 ?_
      refine lv_icmp_ge (tgt := 28) hx hb dX6_become_8 (by decide) (fun c_1 => ?_) (fun c_1 => ?_)
      · have i_1 := z_le c_1
        rw [nI_toInt (by omega)] at i_1
        rw [tI_12] at i_1
        have hj12 : j = 12 := by omega
        subst hj12
        refine lv_aload_n hx hb dX6_become_28 rfl (lv_at hl 0 rfl) ?_
        refine lv_aload_n hx hb dX6_become_29 rfl (lv_at hl 1 rfl) ?_
        refine z_get (own := RX6) (C := RX6) (T := TX6) (N := 2) hx hb hts in_X6_become_6 hown hK hS h_r2 hk02 rfl 1 (by decide) (List.mem_of_getElem? (i := 2) rfl) rfl rfl dX6_become_30 ?_
        refine z_put (fs' := [.ref (Z.2.1 (k + 1)), .int (nI w2.1)]) (own := RX6) (C := RX6) (T := TX6) (N := 2) hx hb hts in_X6_become_6 tyX6 tyX6_ok nmX6 hown hK hS h_r hk0 rfl 1 (by decide) (List.mem_of_getElem? (i := 2) rfl) rfl rfl rfl rfl (Nat.le_of_ble_eq_true rfl) rfl dX6_become_33 (fun g_2 H locs hg_2 hS => ?_)
        have h_r : g_2 k = .inr (6, [.ref (Z.2.1 (k + 1)), .int (nI w2.1)]) := z_up_s hg_2
        have h_a := z_up_n hg_2 h_a (by omega)
        have h_r2 := z_up_n hg_2 h_r2 (by omega)
        have h_a2 := z_up_n hg_2 h_a2 (by omega)
        refine z_vret hx hb hr hlocks hS ?_ dX6_become_36
        exact ⟨⟨_, h_r, h_a, hkN, hn122, fun i hi => ⟨by rw [hcv i (by omega)]; unfold zeg; rw [if_pos hi], (hav2 i hi).2⟩⟩, (hfr_ga.up hg_2 (by omega))⟩
      · have i_1 := z_nle c_1
        rw [nI_toInt (by omega)] at i_1
        rw [tI_12] at i_1
        refine lv_aload_n hx hb dX6_become_11 rfl (lv_at hl 0 rfl) ?_
        refine z_get (own := RX6) (C := RX6) (T := TX6) (N := 2) hx hb hts in_X6_become_6 hown hK hS h_r hk0 rfl 0 (by decide) (List.mem_of_getElem? (i := 1) rfl) rfl rfl dX6_become_12 ?_
        refine lv_iload_n hx hb dX6_become_15 rfl (lv_at hl 2 rfl) ?_
        refine lv_aload_n hx hb dX6_become_16 rfl (lv_at hl 1 rfl) ?_
        refine lv_iload_n hx hb dX6_become_17 rfl (lv_at hl 2 rfl) ?_
        refine z_calli (z_runV (As := [.int (nI j)]) (rest := [.int (nI j), .ref (Z.2.1 (k + 1))]) ⟨hx, hb, hml, hown, hts⟩ hK hS ((k_entryOrZero Z ga k2 w2 ⟨av2, h_r2, h_a2, hkN2, hn122, hav2⟩ j (by omega)) l _) gX6_become_X6_entryOrZero rfl 1 (by decide +kernel) ⟨Nat.le_of_ble_eq_true rfl, Nat.le_of_ble_eq_true rfl⟩ h_r2 hk02 rfl rfl hl.1 rfl (Nat.le_of_ble_eq_true rfl) dX6_become_18 ⟨Nat.le_of_ble_eq_true rfl, Nat.le_of_ble_eq_true rfl⟩) hS (fun ee g_3 H locs hp_4 hS => ?_)
        obtain ⟨rfl, hp_4⟩ := hp_4
        have hee := hp_4
        refine z_iast hx hb hK hS h_a hk1 (vp_in_nI (by omega) (by omega)) dX6_become_21 (fun g_5 H locs hg_5 hS => ?_)
        have h_a : g_5 (k + 1) = .inl (Z.2.2.2 0, 12, .inl (upd cv (nI j).toNatClampNeg ee)) := z_up_s hg_5
        have h_r := z_up_n hg_5 h_r (by omega)
        have h_r2 := z_up_n hg_5 h_r2 (by omega)
        have h_a2 := z_up_n hg_5 h_a2 (by omega)
        refine lv_iinc (v := (nI (j + 1))) (lv' := [(2, .int (nI (j + 1))), (0, .ref (Z.2.1 k)), (1, .ref (Z.2.1 k2))]) hx hb dX6_become_22 hl (k := 2) rfl (nI_1 _) (by decide) rfl (fun ls hl => ?_)
        refine lv_goto (tgt := 2) hx hb dX6_become_25 (by decide) ?_
        exact ih_2 (j + 1) (upd cv (nI j).toNatClampNeg ee) g_5 h_r h_a h_r2 h_a2 (hfr_ga.up hg_5 (by omega)) (by omega) (fun i h => by
            rw [nI_clamp (by omega)]
            by_cases h1 : i = j
            · subst h1; rw [pk_us]; exact hee
            · rw [pk_un h1]; exact hcv i (by omega)) (by omega) _ _ _ hS (lv_sub hl [1, 2, 0] rfl)
  exact hcut_2 (12 - 0 + 1) 0 av g h_r h_a h_r2 h_a2 z_fr.rf (by omega) (fun i h => absurd h (Nat.not_lt_zero i)) (Nat.lt_succ_self _) _ _ _ hS (lv_sub hl [1, 2, 0] rfl)

theorem in_X6_dropZerosAtEnd_6 : ∀ w ∈ wsX60, w ∈ wsX6_dropZerosAtEnd := by decide +kernel
set_option maxHeartbeats 4000000 in
set_option maxRecDepth 100000 in
theorem k_dropZeros (Z : zT) (g : Nat → va_E) (k : Nat) (w : zr) (hR : z_row Z g k w) : z_Mv Z yX6_dropZerosAtEnd wsX6_dropZerosAtEnd 1 21 [.ref (Z.2.1 k)] g (fun g1 => z_row Z g1 k (ztr w.2 w.1, w.2) ∧ z_fr k 2 g g1) := by
  intro l sz
  obtain ⟨av, h_r, h_a, hkN, hn12, hav⟩ := id hR
  have hk0 : k < Z.1 := by omega
  have hk1 : k + 1 < Z.1 := by omega
  refine z_enter (maxL := 2) (ret := none) (lv := [(0, .ref (Z.2.1 k))]) (plainFor_of_name (by decide +kernel)) rfl (fun ls h => by subst h; exact lv_entry [.ref (Z.2.1 k)] (n := 2) (Nat.le_of_ble_eq_true rfl)) ?_
  intro p e s m args below meth c hx hb hml hr hlocks hown hts hK hS hsz ls hl
  refine lv_aload_n hx hb dX6_dropZerosAtEnd_0 rfl (lv_at hl 0 rfl) ?_
  refine z_get (own := RX6) (C := RX6) (T := TX6) (N := 2) hx hb hts in_X6_dropZerosAtEnd_6 hown hK hS h_r hk0 rfl 0 (by decide) (List.mem_of_getElem? (i := 1) rfl) rfl rfl dX6_dropZerosAtEnd_1 ?_
  refine z_alen (v := 12) hx hb hK hS 0 h_a hk1 rfl rfl dX6_dropZerosAtEnd_4 ?_
  refine lv_istore_n (lv' := [(1, .int 12), (0, .ref (Z.2.1 k))]) hx hb dX6_dropZerosAtEnd_5 rfl hl (by decide) rfl (fun ls hl => ?_)
  have hcut_6 : ∀ (nn_6 : Nat) (i : Nat) (n : Nat) (ga : Nat → va_E) (h_r : ga k = .inr (6, [.ref (Z.2.1 (k + 1)), .int (nI n)])) (h_a : ga (k + 1) = .inl (Z.2.2.2 0, 12, .inl av)) (hfr_ga : z_fr k 2 g ga) (hni : n ≤ i) (hnw : n ≤ w.1 ∧ i ≤ 12) (hzt : ztr w.2 w.1 = ztr w.2 n) (hm_6 : i < nn_6) (H : Heap) (locs : List Loc) (ls : Array Slot), z_S Z (z_A Z sz) s.heap ga H locs → lv_has ls 2 [(0, .ref (Z.2.1 k)), (1, .int (nI i))] → W p l e (headSpec wsX6_dropZerosAtEnd (z_rm 1 21)).room s m args below meth c H locs 0 0 (MQ below (va_Qv (fun g1 => z_row Z g1 k (ztr w.2 w.1, w.2) ∧ z_fr k 2 g g1) (z_B Z) (z_A Z sz)) args s 0 0 (z_A Z sz)) (F0 m 6 ls []) := by
    intro nn_6
    induction nn_6 with
    | zero => intro i n ga h_r h_a hfr_ga hni hnw hzt hm_6 H locs ls hS hl; exact absurd hm_6 (Nat.not_lt_zero _)
    | succ nn_6 ih_6 =>
      intro i n ga h_r h_a hfr_ga hni hnw hzt hm_6 H locs ls hS hl
      refine lv_iload_n hx hb dX6_dropZerosAtEnd_6 rfl (lv_at hl 1 rfl) ?_
      refine lv_if_le (tgt := 46) hx hb dX6_dropZerosAtEnd_7 (by decide) (fun c_1 => ?_) (fun c_1 => ?_)
      · have i_1 := z_le c_1
        rw [nI_toInt (by omega)] at i_1
        rw [tI_0] at i_1
        have hn0 : n = 0 := by omega
        subst hn0
        have hzz : ztr w.2 w.1 = 0 := hzt
        refine z_vret hx hb hr hlocks hS ?_ dX6_dropZerosAtEnd_46
        exact ⟨⟨_, (by rw [hzz]; exact h_r), h_a, hkN, (by show ztr w.2 w.1 ≤ 12; omega), fun i hi => hav i (by simp only at hi; omega)⟩, hfr_ga⟩
      · have i_1 := z_nle c_1
        rw [nI_toInt (by omega)] at i_1
        rw [tI_0] at i_1
        obtain ⟨i0, rfl⟩ : ∃ i0, i = i0 + 1 := ⟨i - 1, by omega⟩
        refine lv_aload_n hx hb dX6_dropZerosAtEnd_10 rfl (lv_at hl 0 rfl) ?_
        refine z_get (own := RX6) (C := RX6) (T := TX6) (N := 2) hx hb hts in_X6_dropZerosAtEnd_6 hown hK hS h_r hk0 rfl 1 (by decide) (List.mem_of_getElem? (i := 2) rfl) rfl rfl dX6_dropZerosAtEnd_11 ?_
        refine lv_if_le (tgt := 46) hx hb dX6_dropZerosAtEnd_14 (by decide) (fun c_2 => ?_) (fun c_2 => ?_)
        · have i_2 := z_le c_2
          rw [nI_toInt (by omega)] at i_2
          rw [tI_0] at i_2
          have hn0 : n = 0 := by omega
          subst hn0
          have hzz : ztr w.2 w.1 = 0 := hzt
          refine z_vret hx hb hr hlocks hS ?_ dX6_dropZerosAtEnd_46
          exact ⟨⟨_, (by rw [hzz]; exact h_r), h_a, hkN, (by show ztr w.2 w.1 ≤ 12; omega), fun i hi => hav i (by simp only at hi; omega)⟩, hfr_ga⟩
        · have i_2 := z_nle c_2
          rw [nI_toInt (by omega)] at i_2
          rw [tI_0] at i_2
          obtain ⟨n0, rfl⟩ : ∃ n0, n = n0 + 1 := ⟨n - 1, by omega⟩
          refine lv_aload_n hx hb dX6_dropZerosAtEnd_17 rfl (lv_at hl 0 rfl) ?_
          refine lv_aload_n hx hb dX6_dropZerosAtEnd_18 rfl (lv_at hl 0 rfl) ?_
          refine z_get (own := RX6) (C := RX6) (T := TX6) (N := 2) hx hb hts in_X6_dropZerosAtEnd_6 hown hK hS h_r hk0 rfl 1 (by decide) (List.mem_of_getElem? (i := 2) rfl) rfl rfl dX6_dropZerosAtEnd_19 ?_
          refine lv_iconst (v := 1) hx hb dX6_dropZerosAtEnd_22 (by decide) ?_
          refine lv_isub hx hb dX6_dropZerosAtEnd_23 ?_
          rw [show (nI (n0 + 1)) - 1 = nI n0 from nI_pred _]
          refine z_calli (z_runV (As := [.int (nI n0)]) (rest := []) ⟨hx, hb, hml, hown, hts⟩ hK hS ((k_entryOrZero Z ga k (n0 + 1, w.2) ⟨av, h_r, h_a, hkN, (by omega), fun i hi => hav i (by simp only at hi; omega)⟩ n0 (by omega)) l _) gX6_dropZerosAtEnd_X6_entryOrZero rfl 1 (by decide +kernel) ⟨Nat.le_of_ble_eq_true rfl, Nat.le_of_ble_eq_true rfl⟩ h_r hk0 rfl rfl hl.1 rfl (Nat.le_of_ble_eq_true rfl) dX6_dropZerosAtEnd_24 ⟨Nat.le_of_ble_eq_true rfl, Nat.le_of_ble_eq_true rfl⟩) hS (fun ee g_3 H locs hp_4 hS => ?_)
          obtain ⟨rfl, hp_4⟩ := hp_4
          have hee : ee.toInt = w.2 n0 := by rw [hp_4]; unfold zeg; rw [if_pos (Nat.lt_succ_self n0)]
          refine lv_if_ne (tgt := 46) hx hb dX6_dropZerosAtEnd_27 (by decide) (fun c_5 => ?_) (fun c_5 => ?_)
          · have i_5 := z_ne c_5
            rw [tI_0] at i_5
            have hzz : ztr w.2 w.1 = n0 + 1 := by rw [hzt]; show (if w.2 n0 = 0 then ztr w.2 n0 else n0 + 1) = _; rw [if_neg (by omega)]
            refine z_vret hx hb hr hlocks hS ?_ dX6_dropZerosAtEnd_46
            exact ⟨⟨_, (by rw [hzz]; exact h_r), h_a, hkN, (by show ztr w.2 w.1 ≤ 12; omega), fun i hi => hav i (by simp only at hi; omega)⟩, hfr_ga⟩
          · have i_5 := z_eq c_5
            rw [tI_0] at i_5
            refine lv_aload_n hx hb dX6_dropZerosAtEnd_30 rfl (lv_at hl 0 rfl) ?_
            refine lv_dup hx hb dX6_dropZerosAtEnd_31 rfl ?_
            refine z_get (own := RX6) (C := RX6) (T := TX6) (N := 2) hx hb hts in_X6_dropZerosAtEnd_6 hown hK hS h_r hk0 rfl 1 (by decide) (List.mem_of_getElem? (i := 2) rfl) rfl rfl dX6_dropZerosAtEnd_32 ?_
            refine lv_iconst (v := 1) hx hb dX6_dropZerosAtEnd_35 (by decide) ?_
            refine lv_isub hx hb dX6_dropZerosAtEnd_36 ?_
            rw [show (nI (n0 + 1)) - 1 = nI n0 from nI_pred _]
            refine z_put (fs' := [.ref (Z.2.1 (k + 1)), .int (nI n0)]) (own := RX6) (C := RX6) (T := TX6) (N := 2) hx hb hts in_X6_dropZerosAtEnd_6 tyX6 tyX6_ok nmX6 hown hK hS h_r hk0 rfl 1 (by decide) (List.mem_of_getElem? (i := 2) rfl) rfl rfl rfl rfl (Nat.le_of_ble_eq_true rfl) rfl dX6_dropZerosAtEnd_37 (fun g_6 H locs hg_6 hS => ?_)
            have h_r : g_6 k = .inr (6, [.ref (Z.2.1 (k + 1)), .int (nI n0)]) := z_up_s hg_6
            have h_a := z_up_n hg_6 h_a (by omega)
            refine lv_iinc (v := (nI i0)) (lv' := [(1, .int (nI i0)), (0, .ref (Z.2.1 k))]) hx hb dX6_dropZerosAtEnd_40 hl (k := 1) rfl (pk_m1 _) (by decide) rfl (fun ls hl => ?_)
            refine lv_goto (tgt := 6) hx hb dX6_dropZerosAtEnd_43 (by decide) ?_
            exact ih_6 i0 n0 g_6 h_r h_a (hfr_ga.up hg_6 (by omega)) (by omega) (by omega) (by rw [hzt]; show (if w.2 n0 = 0 then ztr w.2 n0 else n0 + 1) = _; rw [if_pos (by omega)]) (by omega) _ _ _ hS (lv_sub hl [1, 0] rfl)
  exact hcut_6 (12 + 1) 12 w.1 g h_r h_a z_fr.rf (by omega) (by omega) rfl (Nat.lt_succ_self _) _ _ _ hS (lv_sub hl [1, 0] rfl)

