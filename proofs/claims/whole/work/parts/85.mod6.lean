/-! the reference: its rows -/
theorem z_mx.row {Z : zT} {g g1 : Nat → va_E} {rw9 : Nat → zr} (h : z_mx Z g rw9) {r : Nat} {w : zr} {fl fe fl1 fe1 : Nat → Int32} (hw : w.1 ≤ 12) (hfl : ∀ r, r < 3 → fl r = nI (rw9 r).1 ∧ (rw9 r).1 ≤ 12) (hfe : ∀ r, r < 3 → ∀ i, i < (rw9 r).1 → (fe (12 * r + i)).toInt = (rw9 r).2 i ∧ -20 ≤ (rw9 r).2 i ∧ (rw9 r).2 i ≤ 20) (h52 : g1 52 = .inl (Z.2.2.2 0, 3, .inl fl1)) (h53 : g1 53 = .inl (Z.2.2.2 0, 36, .inl fe1)) (hf : ∀ j, 46 ≤ j → j < 57 → j ≠ 52 → j ≠ 53 → g1 j = g j) (hl : ∀ k, fl1 k = if k = r then nI w.1 else fl k) (he : ∀ k, (k < 12 * r ∨ 12 * r + 12 ≤ k) → fe1 k = fe k) (hv : ∀ i, i < w.1 → (fe1 (12 * r + i)).toInt = w.2 i ∧ -20 ≤ w.2 i ∧ w.2 i ≤ 20) : z_mx Z g1 (zupd rw9 r w) := by
  obtain ⟨⟨f1, a1⟩, ⟨f2, a2⟩, ⟨f3, a3⟩, ⟨f4, a4⟩, ⟨f5, a5⟩, ⟨f6, a6⟩, -, -, ⟨f9, a9⟩, ⟨f10, a10⟩, f11, a11⟩ := h
  refine ⟨⟨f1, (hf _ (by omega) (by omega) (by omega) (by omega)).trans a1⟩, ⟨f2, (hf _ (by omega) (by omega) (by omega) (by omega)).trans a2⟩, ⟨f3, (hf _ (by omega) (by omega) (by omega) (by omega)).trans a3⟩, ⟨f4, (hf _ (by omega) (by omega) (by omega) (by omega)).trans a4⟩, ⟨f5, (hf _ (by omega) (by omega) (by omega) (by omega)).trans a5⟩, ⟨f6, (hf _ (by omega) (by omega) (by omega) (by omega)).trans a6⟩, ⟨fl1, h52, fun t ht => ?_⟩, ⟨fe1, h53, fun t ht i hi => ?_⟩, ⟨f9, (hf _ (by omega) (by omega) (by omega) (by omega)).trans a9⟩, ⟨f10, (hf _ (by omega) (by omega) (by omega) (by omega)).trans a10⟩, f11, (hf _ (by omega) (by omega) (by omega) (by omega)).trans a11⟩
  · rw [hl]
    by_cases e : t = r
    · subst e; rw [zupd_s, if_pos rfl]; exact ⟨rfl, hw⟩
    · rw [zupd_n e, if_neg e]; exact hfl t ht
  · by_cases e : t = r
    · subst e; rw [zupd_s] at hi ⊢; exact hv i hi
    · rw [zupd_n e] at hi ⊢
      have h12 := (hfl t ht).2
      rw [he _ (by omega)]; exact hfe t ht i hi
theorem in_X10_size_10 : ∀ w ∈ wsX100, w ∈ wsX10_size := by decide +kernel
set_option maxHeartbeats 4000000 in
set_option maxRecDepth 100000 in
theorem m_size (Z : zT) (g : Nat → va_E) (sg : Nat → zb) (rw9 : Nat → zr) (hW : z_mw Z g sg rw9) (x : Int32) : z_Mi Z yX10_size wsX10_size 2 42 [.ref (Z.2.1 41), .int x] g (fun r g1 => z_pm Z g (sp_size (sg, rw9) x.toInt) r g1) := by
  intro l sz
  obtain ⟨v4, v5, v6, v15, v16, v17, hM9⟩ := hW.1.mp
  have hM := hM9.mr
  obtain ⟨fu, fq, fm, fd, h_m, h_u, h_q, h_n9, h_g, hMN, hSg⟩ := id hM9
  have hM41 : 41 < Z.1 := by omega
  have hM42 : 42 < Z.1 := by omega
  have hM43 : 43 < Z.1 := by omega
  have hM44 : 44 < Z.1 := by omega
  have hM45 : 45 < Z.1 := by omega
  obtain ⟨-, -, -, -, -, -, ⟨fl, h_l, hfl⟩, ⟨fe, h_e, hfe⟩, -, -, -⟩ := id hW.2
  have hM52 : 52 < Z.1 := by omega
  have hM53 : 53 < Z.1 := by omega
  refine z_enter (maxL := 2) (ret := (some .int)) (lv := [(0, .ref (Z.2.1 41)), (1, .int x)]) (plainFor_of_name (by decide +kernel)) rfl (fun ls h => by subst h; exact lv_entry [.ref (Z.2.1 41), .int x] (n := 2) (Nat.le_of_ble_eq_true rfl)) ?_
  intro p e s m args below meth c hx hb hml hr hlocks hown hts hK hS hsz ls hl
  refine lv_iload_n hx hb dX10_size_0 rfl (lv_at hl 1 rfl) ?_
  refine z_calli (z_runS (As := [.int x]) (rest := []) ⟨hx, hb, hml, hown, hts⟩ hK hS ((m_noRow Z g x) l _) gX10_size_X10_noRow rfl 1 (by decide +kernel) ⟨Nat.le_of_ble_eq_true rfl, Nat.le_of_ble_eq_true rfl⟩ rfl hl.1 rfl (Nat.le_of_ble_eq_true rfl) dX10_size_1 ⟨Nat.le_of_ble_eq_true rfl, Nat.le_of_ble_eq_true rfl⟩) hS (fun rn g_1 H locs hp_2 hS => ?_)
  obtain ⟨rfl, hp_2⟩ := hp_2
  have hrn := hp_2
  refine lv_if_eq (tgt := 12) hx hb dX10_size_4 (by decide) (fun c_3 => ?_) (fun c_3 => ?_)
  · have i_3 := z_eq c_3
    rw [tI_0] at i_3
    have hzs : zro x.toInt := Classical.byContradiction (zbo_f hrn c_3)
    obtain ⟨r1, er1, hr1x, -⟩ := z_nI_of (x := x) hzs.1
    subst er1
    have hr1 : r1 < 3 := by have := hzs.2; omega
    have htn1 : (nI r1).toInt.toNat = r1 := by omega
    obtain ⟨hlr, hl12⟩ := hfl r1 hr1
    have hev := hfe r1 hr1
    refine lv_aload_n hx hb dX10_size_12 rfl (lv_at hl 0 rfl) ?_
    refine z_get (own := RX10) (C := RX10) (T := TX10) (N := 21) hx hb hts in_X10_size_10 hown hK hS h_m hM41 rfl 13 (by decide) (List.mem_of_getElem? (i := 2) rfl) rfl rfl dX10_size_13 ?_
    refine lv_iload_n hx hb dX10_size_16 rfl (lv_at hl 1 rfl) ?_
    refine z_iald hx hb hK hS h_l hM52 (vp_in_nI (by omega) (by omega)) dX10_size_17 ?_
    rw [show fl (nI r1).toNatClampNeg = nI (rw9 r1).1 from by rw [nI_clamp (by omega)]; exact hlr]
    refine z_iret hx hb hr hlocks hS ?_ dX10_size_18
    show z_pm Z g (sp_size (sg, rw9) (nI r1).toInt) _ _
    unfold sp_size
    rw [zite_t hzs, htn1]
    exact ⟨nI_toInt (by omega), hW, z_fr.rf⟩
  · have i_3 := z_ne c_3
    rw [tI_0] at i_3
    have hnv := zbo_t hrn c_3
    refine lv_ldc (v := (-1000001)) hx hb hown (hts _ (List.mem_of_getElem? (i := 1) rfl)) dX10_size_7 ?_
    refine lv_goto (tgt := 18) hx hb dX10_size_9 (by decide) ?_
    refine z_iret hx hb hr hlocks hS ?_ dX10_size_18
    show z_pm Z g (sp_size (sg, rw9) x.toInt) _ _
    unfold sp_size
    rw [zite_f hnv]
    exact ⟨rfl, hW, z_fr.rf⟩

theorem in_X10_entry_10 : ∀ w ∈ wsX100, w ∈ wsX10_entry := by decide +kernel
set_option maxHeartbeats 4000000 in
set_option maxRecDepth 100000 in
theorem m_entry (Z : zT) (g : Nat → va_E) (sg : Nat → zb) (rw9 : Nat → zr) (hW : z_mw Z g sg rw9) (x y : Int32) : z_Mi Z yX10_entry wsX10_entry 2 42 [.ref (Z.2.1 41), .int x, .int y] g (fun r g1 => z_pm Z g (sp_entry (sg, rw9) x.toInt y.toInt) r g1) := by
  intro l sz
  obtain ⟨v4, v5, v6, v15, v16, v17, hM9⟩ := hW.1.mp
  have hM := hM9.mr
  obtain ⟨fu, fq, fm, fd, h_m, h_u, h_q, h_n9, h_g, hMN, hSg⟩ := id hM9
  have hM41 : 41 < Z.1 := by omega
  have hM42 : 42 < Z.1 := by omega
  have hM43 : 43 < Z.1 := by omega
  have hM44 : 44 < Z.1 := by omega
  have hM45 : 45 < Z.1 := by omega
  obtain ⟨-, -, -, -, -, -, ⟨fl, h_l, hfl⟩, ⟨fe, h_e, hfe⟩, -, -, -⟩ := id hW.2
  have hM52 : 52 < Z.1 := by omega
  have hM53 : 53 < Z.1 := by omega
  refine z_enter (maxL := 3) (ret := (some .int)) (lv := [(0, .ref (Z.2.1 41)), (1, .int x), (2, .int y)]) (plainFor_of_name (by decide +kernel)) rfl (fun ls h => by subst h; exact lv_entry [.ref (Z.2.1 41), .int x, .int y] (n := 3) (Nat.le_of_ble_eq_true rfl)) ?_
  intro p e s m args below meth c hx hb hml hr hlocks hown hts hK hS hsz ls hl
  refine lv_iload_n hx hb dX10_entry_0 rfl (lv_at hl 1 rfl) ?_
  refine z_calli (z_runS (As := [.int x]) (rest := []) ⟨hx, hb, hml, hown, hts⟩ hK hS ((m_noRow Z g x) l _) gX10_entry_X10_noRow rfl 1 (by decide +kernel) ⟨Nat.le_of_ble_eq_true rfl, Nat.le_of_ble_eq_true rfl⟩ rfl hl.1 rfl (Nat.le_of_ble_eq_true rfl) dX10_entry_1 ⟨Nat.le_of_ble_eq_true rfl, Nat.le_of_ble_eq_true rfl⟩) hS (fun rn g_1 H locs hp_2 hS => ?_)
  obtain ⟨rfl, hp_2⟩ := hp_2
  have hrn := hp_2
  refine lv_if_ne (tgt := 23) hx hb dX10_entry_4 (by decide) (fun c_3 => ?_) (fun c_3 => ?_)
  · have i_3 := z_ne c_3
    rw [tI_0] at i_3
    have hnv := zbo_t hrn c_3
    refine lv_ldc (v := (-1000001)) hx hb hown (hts _ (List.mem_of_getElem? (i := 2) rfl)) dX10_entry_23 ?_
    refine lv_goto (tgt := 39) hx hb dX10_entry_25 (by decide) ?_
    refine z_iret hx hb hr hlocks hS ?_ dX10_entry_39
    show z_pm Z g (sp_entry (sg, rw9) x.toInt y.toInt) _ _
    unfold sp_entry
    rw [zite_f hnv]
    exact ⟨rfl, hW, z_fr.rf⟩
  · have i_3 := z_eq c_3
    rw [tI_0] at i_3
    have hzs : zro x.toInt := Classical.byContradiction (zbo_f hrn c_3)
    obtain ⟨r1, er1, hr1x, -⟩ := z_nI_of (x := x) hzs.1
    subst er1
    have hr1 : r1 < 3 := by have := hzs.2; omega
    have htn1 : (nI r1).toInt.toNat = r1 := by omega
    obtain ⟨hlr, hl12⟩ := hfl r1 hr1
    have hev := hfe r1 hr1
    refine lv_iload_n hx hb dX10_entry_7 rfl (lv_at hl 2 rfl) ?_
    refine lv_iconst (v := 0) hx hb dX10_entry_8 (by decide) ?_
    refine lv_aload_n hx hb dX10_entry_9 rfl (lv_at hl 0 rfl) ?_
    refine z_get (own := RX10) (C := RX10) (T := TX10) (N := 21) hx hb hts in_X10_entry_10 hown hK hS h_m hM41 rfl 13 (by decide) (List.mem_of_getElem? (i := 1) rfl) rfl rfl dX10_entry_10 ?_
    refine lv_iload_n hx hb dX10_entry_13 rfl (lv_at hl 1 rfl) ?_
    refine z_iald hx hb hK hS h_l hM52 (vp_in_nI (by omega) (by omega)) dX10_entry_14 ?_
    rw [show fl (nI r1).toNatClampNeg = nI (rw9 r1).1 from by rw [nI_clamp (by omega)]; exact hlr]
    refine lv_iconst (v := 1) hx hb dX10_entry_15 (by decide) ?_
    refine lv_isub hx hb dX10_entry_16 ?_
    refine z_calli (z_runS (As := [.int y, .int 0, .int ((nI (rw9 r1).1) - 1)]) (rest := []) ⟨hx, hb, hml, hown, hts⟩ hK hS ((m_in Z g y 0 (nI (rw9 r1).1 - 1)) l _) gX10_entry_X10_in rfl 3 (by decide +kernel) ⟨Nat.le_of_ble_eq_true rfl, Nat.le_of_ble_eq_true rfl⟩ rfl hl.1 rfl (Nat.le_of_ble_eq_true rfl) dX10_entry_17 ⟨Nat.le_of_ble_eq_true rfl, Nat.le_of_ble_eq_true rfl⟩) hS (fun r1h g_4 H locs hp_5 hS => ?_)
    obtain ⟨rfl, hp_5⟩ := hp_5
    have hr1h := hp_5
    rw [tI_0, zm_pred (by omega)] at hr1h
    refine lv_if_ne (tgt := 28) hx hb dX10_entry_20 (by decide) (fun c_6 => ?_) (fun c_6 => ?_)
    · have i_6 := z_ne c_6
      rw [tI_0] at i_6
      have hin := zbo_t hr1h c_6
      obtain ⟨y9, ey9, hy9, -⟩ := z_nI_of (x := y) hin.1
      subst ey9
      have hy1 : y9 < (rw9 r1).1 := by have := hin.2; omega
      have hdy := (hev y9 hy1).1
      have hty : (nI y9).toInt.toNat = y9 := by omega
      refine lv_aload_n hx hb dX10_entry_28 rfl (lv_at hl 0 rfl) ?_
      refine z_get (own := RX10) (C := RX10) (T := TX10) (N := 21) hx hb hts in_X10_entry_10 hown hK hS h_m hM41 rfl 14 (by decide) (List.mem_of_getElem? (i := 3) rfl) rfl rfl dX10_entry_29 ?_
      refine lv_bipush (v := 12) hx hb dX10_entry_32 (by decide) ?_
      refine lv_iload_n hx hb dX10_entry_34 rfl (lv_at hl 1 rfl) ?_
      refine lv_imul hx hb dX10_entry_35 ?_
      refine lv_iload_n hx hb dX10_entry_36 rfl (lv_at hl 2 rfl) ?_
      refine lv_iadd hx hb dX10_entry_37 ?_
      rw [show (12 * (nI r1)) + (nI y9) = nI (12 * r1 + y9) from zm_ix (by omega) (by omega)]
      refine z_iald hx hb hK hS h_e hM53 (vp_in_nI (by omega) (by omega)) dX10_entry_38 ?_
      rw [show fe (nI (12 * r1 + y9)).toNatClampNeg = fe (12 * r1 + y9) from by rw [nI_clamp (by omega)]]
      refine z_iret hx hb hr hlocks hS ?_ dX10_entry_39
      show z_pm Z g (sp_entry (sg, rw9) (nI r1).toInt (nI y9).toInt) _ _
      unfold sp_entry
      rw [zite_t hzs, htn1, zite_t (show 0 ≤ (nI y9).toInt ∧ (nI y9).toInt < ((rw9 r1).1 : Int) by omega), hty]
      exact ⟨hdy, hW, z_fr.rf⟩
    · have i_6 := z_eq c_6
      rw [tI_0] at i_6
      have hnr : ¬ (0 ≤ y.toInt ∧ y.toInt < ((rw9 r1).1 : Int)) := fun h9 => zbo_f hr1h c_6 ⟨h9.1, by have := h9.2; omega⟩
      refine lv_ldc (v := (-1000001)) hx hb hown (hts _ (List.mem_of_getElem? (i := 2) rfl)) dX10_entry_23 ?_
      refine lv_goto (tgt := 39) hx hb dX10_entry_25 (by decide) ?_
      refine z_iret hx hb hr hlocks hS ?_ dX10_entry_39
      show z_pm Z g (sp_entry (sg, rw9) (nI r1).toInt y.toInt) _ _
      unfold sp_entry
      rw [zite_t hzs, htn1, zite_f hnr]
      exact ⟨rfl, hW, z_fr.rf⟩

theorem in_X10_clear_10 : ∀ w ∈ wsX100, w ∈ wsX10_clear := by decide +kernel
set_option maxHeartbeats 4000000 in
set_option maxRecDepth 100000 in
theorem m_clear (Z : zT) (g : Nat → va_E) (sg : Nat → zb) (rw9 : Nat → zr) (hW : z_mw Z g sg rw9) (x : Int32) : z_Mi Z yX10_clear wsX10_clear 2 42 [.ref (Z.2.1 41), .int x] g (fun r g1 => z_pm Z g (sp_clear (sg, rw9) x.toInt) r g1) := by
  intro l sz
  obtain ⟨v4, v5, v6, v15, v16, v17, hM9⟩ := hW.1.mp
  have hM := hM9.mr
  obtain ⟨fu, fq, fm, fd, h_m, h_u, h_q, h_n9, h_g, hMN, hSg⟩ := id hM9
  have hM41 : 41 < Z.1 := by omega
  have hM42 : 42 < Z.1 := by omega
  have hM43 : 43 < Z.1 := by omega
  have hM44 : 44 < Z.1 := by omega
  have hM45 : 45 < Z.1 := by omega
  obtain ⟨-, -, -, -, -, -, ⟨fl, h_l, hfl⟩, ⟨fe, h_e, hfe⟩, -, -, -⟩ := id hW.2
  have hM52 : 52 < Z.1 := by omega
  have hM53 : 53 < Z.1 := by omega
  refine z_enter (maxL := 3) (ret := (some .int)) (lv := [(0, .ref (Z.2.1 41)), (1, .int x)]) (plainFor_of_name (by decide +kernel)) rfl (fun ls h => by subst h; exact lv_entry [.ref (Z.2.1 41), .int x] (n := 3) (Nat.le_of_ble_eq_true rfl)) ?_
  intro p e s m args below meth c hx hb hml hr hlocks hown hts hK hS hsz ls hl
  refine lv_iload_n hx hb dX10_clear_0 rfl (lv_at hl 1 rfl) ?_
  refine z_calli (z_runS (As := [.int x]) (rest := []) ⟨hx, hb, hml, hown, hts⟩ hK hS ((m_noRow Z g x) l _) gX10_clear_X10_noRow rfl 1 (by decide +kernel) ⟨Nat.le_of_ble_eq_true rfl, Nat.le_of_ble_eq_true rfl⟩ rfl hl.1 rfl (Nat.le_of_ble_eq_true rfl) dX10_clear_1 ⟨Nat.le_of_ble_eq_true rfl, Nat.le_of_ble_eq_true rfl⟩) hS (fun rn g_1 H locs hp_2 hS => ?_)
  obtain ⟨rfl, hp_2⟩ := hp_2
  have hrn := hp_2
  refine lv_if_eq (tgt := 10) hx hb dX10_clear_4 (by decide) (fun c_3 => ?_) (fun c_3 => ?_)
  · have i_3 := z_eq c_3
    rw [tI_0] at i_3
    have hzs : zro x.toInt := Classical.byContradiction (zbo_f hrn c_3)
    obtain ⟨r1, er1, hr1x, -⟩ := z_nI_of (x := x) hzs.1
    subst er1
    have hr1 : r1 < 3 := by have := hzs.2; omega
    have htn1 : (nI r1).toInt.toNat = r1 := by omega
    obtain ⟨hlr, hl12⟩ := hfl r1 hr1
    have hev := hfe r1 hr1
    refine lv_aload_n hx hb dX10_clear_10 rfl (lv_at hl 0 rfl) ?_
    refine z_get (own := RX10) (C := RX10) (T := TX10) (N := 21) hx hb hts in_X10_clear_10 hown hK hS h_m hM41 rfl 13 (by decide) (List.mem_of_getElem? (i := 2) rfl) rfl rfl dX10_clear_11 ?_
    refine lv_iload_n hx hb dX10_clear_14 rfl (lv_at hl 1 rfl) ?_
    refine z_iald hx hb hK hS h_l hM52 (vp_in_nI (by omega) (by omega)) dX10_clear_15 ?_
    rw [show fl (nI r1).toNatClampNeg = nI (rw9 r1).1 from by rw [nI_clamp (by omega)]; exact hlr]
    refine lv_istore_n (lv' := [(2, .int (nI (rw9 r1).1)), (0, .ref (Z.2.1 41)), (1, .int (nI r1))]) hx hb dX10_clear_16 rfl hl (by decide) rfl (fun ls hl => ?_)
    refine lv_aload_n hx hb dX10_clear_17 rfl (lv_at hl 1 rfl) ?_
    refine z_get (own := RX10) (C := RX10) (T := TX10) (N := 21) hx hb hts in_X10_clear_10 hown hK hS h_m hM41 rfl 13 (by decide) (List.mem_of_getElem? (i := 2) rfl) rfl rfl dX10_clear_18 ?_
    refine lv_iload_n hx hb dX10_clear_21 rfl (lv_at hl 2 rfl) ?_
    refine lv_iconst (v := 0) hx hb dX10_clear_22 (by decide) ?_
    refine z_iast hx hb hK hS h_l hM52 (vp_in_nI (by omega) (by omega)) dX10_clear_23 (fun g_4 H locs hg_4 hS => ?_)
    have h_l : g_4 52 = .inl (Z.2.2.2 0, 3, .inl (upd fl (nI r1).toNatClampNeg 0)) := z_up_s hg_4
    have h_m := z_up_n hg_4 h_m (by omega)
    have h_u := z_up_n hg_4 h_u (by omega)
    have h_q := z_up_n hg_4 h_q (by omega)
    have h_n9 := z_up_n hg_4 h_n9 (by omega)
    have h_g := z_up_n hg_4 h_g (by omega)
    have h_e := z_up_n hg_4 h_e (by omega)
    refine lv_iload_n hx hb dX10_clear_24 rfl (lv_at hl 0 rfl) ?_
    refine z_iret hx hb hr hlocks hS ?_ dX10_clear_25
    show z_pm Z g (sp_clear (sg, rw9) (nI r1).toInt) _ _
    unfold sp_clear
    rw [zite_t hzs, htn1]
    have hfz : z_fr 52 2 g g_4 := (z_fr.rf.up hg_4 (by omega))
    rw [nI_clamp (by omega)] at h_l
    exact ⟨nI_toInt (by omega), ⟨⟨_, _, _, _, _, _, fu, fq, fm, fd, h_m, h_u, h_q, h_n9, h_g, hMN, hSg⟩, hW.2.row (r := r1) (w := (0, (rw9 r1).2)) (by show 0 ≤ 12; omega) hfl hfe h_l h_e (fun j h1 h2 h3 h4 => hfz j (by omega)) (fun k => by
      by_cases h9 : k = r1
      · rw [if_pos h9, h9, pk_us]; rfl
      · rw [if_neg h9, pk_un h9]) (fun k hk => rfl) (fun i hi => absurd hi (Nat.not_lt_zero i))⟩, hfz.wide (by omega) (by omega)⟩
  · have i_3 := z_ne c_3
    rw [tI_0] at i_3
    have hnv := zbo_t hrn c_3
    refine lv_ldc (v := (-1000001)) hx hb hown (hts _ (List.mem_of_getElem? (i := 1) rfl)) dX10_clear_7 ?_
    refine z_iret hx hb hr hlocks hS ?_ dX10_clear_9
    show z_pm Z g (sp_clear (sg, rw9) x.toInt) _ _
    unfold sp_clear
    rw [zite_f hnv]
    exact ⟨rfl, hW, z_fr.rf⟩

theorem in_X10_push_10 : ∀ w ∈ wsX100, w ∈ wsX10_push := by decide +kernel
set_option maxHeartbeats 4000000 in
set_option maxRecDepth 100000 in
theorem m_push (Z : zT) (g : Nat → va_E) (sg : Nat → zb) (rw9 : Nat → zr) (hW : z_mw Z g sg rw9) (x y : Int32) : z_Mi Z yX10_push wsX10_push 2 42 [.ref (Z.2.1 41), .int x, .int y] g (fun r g1 => z_pm Z g (sp_push (sg, rw9) x.toInt y.toInt) r g1) := by
  intro l sz
  obtain ⟨v4, v5, v6, v15, v16, v17, hM9⟩ := hW.1.mp
  have hM := hM9.mr
  obtain ⟨fu, fq, fm, fd, h_m, h_u, h_q, h_n9, h_g, hMN, hSg⟩ := id hM9
  have hM41 : 41 < Z.1 := by omega
  have hM42 : 42 < Z.1 := by omega
  have hM43 : 43 < Z.1 := by omega
  have hM44 : 44 < Z.1 := by omega
  have hM45 : 45 < Z.1 := by omega
  obtain ⟨-, -, -, -, -, -, ⟨fl, h_l, hfl⟩, ⟨fe, h_e, hfe⟩, -, -, -⟩ := id hW.2
  have hM52 : 52 < Z.1 := by omega
  have hM53 : 53 < Z.1 := by omega
  refine z_enter (maxL := 3) (ret := (some .int)) (lv := [(0, .ref (Z.2.1 41)), (1, .int x), (2, .int y)]) (plainFor_of_name (by decide +kernel)) rfl (fun ls h => by subst h; exact lv_entry [.ref (Z.2.1 41), .int x, .int y] (n := 3) (Nat.le_of_ble_eq_true rfl)) ?_
  intro p e s m args below meth c hx hb hml hr hlocks hown hts hK hS hsz ls hl
  refine lv_iload_n hx hb dX10_push_0 rfl (lv_at hl 1 rfl) ?_
  refine z_calli (z_runS (As := [.int x]) (rest := []) ⟨hx, hb, hml, hown, hts⟩ hK hS ((m_noRow Z g x) l _) gX10_push_X10_noRow rfl 1 (by decide +kernel) ⟨Nat.le_of_ble_eq_true rfl, Nat.le_of_ble_eq_true rfl⟩ rfl hl.1 rfl (Nat.le_of_ble_eq_true rfl) dX10_push_1 ⟨Nat.le_of_ble_eq_true rfl, Nat.le_of_ble_eq_true rfl⟩) hS (fun rn g_1 H locs hp_2 hS => ?_)
  obtain ⟨rfl, hp_2⟩ := hp_2
  have hrn := hp_2
  refine lv_if_eq (tgt := 10) hx hb dX10_push_4 (by decide) (fun c_3 => ?_) (fun c_3 => ?_)
  · have i_3 := z_eq c_3
    rw [tI_0] at i_3
    have hzs : zro x.toInt := Classical.byContradiction (zbo_f hrn c_3)
    obtain ⟨r1, er1, hr1x, -⟩ := z_nI_of (x := x) hzs.1
    subst er1
    have hr1 : r1 < 3 := by have := hzs.2; omega
    have htn1 : (nI r1).toInt.toNat = r1 := by omega
    obtain ⟨hlr, hl12⟩ := hfl r1 hr1
    have hev := hfe r1 hr1
    refine lv_iload_n hx hb dX10_push_10 rfl (lv_at hl 2 rfl) ?_
    refine lv_bipush (v := (-20)) hx hb dX10_push_11 (by decide) ?_
    refine lv_bipush (v := 20) hx hb dX10_push_13 (by decide) ?_
    refine z_calli (z_runS (As := [.int y, .int (-20), .int 20]) (rest := []) ⟨hx, hb, hml, hown, hts⟩ hK hS ((m_in Z g y (-20) 20) l _) gX10_push_X10_in rfl 3 (by decide +kernel) ⟨Nat.le_of_ble_eq_true rfl, Nat.le_of_ble_eq_true rfl⟩ rfl hl.1 rfl (Nat.le_of_ble_eq_true rfl) dX10_push_15 ⟨Nat.le_of_ble_eq_true rfl, Nat.le_of_ble_eq_true rfl⟩) hS (fun r1h g_4 H locs hp_5 hS => ?_)
    obtain ⟨rfl, hp_5⟩ := hp_5
    have hr1h := hp_5
    rw [tI_m20, tI_20] at hr1h
    refine lv_if_ne (tgt := 24) hx hb dX10_push_18 (by decide) (fun c_6 => ?_) (fun c_6 => ?_)
    · have i_6 := z_ne c_6
      rw [tI_0] at i_6
      have h20 := zbo_t hr1h c_6
      refine lv_aload_n hx hb dX10_push_24 rfl (lv_at hl 0 rfl) ?_
      refine z_get (own := RX10) (C := RX10) (T := TX10) (N := 21) hx hb hts in_X10_push_10 hown hK hS h_m hM41 rfl 13 (by decide) (List.mem_of_getElem? (i := 3) rfl) rfl rfl dX10_push_25 ?_
      refine lv_iload_n hx hb dX10_push_28 rfl (lv_at hl 1 rfl) ?_
      refine z_iald hx hb hK hS h_l hM52 (vp_in_nI (by omega) (by omega)) dX10_push_29 ?_
      rw [show fl (nI r1).toNatClampNeg = nI (rw9 r1).1 from by rw [nI_clamp (by omega)]; exact hlr]
      refine lv_bipush (v := 12) hx hb dX10_push_30 (by decide) ?_
      refine lv_icmp_ne (tgt := 38) hx hb dX10_push_32 (by decide) (fun c_7 => ?_) (fun c_7 => ?_)
      · have i_7 := z_ne c_7
        rw [nI_toInt (by omega)] at i_7
        rw [tI_12] at i_7
        have hn12b : (rw9 r1).1 < 12 := by omega
        refine lv_aload_n hx hb dX10_push_38 rfl (lv_at hl 0 rfl) ?_
        refine z_get (own := RX10) (C := RX10) (T := TX10) (N := 21) hx hb hts in_X10_push_10 hown hK hS h_m hM41 rfl 14 (by decide) (List.mem_of_getElem? (i := 5) rfl) rfl rfl dX10_push_39 ?_
        refine lv_bipush (v := 12) hx hb dX10_push_42 (by decide) ?_
        refine lv_iload_n hx hb dX10_push_44 rfl (lv_at hl 1 rfl) ?_
        refine lv_imul hx hb dX10_push_45 ?_
        refine lv_aload_n hx hb dX10_push_46 rfl (lv_at hl 0 rfl) ?_
        refine z_get (own := RX10) (C := RX10) (T := TX10) (N := 21) hx hb hts in_X10_push_10 hown hK hS h_m hM41 rfl 13 (by decide) (List.mem_of_getElem? (i := 3) rfl) rfl rfl dX10_push_47 ?_
        refine lv_iload_n hx hb dX10_push_50 rfl (lv_at hl 1 rfl) ?_
        refine z_iald hx hb hK hS h_l hM52 (vp_in_nI (by omega) (by omega)) dX10_push_51 ?_
        rw [show fl (nI r1).toNatClampNeg = nI (rw9 r1).1 from by rw [nI_clamp (by omega)]; exact hlr]
        refine lv_iadd hx hb dX10_push_52 ?_
        rw [show (12 * (nI r1)) + (nI (rw9 r1).1) = nI (12 * r1 + (rw9 r1).1) from zm_ix (by omega) (by omega)]
        refine lv_iload_n hx hb dX10_push_53 rfl (lv_at hl 2 rfl) ?_
        refine z_iast hx hb hK hS h_e hM53 (vp_in_nI (by omega) (by omega)) dX10_push_54 (fun g_8 H locs hg_8 hS => ?_)
        have h_e : g_8 53 = .inl (Z.2.2.2 0, 36, .inl (upd fe (nI (12 * r1 + (rw9 r1).1)).toNatClampNeg y)) := z_up_s hg_8
        have h_m := z_up_n hg_8 h_m (by omega)
        have h_u := z_up_n hg_8 h_u (by omega)
        have h_q := z_up_n hg_8 h_q (by omega)
        have h_n9 := z_up_n hg_8 h_n9 (by omega)
        have h_g := z_up_n hg_8 h_g (by omega)
        have h_l := z_up_n hg_8 h_l (by omega)
        refine lv_aload_n hx hb dX10_push_55 rfl (lv_at hl 0 rfl) ?_
        refine z_get (own := RX10) (C := RX10) (T := TX10) (N := 21) hx hb hts in_X10_push_10 hown hK hS h_m hM41 rfl 13 (by decide) (List.mem_of_getElem? (i := 3) rfl) rfl rfl dX10_push_56 ?_
        refine lv_iload_n hx hb dX10_push_59 rfl (lv_at hl 1 rfl) ?_
        refine lv_dup2_11 hx hb dX10_push_60 rfl rfl ?_
        refine z_iald hx hb hK hS h_l hM52 (vp_in_nI (by omega) (by omega)) dX10_push_61 ?_
        rw [show fl (nI r1).toNatClampNeg = nI (rw9 r1).1 from by rw [nI_clamp (by omega)]; exact hlr]
        refine lv_iconst (v := 1) hx hb dX10_push_62 (by decide) ?_
        refine lv_iadd hx hb dX10_push_63 ?_
        rw [show (nI (rw9 r1).1) + 1 = nI ((rw9 r1).1 + 1) from nI_1 _]
        refine z_iast hx hb hK hS h_l hM52 (vp_in_nI (by omega) (by omega)) dX10_push_64 (fun g_9 H locs hg_9 hS => ?_)
        have h_l : g_9 52 = .inl (Z.2.2.2 0, 3, .inl (upd fl (nI r1).toNatClampNeg (nI ((rw9 r1).1 + 1)))) := z_up_s hg_9
        have h_m := z_up_n hg_9 h_m (by omega)
        have h_u := z_up_n hg_9 h_u (by omega)
        have h_q := z_up_n hg_9 h_q (by omega)
        have h_n9 := z_up_n hg_9 h_n9 (by omega)
        have h_g := z_up_n hg_9 h_g (by omega)
        have h_e := z_up_n hg_9 h_e (by omega)
        refine lv_aload_n hx hb dX10_push_65 rfl (lv_at hl 0 rfl) ?_
        refine z_get (own := RX10) (C := RX10) (T := TX10) (N := 21) hx hb hts in_X10_push_10 hown hK hS h_m hM41 rfl 13 (by decide) (List.mem_of_getElem? (i := 3) rfl) rfl rfl dX10_push_66 ?_
        refine lv_iload_n hx hb dX10_push_69 rfl (lv_at hl 1 rfl) ?_
        refine z_iald hx hb hK hS h_l hM52 (vp_in_nI (by omega) (by omega)) dX10_push_70 ?_
        rw [show (upd fl (nI r1).toNatClampNeg (nI ((rw9 r1).1 + 1))) (nI r1).toNatClampNeg = nI ((rw9 r1).1 + 1) from by rw [nI_clamp (by omega), pk_us]]
        refine z_iret hx hb hr hlocks hS ?_ dX10_push_71
        show z_pm Z g (sp_push (sg, rw9) (nI r1).toInt y.toInt) _ _
        unfold sp_push
        rw [zite_t hzs, zite_t h20, htn1, zite_t hn12b]
        have hfz : z_fr 52 2 g g_9 := ((z_fr.rf.up hg_8 (by omega)).up hg_9 (by omega))
        rw [nI_clamp (by omega)] at h_l
        rw [nI_clamp (by omega)] at h_e
        exact ⟨(nI_toInt (n := (rw9 r1).1 + 1) (by omega)).trans (by dsimp only; omega), ⟨⟨_, _, _, _, _, _, fu, fq, fm, fd, h_m, h_u, h_q, h_n9, h_g, hMN, hSg⟩, hW.2.row (r := r1) (w := ((rw9 r1).1 + 1, fun i => if i = (rw9 r1).1 then y.toInt else (rw9 r1).2 i)) (by show (rw9 r1).1 + 1 ≤ 12; omega) hfl hfe h_l h_e (fun j h1 h2 h3 h4 => hfz j (by omega)) (fun k => by
          by_cases h9 : k = r1
          · rw [if_pos h9, h9, pk_us]
          · rw [if_neg h9, pk_un h9]) (fun k hk => pk_un (by omega)) (fun i hi => by
          by_cases h9 : i = (rw9 r1).1
          · rw [h9, pk_us]; dsimp only; rw [if_pos rfl]; exact ⟨rfl, h20⟩
          · rw [pk_un (by omega)]; dsimp only; rw [if_neg h9]; exact hev i (by have h8 : i < (rw9 r1).1 + 1 := hi; omega))⟩, hfz.wide (by omega) (by omega)⟩
      · have i_7 := z_eq c_7
        rw [nI_toInt (by omega)] at i_7
        rw [tI_12] at i_7
        refine lv_ldc (v := (-1000005)) hx hb hown (hts _ (List.mem_of_getElem? (i := 4) rfl)) dX10_push_35 ?_
        refine z_iret hx hb hr hlocks hS ?_ dX10_push_37
        show z_pm Z g (sp_push (sg, rw9) (nI r1).toInt y.toInt) _ _
        unfold sp_push
        rw [zite_t hzs, zite_t h20, htn1, zite_f (show ¬ (rw9 r1).1 < 12 by omega)]
        exact ⟨rfl, hW, z_fr.rf⟩
    · have i_6 := z_eq c_6
      rw [tI_0] at i_6
      have hbad := zbo_f hr1h c_6
      refine lv_ldc (v := (-1000002)) hx hb hown (hts _ (List.mem_of_getElem? (i := 2) rfl)) dX10_push_21 ?_
      refine z_iret hx hb hr hlocks hS ?_ dX10_push_23
      show z_pm Z g (sp_push (sg, rw9) (nI r1).toInt y.toInt) _ _
      unfold sp_push
      rw [zite_t hzs, zite_f hbad]
      exact ⟨rfl, hW, z_fr.rf⟩
  · have i_3 := z_ne c_3
    rw [tI_0] at i_3
    have hnv := zbo_t hrn c_3
    refine lv_ldc (v := (-1000001)) hx hb hown (hts _ (List.mem_of_getElem? (i := 1) rfl)) dX10_push_7 ?_
    refine z_iret hx hb hr hlocks hS ?_ dX10_push_9
    show z_pm Z g (sp_push (sg, rw9) x.toInt y.toInt) _ _
    unfold sp_push
    rw [zite_f hnv]
    exact ⟨rfl, hW, z_fr.rf⟩

