/-! all expansions, as numbers -/
noncomputable def sp_expansions (S : zS) (sy m len : Int) : Int × zS := zite (zsy sy) (zite ((-100000 ≤ m ∧ m ≤ 100000) ∧ (0 ≤ len ∧ len ≤ 12)) (zite (1000000 < zwy (S.1 sy.toNat) len.toNat m) 1000000 (zwy (S.1 sy.toNat) len.toNat m), S) (-1000002, S)) (-1000001, S)
noncomputable def sp_expansionDigit (S : zS) (sy m len k e : Int) : Int × zS := zite (zsy sy) (zite ((0 ≤ len ∧ len ≤ 12) ∧ ¬ (0 ≤ e ∧ e < len)) (-1000001, S) (zite ((-100000 ≤ m ∧ m ≤ 100000) ∧ (0 ≤ len ∧ len ≤ 12) ∧ (0 ≤ k ∧ k ≤ 999999)) (zite (k < zwy (S.1 sy.toNat) len.toNat m) (zexd (S.1 sy.toNat) len.toNat m k e.toNat, S) (-1000006, S)) (-1000002, S))) (-1000001, S)
noncomputable def zshB (b : zb) (m : Int) (l : Nat) : Bool := @decide (zrb b m l 0) (Classical.propDecidable _)
theorem zshB_iff {b : zb} {m : Int} {l : Nat} : zshB b m l = true ↔ zrb b m l 0 := by
  unfold zshB
  exact @decide_eq_true_iff _ (Classical.propDecidable _)
theorem zshB_no {b : zb} {m : Int} {l : Nat} (h : ¬ zrb b m l 0) : zshB b m l = false := by
  cases e : zshB b m l
  · rfl
  · exact absurd (zshB_iff.mp e) h
noncomputable def zsh (b : zb) (m : Int) : Int := zite (zfi (zshB b m) 13 < 13) (zfi (zshB b m) 13 : Int) (-1000006)
theorem zsh_yes {b : zb} {m : Int} {l : Nat} (h1 : l ≤ 12) (h2 : zrb b m l 0) (h3 : ∀ t, t < l → ¬ zrb b m t 0) : zsh b m = l := by
  have := zfi_is (f := zshB b m) (n := 13) (j := l) (by omega) (zshB_iff.mpr h2) (fun k hk => zshB_no (h3 k hk))
  unfold zsh
  rw [this, zite_t (by omega)]
theorem zsh_no {b : zb} {m : Int} (h3 : ∀ t, t ≤ 12 → ¬ zrb b m t 0) : zsh b m = -1000006 := by
  have := zfi_none (f := zshB b m) (n := 13) (fun k hk => zshB_no (h3 k (by omega)))
  unfold zsh
  rw [this, zite_f (by omega)]
noncomputable def sp_shortest (S : zS) (sy m : Int) : Int × zS := zite (zsy sy) (zite (-100000 ≤ m ∧ m ≤ 100000) (zsh (S.1 sy.toNat) m, S) (-1000002, S)) (-1000001, S)
theorem in_X9_cycleCount_0 : ∀ w ∈ wsX00, w ∈ wsX9_cycleCount := by decide +kernel
theorem in_X9_cycleCount_5 : ∀ w ∈ wsX50, w ∈ wsX9_cycleCount := by decide +kernel
set_option maxHeartbeats 4000000 in
set_option maxRecDepth 100000 in
theorem k_cycleCount (Z : zT) {G9 : Nat → va_E} (g : Nat → va_E) (sg : Nat → zb) (rw9 : Nat → zr) (hX : z_xw Z G9 g sg rw9) (x : Int32) : z_Mi Z yX9_cycleCount wsX9_cycleCount 5 113 [.ref (Z.2.1 0), .int x] g (fun r g1 => z_po Z G9 (sp_cycleCount (sg, rw9) x.toInt) r g1) := by
  intro l sz
  have h0 := hX.1
  obtain ⟨hN, h_x, ⟨fS, h_x1, hfS⟩, fR, h_x2, hfR⟩ := id h0
  have hN0 : 0 < Z.1 := by omega
  have hN1 : 1 < Z.1 := by omega
  have hN2 : 2 < Z.1 := by omega
  refine z_enter (maxL := 3) (ret := (some .int)) (lv := [(0, .ref (Z.2.1 0)), (1, .int x)]) (plainFor_of_name (by decide +kernel)) rfl (fun ls h => by subst h; exact lv_entry [.ref (Z.2.1 0), .int x] (n := 3) (Nat.le_of_ble_eq_true rfl)) ?_
  intro p e s m args below meth c hx hb hml hr hlocks hown hts hK hS hsz ls hl
  refine lv_aload_n hx hb dX9_cycleCount_0 rfl (lv_at hl 0 rfl) ?_
  refine lv_iload_n hx hb dX9_cycleCount_1 rfl (lv_at hl 1 rfl) ?_
  refine z_callq (z_runV (As := [.int x]) (rest := []) ⟨hx, hb, hml, hown, hts⟩ hK hS ((k_systemAt Z g h0 x) l _) gX9_cycleCount_X9_systemAt rfl 1 (by decide +kernel) ⟨Nat.le_of_ble_eq_true rfl, Nat.le_of_ble_eq_true rfl⟩ h_x hN0 rfl rfl hl.1 rfl (Nat.le_of_ble_eq_true rfl) dX9_cycleCount_2 ⟨Nat.le_of_ble_eq_true rfl, Nat.le_of_ble_eq_true rfl⟩) hS (fun r_1 g_2 H locs hp_3 hS => ?_)
  obtain ⟨rfl, hp_3⟩ := hp_3
  rcases hp_3 with ⟨s1, hs2, hsv, er⟩ | ⟨hnv, er⟩
  · subst er
    obtain ⟨h_n, hBs, ⟨w1, w2, w3, w4, w5, w6, hW⟩, h_y, ⟨lw, hw, tb, y1, y2, y3, hO⟩, l0, hC⟩ := hX.2.2.2.2.2 s1 hs2
    have hzs : zsy x.toInt := ⟨by omega, by omega⟩
    have htn : x.toInt.toNat = s1 := by omega
    obtain ⟨pb, qb, res, cmp, dg, ch, ⟨h_b, h_d, h_c, hkN, hok, hp, hq, hres, hdg⟩, hch, hcmp⟩ := id hBs
    have hkn : 15 + 13 * s1 < Z.1 := by omega
    have hk0 : 16 + 13 * s1 < Z.1 := by omega
    have hk1 : 16 + 13 * s1 + 1 < Z.1 := by omega
    have hk2 : 16 + 13 * s1 + 2 < Z.1 := by omega
    have hPb := zP_bd hok
    have hn12 := hok.2.2.2.1
    have hq1 := hok.2.1
    have hky : 20 + 13 * s1 < Z.1 := by omega
    refine lv_astore_n (lv' := [(2, .ref (Z.2.1 (15 + 13 * s1))), (0, .ref (Z.2.1 0)), (1, .int x)]) hx hb dX9_cycleCount_5 rfl hl (by decide) rfl (fun ls hl => ?_)
    refine lv_aload_n hx hb dX9_cycleCount_6 rfl (lv_at hl 0 rfl) ?_
    refine lv_ifnonnull (tgt := 13) hx hb dX9_cycleCount_7 (by decide) ?_
    refine lv_aload_n hx hb dX9_cycleCount_13 rfl (lv_at hl 0 rfl) ?_
    refine z_getN (own := RX9) (C := RX5) (T := TX5) (N := 5) hx hb hts in_X9_cycleCount_5 hown hK hS h_n hkn rfl 0 (by decide) 14 rfl rfl rfl dX9_cycleCount_14 ?_
    refine z_getN (own := RX9) (C := RX0) (T := TX0) (N := 7) hx hb hts in_X9_cycleCount_0 hown hK hS h_b hk0 rfl 4 (by decide) 1 rfl rfl rfl dX9_cycleCount_17 ?_
    refine lv_if_ne (tgt := 26) hx hb dX9_cycleCount_20 (by decide) (fun c_4 => ?_) (fun c_4 => ?_)
    · have i_4 := z_ne c_4
      rw [tI_0] at i_4
      have hcm := zbo_t hcmp c_4
      refine lv_aload_n hx hb dX9_cycleCount_26 rfl (lv_at hl 0 rfl) ?_
      refine z_getN (own := RX9) (C := RX5) (T := TX5) (N := 5) hx hb hts in_X9_cycleCount_5 hown hK hS h_n hkn rfl 2 (by decide) 2 rfl rfl rfl dX9_cycleCount_27 ?_
      refine lv_bipush (v := 20) hx hb dX9_cycleCount_30 (by decide) ?_
      refine z_calli (z_runVN (As := [.int 20]) (rest := []) (C := RX3) ⟨hx, hb, hml, hown, hts⟩ hK hS ((k_countUpTo Z g (20 + 13 * s1) (16 + 13 * s1) (sg s1) ⟨h_y, by omega⟩ ⟨pb, qb, res, cmp, dg, ch, ⟨h_b, h_d, h_c, hkN, hok, hp, hq, hres, hdg⟩, hch⟩ hcm 20 (by rw [tI_20]; omega)) l _) gX9_cycleCount_X3_countUpTo_n120 rfl 1 1 rfl (List.mem_of_getElem? (i := 10) rfl) (List.mem_of_getElem? (i := 9) rfl) (List.mem_of_getElem? (i := 11) rfl) (by decide +kernel) ⟨Nat.le_of_ble_eq_true rfl, Nat.le_of_ble_eq_true rfl⟩ h_y hky rfl rfl hl.1 rfl (Nat.le_of_ble_eq_true rfl) dX9_cycleCount_32 ⟨Nat.le_of_ble_eq_true rfl, Nat.le_of_ble_eq_true rfl⟩) hS (fun rc g_5 H locs hp_6 hS => ?_)
      obtain ⟨rfl, hp_6⟩ := hp_6
      have hrc : rc = nI (zcyc (sg s1)) := by rw [hp_6, tI_20]; exact congrArg nI (zcyc_46 hok)
      subst hrc
      have hcyb : zcyc (sg s1) ≤ 51 := zct_le _ 51
      refine z_iret hx hb hr hlocks hS ?_ dX9_cycleCount_35
      show z_po Z G9 (sp_cycleCount (sg, rw9) x.toInt) _ _
      unfold sp_cycleCount
      rw [zite_t hzs, htn, zite_t hcm]
      exact ⟨nI_toInt (by omega), hX⟩
    · have i_4 := z_eq c_4
      rw [tI_0] at i_4
      have hncm := zbo_f hcmp c_4
      refine lv_ldc (v := (-1000003)) hx hb hown (hts _ (List.mem_of_getElem? (i := 2) rfl)) dX9_cycleCount_23 ?_
      refine z_iret hx hb hr hlocks hS ?_ dX9_cycleCount_25
      show z_po Z G9 (sp_cycleCount (sg, rw9) x.toInt) _ _
      unfold sp_cycleCount
      rw [zite_t hzs, htn, zite_f hncm]
      exact ⟨rfl, hX⟩
  · subst er
    refine lv_astore_nN (lv' := [(2, .null), (0, .ref (Z.2.1 0)), (1, .int x)]) hx hb dX9_cycleCount_5 rfl hl (by decide) rfl (fun ls hl => ?_)
    refine lv_aload_nN hx hb dX9_cycleCount_6 rfl (lv_at hl 0 rfl) ?_
    refine lv_ifnonnullN hx hb dX9_cycleCount_7 ?_
    refine lv_ldc (v := (-1000001)) hx hb hown (hts _ (List.mem_of_getElem? (i := 1) rfl)) dX9_cycleCount_10 ?_
    refine z_iret hx hb hr hlocks hS ?_ dX9_cycleCount_12
    show z_po Z G9 (sp_cycleCount (sg, rw9) x.toInt) _ _
    unfold sp_cycleCount
    rw [zite_f hnv]
    exact ⟨rfl, hX⟩

theorem in_X9_cycle_0 : ∀ w ∈ wsX00, w ∈ wsX9_cycle := by decide +kernel
theorem in_X9_cycle_5 : ∀ w ∈ wsX50, w ∈ wsX9_cycle := by decide +kernel
set_option maxHeartbeats 4000000 in
set_option maxRecDepth 100000 in
theorem k_cycle (Z : zT) {G9 : Nat → va_E} (g : Nat → va_E) (sg : Nat → zb) (rw9 : Nat → zr) (hX : z_xw Z G9 g sg rw9) (x y z : Int32) : z_Mi Z yX9_cycle wsX9_cycle 5 113 [.ref (Z.2.1 0), .int x, .int y, .int z] g (fun r g1 => z_po Z G9 (sp_cycle (sg, rw9) x.toInt y.toInt z.toInt) r g1) := by
  intro l sz
  have h0 := hX.1
  obtain ⟨hN, h_x, ⟨fS, h_x1, hfS⟩, fR, h_x2, hfR⟩ := id h0
  have hN0 : 0 < Z.1 := by omega
  have hN1 : 1 < Z.1 := by omega
  have hN2 : 2 < Z.1 := by omega
  refine z_enter (maxL := 6) (ret := (some .int)) (lv := [(0, .ref (Z.2.1 0)), (1, .int x), (2, .int y), (3, .int z)]) (plainFor_of_name (by decide +kernel)) rfl (fun ls h => by subst h; exact lv_entry [.ref (Z.2.1 0), .int x, .int y, .int z] (n := 6) (Nat.le_of_ble_eq_true rfl)) ?_
  intro p e s m args below meth c hx hb hml hr hlocks hown hts hK hS hsz ls hl
  refine lv_aload_n hx hb dX9_cycle_0 rfl (lv_at hl 0 rfl) ?_
  refine lv_iload_n hx hb dX9_cycle_1 rfl (lv_at hl 1 rfl) ?_
  refine z_callq (z_runV (As := [.int x]) (rest := []) ⟨hx, hb, hml, hown, hts⟩ hK hS ((k_systemAt Z g h0 x) l _) gX9_cycle_X9_systemAt rfl 1 (by decide +kernel) ⟨Nat.le_of_ble_eq_true rfl, Nat.le_of_ble_eq_true rfl⟩ h_x hN0 rfl rfl hl.1 rfl (Nat.le_of_ble_eq_true rfl) dX9_cycle_2 ⟨Nat.le_of_ble_eq_true rfl, Nat.le_of_ble_eq_true rfl⟩) hS (fun r_1 g_2 H locs hp_3 hS => ?_)
  obtain ⟨rfl, hp_3⟩ := hp_3
  rcases hp_3 with ⟨s1, hs2, hsv, er⟩ | ⟨hnv, er⟩
  · subst er
    obtain ⟨h_n, hBs, ⟨w1, w2, w3, w4, w5, w6, hW⟩, h_y, ⟨lw, hw, tb, y1, y2, y3, hO⟩, l0, hC⟩ := hX.2.2.2.2.2 s1 hs2
    have hzs : zsy x.toInt := ⟨by omega, by omega⟩
    have htn : x.toInt.toNat = s1 := by omega
    obtain ⟨pb, qb, res, cmp, dg, ch, ⟨h_b, h_d, h_c, hkN, hok, hp, hq, hres, hdg⟩, hch, hcmp⟩ := id hBs
    have hkn : 15 + 13 * s1 < Z.1 := by omega
    have hk0 : 16 + 13 * s1 < Z.1 := by omega
    have hk1 : 16 + 13 * s1 + 1 < Z.1 := by omega
    have hk2 : 16 + 13 * s1 + 2 < Z.1 := by omega
    have hPb := zP_bd hok
    have hn12 := hok.2.2.2.1
    have hq1 := hok.2.1
    have hky : 20 + 13 * s1 < Z.1 := by omega
    refine lv_astore (lv' := [(4, .ref (Z.2.1 (15 + 13 * s1))), (0, .ref (Z.2.1 0)), (1, .int x), (2, .int y), (3, .int z)]) hx hb dX9_cycle_5 hl (by decide) rfl (fun ls hl => ?_)
    refine lv_aload hx hb dX9_cycle_7 (lv_at hl 0 rfl) ?_
    refine lv_ifnonnull (tgt := 15) hx hb dX9_cycle_9 (by decide) ?_
    refine lv_iload_n hx hb dX9_cycle_15 rfl (lv_at hl 3 rfl) ?_
    refine lv_if_lt (tgt := 28) hx hb dX9_cycle_16 (by decide) (fun c_4 => ?_) (fun c_4 => ?_)
    · have i_4 := z_lt c_4
      rw [tI_0] at i_4
      have hbad : ¬ (0 ≤ y.toInt ∧ 0 ≤ z.toInt ∧ z.toInt ≤ 2) := fun h9 => by omega
      refine lv_ldc (v := (-1000002)) hx hb hown (hts _ (List.mem_of_getElem? (i := 2) rfl)) dX9_cycle_28 ?_
      refine z_iret hx hb hr hlocks hS ?_ dX9_cycle_30
      show z_po Z G9 (sp_cycle (sg, rw9) x.toInt y.toInt z.toInt) _ _
      unfold sp_cycle
      rw [zite_t hzs, zite_f hbad]
      exact ⟨rfl, hX⟩
    · have i_4 := z_nlt c_4
      rw [tI_0] at i_4
      refine lv_iload_n hx hb dX9_cycle_19 rfl (lv_at hl 4 rfl) ?_
      refine lv_if_lt (tgt := 28) hx hb dX9_cycle_20 (by decide) (fun c_5 => ?_) (fun c_5 => ?_)
      · have i_5 := z_lt c_5
        rw [tI_0] at i_5
        have hbad : ¬ (0 ≤ y.toInt ∧ 0 ≤ z.toInt ∧ z.toInt ≤ 2) := fun h9 => by omega
        refine lv_ldc (v := (-1000002)) hx hb hown (hts _ (List.mem_of_getElem? (i := 2) rfl)) dX9_cycle_28 ?_
        refine z_iret hx hb hr hlocks hS ?_ dX9_cycle_30
        show z_po Z G9 (sp_cycle (sg, rw9) x.toInt y.toInt z.toInt) _ _
        unfold sp_cycle
        rw [zite_t hzs, zite_f hbad]
        exact ⟨rfl, hX⟩
      · have i_5 := z_nlt c_5
        rw [tI_0] at i_5
        refine lv_iload_n hx hb dX9_cycle_23 rfl (lv_at hl 4 rfl) ?_
        refine lv_iconst (v := 2) hx hb dX9_cycle_24 (by decide) ?_
        refine lv_icmp_le (tgt := 31) hx hb dX9_cycle_25 (by decide) (fun c_6 => ?_) (fun c_6 => ?_)
        · have i_6 := z_le c_6
          rw [tI_2] at i_6
          obtain ⟨y9, ey9, hy9, hy31⟩ := z_nI_of (x := y) (by omega)
          subst ey9
          have hok3 : 0 ≤ (nI y9).toInt ∧ 0 ≤ z.toInt ∧ z.toInt ≤ 2 := by omega
          refine lv_aload hx hb dX9_cycle_31 (lv_at hl 0 rfl) ?_
          refine z_getN (own := RX9) (C := RX5) (T := TX5) (N := 5) hx hb hts in_X9_cycle_5 hown hK hS h_n hkn rfl 0 (by decide) 14 rfl rfl rfl dX9_cycle_33 ?_
          refine z_getN (own := RX9) (C := RX0) (T := TX0) (N := 7) hx hb hts in_X9_cycle_0 hown hK hS h_b hk0 rfl 4 (by decide) 1 rfl rfl rfl dX9_cycle_36 ?_
          refine lv_if_ne (tgt := 45) hx hb dX9_cycle_39 (by decide) (fun c_7 => ?_) (fun c_7 => ?_)
          · have i_7 := z_ne c_7
            rw [tI_0] at i_7
            have hcm := zbo_t hcmp c_7
            refine lv_iload_n hx hb dX9_cycle_45 rfl (lv_at hl 3 rfl) ?_
            refine lv_aload hx hb dX9_cycle_46 (lv_at hl 0 rfl) ?_
            refine z_getN (own := RX9) (C := RX5) (T := TX5) (N := 5) hx hb hts in_X9_cycle_5 hown hK hS h_n hkn rfl 2 (by decide) 2 rfl rfl rfl dX9_cycle_48 ?_
            refine lv_bipush (v := 20) hx hb dX9_cycle_51 (by decide) ?_
            refine z_calli (z_runVN (As := [.int 20]) (rest := [.int (nI y9)]) (C := RX3) ⟨hx, hb, hml, hown, hts⟩ hK hS ((k_countUpTo Z g (20 + 13 * s1) (16 + 13 * s1) (sg s1) ⟨h_y, by omega⟩ ⟨pb, qb, res, cmp, dg, ch, ⟨h_b, h_d, h_c, hkN, hok, hp, hq, hres, hdg⟩, hch⟩ hcm 20 (by rw [tI_20]; omega)) l _) gX9_cycle_X3_countUpTo_n120 rfl 1 1 rfl (List.mem_of_getElem? (i := 12) rfl) (List.mem_of_getElem? (i := 11) rfl) (List.mem_of_getElem? (i := 13) rfl) (by decide +kernel) ⟨Nat.le_of_ble_eq_true rfl, Nat.le_of_ble_eq_true rfl⟩ h_y hky rfl rfl hl.1 rfl (Nat.le_of_ble_eq_true rfl) dX9_cycle_53 ⟨Nat.le_of_ble_eq_true rfl, Nat.le_of_ble_eq_true rfl⟩) hS (fun rc g_8 H locs hp_9 hS => ?_)
            obtain ⟨rfl, hp_9⟩ := hp_9
            have hrc : rc = nI (zcyc (sg s1)) := by rw [hp_9, tI_20]; exact congrArg nI (zcyc_46 hok)
            subst hrc
            have hcyb : zcyc (sg s1) ≤ 51 := zct_le _ 51
            refine lv_icmp_lt (tgt := 62) hx hb dX9_cycle_56 (by decide) (fun c_10 => ?_) (fun c_10 => ?_)
            · have i_10 := z_lt c_10
              rw [nI_toInt (by omega)] at i_10
              rw [nI_toInt (by omega)] at i_10
              refine lv_aload hx hb dX9_cycle_62 (lv_at hl 0 rfl) ?_
              refine z_getN (own := RX9) (C := RX5) (T := TX5) (N := 5) hx hb hts in_X9_cycle_5 hown hK hS h_n hkn rfl 2 (by decide) 2 rfl rfl rfl dX9_cycle_64 ?_
              refine lv_iload_n hx hb dX9_cycle_67 rfl (lv_at hl 3 rfl) ?_
              refine z_calli (z_runVN (As := [.int (nI y9)]) (rest := []) (C := RX3) ⟨hx, hb, hml, hown, hts⟩ hK hS ((k_leastOf Z g (20 + 13 * s1) (16 + 13 * s1) (sg s1) ⟨h_y, by omega⟩ ⟨pb, qb, res, cmp, dg, ch, ⟨h_b, h_d, h_c, hkN, hok, hp, hq, hres, hdg⟩, hch⟩ hcm y9 (show y9 < zcyc (sg s1) by omega)) l _) gX9_cycle_X3_leastOf_n126 rfl 1 2 rfl (List.mem_of_getElem? (i := 12) rfl) (List.mem_of_getElem? (i := 41) rfl) (List.mem_of_getElem? (i := 42) rfl) (by decide +kernel) ⟨Nat.le_of_ble_eq_true rfl, Nat.le_of_ble_eq_true rfl⟩ h_y hky rfl rfl hl.1 rfl (Nat.le_of_ble_eq_true rfl) dX9_cycle_68 ⟨Nat.le_of_ble_eq_true rfl, Nat.le_of_ble_eq_true rfl⟩) hS (fun rl g_11 H locs hp_12 hS => ?_)
              obtain ⟨rfl, hp_12⟩ := hp_12
              obtain ⟨t8, ht8, hl8, hk8, hrl⟩ := hp_12
              have hle : rl.toInt = zcyl (sg s1) y9 := by rw [zcyl_is ht8 hl8 hk8]; exact hrl
              have hlc : zlc (zst (sg s1) 1) rl.toInt := by rw [hrl]; exact zlB_iff.mp hl8
              obtain ⟨hrl20, hper⟩ := zper_lc hok hlc
              have hlb := (zmula hok (nn := 1) (x := rl.toInt) (by omega) (by omega)).2
              refine lv_istore (lv' := [(5, .int rl), (4, .ref (Z.2.1 (15 + 13 * s1))), (0, .ref (Z.2.1 0)), (1, .int x), (2, .int (nI y9)), (3, .int z)]) hx hb dX9_cycle_71 hl (by decide) rfl (fun ls hl => ?_)
              refine lv_iload_n hx hb dX9_cycle_73 rfl (lv_at hl 5 rfl) ?_
              have hc3 : z = 0 ∨ z = 1 ∨ z = 2 := by
                have e3 : z.toInt = 0 ∨ z.toInt = 1 ∨ z.toInt = 2 := by omega
                rcases e3 with h9 | h9 | h9
                · exact Or.inl (z_inj h9)
                · exact Or.inr (Or.inl (z_inj h9))
                · exact Or.inr (Or.inr (z_inj h9))
              rcases hc3 with rfl | rfl | rfl
              · refine lv_lookup (off := 26) (tgt := 100) hx hb dX9_cycle_74 (by decide) (by decide) rfl ?_
                refine lv_iload hx hb dX9_cycle_100 (lv_at hl 0 rfl) ?_
                refine z_iret hx hb hr hlocks hS ?_ dX9_cycle_102
                show z_po Z G9 (sp_cycle (sg, rw9) x.toInt (nI y9).toInt (0 : Int32).toInt) _ _
                unfold sp_cycle
                rw [tI_0, zite_t hzs, zite_t (show 0 ≤ (nI y9).toInt ∧ (0 : Int) ≤ 0 ∧ (0 : Int) ≤ 2 by omega), htn, zite_t hcm, zite_t (show (nI y9).toInt < (zcyc (sg s1) : Int) by omega), show (nI y9).toInt.toNat = y9 from by omega]
                unfold zcyv
                rw [zite_t rfl]
                exact ⟨hle, hX⟩
              · refine lv_lookup (off := 29) (tgt := 103) hx hb dX9_cycle_74 (by decide) (by decide) rfl ?_
                refine lv_aload hx hb dX9_cycle_103 (lv_at hl 1 rfl) ?_
                refine z_getN (own := RX9) (C := RX5) (T := TX5) (N := 5) hx hb hts in_X9_cycle_5 hown hK hS h_n hkn rfl 2 (by decide) 2 rfl rfl rfl dX9_cycle_105 ?_
                refine lv_iload hx hb dX9_cycle_108 (lv_at hl 0 rfl) ?_
                refine z_calli (z_runVN (As := [.int rl]) (rest := []) (C := RX3) ⟨hx, hb, hml, hown, hts⟩ hK hS ((k_elementsFrom Z g (20 + 13 * s1) (16 + 13 * s1) (sg s1) ⟨h_y, by omega⟩ ⟨pb, qb, res, cmp, dg, ch, ⟨h_b, h_d, h_c, hkN, hok, hp, hq, hres, hdg⟩, hch⟩ hcm rl hrl20 (zla (sg s1) 1 rl.toInt) hper) l _) gX9_cycle_X3_elementsFrom_n129 rfl 1 3 rfl (List.mem_of_getElem? (i := 12) rfl) (List.mem_of_getElem? (i := 45) rfl) (List.mem_of_getElem? (i := 46) rfl) (by decide +kernel) ⟨Nat.le_of_ble_eq_true rfl, Nat.le_of_ble_eq_true rfl⟩ h_y hky rfl rfl hl.1 rfl (Nat.le_of_ble_eq_true rfl) dX9_cycle_110 ⟨Nat.le_of_ble_eq_true rfl, Nat.le_of_ble_eq_true rfl⟩) hS (fun re g_13 H locs hp_14 hS => ?_)
                obtain ⟨rfl, hp_14⟩ := hp_14
                have hre := hp_14
                subst hre
                refine z_iret hx hb hr hlocks hS ?_ dX9_cycle_113
                show z_po Z G9 (sp_cycle (sg, rw9) x.toInt (nI y9).toInt (1 : Int32).toInt) _ _
                unfold sp_cycle
                rw [tI_1, zite_t hzs, zite_t (show 0 ≤ (nI y9).toInt ∧ (0 : Int) ≤ 1 ∧ (1 : Int) ≤ 2 by omega), htn, zite_t hcm, zite_t (show (nI y9).toInt < (zcyc (sg s1) : Int) by omega), show (nI y9).toInt.toNat = y9 from by omega]
                unfold zcyv
                rw [zite_f (by omega), zite_t rfl, ← hle]
                exact ⟨nI_toInt (by omega), hX⟩
              · refine lv_lookup (off := 40) (tgt := 114) hx hb dX9_cycle_74 (by decide) (by decide) rfl ?_
                refine lv_aload hx hb dX9_cycle_114 (lv_at hl 1 rfl) ?_
                refine z_getN (own := RX9) (C := RX5) (T := TX5) (N := 5) hx hb hts in_X9_cycle_5 hown hK hS h_n hkn rfl 2 (by decide) 2 rfl rfl rfl dX9_cycle_116 ?_
                refine lv_iload hx hb dX9_cycle_119 (lv_at hl 0 rfl) ?_
                refine z_calli (z_runVN (As := [.int rl]) (rest := []) (C := RX3) ⟨hx, hb, hml, hown, hts⟩ hK hS ((k_greatestFrom Z g (20 + 13 * s1) (16 + 13 * s1) (sg s1) ⟨h_y, by omega⟩ ⟨pb, qb, res, cmp, dg, ch, ⟨h_b, h_d, h_c, hkN, hok, hp, hq, hres, hdg⟩, hch⟩ hcm rl hrl20 (zla (sg s1) 1 rl.toInt) hper) l _) gX9_cycle_X3_greatestFrom_n132 rfl 1 4 rfl (List.mem_of_getElem? (i := 12) rfl) (List.mem_of_getElem? (i := 48) rfl) (List.mem_of_getElem? (i := 49) rfl) (by decide +kernel) ⟨Nat.le_of_ble_eq_true rfl, Nat.le_of_ble_eq_true rfl⟩ h_y hky rfl rfl hl.1 rfl (Nat.le_of_ble_eq_true rfl) dX9_cycle_121 ⟨Nat.le_of_ble_eq_true rfl, Nat.le_of_ble_eq_true rfl⟩) hS (fun re g_15 H locs hp_16 hS => ?_)
                obtain ⟨rfl, hp_16⟩ := hp_16
                have hgr := hp_16
                refine z_iret hx hb hr hlocks hS ?_ dX9_cycle_124
                show z_po Z G9 (sp_cycle (sg, rw9) x.toInt (nI y9).toInt (2 : Int32).toInt) _ _
                unfold sp_cycle
                rw [tI_2, zite_t hzs, zite_t (show 0 ≤ (nI y9).toInt ∧ (0 : Int) ≤ 2 ∧ (2 : Int) ≤ 2 by omega), htn, zite_t hcm, zite_t (show (nI y9).toInt < (zcyc (sg s1) : Int) by omega), show (nI y9).toInt.toNat = y9 from by omega]
                unfold zcyv
                rw [zite_f (by omega), zite_f (by omega), ← hle]
                exact ⟨zgr_is hgr, hX⟩
            · have i_10 := z_nlt c_10
              rw [nI_toInt (by omega)] at i_10
              rw [nI_toInt (by omega)] at i_10
              refine lv_ldc (v := (-1000006)) hx hb hown (hts _ (List.mem_of_getElem? (i := 4) rfl)) dX9_cycle_59 ?_
              refine z_iret hx hb hr hlocks hS ?_ dX9_cycle_61
              show z_po Z G9 (sp_cycle (sg, rw9) x.toInt (nI y9).toInt z.toInt) _ _
              unfold sp_cycle
              rw [zite_t hzs, zite_t hok3, htn, zite_t hcm, zite_f (show ¬ (nI y9).toInt < (zcyc (sg s1) : Int) by omega)]
              exact ⟨rfl, hX⟩
          · have i_7 := z_eq c_7
            rw [tI_0] at i_7
            have hncm := zbo_f hcmp c_7
            refine lv_ldc (v := (-1000003)) hx hb hown (hts _ (List.mem_of_getElem? (i := 3) rfl)) dX9_cycle_42 ?_
            refine z_iret hx hb hr hlocks hS ?_ dX9_cycle_44
            show z_po Z G9 (sp_cycle (sg, rw9) x.toInt (nI y9).toInt z.toInt) _ _
            unfold sp_cycle
            rw [zite_t hzs, zite_t hok3, htn, zite_f hncm]
            exact ⟨rfl, hX⟩
        · have i_6 := z_nle c_6
          rw [tI_2] at i_6
          have hbad : ¬ (0 ≤ y.toInt ∧ 0 ≤ z.toInt ∧ z.toInt ≤ 2) := fun h9 => by omega
          refine lv_ldc (v := (-1000002)) hx hb hown (hts _ (List.mem_of_getElem? (i := 2) rfl)) dX9_cycle_28 ?_
          refine z_iret hx hb hr hlocks hS ?_ dX9_cycle_30
          show z_po Z G9 (sp_cycle (sg, rw9) x.toInt y.toInt z.toInt) _ _
          unfold sp_cycle
          rw [zite_t hzs, zite_f hbad]
          exact ⟨rfl, hX⟩
  · subst er
    refine lv_astoreN (lv' := [(4, .null), (0, .ref (Z.2.1 0)), (1, .int x), (2, .int y), (3, .int z)]) hx hb dX9_cycle_5 hl (by decide) rfl (fun ls hl => ?_)
    refine lv_aloadN hx hb dX9_cycle_7 (lv_at hl 0 rfl) ?_
    refine lv_ifnonnullN hx hb dX9_cycle_9 ?_
    refine lv_ldc (v := (-1000001)) hx hb hown (hts _ (List.mem_of_getElem? (i := 1) rfl)) dX9_cycle_12 ?_
    refine z_iret hx hb hr hlocks hS ?_ dX9_cycle_14
    show z_po Z G9 (sp_cycle (sg, rw9) x.toInt y.toInt z.toInt) _ _
    unfold sp_cycle
    rw [zite_f hnv]
    exact ⟨rfl, hX⟩

theorem in_X9_leadsTo_0 : ∀ w ∈ wsX00, w ∈ wsX9_leadsTo := by decide +kernel
theorem in_X9_leadsTo_5 : ∀ w ∈ wsX50, w ∈ wsX9_leadsTo := by decide +kernel
theorem in_X9_leadsTo_7 : ∀ w ∈ wsX70, w ∈ wsX9_leadsTo := by decide +kernel
set_option maxHeartbeats 4000000 in
set_option maxRecDepth 100000 in
theorem k_leadsTo (Z : zT) {G9 : Nat → va_E} (g : Nat → va_E) (sg : Nat → zb) (rw9 : Nat → zr) (hX : z_xw Z G9 g sg rw9) (x y : Int32) : z_Mi Z yX9_leadsTo wsX9_leadsTo 6 137 [.ref (Z.2.1 0), .int x, .int y] g (fun r g1 => z_po Z G9 (sp_leadsTo (sg, rw9) x.toInt y.toInt) r g1) := by
  intro l sz
  have h0 := hX.1
  obtain ⟨hN, h_x, ⟨fS, h_x1, hfS⟩, fR, h_x2, hfR⟩ := id h0
  have hN0 : 0 < Z.1 := by omega
  have hN1 : 1 < Z.1 := by omega
  have hN2 : 2 < Z.1 := by omega
  refine z_enter (maxL := 4) (ret := (some .int)) (lv := [(0, .ref (Z.2.1 0)), (1, .int x), (2, .int y)]) (plainFor_of_name (by decide +kernel)) rfl (fun ls h => by subst h; exact lv_entry [.ref (Z.2.1 0), .int x, .int y] (n := 4) (Nat.le_of_ble_eq_true rfl)) ?_
  intro p e s m args below meth c hx hb hml hr hlocks hown hts hK hS hsz ls hl
  refine lv_aload_n hx hb dX9_leadsTo_0 rfl (lv_at hl 0 rfl) ?_
  refine lv_iload_n hx hb dX9_leadsTo_1 rfl (lv_at hl 1 rfl) ?_
  refine z_callq (z_runV (As := [.int x]) (rest := []) ⟨hx, hb, hml, hown, hts⟩ hK hS ((k_systemAt Z g h0 x) l _) gX9_leadsTo_X9_systemAt rfl 1 (by decide +kernel) ⟨Nat.le_of_ble_eq_true rfl, Nat.le_of_ble_eq_true rfl⟩ h_x hN0 rfl rfl hl.1 rfl (Nat.le_of_ble_eq_true rfl) dX9_leadsTo_2 ⟨Nat.le_of_ble_eq_true rfl, Nat.le_of_ble_eq_true rfl⟩) hS (fun r_1 g_2 H locs hp_3 hS => ?_)
  obtain ⟨rfl, hp_3⟩ := hp_3
  rcases hp_3 with ⟨s1, hs2, hsv, er⟩ | ⟨hnv, er⟩
  · subst er
    obtain ⟨h_n, hBs, ⟨w1, w2, w3, w4, w5, w6, hW⟩, h_y, ⟨lw, hw, tb, y1, y2, y3, hO⟩, l0, hC⟩ := hX.2.2.2.2.2 s1 hs2
    have hzs : zsy x.toInt := ⟨by omega, by omega⟩
    have htn : x.toInt.toNat = s1 := by omega
    obtain ⟨pb, qb, res, cmp, dg, ch, ⟨h_b, h_d, h_c, hkN, hok, hp, hq, hres, hdg⟩, hch, hcmp⟩ := id hBs
    have hkn : 15 + 13 * s1 < Z.1 := by omega
    have hk0 : 16 + 13 * s1 < Z.1 := by omega
    have hk1 : 16 + 13 * s1 + 1 < Z.1 := by omega
    have hk2 : 16 + 13 * s1 + 2 < Z.1 := by omega
    have hPb := zP_bd hok
    have hn12 := hok.2.2.2.1
    have hq1 := hok.2.1
    obtain ⟨h_w, hkw, hws⟩ := id hW
    have hky : 20 + 13 * s1 < Z.1 := by omega
    refine lv_astore_n (lv' := [(3, .ref (Z.2.1 (15 + 13 * s1))), (0, .ref (Z.2.1 0)), (1, .int x), (2, .int y)]) hx hb dX9_leadsTo_5 rfl hl (by decide) rfl (fun ls hl => ?_)
    refine lv_aload_n hx hb dX9_leadsTo_6 rfl (lv_at hl 0 rfl) ?_
    refine lv_ifnonnull (tgt := 13) hx hb dX9_leadsTo_7 (by decide) ?_
    refine lv_iload_n hx hb dX9_leadsTo_13 rfl (lv_at hl 3 rfl) ?_
    refine lv_ldc (v := 100000) hx hb hown (hts _ (List.mem_of_getElem? (i := 2) rfl)) dX9_leadsTo_14 ?_
    refine z_calli (z_runS (As := [.int y, .int 100000]) (rest := []) ⟨hx, hb, hml, hown, hts⟩ hK hS ((k_isWithin Z g y 100000 (by rw [tI_100000]; omega)) l _) gX9_leadsTo_X9_isWithin rfl 2 (by decide +kernel) ⟨Nat.le_of_ble_eq_true rfl, Nat.le_of_ble_eq_true rfl⟩ rfl hl.1 rfl (Nat.le_of_ble_eq_true rfl) dX9_leadsTo_16 ⟨Nat.le_of_ble_eq_true rfl, Nat.le_of_ble_eq_true rfl⟩) hS (fun rb g_4 H locs hp_5 hS => ?_)
    obtain ⟨rfl, hp_5⟩ := hp_5
    have hrb := hp_5
    rw [tI_100000] at hrb
    refine lv_if_ne (tgt := 25) hx hb dX9_leadsTo_19 (by decide) (fun c_6 => ?_) (fun c_6 => ?_)
    · have i_6 := z_ne c_6
      rw [tI_0] at i_6
      have hym := zbo_t hrb c_6
      refine lv_aload_n hx hb dX9_leadsTo_25 rfl (lv_at hl 0 rfl) ?_
      refine z_getN (own := RX9) (C := RX5) (T := TX5) (N := 5) hx hb hts in_X9_leadsTo_5 hown hK hS h_n hkn rfl 0 (by decide) 14 rfl rfl rfl dX9_leadsTo_26 ?_
      refine z_getN (own := RX9) (C := RX0) (T := TX0) (N := 7) hx hb hts in_X9_leadsTo_0 hown hK hS h_b hk0 rfl 4 (by decide) 1 rfl rfl rfl dX9_leadsTo_29 ?_
      refine lv_if_ne (tgt := 38) hx hb dX9_leadsTo_32 (by decide) (fun c_7 => ?_) (fun c_7 => ?_)
      · have i_7 := z_ne c_7
        rw [tI_0] at i_7
        have hcm := zbo_t hcmp c_7
        refine lv_aload_n hx hb dX9_leadsTo_38 rfl (lv_at hl 0 rfl) ?_
        refine z_getN (own := RX9) (C := RX5) (T := TX5) (N := 5) hx hb hts in_X9_leadsTo_5 hown hK hS h_n hkn rfl 1 (by decide) 3 rfl rfl rfl dX9_leadsTo_39 ?_
        refine lv_iload_n hx hb dX9_leadsTo_42 rfl (lv_at hl 3 rfl) ?_
        refine lv_iconst (v := 1) hx hb dX9_leadsTo_43 (by decide) ?_
        refine z_callv (z_runVN (As := [.int y, .int 1]) (rest := []) (C := RX7) ⟨hx, hb, hml, hown, hts⟩ hK hS ((k_begin Z g (19 + 13 * s1) (16 + 13 * s1) (sg s1) w1 w2 w3 w4 w5 w6 ⟨h_w, hkw, hws⟩ ⟨pb, qb, res, cmp, dg, ch, ⟨h_b, h_d, h_c, hkN, hok, hp, hq, hres, hdg⟩, hch⟩ hcm y (1 : Int32) hym (by rw [tI_1]; omega) (by rw [tI_1]; exact z_inv_1 ⟨hPb.1, hPb.2.1⟩) (zmu (sg s1) (1 : Int32).toInt y.toInt) (zla (sg s1) (1 : Int32).toInt y.toInt) (zmula hok (by rw [tI_1]; omega) hym).1 (zmula hok (by rw [tI_1]; omega) hym).2) l _) gX9_leadsTo_X7_begin_n140 rfl 2 5 rfl (List.mem_of_getElem? (i := 15) rfl) (List.mem_of_getElem? (i := 14) rfl) (List.mem_of_getElem? (i := 16) rfl) (by decide +kernel) ⟨Nat.le_of_ble_eq_true rfl, Nat.le_of_ble_eq_true rfl⟩ h_w hkw rfl rfl hl.1 rfl (Nat.le_of_ble_eq_true rfl) dX9_leadsTo_44 ⟨Nat.le_of_ble_eq_true rfl, Nat.le_of_ble_eq_true rfl⟩) hS (fun g_9 H locs hp_10 hS => ?_)
        obtain ⟨iv9, en9, hok9, hen9, hfr_11, h_w⟩ := hp_10
        have h_x := (hfr_11 _ (by omega)).trans h_x
        have h_x1 := (hfr_11 _ (by omega)).trans h_x1
        have h_x2 := (hfr_11 _ (by omega)).trans h_x2
        have h_n := (hfr_11 _ (by omega)).trans h_n
        have h_b := (hfr_11 _ (by omega)).trans h_b
        have h_d := (hfr_11 _ (by omega)).trans h_d
        have h_c := (hfr_11 _ (by omega)).trans h_c
        have h_y := (hfr_11 _ (by omega)).trans h_y
        have hper9 := (zmula hok (nn := (1 : Int32).toInt) (by rw [tI_1]; omega) hym).1
        have hml9 := (zmula hok (nn := (1 : Int32).toInt) (by rw [tI_1]; omega) hym).2
        refine lv_aload_n hx hb dX9_leadsTo_47 rfl (lv_at hl 0 rfl) ?_
        refine z_getN (own := RX9) (C := RX5) (T := TX5) (N := 5) hx hb hts in_X9_leadsTo_5 hown hK hS h_n hkn rfl 2 (by decide) 2 rfl rfl rfl dX9_leadsTo_48 ?_
        refine lv_aload_n hx hb dX9_leadsTo_51 rfl (lv_at hl 0 rfl) ?_
        have hbk := zper_sub hper9
        rw [← hen9] at hbk
        rw [tI_1] at hbk hen9
        have hbk2 : zor (zst (sg s1) 1) en9.toInt (zla (sg s1) 1 y.toInt) = en9.toInt := by have := hbk.2.1; rw [Nat.zero_add] at this; exact this
        have hen20 := zcyc_bd hok hbk.1 hbk2
        refine z_getN (own := RX9) (C := RX5) (T := TX5) (N := 5) hx hb hts in_X9_leadsTo_5 hown hK hS h_n hkn rfl 1 (by decide) 3 rfl rfl rfl dX9_leadsTo_52 ?_
        refine z_getN (own := RX9) (C := RX7) (T := TX7) (N := 7) hx hb hts in_X9_leadsTo_7 hown hK hS h_w hkw rfl 6 (by decide) 4 rfl rfl rfl dX9_leadsTo_55 ?_
        refine z_calli (z_runVN (As := [.int en9]) (rest := []) (C := RX3) ⟨hx, hb, hml, hown, hts⟩ hK hS ((k_numberOf Z g_9 (20 + 13 * s1) (16 + 13 * s1) (sg s1) ⟨h_y, by omega⟩ ⟨pb, qb, res, cmp, dg, ch, ⟨h_b, h_d, h_c, hkN, hok, hp, hq, hres, hdg⟩, hch⟩ hcm en9 hen20 (zla (sg s1) 1 y.toInt) hbk) l _) gX9_leadsTo_X3_numberOf_n148 rfl 1 6 rfl (List.mem_of_getElem? (i := 65) rfl) (List.mem_of_getElem? (i := 64) rfl) (List.mem_of_getElem? (i := 66) rfl) (by decide +kernel) ⟨Nat.le_of_ble_eq_true rfl, Nat.le_of_ble_eq_true rfl⟩ h_y hky rfl rfl hl.1 rfl (Nat.le_of_ble_eq_true rfl) dX9_leadsTo_58 ⟨Nat.le_of_ble_eq_true rfl, Nat.le_of_ble_eq_true rfl⟩) hS (fun rn g_12 H locs hp_13 hS => ?_)
        obtain ⟨rfl, hp_13⟩ := hp_13
        obtain ⟨yl, hyl, hyb, hyb2, ern⟩ := hp_13
        subst ern
        rw [hen9] at hyl
        have hle := zle_is hyl
        subst hle
        have hcb : zlead (sg s1) y.toInt ≤ 51 := Nat.le_trans (zct_le _ _) (by omega)
        refine z_iret hx hb hr hlocks hS ?_ dX9_leadsTo_61
        show z_po Z G9 (sp_leadsTo (sg, rw9) x.toInt y.toInt) _ _
        unfold sp_leadsTo
        rw [zite_t hzs, zite_t hym, htn, zite_t hcm]
        exact ⟨nI_toInt (n := zlead (sg s1) y.toInt) (by omega), hX.walk hs2 (z_fr.rf.tr (hfr_11.wide (by omega) (by omega))) ⟨h_w, hkw, hws⟩⟩
      · have i_7 := z_eq c_7
        rw [tI_0] at i_7
        have hncm := zbo_f hcmp c_7
        refine lv_ldc (v := (-1000003)) hx hb hown (hts _ (List.mem_of_getElem? (i := 4) rfl)) dX9_leadsTo_35 ?_
        refine z_iret hx hb hr hlocks hS ?_ dX9_leadsTo_37
        show z_po Z G9 (sp_leadsTo (sg, rw9) x.toInt y.toInt) _ _
        unfold sp_leadsTo
        rw [zite_t hzs, zite_t hym, htn, zite_f hncm]
        exact ⟨rfl, hX⟩
    · have i_6 := z_eq c_6
      rw [tI_0] at i_6
      have hbad := zbo_f hrb c_6
      refine lv_ldc (v := (-1000002)) hx hb hown (hts _ (List.mem_of_getElem? (i := 3) rfl)) dX9_leadsTo_22 ?_
      refine z_iret hx hb hr hlocks hS ?_ dX9_leadsTo_24
      show z_po Z G9 (sp_leadsTo (sg, rw9) x.toInt y.toInt) _ _
      unfold sp_leadsTo
      rw [zite_t hzs, zite_f hbad]
      exact ⟨rfl, hX⟩
  · subst er
    refine lv_astore_nN (lv' := [(3, .null), (0, .ref (Z.2.1 0)), (1, .int x), (2, .int y)]) hx hb dX9_leadsTo_5 rfl hl (by decide) rfl (fun ls hl => ?_)
    refine lv_aload_nN hx hb dX9_leadsTo_6 rfl (lv_at hl 0 rfl) ?_
    refine lv_ifnonnullN hx hb dX9_leadsTo_7 ?_
    refine lv_ldc (v := (-1000001)) hx hb hown (hts _ (List.mem_of_getElem? (i := 1) rfl)) dX9_leadsTo_10 ?_
    refine z_iret hx hb hr hlocks hS ?_ dX9_leadsTo_12
    show z_po Z G9 (sp_leadsTo (sg, rw9) x.toInt y.toInt) _ _
    unfold sp_leadsTo
    rw [zite_f hnv]
    exact ⟨rfl, hX⟩

theorem in_X9_reachesAll_0 : ∀ w ∈ wsX00, w ∈ wsX9_reachesAll := by decide +kernel
theorem in_X9_reachesAll_5 : ∀ w ∈ wsX50, w ∈ wsX9_reachesAll := by decide +kernel
set_option maxHeartbeats 4000000 in
set_option maxRecDepth 100000 in
theorem k_reachesAll (Z : zT) {G9 : Nat → va_E} (g : Nat → va_E) (sg : Nat → zb) (rw9 : Nat → zr) (hX : z_xw Z G9 g sg rw9) (x : Int32) : z_Mi Z yX9_reachesAll wsX9_reachesAll 5 113 [.ref (Z.2.1 0), .int x] g (fun r g1 => z_po Z G9 (sp_reachesAll (sg, rw9) x.toInt) r g1) := by
  intro l sz
  have h0 := hX.1
  obtain ⟨hN, h_x, ⟨fS, h_x1, hfS⟩, fR, h_x2, hfR⟩ := id h0
  have hN0 : 0 < Z.1 := by omega
  have hN1 : 1 < Z.1 := by omega
  have hN2 : 2 < Z.1 := by omega
  refine z_enter (maxL := 3) (ret := (some .int)) (lv := [(0, .ref (Z.2.1 0)), (1, .int x)]) (plainFor_of_name (by decide +kernel)) rfl (fun ls h => by subst h; exact lv_entry [.ref (Z.2.1 0), .int x] (n := 3) (Nat.le_of_ble_eq_true rfl)) ?_
  intro p e s m args below meth c hx hb hml hr hlocks hown hts hK hS hsz ls hl
  refine lv_aload_n hx hb dX9_reachesAll_0 rfl (lv_at hl 0 rfl) ?_
  refine lv_iload_n hx hb dX9_reachesAll_1 rfl (lv_at hl 1 rfl) ?_
  refine z_callq (z_runV (As := [.int x]) (rest := []) ⟨hx, hb, hml, hown, hts⟩ hK hS ((k_systemAt Z g h0 x) l _) gX9_reachesAll_X9_systemAt rfl 1 (by decide +kernel) ⟨Nat.le_of_ble_eq_true rfl, Nat.le_of_ble_eq_true rfl⟩ h_x hN0 rfl rfl hl.1 rfl (Nat.le_of_ble_eq_true rfl) dX9_reachesAll_2 ⟨Nat.le_of_ble_eq_true rfl, Nat.le_of_ble_eq_true rfl⟩) hS (fun r_1 g_2 H locs hp_3 hS => ?_)
  obtain ⟨rfl, hp_3⟩ := hp_3
  rcases hp_3 with ⟨s1, hs2, hsv, er⟩ | ⟨hnv, er⟩
  · subst er
    obtain ⟨h_n, hBs, ⟨w1, w2, w3, w4, w5, w6, hW⟩, h_y, ⟨lw, hw, tb, y1, y2, y3, hO⟩, l0, hC⟩ := hX.2.2.2.2.2 s1 hs2
    have hzs : zsy x.toInt := ⟨by omega, by omega⟩
    have htn : x.toInt.toNat = s1 := by omega
    obtain ⟨pb, qb, res, cmp, dg, ch, ⟨h_b, h_d, h_c, hkN, hok, hp, hq, hres, hdg⟩, hch, hcmp⟩ := id hBs
    have hkn : 15 + 13 * s1 < Z.1 := by omega
    have hk0 : 16 + 13 * s1 < Z.1 := by omega
    have hk1 : 16 + 13 * s1 + 1 < Z.1 := by omega
    have hk2 : 16 + 13 * s1 + 2 < Z.1 := by omega
    have hPb := zP_bd hok
    have hn12 := hok.2.2.2.1
    have hq1 := hok.2.1
    have hky : 20 + 13 * s1 < Z.1 := by omega
    refine lv_astore_n (lv' := [(2, .ref (Z.2.1 (15 + 13 * s1))), (0, .ref (Z.2.1 0)), (1, .int x)]) hx hb dX9_reachesAll_5 rfl hl (by decide) rfl (fun ls hl => ?_)
    refine lv_aload_n hx hb dX9_reachesAll_6 rfl (lv_at hl 0 rfl) ?_
    refine lv_ifnonnull (tgt := 13) hx hb dX9_reachesAll_7 (by decide) ?_
    refine lv_aload_n hx hb dX9_reachesAll_13 rfl (lv_at hl 0 rfl) ?_
    refine z_getN (own := RX9) (C := RX5) (T := TX5) (N := 5) hx hb hts in_X9_reachesAll_5 hown hK hS h_n hkn rfl 0 (by decide) 14 rfl rfl rfl dX9_reachesAll_14 ?_
    refine z_getN (own := RX9) (C := RX0) (T := TX0) (N := 7) hx hb hts in_X9_reachesAll_0 hown hK hS h_b hk0 rfl 4 (by decide) 1 rfl rfl rfl dX9_reachesAll_17 ?_
    refine lv_if_ne (tgt := 26) hx hb dX9_reachesAll_20 (by decide) (fun c_4 => ?_) (fun c_4 => ?_)
    · have i_4 := z_ne c_4
      rw [tI_0] at i_4
      have hcm := zbo_t hcmp c_4
      refine lv_aload_n hx hb dX9_reachesAll_26 rfl (lv_at hl 0 rfl) ?_
      refine z_getN (own := RX9) (C := RX5) (T := TX5) (N := 5) hx hb hts in_X9_reachesAll_5 hown hK hS h_n hkn rfl 0 (by decide) 14 rfl rfl rfl dX9_reachesAll_27 ?_
      refine z_calli (z_runVN (As := []) (rest := []) (C := RX0) ⟨hx, hb, hml, hown, hts⟩ hK hS ((k_keepsZero Z g (16 + 13 * s1) (sg s1) ⟨pb, qb, res, cmp, dg, ch, ⟨h_b, h_d, h_c, hkN, hok, hp, hq, hres, hdg⟩, hch⟩) l _) gX9_reachesAll_X0_keepsZero_n151 rfl 0 7 rfl (List.mem_of_getElem? (i := 10) rfl) (List.mem_of_getElem? (i := 9) rfl) (List.mem_of_getElem? (i := 11) rfl) (by decide +kernel) ⟨Nat.le_of_ble_eq_true rfl, Nat.le_of_ble_eq_true rfl⟩ h_b hk0 rfl rfl hl.1 rfl (Nat.le_of_ble_eq_true rfl) dX9_reachesAll_30 ⟨Nat.le_of_ble_eq_true rfl, Nat.le_of_ble_eq_true rfl⟩) hS (fun rk g_5 H locs hp_6 hS => ?_)
      obtain ⟨rfl, hp_6⟩ := hp_6
      have hrk := hp_6
      refine lv_if_eq (tgt := 53) hx hb dX9_reachesAll_33 (by decide) (fun c_7 => ?_) (fun c_7 => ?_)
      · have i_7 := z_eq c_7
        rw [tI_0] at i_7
        have hkz := zbo_f hrk c_7
        refine lv_iconst (v := 0) hx hb dX9_reachesAll_53 (by decide) ?_
        refine z_iret hx hb hr hlocks hS ?_ dX9_reachesAll_54
        show z_po Z G9 (sp_reachesAll (sg, rw9) x.toInt) _ _
        unfold sp_reachesAll
        rw [zite_t hzs, htn, zite_t hcm, zite_f (fun h9 => hkz h9.1)]
        exact ⟨rfl, hX⟩
      · have i_7 := z_ne c_7
        rw [tI_0] at i_7
        have hkz := zbo_t hrk c_7
        refine lv_aload_n hx hb dX9_reachesAll_36 rfl (lv_at hl 0 rfl) ?_
        refine z_getN (own := RX9) (C := RX5) (T := TX5) (N := 5) hx hb hts in_X9_reachesAll_5 hown hK hS h_n hkn rfl 2 (by decide) 2 rfl rfl rfl dX9_reachesAll_37 ?_
        refine lv_bipush (v := 20) hx hb dX9_reachesAll_40 (by decide) ?_
        refine z_calli (z_runVN (As := [.int 20]) (rest := []) (C := RX3) ⟨hx, hb, hml, hown, hts⟩ hK hS ((k_countUpTo Z g (20 + 13 * s1) (16 + 13 * s1) (sg s1) ⟨h_y, by omega⟩ ⟨pb, qb, res, cmp, dg, ch, ⟨h_b, h_d, h_c, hkN, hok, hp, hq, hres, hdg⟩, hch⟩ hcm 20 (by rw [tI_20]; omega)) l _) gX9_reachesAll_X3_countUpTo_n120 rfl 1 1 rfl (List.mem_of_getElem? (i := 25) rfl) (List.mem_of_getElem? (i := 24) rfl) (List.mem_of_getElem? (i := 26) rfl) (by decide +kernel) ⟨Nat.le_of_ble_eq_true rfl, Nat.le_of_ble_eq_true rfl⟩ h_y hky rfl rfl hl.1 rfl (Nat.le_of_ble_eq_true rfl) dX9_reachesAll_42 ⟨Nat.le_of_ble_eq_true rfl, Nat.le_of_ble_eq_true rfl⟩) hS (fun rc g_8 H locs hp_9 hS => ?_)
        obtain ⟨rfl, hp_9⟩ := hp_9
        have hrc : rc = nI (zcyc (sg s1)) := by rw [hp_9, tI_20]; exact congrArg nI (zcyc_46 hok)
        subst hrc
        have hcyb : zcyc (sg s1) ≤ 51 := zct_le _ 51
        refine lv_iconst (v := 1) hx hb dX9_reachesAll_45 (by decide) ?_
        refine lv_icmp_ne (tgt := 53) hx hb dX9_reachesAll_46 (by decide) (fun c_10 => ?_) (fun c_10 => ?_)
        · have i_10 := z_ne c_10
          rw [nI_toInt (by omega)] at i_10
          rw [tI_1] at i_10
          refine lv_iconst (v := 0) hx hb dX9_reachesAll_53 (by decide) ?_
          refine z_iret hx hb hr hlocks hS ?_ dX9_reachesAll_54
          show z_po Z G9 (sp_reachesAll (sg, rw9) x.toInt) _ _
          unfold sp_reachesAll
          rw [zite_t hzs, htn, zite_t hcm, zite_f (fun h9 => by have h8 : zcyc (sg s1) = 1 := h9.2; omega)]
          exact ⟨rfl, hX⟩
        · have i_10 := z_eq c_10
          rw [nI_toInt (by omega)] at i_10
          rw [tI_1] at i_10
          refine lv_iconst (v := 1) hx hb dX9_reachesAll_49 (by decide) ?_
          refine lv_goto (tgt := 54) hx hb dX9_reachesAll_50 (by decide) ?_
          refine z_iret hx hb hr hlocks hS ?_ dX9_reachesAll_54
          show z_po Z G9 (sp_reachesAll (sg, rw9) x.toInt) _ _
          unfold sp_reachesAll
          rw [zite_t hzs, htn, zite_t hcm, zite_t ⟨hkz, (show zcyc (sg s1) = 1 by omega)⟩]
          exact ⟨rfl, hX⟩
    · have i_4 := z_eq c_4
      rw [tI_0] at i_4
      have hncm := zbo_f hcmp c_4
      refine lv_ldc (v := (-1000003)) hx hb hown (hts _ (List.mem_of_getElem? (i := 2) rfl)) dX9_reachesAll_23 ?_
      refine z_iret hx hb hr hlocks hS ?_ dX9_reachesAll_25
      show z_po Z G9 (sp_reachesAll (sg, rw9) x.toInt) _ _
      unfold sp_reachesAll
      rw [zite_t hzs, htn, zite_f hncm]
      exact ⟨rfl, hX⟩
  · subst er
    refine lv_astore_nN (lv' := [(2, .null), (0, .ref (Z.2.1 0)), (1, .int x)]) hx hb dX9_reachesAll_5 rfl hl (by decide) rfl (fun ls hl => ?_)
    refine lv_aload_nN hx hb dX9_reachesAll_6 rfl (lv_at hl 0 rfl) ?_
    refine lv_ifnonnullN hx hb dX9_reachesAll_7 ?_
    refine lv_ldc (v := (-1000001)) hx hb hown (hts _ (List.mem_of_getElem? (i := 1) rfl)) dX9_reachesAll_10 ?_
    refine z_iret hx hb hr hlocks hS ?_ dX9_reachesAll_12
    show z_po Z G9 (sp_reachesAll (sg, rw9) x.toInt) _ _
    unfold sp_reachesAll
    rw [zite_f hnv]
    exact ⟨rfl, hX⟩

