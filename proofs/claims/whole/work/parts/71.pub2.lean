theorem in_X9_addDigit_0 : ∀ w ∈ wsX00, w ∈ wsX9_addDigit := by decide +kernel
theorem in_X9_addDigit_5 : ∀ w ∈ wsX50, w ∈ wsX9_addDigit := by decide +kernel
set_option maxHeartbeats 4000000 in
set_option maxRecDepth 100000 in
theorem k_addDigit (Z : zT) {G9 : Nat → va_E} (g : Nat → va_E) (sg : Nat → zb) (rw9 : Nat → zr) (hX : z_xw Z G9 g sg rw9) (x y : Int32) : z_Mi Z yX9_addDigit wsX9_addDigit 4 88 [.ref (Z.2.1 0), .int x, .int y] g (fun r g1 => z_po Z G9 (sp_addDigit (sg, rw9) x.toInt y.toInt) r g1) := by
  intro l sz
  have h0 := hX.1
  obtain ⟨hN, h_x, ⟨fS, h_x1, hfS⟩, fR, h_x2, hfR⟩ := id h0
  have hN0 : 0 < Z.1 := by omega
  have hN1 : 1 < Z.1 := by omega
  have hN2 : 2 < Z.1 := by omega
  refine z_enter (maxL := 4) (ret := (some .int)) (lv := [(0, .ref (Z.2.1 0)), (1, .int x), (2, .int y)]) (plainFor_of_name (by decide +kernel)) rfl (fun ls h => by subst h; exact lv_entry [.ref (Z.2.1 0), .int x, .int y] (n := 4) (Nat.le_of_ble_eq_true rfl)) ?_
  intro p e s m args below meth c hx hb hml hr hlocks hown hts hK hS hsz ls hl
  refine lv_aload_n hx hb dX9_addDigit_0 rfl (lv_at hl 0 rfl) ?_
  refine lv_iload_n hx hb dX9_addDigit_1 rfl (lv_at hl 1 rfl) ?_
  refine z_callq (z_runV (As := [.int x]) (rest := []) ⟨hx, hb, hml, hown, hts⟩ hK hS ((k_systemAt Z g h0 x) l _) gX9_addDigit_X9_systemAt rfl 1 (by decide +kernel) ⟨Nat.le_of_ble_eq_true rfl, Nat.le_of_ble_eq_true rfl⟩ h_x hN0 rfl rfl hl.1 rfl (Nat.le_of_ble_eq_true rfl) dX9_addDigit_2 ⟨Nat.le_of_ble_eq_true rfl, Nat.le_of_ble_eq_true rfl⟩) hS (fun r_1 g_2 H locs hp_3 hS => ?_)
  obtain ⟨rfl, hp_3⟩ := hp_3
  rcases hp_3 with ⟨s1, hs2, hsv, er⟩ | ⟨hnv, er⟩
  · subst er
    obtain ⟨h_n, hBs, ⟨w1, w2, w3, w4, w5, w6, hW⟩, h_y, ⟨lw, hw, tb, y1, y2, y3, hO⟩, l0, hC⟩ := hX.2.2.2.2.2 s1 hs2
    have hzs : zsy x.toInt := ⟨by omega, by omega⟩
    have htn : x.toInt.toNat = s1 := by omega
    obtain ⟨pb, qb, res, cmp, dg, ch, ⟨h_b, h_d, h_c, hkN, hok, hp, hq, hres, hdg⟩, hch, hcmp⟩ := id hBs
    have hkn : 15 + 13 * s1 < Z.1 := by omega
    have hk0 : 16 + 13 * s1 < Z.1 := by omega
    have hk1 : 16 + 13 * s1 + 1 < Z.1 := by omega
    have hk2 : 16 + 13 * s1 + 2 < Z.1 := by omega
    have hPb := zP_bd hok
    have hn12 := hok.2.2.2.1
    have hq1 := hok.2.1
    refine lv_astore_n (lv' := [(3, .ref (Z.2.1 (15 + 13 * s1))), (0, .ref (Z.2.1 0)), (1, .int x), (2, .int y)]) hx hb dX9_addDigit_5 rfl hl (by decide) rfl (fun ls hl => ?_)
    refine lv_aload_n hx hb dX9_addDigit_6 rfl (lv_at hl 0 rfl) ?_
    refine lv_ifnonnull (tgt := 13) hx hb dX9_addDigit_7 (by decide) ?_
    refine lv_iload_n hx hb dX9_addDigit_13 rfl (lv_at hl 3 rfl) ?_
    refine lv_bipush (v := 20) hx hb dX9_addDigit_14 (by decide) ?_
    refine z_calli (z_runS (As := [.int y, .int 20]) (rest := []) ⟨hx, hb, hml, hown, hts⟩ hK hS ((k_isWithin Z g y 20 (by rw [tI_20]; omega)) l _) gX9_addDigit_X9_isWithin rfl 2 (by decide +kernel) ⟨Nat.le_of_ble_eq_true rfl, Nat.le_of_ble_eq_true rfl⟩ rfl hl.1 rfl (Nat.le_of_ble_eq_true rfl) dX9_addDigit_16 ⟨Nat.le_of_ble_eq_true rfl, Nat.le_of_ble_eq_true rfl⟩) hS (fun rb g_4 H locs hp_5 hS => ?_)
    obtain ⟨rfl, hp_5⟩ := hp_5
    have hrb := hp_5
    rw [tI_20] at hrb
    refine lv_if_ne (tgt := 25) hx hb dX9_addDigit_19 (by decide) (fun c_6 => ?_) (fun c_6 => ?_)
    · have i_6 := z_ne c_6
      rw [tI_0] at i_6
      have h20 := zbo_t hrb c_6
      refine lv_aload_n hx hb dX9_addDigit_25 rfl (lv_at hl 0 rfl) ?_
      refine z_getN (own := RX9) (C := RX5) (T := TX5) (N := 5) hx hb hts in_X9_addDigit_5 hown hK hS h_n hkn rfl 0 (by decide) 14 rfl rfl rfl dX9_addDigit_26 ?_
      refine lv_iload_n hx hb dX9_addDigit_29 rfl (lv_at hl 3 rfl) ?_
      refine z_calli (z_runVN (As := [.int y]) (rest := []) (C := RX0) ⟨hx, hb, hml, hown, hts⟩ hK hS ((k_placeOf Z g (16 + 13 * s1) (sg s1) ⟨pb, qb, res, cmp, dg, ch, h_b, h_d, h_c, hkN, hok, hp, hq, hres, hdg⟩ y) l _) gX9_addDigit_X0_placeOf_n72 rfl 1 36 rfl (List.mem_of_getElem? (i := 15) rfl) (List.mem_of_getElem? (i := 14) rfl) (List.mem_of_getElem? (i := 16) rfl) (by decide +kernel) ⟨Nat.le_of_ble_eq_true rfl, Nat.le_of_ble_eq_true rfl⟩ h_b hk0 rfl rfl hl.1 rfl (Nat.le_of_ble_eq_true rfl) dX9_addDigit_30 ⟨Nat.le_of_ble_eq_true rfl, Nat.le_of_ble_eq_true rfl⟩) hS (fun rp g_7 H locs hp_8 hS => ?_)
      obtain ⟨rfl, hp_8⟩ := hp_8
      have hrp : rp.toInt = if zdi (sg s1) y.toInt < (sg s1).2.2.1 then (zdi (sg s1) y.toInt : Int) else -1 := hp_8
      have hzl : zdi (sg s1) y.toInt ≤ (sg s1).2.2.1 := zfi_le _ _
      refine lv_if_lt (tgt := 39) hx hb dX9_addDigit_33 (by decide) (fun c_9 => ?_) (fun c_9 => ?_)
      · have i_9 := z_lt c_9
        rw [tI_0] at i_9
        have hnf : ¬ zdi (sg s1) y.toInt < (sg s1).2.2.1 := fun h9 => by rw [if_pos h9] at hrp; omega
        refine lv_aload_n hx hb dX9_addDigit_39 rfl (lv_at hl 0 rfl) ?_
        refine z_getN (own := RX9) (C := RX5) (T := TX5) (N := 5) hx hb hts in_X9_addDigit_5 hown hK hS h_n hkn rfl 0 (by decide) 14 rfl rfl rfl dX9_addDigit_40 ?_
        refine z_getN (own := RX9) (C := RX0) (T := TX0) (N := 7) hx hb hts in_X9_addDigit_0 hown hK hS h_b hk0 rfl 3 (by decide) 16 rfl rfl rfl dX9_addDigit_43 ?_
        refine lv_bipush (v := 12) hx hb dX9_addDigit_46 (by decide) ?_
        refine lv_icmp_lt (tgt := 54) hx hb dX9_addDigit_48 (by decide) (fun c_10 => ?_) (fun c_10 => ?_)
        · have i_10 := z_lt c_10
          rw [nI_toInt (by omega)] at i_10
          rw [tI_12] at i_10
          refine lv_aload_n hx hb dX9_addDigit_54 rfl (lv_at hl 0 rfl) ?_
          refine z_getN (own := RX9) (C := RX5) (T := TX5) (N := 5) hx hb hts in_X9_addDigit_5 hown hK hS h_n hkn rfl 0 (by decide) 14 rfl rfl rfl dX9_addDigit_55 ?_
          refine lv_iload_n hx hb dX9_addDigit_58 rfl (lv_at hl 3 rfl) ?_
          refine z_callv (z_runVN (As := [.int y]) (rest := []) (C := RX0) ⟨hx, hb, hml, hown, hts⟩ hK hS ((k_append Z g (16 + 13 * s1) (sg s1) ⟨pb, qb, res, cmp, dg, ch, h_b, h_d, h_c, hkN, hok, hp, hq, hres, hdg⟩ y h20 (by omega)) l _) gX9_addDigit_X0_append_n81 rfl 1 37 rfl (List.mem_of_getElem? (i := 15) rfl) (List.mem_of_getElem? (i := 20) rfl) (List.mem_of_getElem? (i := 21) rfl) (by decide +kernel) ⟨Nat.le_of_ble_eq_true rfl, Nat.le_of_ble_eq_true rfl⟩ h_b hk0 rfl rfl hl.1 rfl (Nat.le_of_ble_eq_true rfl) dX9_addDigit_59 ⟨Nat.le_of_ble_eq_true rfl, Nat.le_of_ble_eq_true rfl⟩) hS (fun g_12 H locs hp_13 hS => ?_)
          obtain ⟨hB2, hfr_14⟩ := hp_13
          have h_x := (hfr_14 _ (by omega)).trans h_x
          have h_x1 := (hfr_14 _ (by omega)).trans h_x1
          have h_x2 := (hfr_14 _ (by omega)).trans h_x2
          have h_n := (hfr_14 _ (by omega)).trans h_n
          obtain ⟨pb2, qb2, res2, cmp2, dg2, ch2, ⟨h_b, -⟩, -⟩ := id hB2
          refine lv_aload_n hx hb dX9_addDigit_62 rfl (lv_at hl 0 rfl) ?_
          refine z_getN (own := RX9) (C := RX5) (T := TX5) (N := 5) hx hb hts in_X9_addDigit_5 hown hK hS h_n hkn rfl 0 (by decide) 14 rfl rfl rfl dX9_addDigit_63 ?_
          refine z_getN (own := RX9) (C := RX0) (T := TX0) (N := 7) hx hb hts in_X9_addDigit_0 hown hK hS h_b hk0 rfl 3 (by decide) 16 rfl rfl rfl dX9_addDigit_66 ?_
          refine z_iret hx hb hr hlocks hS ?_ dX9_addDigit_69
          show z_po Z G9 (sp_addDigit (sg, rw9) x.toInt y.toInt) _ _
          unfold sp_addDigit
          rw [zite_t hzs, zite_t h20, htn, zite_f hnf, zite_t (show (sg s1).2.2.1 < 12 by omega)]
          exact ⟨(nI_toInt (n := (sg s1).2.2.1 + 1) (by omega)).trans (by dsimp only; omega), hX.base hs2 (z_fr.rf.tr (hfr_14.wide (by omega) (by omega))) hB2⟩
        · have i_10 := z_nlt c_10
          rw [nI_toInt (by omega)] at i_10
          rw [tI_12] at i_10
          refine lv_ldc (v := (-1000005)) hx hb hown (hts _ (List.mem_of_getElem? (i := 4) rfl)) dX9_addDigit_51 ?_
          refine z_iret hx hb hr hlocks hS ?_ dX9_addDigit_53
          show z_po Z G9 (sp_addDigit (sg, rw9) x.toInt y.toInt) _ _
          unfold sp_addDigit
          rw [zite_t hzs, zite_t h20, htn, zite_f hnf, zite_f (show ¬ (sg s1).2.2.1 < 12 by omega)]
          exact ⟨rfl, hX⟩
      · have i_9 := z_nlt c_9
        rw [tI_0] at i_9
        have hfd : zdi (sg s1) y.toInt < (sg s1).2.2.1 := by
          by_cases h9 : zdi (sg s1) y.toInt < (sg s1).2.2.1
          · exact h9
          · rw [if_neg h9] at hrp; omega
        rw [if_pos hfd] at hrp
        refine lv_ldc (v := (-1000004)) hx hb hown (hts _ (List.mem_of_getElem? (i := 3) rfl)) dX9_addDigit_36 ?_
        refine z_iret hx hb hr hlocks hS ?_ dX9_addDigit_38
        show z_po Z G9 (sp_addDigit (sg, rw9) x.toInt y.toInt) _ _
        unfold sp_addDigit
        rw [zite_t hzs, zite_t h20, htn, zite_t hfd]
        exact ⟨rfl, hX⟩
    · have i_6 := z_eq c_6
      rw [tI_0] at i_6
      have h20 := zbo_f hrb c_6
      refine lv_ldc (v := (-1000002)) hx hb hown (hts _ (List.mem_of_getElem? (i := 2) rfl)) dX9_addDigit_22 ?_
      refine z_iret hx hb hr hlocks hS ?_ dX9_addDigit_24
      show z_po Z G9 (sp_addDigit (sg, rw9) x.toInt y.toInt) _ _
      unfold sp_addDigit
      rw [zite_t hzs, zite_f h20]
      exact ⟨rfl, hX⟩
  · subst er
    refine lv_astore_nN (lv' := [(3, .null), (0, .ref (Z.2.1 0)), (1, .int x), (2, .int y)]) hx hb dX9_addDigit_5 rfl hl (by decide) rfl (fun ls hl => ?_)
    refine lv_aload_nN hx hb dX9_addDigit_6 rfl (lv_at hl 0 rfl) ?_
    refine lv_ifnonnullN hx hb dX9_addDigit_7 ?_
    refine lv_ldc (v := (-1000001)) hx hb hown (hts _ (List.mem_of_getElem? (i := 1) rfl)) dX9_addDigit_10 ?_
    refine z_iret hx hb hr hlocks hS ?_ dX9_addDigit_12
    show z_po Z G9 (sp_addDigit (sg, rw9) x.toInt y.toInt) _ _
    unfold sp_addDigit
    rw [zite_f hnv]
    exact ⟨rfl, hX⟩

theorem in_X9_removeDigit_0 : ∀ w ∈ wsX00, w ∈ wsX9_removeDigit := by decide +kernel
theorem in_X9_removeDigit_5 : ∀ w ∈ wsX50, w ∈ wsX9_removeDigit := by decide +kernel
set_option maxHeartbeats 4000000 in
set_option maxRecDepth 100000 in
theorem k_removeDigit (Z : zT) {G9 : Nat → va_E} (g : Nat → va_E) (sg : Nat → zb) (rw9 : Nat → zr) (hX : z_xw Z G9 g sg rw9) (x y : Int32) : z_Mi Z yX9_removeDigit wsX9_removeDigit 4 89 [.ref (Z.2.1 0), .int x, .int y] g (fun r g1 => z_po Z G9 (sp_removeDigit (sg, rw9) x.toInt y.toInt) r g1) := by
  intro l sz
  have h0 := hX.1
  obtain ⟨hN, h_x, ⟨fS, h_x1, hfS⟩, fR, h_x2, hfR⟩ := id h0
  have hN0 : 0 < Z.1 := by omega
  have hN1 : 1 < Z.1 := by omega
  have hN2 : 2 < Z.1 := by omega
  refine z_enter (maxL := 5) (ret := (some .int)) (lv := [(0, .ref (Z.2.1 0)), (1, .int x), (2, .int y)]) (plainFor_of_name (by decide +kernel)) rfl (fun ls h => by subst h; exact lv_entry [.ref (Z.2.1 0), .int x, .int y] (n := 5) (Nat.le_of_ble_eq_true rfl)) ?_
  intro p e s m args below meth c hx hb hml hr hlocks hown hts hK hS hsz ls hl
  refine lv_aload_n hx hb dX9_removeDigit_0 rfl (lv_at hl 0 rfl) ?_
  refine lv_iload_n hx hb dX9_removeDigit_1 rfl (lv_at hl 1 rfl) ?_
  refine z_callq (z_runV (As := [.int x]) (rest := []) ⟨hx, hb, hml, hown, hts⟩ hK hS ((k_systemAt Z g h0 x) l _) gX9_removeDigit_X9_systemAt rfl 1 (by decide +kernel) ⟨Nat.le_of_ble_eq_true rfl, Nat.le_of_ble_eq_true rfl⟩ h_x hN0 rfl rfl hl.1 rfl (Nat.le_of_ble_eq_true rfl) dX9_removeDigit_2 ⟨Nat.le_of_ble_eq_true rfl, Nat.le_of_ble_eq_true rfl⟩) hS (fun r_1 g_2 H locs hp_3 hS => ?_)
  obtain ⟨rfl, hp_3⟩ := hp_3
  rcases hp_3 with ⟨s1, hs2, hsv, er⟩ | ⟨hnv, er⟩
  · subst er
    obtain ⟨h_n, hBs, ⟨w1, w2, w3, w4, w5, w6, hW⟩, h_y, ⟨lw, hw, tb, y1, y2, y3, hO⟩, l0, hC⟩ := hX.2.2.2.2.2 s1 hs2
    have hzs : zsy x.toInt := ⟨by omega, by omega⟩
    have htn : x.toInt.toNat = s1 := by omega
    obtain ⟨pb, qb, res, cmp, dg, ch, ⟨h_b, h_d, h_c, hkN, hok, hp, hq, hres, hdg⟩, hch, hcmp⟩ := id hBs
    have hkn : 15 + 13 * s1 < Z.1 := by omega
    have hk0 : 16 + 13 * s1 < Z.1 := by omega
    have hk1 : 16 + 13 * s1 + 1 < Z.1 := by omega
    have hk2 : 16 + 13 * s1 + 2 < Z.1 := by omega
    have hPb := zP_bd hok
    have hn12 := hok.2.2.2.1
    have hq1 := hok.2.1
    refine lv_astore_n (lv' := [(3, .ref (Z.2.1 (15 + 13 * s1))), (0, .ref (Z.2.1 0)), (1, .int x), (2, .int y)]) hx hb dX9_removeDigit_5 rfl hl (by decide) rfl (fun ls hl => ?_)
    refine lv_aload_n hx hb dX9_removeDigit_6 rfl (lv_at hl 0 rfl) ?_
    refine lv_ifnonnull (tgt := 13) hx hb dX9_removeDigit_7 (by decide) ?_
    refine lv_aload_n hx hb dX9_removeDigit_13 rfl (lv_at hl 0 rfl) ?_
    refine z_getN (own := RX9) (C := RX5) (T := TX5) (N := 5) hx hb hts in_X9_removeDigit_5 hown hK hS h_n hkn rfl 0 (by decide) 14 rfl rfl rfl dX9_removeDigit_14 ?_
    refine lv_iload_n hx hb dX9_removeDigit_17 rfl (lv_at hl 3 rfl) ?_
    refine z_calli (z_runVN (As := [.int y]) (rest := []) (C := RX0) ⟨hx, hb, hml, hown, hts⟩ hK hS ((k_placeOf Z g (16 + 13 * s1) (sg s1) ⟨pb, qb, res, cmp, dg, ch, h_b, h_d, h_c, hkN, hok, hp, hq, hres, hdg⟩ y) l _) gX9_removeDigit_X0_placeOf_n72 rfl 1 36 rfl (List.mem_of_getElem? (i := 10) rfl) (List.mem_of_getElem? (i := 9) rfl) (List.mem_of_getElem? (i := 11) rfl) (by decide +kernel) ⟨Nat.le_of_ble_eq_true rfl, Nat.le_of_ble_eq_true rfl⟩ h_b hk0 rfl rfl hl.1 rfl (Nat.le_of_ble_eq_true rfl) dX9_removeDigit_18 ⟨Nat.le_of_ble_eq_true rfl, Nat.le_of_ble_eq_true rfl⟩) hS (fun rp g_4 H locs hp_5 hS => ?_)
    obtain ⟨rfl, hp_5⟩ := hp_5
    have hrp : rp.toInt = if zdi (sg s1) y.toInt < (sg s1).2.2.1 then (zdi (sg s1) y.toInt : Int) else -1 := hp_5
    have hzl : zdi (sg s1) y.toInt ≤ (sg s1).2.2.1 := zfi_le _ _
    refine lv_istore (lv' := [(4, .int rp), (3, .ref (Z.2.1 (15 + 13 * s1))), (0, .ref (Z.2.1 0)), (1, .int x), (2, .int y)]) hx hb dX9_removeDigit_21 hl (by decide) rfl (fun ls hl => ?_)
    refine lv_iload hx hb dX9_removeDigit_23 (lv_at hl 0 rfl) ?_
    refine lv_if_ge (tgt := 31) hx hb dX9_removeDigit_25 (by decide) (fun c_6 => ?_) (fun c_6 => ?_)
    · have i_6 := z_le c_6
      rw [tI_0] at i_6
      have hfd : zdi (sg s1) y.toInt < (sg s1).2.2.1 := by
        by_cases h9 : zdi (sg s1) y.toInt < (sg s1).2.2.1
        · exact h9
        · rw [if_neg h9] at hrp; omega
      rw [if_pos hfd] at hrp
      have erp : rp = nI (zdi (sg s1) y.toInt) := z_nI_is hrp
      subst erp
      refine lv_aload_n hx hb dX9_removeDigit_31 rfl (lv_at hl 1 rfl) ?_
      refine z_getN (own := RX9) (C := RX5) (T := TX5) (N := 5) hx hb hts in_X9_removeDigit_5 hown hK hS h_n hkn rfl 0 (by decide) 14 rfl rfl rfl dX9_removeDigit_32 ?_
      refine lv_iload hx hb dX9_removeDigit_35 (lv_at hl 0 rfl) ?_
      refine z_callv (z_runVN (As := [.int (nI (zdi (sg s1) y.toInt))]) (rest := []) (C := RX0) ⟨hx, hb, hml, hown, hts⟩ hK hS ((k_removeAt Z g (16 + 13 * s1) (sg s1) ⟨pb, qb, res, cmp, dg, ch, h_b, h_d, h_c, hkN, hok, hp, hq, hres, hdg⟩ (zdi (sg s1) y.toInt) hfd) l _) gX9_removeDigit_X0_removeAt_n85 rfl 1 38 rfl (List.mem_of_getElem? (i := 10) rfl) (List.mem_of_getElem? (i := 15) rfl) (List.mem_of_getElem? (i := 16) rfl) (by decide +kernel) ⟨Nat.le_of_ble_eq_true rfl, Nat.le_of_ble_eq_true rfl⟩ h_b hk0 rfl rfl hl.1 rfl (Nat.le_of_ble_eq_true rfl) dX9_removeDigit_37 ⟨Nat.le_of_ble_eq_true rfl, Nat.le_of_ble_eq_true rfl⟩) hS (fun g_8 H locs hp_9 hS => ?_)
      obtain ⟨hB2, hfr_10⟩ := hp_9
      have h_x := (hfr_10 _ (by omega)).trans h_x
      have h_x1 := (hfr_10 _ (by omega)).trans h_x1
      have h_x2 := (hfr_10 _ (by omega)).trans h_x2
      have h_n := (hfr_10 _ (by omega)).trans h_n
      obtain ⟨pb2, qb2, res2, cmp2, dg2, ch2, ⟨h_b, -⟩, -⟩ := id hB2
      refine lv_aload_n hx hb dX9_removeDigit_40 rfl (lv_at hl 1 rfl) ?_
      refine z_getN (own := RX9) (C := RX5) (T := TX5) (N := 5) hx hb hts in_X9_removeDigit_5 hown hK hS h_n hkn rfl 0 (by decide) 14 rfl rfl rfl dX9_removeDigit_41 ?_
      refine z_getN (own := RX9) (C := RX0) (T := TX0) (N := 7) hx hb hts in_X9_removeDigit_0 hown hK hS h_b hk0 rfl 3 (by decide) 16 rfl rfl rfl dX9_removeDigit_44 ?_
      refine z_iret hx hb hr hlocks hS ?_ dX9_removeDigit_47
      show z_po Z G9 (sp_removeDigit (sg, rw9) x.toInt y.toInt) _ _
      unfold sp_removeDigit
      rw [zite_t hzs, htn, zite_t hfd]
      exact ⟨(nI_toInt (n := (sg s1).2.2.1 - 1) (by omega)).trans (by dsimp only; omega), hX.base hs2 (z_fr.rf.tr (hfr_10.wide (by omega) (by omega))) hB2⟩
    · have i_6 := z_nle c_6
      rw [tI_0] at i_6
      have hnf : ¬ zdi (sg s1) y.toInt < (sg s1).2.2.1 := fun h9 => by rw [if_pos h9] at hrp; omega
      refine lv_ldc (v := (-1000004)) hx hb hown (hts _ (List.mem_of_getElem? (i := 2) rfl)) dX9_removeDigit_28 ?_
      refine z_iret hx hb hr hlocks hS ?_ dX9_removeDigit_30
      show z_po Z G9 (sp_removeDigit (sg, rw9) x.toInt y.toInt) _ _
      unfold sp_removeDigit
      rw [zite_t hzs, htn, zite_f hnf]
      exact ⟨rfl, hX⟩
  · subst er
    refine lv_astore_nN (lv' := [(3, .null), (0, .ref (Z.2.1 0)), (1, .int x), (2, .int y)]) hx hb dX9_removeDigit_5 rfl hl (by decide) rfl (fun ls hl => ?_)
    refine lv_aload_nN hx hb dX9_removeDigit_6 rfl (lv_at hl 0 rfl) ?_
    refine lv_ifnonnullN hx hb dX9_removeDigit_7 ?_
    refine lv_ldc (v := (-1000001)) hx hb hown (hts _ (List.mem_of_getElem? (i := 1) rfl)) dX9_removeDigit_10 ?_
    refine z_iret hx hb hr hlocks hS ?_ dX9_removeDigit_12
    show z_po Z G9 (sp_removeDigit (sg, rw9) x.toInt y.toInt) _ _
    unfold sp_removeDigit
    rw [zite_f hnv]
    exact ⟨rfl, hX⟩

theorem in_X9_choose_5 : ∀ w ∈ wsX50, w ∈ wsX9_choose := by decide +kernel
set_option maxHeartbeats 4000000 in
set_option maxRecDepth 100000 in
theorem k_choose (Z : zT) {G9 : Nat → va_E} (g : Nat → va_E) (sg : Nat → zb) (rw9 : Nat → zr) (hX : z_xw Z G9 g sg rw9) (x y : Int32) : z_Mi Z yX9_choose wsX9_choose 4 90 [.ref (Z.2.1 0), .int x, .int y] g (fun r g1 => z_po Z G9 (sp_choose (sg, rw9) x.toInt y.toInt) r g1) := by
  intro l sz
  have h0 := hX.1
  obtain ⟨hN, h_x, ⟨fS, h_x1, hfS⟩, fR, h_x2, hfR⟩ := id h0
  have hN0 : 0 < Z.1 := by omega
  have hN1 : 1 < Z.1 := by omega
  have hN2 : 2 < Z.1 := by omega
  refine z_enter (maxL := 5) (ret := (some .int)) (lv := [(0, .ref (Z.2.1 0)), (1, .int x), (2, .int y)]) (plainFor_of_name (by decide +kernel)) rfl (fun ls h => by subst h; exact lv_entry [.ref (Z.2.1 0), .int x, .int y] (n := 5) (Nat.le_of_ble_eq_true rfl)) ?_
  intro p e s m args below meth c hx hb hml hr hlocks hown hts hK hS hsz ls hl
  refine lv_aload_n hx hb dX9_choose_0 rfl (lv_at hl 0 rfl) ?_
  refine lv_iload_n hx hb dX9_choose_1 rfl (lv_at hl 1 rfl) ?_
  refine z_callq (z_runV (As := [.int x]) (rest := []) ⟨hx, hb, hml, hown, hts⟩ hK hS ((k_systemAt Z g h0 x) l _) gX9_choose_X9_systemAt rfl 1 (by decide +kernel) ⟨Nat.le_of_ble_eq_true rfl, Nat.le_of_ble_eq_true rfl⟩ h_x hN0 rfl rfl hl.1 rfl (Nat.le_of_ble_eq_true rfl) dX9_choose_2 ⟨Nat.le_of_ble_eq_true rfl, Nat.le_of_ble_eq_true rfl⟩) hS (fun r_1 g_2 H locs hp_3 hS => ?_)
  obtain ⟨rfl, hp_3⟩ := hp_3
  rcases hp_3 with ⟨s1, hs2, hsv, er⟩ | ⟨hnv, er⟩
  · subst er
    obtain ⟨h_n, hBs, ⟨w1, w2, w3, w4, w5, w6, hW⟩, h_y, ⟨lw, hw, tb, y1, y2, y3, hO⟩, l0, hC⟩ := hX.2.2.2.2.2 s1 hs2
    have hzs : zsy x.toInt := ⟨by omega, by omega⟩
    have htn : x.toInt.toNat = s1 := by omega
    obtain ⟨pb, qb, res, cmp, dg, ch, ⟨h_b, h_d, h_c, hkN, hok, hp, hq, hres, hdg⟩, hch, hcmp⟩ := id hBs
    have hkn : 15 + 13 * s1 < Z.1 := by omega
    have hk0 : 16 + 13 * s1 < Z.1 := by omega
    have hk1 : 16 + 13 * s1 + 1 < Z.1 := by omega
    have hk2 : 16 + 13 * s1 + 2 < Z.1 := by omega
    have hPb := zP_bd hok
    have hn12 := hok.2.2.2.1
    have hq1 := hok.2.1
    refine lv_astore_n (lv' := [(3, .ref (Z.2.1 (15 + 13 * s1))), (0, .ref (Z.2.1 0)), (1, .int x), (2, .int y)]) hx hb dX9_choose_5 rfl hl (by decide) rfl (fun ls hl => ?_)
    refine lv_aload_n hx hb dX9_choose_6 rfl (lv_at hl 0 rfl) ?_
    refine lv_ifnonnull (tgt := 13) hx hb dX9_choose_7 (by decide) ?_
    refine lv_aload_n hx hb dX9_choose_13 rfl (lv_at hl 0 rfl) ?_
    refine z_getN (own := RX9) (C := RX5) (T := TX5) (N := 5) hx hb hts in_X9_choose_5 hown hK hS h_n hkn rfl 0 (by decide) 14 rfl rfl rfl dX9_choose_14 ?_
    refine lv_iload_n hx hb dX9_choose_17 rfl (lv_at hl 3 rfl) ?_
    refine z_calli (z_runVN (As := [.int y]) (rest := []) (C := RX0) ⟨hx, hb, hml, hown, hts⟩ hK hS ((k_placeOf Z g (16 + 13 * s1) (sg s1) ⟨pb, qb, res, cmp, dg, ch, h_b, h_d, h_c, hkN, hok, hp, hq, hres, hdg⟩ y) l _) gX9_choose_X0_placeOf_n72 rfl 1 36 rfl (List.mem_of_getElem? (i := 10) rfl) (List.mem_of_getElem? (i := 9) rfl) (List.mem_of_getElem? (i := 11) rfl) (by decide +kernel) ⟨Nat.le_of_ble_eq_true rfl, Nat.le_of_ble_eq_true rfl⟩ h_b hk0 rfl rfl hl.1 rfl (Nat.le_of_ble_eq_true rfl) dX9_choose_18 ⟨Nat.le_of_ble_eq_true rfl, Nat.le_of_ble_eq_true rfl⟩) hS (fun rp g_4 H locs hp_5 hS => ?_)
    obtain ⟨rfl, hp_5⟩ := hp_5
    have hrp : rp.toInt = if zdi (sg s1) y.toInt < (sg s1).2.2.1 then (zdi (sg s1) y.toInt : Int) else -1 := hp_5
    have hzl : zdi (sg s1) y.toInt ≤ (sg s1).2.2.1 := zfi_le _ _
    refine lv_istore (lv' := [(4, .int rp), (3, .ref (Z.2.1 (15 + 13 * s1))), (0, .ref (Z.2.1 0)), (1, .int x), (2, .int y)]) hx hb dX9_choose_21 hl (by decide) rfl (fun ls hl => ?_)
    refine lv_iload hx hb dX9_choose_23 (lv_at hl 0 rfl) ?_
    refine lv_if_ge (tgt := 31) hx hb dX9_choose_25 (by decide) (fun c_6 => ?_) (fun c_6 => ?_)
    · have i_6 := z_le c_6
      rw [tI_0] at i_6
      have hfd : zdi (sg s1) y.toInt < (sg s1).2.2.1 := by
        by_cases h9 : zdi (sg s1) y.toInt < (sg s1).2.2.1
        · exact h9
        · rw [if_neg h9] at hrp; omega
      rw [if_pos hfd] at hrp
      have erp : rp = nI (zdi (sg s1) y.toInt) := z_nI_is hrp
      subst erp
      refine lv_aload_n hx hb dX9_choose_31 rfl (lv_at hl 1 rfl) ?_
      refine z_getN (own := RX9) (C := RX5) (T := TX5) (N := 5) hx hb hts in_X9_choose_5 hown hK hS h_n hkn rfl 0 (by decide) 14 rfl rfl rfl dX9_choose_32 ?_
      refine lv_iload hx hb dX9_choose_35 (lv_at hl 0 rfl) ?_
      refine z_callv (z_runVN (As := [.int (nI (zdi (sg s1) y.toInt))]) (rest := []) (C := RX0) ⟨hx, hb, hml, hown, hts⟩ hK hS ((k_moveToFront Z g (16 + 13 * s1) (sg s1) ⟨pb, qb, res, cmp, dg, ch, h_b, h_d, h_c, hkN, hok, hp, hq, hres, hdg⟩ (zdi (sg s1) y.toInt) hfd) l _) gX9_choose_X0_moveToFront_n88 rfl 1 39 rfl (List.mem_of_getElem? (i := 10) rfl) (List.mem_of_getElem? (i := 15) rfl) (List.mem_of_getElem? (i := 16) rfl) (by decide +kernel) ⟨Nat.le_of_ble_eq_true rfl, Nat.le_of_ble_eq_true rfl⟩ h_b hk0 rfl rfl hl.1 rfl (Nat.le_of_ble_eq_true rfl) dX9_choose_37 ⟨Nat.le_of_ble_eq_true rfl, Nat.le_of_ble_eq_true rfl⟩) hS (fun g_8 H locs hp_9 hS => ?_)
      obtain ⟨hB2, hfr_10⟩ := hp_9
      have h_x := (hfr_10 _ (by omega)).trans h_x
      have h_x1 := (hfr_10 _ (by omega)).trans h_x1
      have h_x2 := (hfr_10 _ (by omega)).trans h_x2
      have h_n := (hfr_10 _ (by omega)).trans h_n
      refine lv_iload hx hb dX9_choose_40 (lv_at hl 0 rfl) ?_
      refine z_iret hx hb hr hlocks hS ?_ dX9_choose_42
      show z_po Z G9 (sp_choose (sg, rw9) x.toInt y.toInt) _ _
      unfold sp_choose
      rw [zite_t hzs, htn, zite_t hfd]
      exact ⟨by rw [nI_toInt (by omega)], hX.base hs2 (z_fr.rf.tr (hfr_10.wide (by omega) (by omega))) hB2⟩
    · have i_6 := z_nle c_6
      rw [tI_0] at i_6
      have hnf : ¬ zdi (sg s1) y.toInt < (sg s1).2.2.1 := fun h9 => by rw [if_pos h9] at hrp; omega
      refine lv_ldc (v := (-1000004)) hx hb hown (hts _ (List.mem_of_getElem? (i := 2) rfl)) dX9_choose_28 ?_
      refine z_iret hx hb hr hlocks hS ?_ dX9_choose_30
      show z_po Z G9 (sp_choose (sg, rw9) x.toInt y.toInt) _ _
      unfold sp_choose
      rw [zite_t hzs, htn, zite_f hnf]
      exact ⟨rfl, hX⟩
  · subst er
    refine lv_astore_nN (lv' := [(3, .null), (0, .ref (Z.2.1 0)), (1, .int x), (2, .int y)]) hx hb dX9_choose_5 rfl hl (by decide) rfl (fun ls hl => ?_)
    refine lv_aload_nN hx hb dX9_choose_6 rfl (lv_at hl 0 rfl) ?_
    refine lv_ifnonnullN hx hb dX9_choose_7 ?_
    refine lv_ldc (v := (-1000001)) hx hb hown (hts _ (List.mem_of_getElem? (i := 1) rfl)) dX9_choose_10 ?_
    refine z_iret hx hb hr hlocks hS ?_ dX9_choose_12
    show z_po Z G9 (sp_choose (sg, rw9) x.toInt y.toInt) _ _
    unfold sp_choose
    rw [zite_f hnv]
    exact ⟨rfl, hX⟩

theorem in_X9_digitAt_0 : ∀ w ∈ wsX00, w ∈ wsX9_digitAt := by decide +kernel
theorem in_X9_digitAt_5 : ∀ w ∈ wsX50, w ∈ wsX9_digitAt := by decide +kernel
set_option maxHeartbeats 4000000 in
set_option maxRecDepth 100000 in
theorem k_digitAt (Z : zT) {G9 : Nat → va_E} (g : Nat → va_E) (sg : Nat → zb) (rw9 : Nat → zr) (hX : z_xw Z G9 g sg rw9) (x y : Int32) : z_Mi Z yX9_digitAt wsX9_digitAt 1 21 [.ref (Z.2.1 0), .int x, .int y] g (fun r g1 => z_po Z G9 (sp_digitAt (sg, rw9) x.toInt y.toInt) r g1) := by
  intro l sz
  have h0 := hX.1
  obtain ⟨hN, h_x, ⟨fS, h_x1, hfS⟩, fR, h_x2, hfR⟩ := id h0
  have hN0 : 0 < Z.1 := by omega
  have hN1 : 1 < Z.1 := by omega
  have hN2 : 2 < Z.1 := by omega
  refine z_enter (maxL := 4) (ret := (some .int)) (lv := [(0, .ref (Z.2.1 0)), (1, .int x), (2, .int y)]) (plainFor_of_name (by decide +kernel)) rfl (fun ls h => by subst h; exact lv_entry [.ref (Z.2.1 0), .int x, .int y] (n := 4) (Nat.le_of_ble_eq_true rfl)) ?_
  intro p e s m args below meth c hx hb hml hr hlocks hown hts hK hS hsz ls hl
  refine lv_aload_n hx hb dX9_digitAt_0 rfl (lv_at hl 0 rfl) ?_
  refine lv_iload_n hx hb dX9_digitAt_1 rfl (lv_at hl 1 rfl) ?_
  refine z_callq (z_runV (As := [.int x]) (rest := []) ⟨hx, hb, hml, hown, hts⟩ hK hS ((k_systemAt Z g h0 x) l _) gX9_digitAt_X9_systemAt rfl 1 (by decide +kernel) ⟨Nat.le_of_ble_eq_true rfl, Nat.le_of_ble_eq_true rfl⟩ h_x hN0 rfl rfl hl.1 rfl (Nat.le_of_ble_eq_true rfl) dX9_digitAt_2 ⟨Nat.le_of_ble_eq_true rfl, Nat.le_of_ble_eq_true rfl⟩) hS (fun r_1 g_2 H locs hp_3 hS => ?_)
  obtain ⟨rfl, hp_3⟩ := hp_3
  rcases hp_3 with ⟨s1, hs2, hsv, er⟩ | ⟨hnv, er⟩
  · subst er
    obtain ⟨h_n, hBs, ⟨w1, w2, w3, w4, w5, w6, hW⟩, h_y, ⟨lw, hw, tb, y1, y2, y3, hO⟩, l0, hC⟩ := hX.2.2.2.2.2 s1 hs2
    have hzs : zsy x.toInt := ⟨by omega, by omega⟩
    have htn : x.toInt.toNat = s1 := by omega
    obtain ⟨pb, qb, res, cmp, dg, ch, ⟨h_b, h_d, h_c, hkN, hok, hp, hq, hres, hdg⟩, hch, hcmp⟩ := id hBs
    have hkn : 15 + 13 * s1 < Z.1 := by omega
    have hk0 : 16 + 13 * s1 < Z.1 := by omega
    have hk1 : 16 + 13 * s1 + 1 < Z.1 := by omega
    have hk2 : 16 + 13 * s1 + 2 < Z.1 := by omega
    have hPb := zP_bd hok
    have hn12 := hok.2.2.2.1
    have hq1 := hok.2.1
    refine lv_astore_n (lv' := [(3, .ref (Z.2.1 (15 + 13 * s1))), (0, .ref (Z.2.1 0)), (1, .int x), (2, .int y)]) hx hb dX9_digitAt_5 rfl hl (by decide) rfl (fun ls hl => ?_)
    refine lv_aload_n hx hb dX9_digitAt_6 rfl (lv_at hl 0 rfl) ?_
    refine lv_ifnull hx hb dX9_digitAt_7 ?_
    refine lv_iload_n hx hb dX9_digitAt_10 rfl (lv_at hl 3 rfl) ?_
    refine lv_if_lt (tgt := 25) hx hb dX9_digitAt_11 (by decide) (fun c_4 => ?_) (fun c_4 => ?_)
    · have i_4 := z_lt c_4
      rw [tI_0] at i_4
      have hnr : ¬ (0 ≤ y.toInt ∧ y.toInt < ((sg s1).2.2.1 : Int)) := by omega
      refine lv_ldc (v := (-1000001)) hx hb hown (hts _ (List.mem_of_getElem? (i := 1) rfl)) dX9_digitAt_25 ?_
      refine z_iret hx hb hr hlocks hS ?_ dX9_digitAt_27
      show z_po Z G9 (sp_digitAt (sg, rw9) x.toInt y.toInt) _ _
      unfold sp_digitAt
      rw [zite_t hzs, htn, zite_f hnr]
      exact ⟨rfl, hX⟩
    · have i_4 := z_nlt c_4
      rw [tI_0] at i_4
      refine lv_iload_n hx hb dX9_digitAt_14 rfl (lv_at hl 3 rfl) ?_
      refine lv_aload_n hx hb dX9_digitAt_15 rfl (lv_at hl 0 rfl) ?_
      refine z_getN (own := RX9) (C := RX5) (T := TX5) (N := 5) hx hb hts in_X9_digitAt_5 hown hK hS h_n hkn rfl 0 (by decide) 14 rfl rfl rfl dX9_digitAt_16 ?_
      refine z_getN (own := RX9) (C := RX0) (T := TX0) (N := 7) hx hb hts in_X9_digitAt_0 hown hK hS h_b hk0 rfl 3 (by decide) 16 rfl rfl rfl dX9_digitAt_19 ?_
      refine lv_icmp_lt (tgt := 28) hx hb dX9_digitAt_22 (by decide) (fun c_5 => ?_) (fun c_5 => ?_)
      · have i_5 := z_lt c_5
        rw [nI_toInt (by omega)] at i_5
        obtain ⟨y9, ey9, hy9, -⟩ := z_nI_of (x := y) (by omega)
        subst ey9
        refine lv_aload_n hx hb dX9_digitAt_28 rfl (lv_at hl 0 rfl) ?_
        refine z_getN (own := RX9) (C := RX5) (T := TX5) (N := 5) hx hb hts in_X9_digitAt_5 hown hK hS h_n hkn rfl 0 (by decide) 14 rfl rfl rfl dX9_digitAt_29 ?_
        refine lv_iload_n hx hb dX9_digitAt_32 rfl (lv_at hl 3 rfl) ?_
        refine z_calli (z_runVN (As := [.int (nI y9)]) (rest := []) (C := RX0) ⟨hx, hb, hml, hown, hts⟩ hK hS ((k_listed Z g (16 + 13 * s1) (sg s1) ⟨pb, qb, res, cmp, dg, ch, h_b, h_d, h_c, hkN, hok, hp, hq, hres, hdg⟩ y9 (by omega)) l _) gX9_digitAt_X0_listed_n91 rfl 1 40 rfl (List.mem_of_getElem? (i := 9) rfl) (List.mem_of_getElem? (i := 8) rfl) (List.mem_of_getElem? (i := 10) rfl) (by decide +kernel) ⟨Nat.le_of_ble_eq_true rfl, Nat.le_of_ble_eq_true rfl⟩ h_b hk0 rfl rfl hl.1 rfl (Nat.le_of_ble_eq_true rfl) dX9_digitAt_33 ⟨Nat.le_of_ble_eq_true rfl, Nat.le_of_ble_eq_true rfl⟩) hS (fun rr g_6 H locs hp_7 hS => ?_)
        obtain ⟨rfl, hp_7⟩ := hp_7
        have hrr := hp_7
        refine z_iret hx hb hr hlocks hS ?_ dX9_digitAt_36
        show z_po Z G9 (sp_digitAt (sg, rw9) x.toInt (nI y9).toInt) _ _
        unfold sp_digitAt
        rw [zite_t hzs, htn, zite_t (show 0 ≤ (nI y9).toInt ∧ (nI y9).toInt < ((sg s1).2.2.1 : Int) by omega)]
        exact ⟨by rw [hrr, show (nI y9).toInt.toNat = y9 from by omega], hX⟩
      · have i_5 := z_nlt c_5
        rw [nI_toInt (by omega)] at i_5
        have hnr : ¬ (0 ≤ y.toInt ∧ y.toInt < ((sg s1).2.2.1 : Int)) := by omega
        refine lv_ldc (v := (-1000001)) hx hb hown (hts _ (List.mem_of_getElem? (i := 1) rfl)) dX9_digitAt_25 ?_
        refine z_iret hx hb hr hlocks hS ?_ dX9_digitAt_27
        show z_po Z G9 (sp_digitAt (sg, rw9) x.toInt y.toInt) _ _
        unfold sp_digitAt
        rw [zite_t hzs, htn, zite_f hnr]
        exact ⟨rfl, hX⟩
  · subst er
    refine lv_astore_nN (lv' := [(3, .null), (0, .ref (Z.2.1 0)), (1, .int x), (2, .int y)]) hx hb dX9_digitAt_5 rfl hl (by decide) rfl (fun ls hl => ?_)
    refine lv_aload_nN hx hb dX9_digitAt_6 rfl (lv_at hl 0 rfl) ?_
    refine lv_ifnullN (tgt := 25) hx hb dX9_digitAt_7 (by decide) ?_
    refine lv_ldc (v := (-1000001)) hx hb hown (hts _ (List.mem_of_getElem? (i := 1) rfl)) dX9_digitAt_25 ?_
    refine z_iret hx hb hr hlocks hS ?_ dX9_digitAt_27
    show z_po Z G9 (sp_digitAt (sg, rw9) x.toInt y.toInt) _ _
    unfold sp_digitAt
    rw [zite_f hnv]
    exact ⟨rfl, hX⟩

theorem in_X9_chosen_0 : ∀ w ∈ wsX00, w ∈ wsX9_chosen := by decide +kernel
theorem in_X9_chosen_5 : ∀ w ∈ wsX50, w ∈ wsX9_chosen := by decide +kernel
set_option maxHeartbeats 4000000 in
set_option maxRecDepth 100000 in
theorem k_chosen (Z : zT) {G9 : Nat → va_E} (g : Nat → va_E) (sg : Nat → zb) (rw9 : Nat → zr) (hX : z_xw Z G9 g sg rw9) (x y : Int32) : z_Mi Z yX9_chosen wsX9_chosen 2 44 [.ref (Z.2.1 0), .int x, .int y] g (fun r g1 => z_po Z G9 (sp_chosen (sg, rw9) x.toInt y.toInt) r g1) := by
  intro l sz
  have h0 := hX.1
  obtain ⟨hN, h_x, ⟨fS, h_x1, hfS⟩, fR, h_x2, hfR⟩ := id h0
  have hN0 : 0 < Z.1 := by omega
  have hN1 : 1 < Z.1 := by omega
  have hN2 : 2 < Z.1 := by omega
  refine z_enter (maxL := 4) (ret := (some .int)) (lv := [(0, .ref (Z.2.1 0)), (1, .int x), (2, .int y)]) (plainFor_of_name (by decide +kernel)) rfl (fun ls h => by subst h; exact lv_entry [.ref (Z.2.1 0), .int x, .int y] (n := 4) (Nat.le_of_ble_eq_true rfl)) ?_
  intro p e s m args below meth c hx hb hml hr hlocks hown hts hK hS hsz ls hl
  refine lv_aload_n hx hb dX9_chosen_0 rfl (lv_at hl 0 rfl) ?_
  refine lv_iload_n hx hb dX9_chosen_1 rfl (lv_at hl 1 rfl) ?_
  refine z_callq (z_runV (As := [.int x]) (rest := []) ⟨hx, hb, hml, hown, hts⟩ hK hS ((k_systemAt Z g h0 x) l _) gX9_chosen_X9_systemAt rfl 1 (by decide +kernel) ⟨Nat.le_of_ble_eq_true rfl, Nat.le_of_ble_eq_true rfl⟩ h_x hN0 rfl rfl hl.1 rfl (Nat.le_of_ble_eq_true rfl) dX9_chosen_2 ⟨Nat.le_of_ble_eq_true rfl, Nat.le_of_ble_eq_true rfl⟩) hS (fun r_1 g_2 H locs hp_3 hS => ?_)
  obtain ⟨rfl, hp_3⟩ := hp_3
  rcases hp_3 with ⟨s1, hs2, hsv, er⟩ | ⟨hnv, er⟩
  · subst er
    obtain ⟨h_n, hBs, ⟨w1, w2, w3, w4, w5, w6, hW⟩, h_y, ⟨lw, hw, tb, y1, y2, y3, hO⟩, l0, hC⟩ := hX.2.2.2.2.2 s1 hs2
    have hzs : zsy x.toInt := ⟨by omega, by omega⟩
    have htn : x.toInt.toNat = s1 := by omega
    obtain ⟨pb, qb, res, cmp, dg, ch, ⟨h_b, h_d, h_c, hkN, hok, hp, hq, hres, hdg⟩, hch, hcmp⟩ := id hBs
    have hkn : 15 + 13 * s1 < Z.1 := by omega
    have hk0 : 16 + 13 * s1 < Z.1 := by omega
    have hk1 : 16 + 13 * s1 + 1 < Z.1 := by omega
    have hk2 : 16 + 13 * s1 + 2 < Z.1 := by omega
    have hPb := zP_bd hok
    have hn12 := hok.2.2.2.1
    have hq1 := hok.2.1
    refine lv_astore_n (lv' := [(3, .ref (Z.2.1 (15 + 13 * s1))), (0, .ref (Z.2.1 0)), (1, .int x), (2, .int y)]) hx hb dX9_chosen_5 rfl hl (by decide) rfl (fun ls hl => ?_)
    refine lv_aload_n hx hb dX9_chosen_6 rfl (lv_at hl 0 rfl) ?_
    refine lv_ifnonnull (tgt := 13) hx hb dX9_chosen_7 (by decide) ?_
    refine lv_iload_n hx hb dX9_chosen_13 rfl (lv_at hl 3 rfl) ?_
    refine lv_if_lt (tgt := 28) hx hb dX9_chosen_14 (by decide) (fun c_4 => ?_) (fun c_4 => ?_)
    · have i_4 := z_lt c_4
      rw [tI_0] at i_4
      have hnr : ¬ (0 ≤ y.toInt ∧ y.toInt < zP (sg s1)) := by omega
      refine lv_ldc (v := (-1000002)) hx hb hown (hts _ (List.mem_of_getElem? (i := 2) rfl)) dX9_chosen_28 ?_
      refine z_iret hx hb hr hlocks hS ?_ dX9_chosen_30
      show z_po Z G9 (sp_chosen (sg, rw9) x.toInt y.toInt) _ _
      unfold sp_chosen
      rw [zite_t hzs, htn, zite_f hnr]
      exact ⟨rfl, hX⟩
    · have i_4 := z_nlt c_4
      rw [tI_0] at i_4
      refine lv_iload_n hx hb dX9_chosen_17 rfl (lv_at hl 3 rfl) ?_
      refine lv_aload_n hx hb dX9_chosen_18 rfl (lv_at hl 0 rfl) ?_
      refine z_getN (own := RX9) (C := RX5) (T := TX5) (N := 5) hx hb hts in_X9_chosen_5 hown hK hS h_n hkn rfl 0 (by decide) 14 rfl rfl rfl dX9_chosen_19 ?_
      refine z_getN (own := RX9) (C := RX0) (T := TX0) (N := 7) hx hb hts in_X9_chosen_0 hown hK hS h_b hk0 rfl 2 (by decide) 15 rfl rfl rfl dX9_chosen_22 ?_
      refine lv_icmp_lt (tgt := 31) hx hb dX9_chosen_25 (by decide) (fun c_5 => ?_) (fun c_5 => ?_)
      · have i_5 := z_lt c_5
        refine lv_aload_n hx hb dX9_chosen_31 rfl (lv_at hl 0 rfl) ?_
        refine z_getN (own := RX9) (C := RX5) (T := TX5) (N := 5) hx hb hts in_X9_chosen_5 hown hK hS h_n hkn rfl 0 (by decide) 14 rfl rfl rfl dX9_chosen_32 ?_
        refine lv_iload_n hx hb dX9_chosen_35 rfl (lv_at hl 3 rfl) ?_
        refine z_calli (z_runVN (As := [.int y]) (rest := []) (C := RX0) ⟨hx, hb, hml, hown, hts⟩ hK hS ((k_digitFor Z g (16 + 13 * s1) (sg s1) ⟨pb, qb, res, cmp, dg, ch, ⟨h_b, h_d, h_c, hkN, hok, hp, hq, hres, hdg⟩, hch⟩ y) l _) gX9_chosen_X0_digitFor_n94 rfl 1 41 rfl (List.mem_of_getElem? (i := 10) rfl) (List.mem_of_getElem? (i := 9) rfl) (List.mem_of_getElem? (i := 11) rfl) (by decide +kernel) ⟨Nat.le_of_ble_eq_true rfl, Nat.le_of_ble_eq_true rfl⟩ h_b hk0 rfl rfl hl.1 rfl (Nat.le_of_ble_eq_true rfl) dX9_chosen_36 ⟨Nat.le_of_ble_eq_true rfl, Nat.le_of_ble_eq_true rfl⟩) hS (fun rr g_6 H locs hp_7 hS => ?_)
        obtain ⟨rfl, hp_7⟩ := hp_7
        have hrr := hp_7
        refine z_iret hx hb hr hlocks hS ?_ dX9_chosen_39
        show z_po Z G9 (sp_chosen (sg, rw9) x.toInt y.toInt) _ _
        unfold sp_chosen
        rw [zite_t hzs, htn, zite_t (show 0 ≤ y.toInt ∧ y.toInt < zP (sg s1) by omega)]
        exact ⟨hrr, hX⟩
      · have i_5 := z_nlt c_5
        have hnr : ¬ (0 ≤ y.toInt ∧ y.toInt < zP (sg s1)) := by omega
        refine lv_ldc (v := (-1000002)) hx hb hown (hts _ (List.mem_of_getElem? (i := 2) rfl)) dX9_chosen_28 ?_
        refine z_iret hx hb hr hlocks hS ?_ dX9_chosen_30
        show z_po Z G9 (sp_chosen (sg, rw9) x.toInt y.toInt) _ _
        unfold sp_chosen
        rw [zite_t hzs, htn, zite_f hnr]
        exact ⟨rfl, hX⟩
  · subst er
    refine lv_astore_nN (lv' := [(3, .null), (0, .ref (Z.2.1 0)), (1, .int x), (2, .int y)]) hx hb dX9_chosen_5 rfl hl (by decide) rfl (fun ls hl => ?_)
    refine lv_aload_nN hx hb dX9_chosen_6 rfl (lv_at hl 0 rfl) ?_
    refine lv_ifnonnullN hx hb dX9_chosen_7 ?_
    refine lv_ldc (v := (-1000001)) hx hb hown (hts _ (List.mem_of_getElem? (i := 1) rfl)) dX9_chosen_10 ?_
    refine z_iret hx hb hr hlocks hS ?_ dX9_chosen_12
    show z_po Z G9 (sp_chosen (sg, rw9) x.toInt y.toInt) _ _
    unfold sp_chosen
    rw [zite_f hnv]
    exact ⟨rfl, hX⟩

theorem in_X9_system_0 : ∀ w ∈ wsX00, w ∈ wsX9_system := by decide +kernel
theorem in_X9_system_5 : ∀ w ∈ wsX50, w ∈ wsX9_system := by decide +kernel
set_option maxHeartbeats 4000000 in
set_option maxRecDepth 100000 in
theorem k_system (Z : zT) {G9 : Nat → va_E} (g : Nat → va_E) (sg : Nat → zb) (rw9 : Nat → zr) (hX : z_xw Z G9 g sg rw9) (x y : Int32) : z_Mi Z yX9_system wsX9_system 2 43 [.ref (Z.2.1 0), .int x, .int y] g (fun r g1 => z_po Z G9 (sp_system (sg, rw9) x.toInt y.toInt) r g1) := by
  intro l sz
  have h0 := hX.1
  obtain ⟨hN, h_x, ⟨fS, h_x1, hfS⟩, fR, h_x2, hfR⟩ := id h0
  have hN0 : 0 < Z.1 := by omega
  have hN1 : 1 < Z.1 := by omega
  have hN2 : 2 < Z.1 := by omega
  refine z_enter (maxL := 4) (ret := (some .int)) (lv := [(0, .ref (Z.2.1 0)), (1, .int x), (2, .int y)]) (plainFor_of_name (by decide +kernel)) rfl (fun ls h => by subst h; exact lv_entry [.ref (Z.2.1 0), .int x, .int y] (n := 4) (Nat.le_of_ble_eq_true rfl)) ?_
  intro p e s m args below meth c hx hb hml hr hlocks hown hts hK hS hsz ls hl
  refine lv_aload_n hx hb dX9_system_0 rfl (lv_at hl 0 rfl) ?_
  refine lv_iload_n hx hb dX9_system_1 rfl (lv_at hl 1 rfl) ?_
  refine z_callq (z_runV (As := [.int x]) (rest := []) ⟨hx, hb, hml, hown, hts⟩ hK hS ((k_systemAt Z g h0 x) l _) gX9_system_X9_systemAt rfl 1 (by decide +kernel) ⟨Nat.le_of_ble_eq_true rfl, Nat.le_of_ble_eq_true rfl⟩ h_x hN0 rfl rfl hl.1 rfl (Nat.le_of_ble_eq_true rfl) dX9_system_2 ⟨Nat.le_of_ble_eq_true rfl, Nat.le_of_ble_eq_true rfl⟩) hS (fun r_1 g_2 H locs hp_3 hS => ?_)
  obtain ⟨rfl, hp_3⟩ := hp_3
  rcases hp_3 with ⟨s1, hs2, hsv, er⟩ | ⟨hnv, er⟩
  · subst er
    obtain ⟨h_n, hBs, ⟨w1, w2, w3, w4, w5, w6, hW⟩, h_y, ⟨lw, hw, tb, y1, y2, y3, hO⟩, l0, hC⟩ := hX.2.2.2.2.2 s1 hs2
    have hzs : zsy x.toInt := ⟨by omega, by omega⟩
    have htn : x.toInt.toNat = s1 := by omega
    obtain ⟨pb, qb, res, cmp, dg, ch, ⟨h_b, h_d, h_c, hkN, hok, hp, hq, hres, hdg⟩, hch, hcmp⟩ := id hBs
    have hkn : 15 + 13 * s1 < Z.1 := by omega
    have hk0 : 16 + 13 * s1 < Z.1 := by omega
    have hk1 : 16 + 13 * s1 + 1 < Z.1 := by omega
    have hk2 : 16 + 13 * s1 + 2 < Z.1 := by omega
    have hPb := zP_bd hok
    have hn12 := hok.2.2.2.1
    have hq1 := hok.2.1
    refine lv_astore_n (lv' := [(3, .ref (Z.2.1 (15 + 13 * s1))), (0, .ref (Z.2.1 0)), (1, .int x), (2, .int y)]) hx hb dX9_system_5 rfl hl (by decide) rfl (fun ls hl => ?_)
    refine lv_aload_n hx hb dX9_system_6 rfl (lv_at hl 0 rfl) ?_
    refine lv_ifnonnull (tgt := 13) hx hb dX9_system_7 (by decide) ?_
    refine lv_iload_n hx hb dX9_system_13 rfl (lv_at hl 3 rfl) ?_
    by_cases hsw0 : y.toInt < 0 ∨ 4 < y.toInt
    · refine lv_tableOut (tgt := 96) hx hb dX9_system_14 hsw0 (by decide) ?_
      refine lv_ldc (v := (-1000002)) hx hb hown (hts _ (List.mem_of_getElem? (i := 2) rfl)) dX9_system_96 ?_
      refine z_iret hx hb hr hlocks hS ?_ dX9_system_98
      show z_po Z G9 (sp_system (sg, rw9) x.toInt y.toInt) _ _
      unfold sp_system
      rw [zite_t hzs, zite_f (by omega), zite_f (by omega), zite_f (by omega), zite_f (by omega), zite_f (by omega)]
      exact ⟨rfl, hX⟩
    · have hc5 : y = 0 ∨ y = 1 ∨ y = 2 ∨ y = 3 ∨ y = 4 := by
        have e5 : y.toInt = 0 ∨ y.toInt = 1 ∨ y.toInt = 2 ∨ y.toInt = 3 ∨ y.toInt = 4 := by omega
        rcases e5 with h9 | h9 | h9 | h9 | h9
        · exact Or.inl (z_inj h9)
        · exact Or.inr (Or.inl (z_inj h9))
        · exact Or.inr (Or.inr (Or.inl (z_inj h9)))
        · exact Or.inr (Or.inr (Or.inr (Or.inl (z_inj h9))))
        · exact Or.inr (Or.inr (Or.inr (Or.inr (z_inj h9))))
      rcases hc5 with rfl | rfl | rfl | rfl | rfl
      · refine lv_tableIn (tgt := 48) hx hb dX9_system_14 (by decide) (by decide) rfl (by decide) ?_
        refine lv_aload_n hx hb dX9_system_48 rfl (lv_at hl 0 rfl) ?_
        refine z_getN (own := RX9) (C := RX5) (T := TX5) (N := 5) hx hb hts in_X9_system_5 hown hK hS h_n hkn rfl 0 (by decide) 14 rfl rfl rfl dX9_system_49 ?_
        refine z_getN (own := RX9) (C := RX0) (T := TX0) (N := 7) hx hb hts in_X9_system_0 hown hK hS h_b hk0 rfl 0 (by decide) 17 rfl rfl rfl dX9_system_52 ?_
        refine z_iret hx hb hr hlocks hS ?_ dX9_system_55
        show z_po Z G9 (sp_system (sg, rw9) x.toInt (0 : Int32).toInt) _ _
        unfold sp_system
        rw [zite_t hzs, htn, tI_0, zite_t rfl]
        exact ⟨hp, hX⟩
      · refine lv_tableIn (tgt := 56) hx hb dX9_system_14 (by decide) (by decide) rfl (by decide) ?_
        refine lv_aload_n hx hb dX9_system_56 rfl (lv_at hl 0 rfl) ?_
        refine z_getN (own := RX9) (C := RX5) (T := TX5) (N := 5) hx hb hts in_X9_system_5 hown hK hS h_n hkn rfl 0 (by decide) 14 rfl rfl rfl dX9_system_57 ?_
        refine z_getN (own := RX9) (C := RX0) (T := TX0) (N := 7) hx hb hts in_X9_system_0 hown hK hS h_b hk0 rfl 1 (by decide) 0 rfl rfl rfl dX9_system_60 ?_
        refine z_iret hx hb hr hlocks hS ?_ dX9_system_63
        show z_po Z G9 (sp_system (sg, rw9) x.toInt (1 : Int32).toInt) _ _
        unfold sp_system
        rw [zite_t hzs, htn, tI_1, zite_f (by omega), zite_t rfl]
        exact ⟨hq, hX⟩
      · refine lv_tableIn (tgt := 64) hx hb dX9_system_14 (by decide) (by decide) rfl (by decide) ?_
        refine lv_aload_n hx hb dX9_system_64 rfl (lv_at hl 0 rfl) ?_
        refine z_getN (own := RX9) (C := RX5) (T := TX5) (N := 5) hx hb hts in_X9_system_5 hown hK hS h_n hkn rfl 0 (by decide) 14 rfl rfl rfl dX9_system_65 ?_
        refine z_getN (own := RX9) (C := RX0) (T := TX0) (N := 7) hx hb hts in_X9_system_0 hown hK hS h_b hk0 rfl 3 (by decide) 16 rfl rfl rfl dX9_system_68 ?_
        refine z_iret hx hb hr hlocks hS ?_ dX9_system_71
        show z_po Z G9 (sp_system (sg, rw9) x.toInt (2 : Int32).toInt) _ _
        unfold sp_system
        rw [zite_t hzs, htn, tI_2, zite_f (by omega), zite_f (by omega), zite_t rfl]
        exact ⟨nI_toInt (by omega), hX⟩
      · refine lv_tableIn (tgt := 72) hx hb dX9_system_14 (by decide) (by decide) rfl (by decide) ?_
        refine lv_aload_n hx hb dX9_system_72 rfl (lv_at hl 0 rfl) ?_
        refine z_getN (own := RX9) (C := RX5) (T := TX5) (N := 5) hx hb hts in_X9_system_5 hown hK hS h_n hkn rfl 0 (by decide) 14 rfl rfl rfl dX9_system_73 ?_
        refine z_getN (own := RX9) (C := RX0) (T := TX0) (N := 7) hx hb hts in_X9_system_0 hown hK hS h_b hk0 rfl 4 (by decide) 1 rfl rfl rfl dX9_system_76 ?_
        refine lv_if_eq (tgt := 86) hx hb dX9_system_79 (by decide) (fun c_4 => ?_) (fun c_4 => ?_)
        · have i_4 := z_eq c_4
          rw [tI_0] at i_4
          refine lv_iconst (v := 0) hx hb dX9_system_86 (by decide) ?_
          refine z_iret hx hb hr hlocks hS ?_ dX9_system_87
          show z_po Z G9 (sp_system (sg, rw9) x.toInt (3 : Int32).toInt) _ _
          unfold sp_system
          rw [zite_t hzs, htn, tI_3, zite_f (by omega), zite_f (by omega), zite_f (by omega), zite_t rfl]
          first | (rw [zite_t (zbo_t hcmp (by assumption))]; exact ⟨rfl, hX⟩) | (rw [zite_f (zbo_f hcmp (by assumption))]; exact ⟨rfl, hX⟩)
        · have i_4 := z_ne c_4
          rw [tI_0] at i_4
          refine lv_iconst (v := 1) hx hb dX9_system_82 (by decide) ?_
          refine lv_goto (tgt := 87) hx hb dX9_system_83 (by decide) ?_
          refine z_iret hx hb hr hlocks hS ?_ dX9_system_87
          show z_po Z G9 (sp_system (sg, rw9) x.toInt (3 : Int32).toInt) _ _
          unfold sp_system
          rw [zite_t hzs, htn, tI_3, zite_f (by omega), zite_f (by omega), zite_f (by omega), zite_t rfl]
          first | (rw [zite_t (zbo_t hcmp (by assumption))]; exact ⟨rfl, hX⟩) | (rw [zite_f (zbo_f hcmp (by assumption))]; exact ⟨rfl, hX⟩)
      · refine lv_tableIn (tgt := 88) hx hb dX9_system_14 (by decide) (by decide) rfl (by decide) ?_
        refine lv_aload_n hx hb dX9_system_88 rfl (lv_at hl 0 rfl) ?_
        refine z_getN (own := RX9) (C := RX5) (T := TX5) (N := 5) hx hb hts in_X9_system_5 hown hK hS h_n hkn rfl 0 (by decide) 14 rfl rfl rfl dX9_system_89 ?_
        refine z_calli (z_runVN (As := []) (rest := []) (C := RX0) ⟨hx, hb, hml, hown, hts⟩ hK hS ((k_greatestAbsoluteDigit Z g (16 + 13 * s1) (sg s1) ⟨pb, qb, res, cmp, dg, ch, h_b, h_d, h_c, hkN, hok, hp, hq, hres, hdg⟩) l _) gX9_system_X0_greatestAbsoluteDigit_n107 rfl 0 0 rfl (List.mem_of_getElem? (i := 10) rfl) (List.mem_of_getElem? (i := 9) rfl) (List.mem_of_getElem? (i := 11) rfl) (by decide +kernel) ⟨Nat.le_of_ble_eq_true rfl, Nat.le_of_ble_eq_true rfl⟩ h_b hk0 rfl rfl hl.1 rfl (Nat.le_of_ble_eq_true rfl) dX9_system_92 ⟨Nat.le_of_ble_eq_true rfl, Nat.le_of_ble_eq_true rfl⟩) hS (fun rr g_5 H locs hp_6 hS => ?_)
        obtain ⟨rfl, hp_6⟩ := hp_6
        have hga := hp_6
        refine z_iret hx hb hr hlocks hS ?_ dX9_system_95
        show z_po Z G9 (sp_system (sg, rw9) x.toInt (4 : Int32).toInt) _ _
        unfold sp_system
        rw [zite_t hzs, htn, tI_4, zite_f (by omega), zite_f (by omega), zite_f (by omega), zite_f (by omega), zite_t rfl]
        exact ⟨hga, hX⟩
  · subst er
    refine lv_astore_nN (lv' := [(3, .null), (0, .ref (Z.2.1 0)), (1, .int x), (2, .int y)]) hx hb dX9_system_5 rfl hl (by decide) rfl (fun ls hl => ?_)
    refine lv_aload_nN hx hb dX9_system_6 rfl (lv_at hl 0 rfl) ?_
    refine lv_ifnonnullN hx hb dX9_system_7 ?_
    refine lv_ldc (v := (-1000001)) hx hb hown (hts _ (List.mem_of_getElem? (i := 1) rfl)) dX9_system_10 ?_
    refine z_iret hx hb hr hlocks hS ?_ dX9_system_12
    show z_po Z G9 (sp_system (sg, rw9) x.toInt y.toInt) _ _
    unfold sp_system
    rw [zite_f hnv]
    exact ⟨rfl, hX⟩

theorem in_X9_push_6 : ∀ w ∈ wsX60, w ∈ wsX9_push := by decide +kernel
set_option maxHeartbeats 4000000 in
set_option maxRecDepth 100000 in
theorem k_push (Z : zT) {G9 : Nat → va_E} (g : Nat → va_E) (sg : Nat → zb) (rw9 : Nat → zr) (hX : z_xw Z G9 g sg rw9) (x y : Int32) : z_Mi Z yX9_push wsX9_push 1 21 [.ref (Z.2.1 0), .int x, .int y] g (fun r g1 => z_po Z G9 (sp_push (sg, rw9) x.toInt y.toInt) r g1) := by
  intro l sz
  have h0 := hX.1
  obtain ⟨hN, h_x, ⟨fS, h_x1, hfS⟩, fR, h_x2, hfR⟩ := id h0
  have hN0 : 0 < Z.1 := by omega
  have hN1 : 1 < Z.1 := by omega
  have hN2 : 2 < Z.1 := by omega
  refine z_enter (maxL := 4) (ret := (some .int)) (lv := [(0, .ref (Z.2.1 0)), (1, .int x), (2, .int y)]) (plainFor_of_name (by decide +kernel)) rfl (fun ls h => by subst h; exact lv_entry [.ref (Z.2.1 0), .int x, .int y] (n := 4) (Nat.le_of_ble_eq_true rfl)) ?_
  intro p e s m args below meth c hx hb hml hr hlocks hown hts hK hS hsz ls hl
  refine lv_aload_n hx hb dX9_push_0 rfl (lv_at hl 0 rfl) ?_
  refine lv_iload_n hx hb dX9_push_1 rfl (lv_at hl 1 rfl) ?_
  refine z_callq (z_runV (As := [.int x]) (rest := []) ⟨hx, hb, hml, hown, hts⟩ hK hS ((k_rowAt Z g h0 x) l _) gX9_push_X9_rowAt rfl 1 (by decide +kernel) ⟨Nat.le_of_ble_eq_true rfl, Nat.le_of_ble_eq_true rfl⟩ h_x hN0 rfl rfl hl.1 rfl (Nat.le_of_ble_eq_true rfl) dX9_push_2 ⟨Nat.le_of_ble_eq_true rfl, Nat.le_of_ble_eq_true rfl⟩) hS (fun r_1 g_2 H locs hp_3 hS => ?_)
  obtain ⟨rfl, hp_3⟩ := hp_3
  rcases hp_3 with ⟨r1, hs2, hsv, er⟩ | ⟨hnv, er⟩
  · subst er
    have hR := hX.2.2.2.2.1 r1 hs2
    obtain ⟨av, h_r, h_a, hkNr, hnr, hav⟩ := id hR
    have hzs : zro x.toInt := ⟨by omega, by omega⟩
    have htn : x.toInt.toNat = r1 := by omega
    have hkr : 9 + 2 * r1 < Z.1 := by omega
    have hkr1 : 9 + 2 * r1 + 1 < Z.1 := by omega
    refine lv_astore_n (lv' := [(3, .ref (Z.2.1 (9 + 2 * r1))), (0, .ref (Z.2.1 0)), (1, .int x), (2, .int y)]) hx hb dX9_push_5 rfl hl (by decide) rfl (fun ls hl => ?_)
    refine lv_aload_n hx hb dX9_push_6 rfl (lv_at hl 0 rfl) ?_
    refine lv_ifnonnull (tgt := 13) hx hb dX9_push_7 (by decide) ?_
    refine lv_iload_n hx hb dX9_push_13 rfl (lv_at hl 3 rfl) ?_
    refine lv_bipush (v := 20) hx hb dX9_push_14 (by decide) ?_
    refine z_calli (z_runS (As := [.int y, .int 20]) (rest := []) ⟨hx, hb, hml, hown, hts⟩ hK hS ((k_isWithin Z g y 20 (by rw [tI_20]; omega)) l _) gX9_push_X9_isWithin rfl 2 (by decide +kernel) ⟨Nat.le_of_ble_eq_true rfl, Nat.le_of_ble_eq_true rfl⟩ rfl hl.1 rfl (Nat.le_of_ble_eq_true rfl) dX9_push_16 ⟨Nat.le_of_ble_eq_true rfl, Nat.le_of_ble_eq_true rfl⟩) hS (fun rb g_4 H locs hp_5 hS => ?_)
    obtain ⟨rfl, hp_5⟩ := hp_5
    have hrb := hp_5
    rw [tI_20] at hrb
    refine lv_if_ne (tgt := 25) hx hb dX9_push_19 (by decide) (fun c_6 => ?_) (fun c_6 => ?_)
    · have i_6 := z_ne c_6
      rw [tI_0] at i_6
      have h20 := zbo_t hrb c_6
      refine lv_aload_n hx hb dX9_push_25 rfl (lv_at hl 0 rfl) ?_
      refine z_getN (own := RX9) (C := RX6) (T := TX6) (N := 2) hx hb hts in_X9_push_6 hown hK hS h_r hkr rfl 1 (by decide) 6 rfl rfl rfl dX9_push_26 ?_
      refine lv_bipush (v := 12) hx hb dX9_push_29 (by decide) ?_
      refine lv_icmp_lt (tgt := 37) hx hb dX9_push_31 (by decide) (fun c_7 => ?_) (fun c_7 => ?_)
      · have i_7 := z_lt c_7
        rw [nI_toInt (by omega)] at i_7
        rw [tI_12] at i_7
        refine lv_aload_n hx hb dX9_push_37 rfl (lv_at hl 0 rfl) ?_
        refine lv_iload_n hx hb dX9_push_38 rfl (lv_at hl 3 rfl) ?_
        refine z_callv (z_runVN (As := [.int y]) (rest := []) (C := RX6) ⟨hx, hb, hml, hown, hts⟩ hK hS ((k_rappend Z g (9 + 2 * r1) (rw9 r1) hR y h20 (by omega)) l _) gX9_push_X6_append_n181 rfl 1 11 rfl (List.mem_of_getElem? (i := 14) rfl) (List.mem_of_getElem? (i := 13) rfl) (List.mem_of_getElem? (i := 15) rfl) (by decide +kernel) ⟨Nat.le_of_ble_eq_true rfl, Nat.le_of_ble_eq_true rfl⟩ h_r hkr rfl rfl hl.1 rfl (Nat.le_of_ble_eq_true rfl) dX9_push_39 ⟨Nat.le_of_ble_eq_true rfl, Nat.le_of_ble_eq_true rfl⟩) hS (fun g_9 H locs hp_10 hS => ?_)
        obtain ⟨hR2, hfr_11⟩ := hp_10
        have h_x := (hfr_11 _ (by omega)).trans h_x
        have h_x1 := (hfr_11 _ (by omega)).trans h_x1
        have h_x2 := (hfr_11 _ (by omega)).trans h_x2
        obtain ⟨av2, h_r, -⟩ := id hR2
        refine lv_aload_n hx hb dX9_push_42 rfl (lv_at hl 0 rfl) ?_
        refine z_getN (own := RX9) (C := RX6) (T := TX6) (N := 2) hx hb hts in_X9_push_6 hown hK hS h_r hkr rfl 1 (by decide) 6 rfl rfl rfl dX9_push_43 ?_
        refine z_iret hx hb hr hlocks hS ?_ dX9_push_46
        show z_po Z G9 (sp_push (sg, rw9) x.toInt y.toInt) _ _
        unfold sp_push
        rw [zite_t hzs, zite_t h20, htn, zite_t (show (rw9 r1).1 < 12 by omega)]
        exact ⟨by rw [nI_toInt (by omega)]; rfl, hX.row hs2 (z_fr.rf.tr (hfr_11.wide (by omega) (by omega))) hR2⟩
      · have i_7 := z_nlt c_7
        rw [nI_toInt (by omega)] at i_7
        rw [tI_12] at i_7
        refine lv_ldc (v := (-1000005)) hx hb hown (hts _ (List.mem_of_getElem? (i := 3) rfl)) dX9_push_34 ?_
        refine z_iret hx hb hr hlocks hS ?_ dX9_push_36
        show z_po Z G9 (sp_push (sg, rw9) x.toInt y.toInt) _ _
        unfold sp_push
        rw [zite_t hzs, zite_t h20, htn, zite_f (show ¬ (rw9 r1).1 < 12 by omega)]
        exact ⟨rfl, hX⟩
    · have i_6 := z_eq c_6
      rw [tI_0] at i_6
      have h20 := zbo_f hrb c_6
      refine lv_ldc (v := (-1000002)) hx hb hown (hts _ (List.mem_of_getElem? (i := 2) rfl)) dX9_push_22 ?_
      refine z_iret hx hb hr hlocks hS ?_ dX9_push_24
      show z_po Z G9 (sp_push (sg, rw9) x.toInt y.toInt) _ _
      unfold sp_push
      rw [zite_t hzs, zite_f h20]
      exact ⟨rfl, hX⟩
  · subst er
    refine lv_astore_nN (lv' := [(3, .null), (0, .ref (Z.2.1 0)), (1, .int x), (2, .int y)]) hx hb dX9_push_5 rfl hl (by decide) rfl (fun ls hl => ?_)
    refine lv_aload_nN hx hb dX9_push_6 rfl (lv_at hl 0 rfl) ?_
    refine lv_ifnonnullN hx hb dX9_push_7 ?_
    refine lv_ldc (v := (-1000001)) hx hb hown (hts _ (List.mem_of_getElem? (i := 1) rfl)) dX9_push_10 ?_
    refine z_iret hx hb hr hlocks hS ?_ dX9_push_12
    show z_po Z G9 (sp_push (sg, rw9) x.toInt y.toInt) _ _
    unfold sp_push
    rw [zite_f hnv]
    exact ⟨rfl, hX⟩

theorem in_X9_clear_6 : ∀ w ∈ wsX60, w ∈ wsX9_clear := by decide +kernel
set_option maxHeartbeats 4000000 in
set_option maxRecDepth 100000 in
theorem k_clear (Z : zT) {G9 : Nat → va_E} (g : Nat → va_E) (sg : Nat → zb) (rw9 : Nat → zr) (hX : z_xw Z G9 g sg rw9) (x : Int32) : z_Mi Z yX9_clear wsX9_clear 1 21 [.ref (Z.2.1 0), .int x] g (fun r g1 => z_po Z G9 (sp_clear (sg, rw9) x.toInt) r g1) := by
  intro l sz
  have h0 := hX.1
  obtain ⟨hN, h_x, ⟨fS, h_x1, hfS⟩, fR, h_x2, hfR⟩ := id h0
  have hN0 : 0 < Z.1 := by omega
  have hN1 : 1 < Z.1 := by omega
  have hN2 : 2 < Z.1 := by omega
  refine z_enter (maxL := 4) (ret := (some .int)) (lv := [(0, .ref (Z.2.1 0)), (1, .int x)]) (plainFor_of_name (by decide +kernel)) rfl (fun ls h => by subst h; exact lv_entry [.ref (Z.2.1 0), .int x] (n := 4) (Nat.le_of_ble_eq_true rfl)) ?_
  intro p e s m args below meth c hx hb hml hr hlocks hown hts hK hS hsz ls hl
  refine lv_aload_n hx hb dX9_clear_0 rfl (lv_at hl 0 rfl) ?_
  refine lv_iload_n hx hb dX9_clear_1 rfl (lv_at hl 1 rfl) ?_
  refine z_callq (z_runV (As := [.int x]) (rest := []) ⟨hx, hb, hml, hown, hts⟩ hK hS ((k_rowAt Z g h0 x) l _) gX9_clear_X9_rowAt rfl 1 (by decide +kernel) ⟨Nat.le_of_ble_eq_true rfl, Nat.le_of_ble_eq_true rfl⟩ h_x hN0 rfl rfl hl.1 rfl (Nat.le_of_ble_eq_true rfl) dX9_clear_2 ⟨Nat.le_of_ble_eq_true rfl, Nat.le_of_ble_eq_true rfl⟩) hS (fun r_1 g_2 H locs hp_3 hS => ?_)
  obtain ⟨rfl, hp_3⟩ := hp_3
  rcases hp_3 with ⟨r1, hs2, hsv, er⟩ | ⟨hnv, er⟩
  · subst er
    have hR := hX.2.2.2.2.1 r1 hs2
    obtain ⟨av, h_r, h_a, hkNr, hnr, hav⟩ := id hR
    have hzs : zro x.toInt := ⟨by omega, by omega⟩
    have htn : x.toInt.toNat = r1 := by omega
    have hkr : 9 + 2 * r1 < Z.1 := by omega
    have hkr1 : 9 + 2 * r1 + 1 < Z.1 := by omega
    refine lv_astore_n (lv' := [(2, .ref (Z.2.1 (9 + 2 * r1))), (0, .ref (Z.2.1 0)), (1, .int x)]) hx hb dX9_clear_5 rfl hl (by decide) rfl (fun ls hl => ?_)
    refine lv_aload_n hx hb dX9_clear_6 rfl (lv_at hl 0 rfl) ?_
    refine lv_ifnonnull (tgt := 13) hx hb dX9_clear_7 (by decide) ?_
    refine lv_aload_n hx hb dX9_clear_13 rfl (lv_at hl 0 rfl) ?_
    refine z_getN (own := RX9) (C := RX6) (T := TX6) (N := 2) hx hb hts in_X9_clear_6 hown hK hS h_r hkr rfl 1 (by decide) 6 rfl rfl rfl dX9_clear_14 ?_
    refine lv_istore_n (lv' := [(3, .int (nI (rw9 r1).1)), (2, .ref (Z.2.1 (9 + 2 * r1))), (0, .ref (Z.2.1 0)), (1, .int x)]) hx hb dX9_clear_17 rfl hl (by decide) rfl (fun ls hl => ?_)
    refine lv_aload_n hx hb dX9_clear_18 rfl (lv_at hl 1 rfl) ?_
    refine lv_iconst (v := 0) hx hb dX9_clear_19 (by decide) ?_
    refine z_putN (fs' := [.ref (Z.2.1 (9 + 2 * r1 + 1)), .int 0]) (own := RX9) (C := RX6) (T := TX6) (N := 2) hx hb hts in_X9_clear_6 tyX6 tyX6_ok nmX6 hown hK hS h_r hkr rfl 1 (by decide) 6 rfl rfl rfl rfl rfl (Nat.le_of_ble_eq_true rfl) rfl dX9_clear_20 (fun g_4 H locs hg_4 hS => ?_)
    have h_r : g_4 (9 + 2 * r1) = .inr (6, [.ref (Z.2.1 (9 + 2 * r1 + 1)), .int 0]) := z_up_s hg_4
    have h_x := z_up_n hg_4 h_x (by omega)
    have h_x1 := z_up_n hg_4 h_x1 (by omega)
    have h_x2 := z_up_n hg_4 h_x2 (by omega)
    have h_a := z_up_n hg_4 h_a (by omega)
    refine lv_iload_n hx hb dX9_clear_23 rfl (lv_at hl 0 rfl) ?_
    refine z_iret hx hb hr hlocks hS ?_ dX9_clear_24
    show z_po Z G9 (sp_clear (sg, rw9) x.toInt) _ _
    unfold sp_clear
    rw [zite_t hzs, htn]
    exact ⟨nI_toInt (by omega), hX.row hs2 (z_fr.rf.up hg_4 (by omega)) ⟨av, h_r, h_a, hkNr, (by show 0 ≤ 12; omega), fun i hi => absurd hi (Nat.not_lt_zero i)⟩⟩
  · subst er
    refine lv_astore_nN (lv' := [(2, .null), (0, .ref (Z.2.1 0)), (1, .int x)]) hx hb dX9_clear_5 rfl hl (by decide) rfl (fun ls hl => ?_)
    refine lv_aload_nN hx hb dX9_clear_6 rfl (lv_at hl 0 rfl) ?_
    refine lv_ifnonnullN hx hb dX9_clear_7 ?_
    refine lv_ldc (v := (-1000001)) hx hb hown (hts _ (List.mem_of_getElem? (i := 1) rfl)) dX9_clear_10 ?_
    refine z_iret hx hb hr hlocks hS ?_ dX9_clear_12
    show z_po Z G9 (sp_clear (sg, rw9) x.toInt) _ _
    unfold sp_clear
    rw [zite_f hnv]
    exact ⟨rfl, hX⟩

theorem in_X9_size_6 : ∀ w ∈ wsX60, w ∈ wsX9_size := by decide +kernel
set_option maxHeartbeats 4000000 in
set_option maxRecDepth 100000 in
theorem k_size (Z : zT) {G9 : Nat → va_E} (g : Nat → va_E) (sg : Nat → zb) (rw9 : Nat → zr) (hX : z_xw Z G9 g sg rw9) (x : Int32) : z_Mi Z yX9_size wsX9_size 1 21 [.ref (Z.2.1 0), .int x] g (fun r g1 => z_po Z G9 (sp_size (sg, rw9) x.toInt) r g1) := by
  intro l sz
  have h0 := hX.1
  obtain ⟨hN, h_x, ⟨fS, h_x1, hfS⟩, fR, h_x2, hfR⟩ := id h0
  have hN0 : 0 < Z.1 := by omega
  have hN1 : 1 < Z.1 := by omega
  have hN2 : 2 < Z.1 := by omega
  refine z_enter (maxL := 3) (ret := (some .int)) (lv := [(0, .ref (Z.2.1 0)), (1, .int x)]) (plainFor_of_name (by decide +kernel)) rfl (fun ls h => by subst h; exact lv_entry [.ref (Z.2.1 0), .int x] (n := 3) (Nat.le_of_ble_eq_true rfl)) ?_
  intro p e s m args below meth c hx hb hml hr hlocks hown hts hK hS hsz ls hl
  refine lv_aload_n hx hb dX9_size_0 rfl (lv_at hl 0 rfl) ?_
  refine lv_iload_n hx hb dX9_size_1 rfl (lv_at hl 1 rfl) ?_
  refine z_callq (z_runV (As := [.int x]) (rest := []) ⟨hx, hb, hml, hown, hts⟩ hK hS ((k_rowAt Z g h0 x) l _) gX9_size_X9_rowAt rfl 1 (by decide +kernel) ⟨Nat.le_of_ble_eq_true rfl, Nat.le_of_ble_eq_true rfl⟩ h_x hN0 rfl rfl hl.1 rfl (Nat.le_of_ble_eq_true rfl) dX9_size_2 ⟨Nat.le_of_ble_eq_true rfl, Nat.le_of_ble_eq_true rfl⟩) hS (fun r_1 g_2 H locs hp_3 hS => ?_)
  obtain ⟨rfl, hp_3⟩ := hp_3
  rcases hp_3 with ⟨r1, hs2, hsv, er⟩ | ⟨hnv, er⟩
  · subst er
    have hR := hX.2.2.2.2.1 r1 hs2
    obtain ⟨av, h_r, h_a, hkNr, hnr, hav⟩ := id hR
    have hzs : zro x.toInt := ⟨by omega, by omega⟩
    have htn : x.toInt.toNat = r1 := by omega
    have hkr : 9 + 2 * r1 < Z.1 := by omega
    have hkr1 : 9 + 2 * r1 + 1 < Z.1 := by omega
    refine lv_astore_n (lv' := [(2, .ref (Z.2.1 (9 + 2 * r1))), (0, .ref (Z.2.1 0)), (1, .int x)]) hx hb dX9_size_5 rfl hl (by decide) rfl (fun ls hl => ?_)
    refine lv_aload_n hx hb dX9_size_6 rfl (lv_at hl 0 rfl) ?_
    refine lv_ifnonnull (tgt := 15) hx hb dX9_size_7 (by decide) ?_
    refine lv_aload_n hx hb dX9_size_15 rfl (lv_at hl 0 rfl) ?_
    refine z_getN (own := RX9) (C := RX6) (T := TX6) (N := 2) hx hb hts in_X9_size_6 hown hK hS h_r hkr rfl 1 (by decide) 6 rfl rfl rfl dX9_size_16 ?_
    refine z_iret hx hb hr hlocks hS ?_ dX9_size_19
    show z_po Z G9 (sp_size (sg, rw9) x.toInt) _ _
    unfold sp_size
    rw [zite_t hzs, htn]
    exact ⟨nI_toInt (by omega), hX⟩
  · subst er
    refine lv_astore_nN (lv' := [(2, .null), (0, .ref (Z.2.1 0)), (1, .int x)]) hx hb dX9_size_5 rfl hl (by decide) rfl (fun ls hl => ?_)
    refine lv_aload_nN hx hb dX9_size_6 rfl (lv_at hl 0 rfl) ?_
    refine lv_ifnonnullN hx hb dX9_size_7 ?_
    refine lv_ldc (v := (-1000001)) hx hb hown (hts _ (List.mem_of_getElem? (i := 1) rfl)) dX9_size_10 ?_
    refine lv_goto (tgt := 19) hx hb dX9_size_12 (by decide) ?_
    refine z_iret hx hb hr hlocks hS ?_ dX9_size_19
    show z_po Z G9 (sp_size (sg, rw9) x.toInt) _ _
    unfold sp_size
    rw [zite_f hnv]
    exact ⟨rfl, hX⟩

theorem in_X9_entry_6 : ∀ w ∈ wsX60, w ∈ wsX9_entry := by decide +kernel
set_option maxHeartbeats 4000000 in
set_option maxRecDepth 100000 in
theorem k_entry (Z : zT) {G9 : Nat → va_E} (g : Nat → va_E) (sg : Nat → zb) (rw9 : Nat → zr) (hX : z_xw Z G9 g sg rw9) (x y : Int32) : z_Mi Z yX9_entry wsX9_entry 1 21 [.ref (Z.2.1 0), .int x, .int y] g (fun r g1 => z_po Z G9 (sp_entry (sg, rw9) x.toInt y.toInt) r g1) := by
  intro l sz
  have h0 := hX.1
  obtain ⟨hN, h_x, ⟨fS, h_x1, hfS⟩, fR, h_x2, hfR⟩ := id h0
  have hN0 : 0 < Z.1 := by omega
  have hN1 : 1 < Z.1 := by omega
  have hN2 : 2 < Z.1 := by omega
  refine z_enter (maxL := 4) (ret := (some .int)) (lv := [(0, .ref (Z.2.1 0)), (1, .int x), (2, .int y)]) (plainFor_of_name (by decide +kernel)) rfl (fun ls h => by subst h; exact lv_entry [.ref (Z.2.1 0), .int x, .int y] (n := 4) (Nat.le_of_ble_eq_true rfl)) ?_
  intro p e s m args below meth c hx hb hml hr hlocks hown hts hK hS hsz ls hl
  refine lv_aload_n hx hb dX9_entry_0 rfl (lv_at hl 0 rfl) ?_
  refine lv_iload_n hx hb dX9_entry_1 rfl (lv_at hl 1 rfl) ?_
  refine z_callq (z_runV (As := [.int x]) (rest := []) ⟨hx, hb, hml, hown, hts⟩ hK hS ((k_rowAt Z g h0 x) l _) gX9_entry_X9_rowAt rfl 1 (by decide +kernel) ⟨Nat.le_of_ble_eq_true rfl, Nat.le_of_ble_eq_true rfl⟩ h_x hN0 rfl rfl hl.1 rfl (Nat.le_of_ble_eq_true rfl) dX9_entry_2 ⟨Nat.le_of_ble_eq_true rfl, Nat.le_of_ble_eq_true rfl⟩) hS (fun r_1 g_2 H locs hp_3 hS => ?_)
  obtain ⟨rfl, hp_3⟩ := hp_3
  rcases hp_3 with ⟨r1, hs2, hsv, er⟩ | ⟨hnv, er⟩
  · subst er
    have hR := hX.2.2.2.2.1 r1 hs2
    obtain ⟨av, h_r, h_a, hkNr, hnr, hav⟩ := id hR
    have hzs : zro x.toInt := ⟨by omega, by omega⟩
    have htn : x.toInt.toNat = r1 := by omega
    have hkr : 9 + 2 * r1 < Z.1 := by omega
    have hkr1 : 9 + 2 * r1 + 1 < Z.1 := by omega
    refine lv_astore_n (lv' := [(3, .ref (Z.2.1 (9 + 2 * r1))), (0, .ref (Z.2.1 0)), (1, .int x), (2, .int y)]) hx hb dX9_entry_5 rfl hl (by decide) rfl (fun ls hl => ?_)
    refine lv_aload_n hx hb dX9_entry_6 rfl (lv_at hl 0 rfl) ?_
    refine lv_ifnull hx hb dX9_entry_7 ?_
    refine lv_iload_n hx hb dX9_entry_10 rfl (lv_at hl 3 rfl) ?_
    refine lv_if_lt (tgt := 22) hx hb dX9_entry_11 (by decide) (fun c_4 => ?_) (fun c_4 => ?_)
    · have i_4 := z_lt c_4
      rw [tI_0] at i_4
      have hnr : ¬ (0 ≤ y.toInt ∧ y.toInt < ((rw9 r1).1 : Int)) := by omega
      refine lv_ldc (v := (-1000001)) hx hb hown (hts _ (List.mem_of_getElem? (i := 1) rfl)) dX9_entry_22 ?_
      refine z_iret hx hb hr hlocks hS ?_ dX9_entry_24
      show z_po Z G9 (sp_entry (sg, rw9) x.toInt y.toInt) _ _
      unfold sp_entry
      rw [zite_t hzs, htn, zite_f hnr]
      exact ⟨rfl, hX⟩
    · have i_4 := z_nlt c_4
      rw [tI_0] at i_4
      refine lv_iload_n hx hb dX9_entry_14 rfl (lv_at hl 3 rfl) ?_
      refine lv_aload_n hx hb dX9_entry_15 rfl (lv_at hl 0 rfl) ?_
      refine z_getN (own := RX9) (C := RX6) (T := TX6) (N := 2) hx hb hts in_X9_entry_6 hown hK hS h_r hkr rfl 1 (by decide) 6 rfl rfl rfl dX9_entry_16 ?_
      refine lv_icmp_lt (tgt := 25) hx hb dX9_entry_19 (by decide) (fun c_5 => ?_) (fun c_5 => ?_)
      · have i_5 := z_lt c_5
        rw [nI_toInt (by omega)] at i_5
        obtain ⟨y9, ey9, hy9, -⟩ := z_nI_of (x := y) (by omega)
        subst ey9
        refine lv_aload_n hx hb dX9_entry_25 rfl (lv_at hl 0 rfl) ?_
        refine lv_iload_n hx hb dX9_entry_26 rfl (lv_at hl 3 rfl) ?_
        refine z_calli (z_runVN (As := [.int (nI y9)]) (rest := []) (C := RX6) ⟨hx, hb, hml, hown, hts⟩ hK hS ((k_entryOrZero Z g (9 + 2 * r1) (rw9 r1) hR y9 (by omega)) l _) gX9_entry_X6_entryOrZero_n182 rfl 1 12 rfl (List.mem_of_getElem? (i := 9) rfl) (List.mem_of_getElem? (i := 8) rfl) (List.mem_of_getElem? (i := 10) rfl) (by decide +kernel) ⟨Nat.le_of_ble_eq_true rfl, Nat.le_of_ble_eq_true rfl⟩ h_r hkr rfl rfl hl.1 rfl (Nat.le_of_ble_eq_true rfl) dX9_entry_27 ⟨Nat.le_of_ble_eq_true rfl, Nat.le_of_ble_eq_true rfl⟩) hS (fun rr g_6 H locs hp_7 hS => ?_)
        obtain ⟨rfl, hp_7⟩ := hp_7
        have hrr := hp_7
        refine z_iret hx hb hr hlocks hS ?_ dX9_entry_30
        show z_po Z G9 (sp_entry (sg, rw9) x.toInt (nI y9).toInt) _ _
        unfold sp_entry
        rw [zite_t hzs, htn, zite_t (show 0 ≤ (nI y9).toInt ∧ (nI y9).toInt < ((rw9 r1).1 : Int) by omega)]
        exact ⟨by rw [hrr, show (nI y9).toInt.toNat = y9 from by omega]; unfold zeg; rw [if_pos (by omega)], hX⟩
      · have i_5 := z_nlt c_5
        rw [nI_toInt (by omega)] at i_5
        have hnr : ¬ (0 ≤ y.toInt ∧ y.toInt < ((rw9 r1).1 : Int)) := by omega
        refine lv_ldc (v := (-1000001)) hx hb hown (hts _ (List.mem_of_getElem? (i := 1) rfl)) dX9_entry_22 ?_
        refine z_iret hx hb hr hlocks hS ?_ dX9_entry_24
        show z_po Z G9 (sp_entry (sg, rw9) x.toInt y.toInt) _ _
        unfold sp_entry
        rw [zite_t hzs, htn, zite_f hnr]
        exact ⟨rfl, hX⟩
  · subst er
    refine lv_astore_nN (lv' := [(3, .null), (0, .ref (Z.2.1 0)), (1, .int x), (2, .int y)]) hx hb dX9_entry_5 rfl hl (by decide) rfl (fun ls hl => ?_)
    refine lv_aload_nN hx hb dX9_entry_6 rfl (lv_at hl 0 rfl) ?_
    refine lv_ifnullN (tgt := 22) hx hb dX9_entry_7 (by decide) ?_
    refine lv_ldc (v := (-1000001)) hx hb hown (hts _ (List.mem_of_getElem? (i := 1) rfl)) dX9_entry_22 ?_
    refine z_iret hx hb hr hlocks hS ?_ dX9_entry_24
    show z_po Z G9 (sp_entry (sg, rw9) x.toInt y.toInt) _ _
    unfold sp_entry
    rw [zite_f hnv]
    exact ⟨rfl, hX⟩

