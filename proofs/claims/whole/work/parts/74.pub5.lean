/-! all expansions and carries: what the calls answer -/
theorem z_l2i {x : Int64} (h1 : -2147483648 ≤ x.toInt) (h2 : x.toInt < 2147483648) : (Int64.toInt32 x).toInt = x.toInt := by
  rw [Int64.toInt_toInt32]; exact fb_bmod h1 h2
theorem in_X9_expansions_5 : ∀ w ∈ wsX50, w ∈ wsX9_expansions := by decide +kernel
set_option maxHeartbeats 4000000 in
set_option maxRecDepth 100000 in
theorem k_expansions (Z : zT) {G9 : Nat → va_E} (g : Nat → va_E) (sg : Nat → zb) (rw9 : Nat → zr) (hX : z_xw Z G9 g sg rw9) (x y z : Int32) : z_Mi Z yX9_expansions wsX9_expansions 6 140 [.ref (Z.2.1 0), .int x, .int y, .int z] g (fun r g1 => z_po Z G9 (sp_expansions (sg, rw9) x.toInt y.toInt z.toInt) r g1) := by
  intro l sz
  have h0 := hX.1
  obtain ⟨hN, h_x, ⟨fS, h_x1, hfS⟩, fR, h_x2, hfR⟩ := id h0
  have hN0 : 0 < Z.1 := by omega
  have hN1 : 1 < Z.1 := by omega
  have hN2 : 2 < Z.1 := by omega
  refine z_enter (maxL := 7) (ret := (some .int)) (lv := [(0, .ref (Z.2.1 0)), (1, .int x), (2, .int y), (3, .int z)]) (plainFor_of_name (by decide +kernel)) rfl (fun ls h => by subst h; exact lv_entry [.ref (Z.2.1 0), .int x, .int y, .int z] (n := 7) (Nat.le_of_ble_eq_true rfl)) ?_
  intro p e s m args below meth c hx hb hml hr hlocks hown hts hK hS hsz ls hl
  refine lv_aload_n hx hb dX9_expansions_0 rfl (lv_at hl 0 rfl) ?_
  refine lv_iload_n hx hb dX9_expansions_1 rfl (lv_at hl 1 rfl) ?_
  refine z_callq (z_runV (As := [.int x]) (rest := []) ⟨hx, hb, hml, hown, hts⟩ hK hS ((k_systemAt Z g h0 x) l _) gX9_expansions_X9_systemAt rfl 1 (by decide +kernel) ⟨Nat.le_of_ble_eq_true rfl, Nat.le_of_ble_eq_true rfl⟩ h_x hN0 rfl rfl hl.1 rfl (Nat.le_of_ble_eq_true rfl) dX9_expansions_2 ⟨Nat.le_of_ble_eq_true rfl, Nat.le_of_ble_eq_true rfl⟩) hS (fun r_1 g_2 H locs hp_3 hS => ?_)
  obtain ⟨rfl, hp_3⟩ := hp_3
  rcases hp_3 with ⟨s1, hs2, hsv, er⟩ | ⟨hnv, er⟩
  · subst er
    obtain ⟨h_n, hBs, ⟨w1, w2, w3, w4, w5, w6, hW⟩, h_y, ⟨lw, hw, tb, y1, y2, y3, hO⟩, l0, hC⟩ := hX.2.2.2.2.2 s1 hs2
    have hzs : zsy x.toInt := ⟨by omega, by omega⟩
    have htn : x.toInt.toNat = s1 := by omega
    obtain ⟨pb, qb, res, cmp, dg, ch, ⟨h_b, h_d, h_c, hkN, hok, hp, hq, hres, hdg⟩, hch, hcmp⟩ := id hBs
    have hkn : 15 + 13 * s1 < Z.1 := by omega
    have hk0 : 16 + 13 * s1 < Z.1 := by omega
    have hk1 : 16 + 13 * s1 + 1 < Z.1 := by omega
    have hk2 : 16 + 13 * s1 + 2 < Z.1 := by omega
    have hPb := zP_bd hok
    have hn12 := hok.2.2.2.1
    have hq1 := hok.2.1
    have h_ww := hO.1
    have hkww : 21 + 13 * s1 < Z.1 := by omega
    refine lv_astore (lv' := [(4, .ref (Z.2.1 (15 + 13 * s1))), (0, .ref (Z.2.1 0)), (1, .int x), (2, .int y), (3, .int z)]) hx hb dX9_expansions_5 hl (by decide) rfl (fun ls hl => ?_)
    refine lv_aload hx hb dX9_expansions_7 (lv_at hl 0 rfl) ?_
    refine lv_ifnonnull (tgt := 15) hx hb dX9_expansions_9 (by decide) ?_
    refine lv_iload_n hx hb dX9_expansions_15 rfl (lv_at hl 3 rfl) ?_
    refine lv_ldc (v := 100000) hx hb hown (hts _ (List.mem_of_getElem? (i := 2) rfl)) dX9_expansions_16 ?_
    refine z_calli (z_runS (As := [.int y, .int 100000]) (rest := []) ⟨hx, hb, hml, hown, hts⟩ hK hS ((k_isWithin Z g y 100000 (by rw [tI_100000]; omega)) l _) gX9_expansions_X9_isWithin rfl 2 (by decide +kernel) ⟨Nat.le_of_ble_eq_true rfl, Nat.le_of_ble_eq_true rfl⟩ rfl hl.1 rfl (Nat.le_of_ble_eq_true rfl) dX9_expansions_18 ⟨Nat.le_of_ble_eq_true rfl, Nat.le_of_ble_eq_true rfl⟩) hS (fun rb g_4 H locs hp_5 hS => ?_)
    obtain ⟨rfl, hp_5⟩ := hp_5
    have hrb := hp_5
    rw [tI_100000] at hrb
    refine lv_if_eq (tgt := 34) hx hb dX9_expansions_21 (by decide) (fun c_6 => ?_) (fun c_6 => ?_)
    · have i_6 := z_eq c_6
      rw [tI_0] at i_6
      have hno := zbo_f hrb c_6
      have hbad : ¬ ((-100000 ≤ y.toInt ∧ y.toInt ≤ 100000) ∧ (0 ≤ z.toInt ∧ z.toInt ≤ 12)) := fun h9 => by omega
      refine lv_ldc (v := (-1000002)) hx hb hown (hts _ (List.mem_of_getElem? (i := 3) rfl)) dX9_expansions_34 ?_
      refine z_iret hx hb hr hlocks hS ?_ dX9_expansions_36
      show z_po Z G9 (sp_expansions (sg, rw9) x.toInt y.toInt z.toInt) _ _
      unfold sp_expansions
      rw [zite_t hzs, zite_f hbad]
      exact ⟨rfl, hX⟩
    · have i_6 := z_ne c_6
      rw [tI_0] at i_6
      have hym := zbo_t hrb c_6
      refine lv_iload_n hx hb dX9_expansions_24 rfl (lv_at hl 4 rfl) ?_
      refine lv_if_lt (tgt := 34) hx hb dX9_expansions_25 (by decide) (fun c_7 => ?_) (fun c_7 => ?_)
      · have i_7 := z_lt c_7
        rw [tI_0] at i_7
        have hbad : ¬ ((-100000 ≤ y.toInt ∧ y.toInt ≤ 100000) ∧ (0 ≤ z.toInt ∧ z.toInt ≤ 12)) := fun h9 => by omega
        refine lv_ldc (v := (-1000002)) hx hb hown (hts _ (List.mem_of_getElem? (i := 3) rfl)) dX9_expansions_34 ?_
        refine z_iret hx hb hr hlocks hS ?_ dX9_expansions_36
        show z_po Z G9 (sp_expansions (sg, rw9) x.toInt y.toInt z.toInt) _ _
        unfold sp_expansions
        rw [zite_t hzs, zite_f hbad]
        exact ⟨rfl, hX⟩
      · have i_7 := z_nlt c_7
        rw [tI_0] at i_7
        refine lv_iload_n hx hb dX9_expansions_28 rfl (lv_at hl 4 rfl) ?_
        refine lv_bipush (v := 12) hx hb dX9_expansions_29 (by decide) ?_
        refine lv_icmp_le (tgt := 37) hx hb dX9_expansions_31 (by decide) (fun c_8 => ?_) (fun c_8 => ?_)
        · have i_8 := z_le c_8
          rw [tI_12] at i_8
          obtain ⟨z9, ez9, hz9, -⟩ := z_nI_of (x := z) (by omega)
          subst ez9
          refine lv_aload hx hb dX9_expansions_37 (lv_at hl 0 rfl) ?_
          refine z_getN (own := RX9) (C := RX5) (T := TX5) (N := 5) hx hb hts in_X9_expansions_5 hown hK hS h_n hkn rfl 3 (by decide) 5 rfl rfl rfl dX9_expansions_39 ?_
          refine lv_iload_n hx hb dX9_expansions_42 rfl (lv_at hl 3 rfl) ?_
          refine lv_iload_n hx hb dX9_expansions_43 rfl (lv_at hl 4 rfl) ?_
          refine z_calll (z_runVN (As := [.int y, .int (nI z9)]) (rest := []) (C := RX8) ⟨hx, hb, hml, hown, hts⟩ hK hS ((k_rowsWith Z g (21 + 13 * s1) (16 + 13 * s1) (sg s1) lw hw tb y1 y2 y3 hO ⟨pb, qb, res, cmp, dg, ch, h_b, h_d, h_c, hkN, hok, hp, hq, hres, hdg⟩ y hym z9 (by omega)) l _) gX9_expansions_X8_rowsWith_n159 rfl 2 8 rfl (List.mem_of_getElem? (i := 16) rfl) (List.mem_of_getElem? (i := 15) rfl) (List.mem_of_getElem? (i := 17) rfl) (by decide +kernel) ⟨Nat.le_of_ble_eq_true rfl, Nat.le_of_ble_eq_true rfl⟩ h_ww hkww rfl rfl hl.1 rfl (Nat.le_of_ble_eq_true rfl) dX9_expansions_44 ⟨Nat.le_of_ble_eq_true rfl, Nat.le_of_ble_eq_true rfl⟩) hS (fun rr g_9 H locs hp_10 hS => ?_)
          obtain ⟨⟨lo9, hi9, A9, hY9, hbd9, hAl9⟩, hrr, hfr_11⟩ := hp_10
          have h_x := (hfr_11 _ (by omega)).trans h_x
          have h_x1 := (hfr_11 _ (by omega)).trans h_x1
          have h_x2 := (hfr_11 _ (by omega)).trans h_x2
          have h_n := (hfr_11 _ (by omega)).trans h_n
          have h_b := (hfr_11 _ (by omega)).trans h_b
          have h_d := (hfr_11 _ (by omega)).trans h_d
          have h_c := (hfr_11 _ (by omega)).trans h_c
          obtain ⟨lw2, hw2, tb2, hO2, hY9r⟩ := id hY9
          have h_ww := hO2.1
          have hwb9 := zwy_12 hok (L := z9) (by omega) y.toInt
          refine lv_lstore (lv' := [(5, .long rr), (4, .ref (Z.2.1 (15 + 13 * s1))), (0, .ref (Z.2.1 0)), (1, .int x), (2, .int y), (3, .int (nI z9))]) hx hb dX9_expansions_47 hl (by decide) rfl (fun ls hl => ?_)
          refine lv_lload hx hb dX9_expansions_49 (lv_at hl 0 rfl) ?_
          refine lv_ldc2 (v := 1000000) hx hb hown (hts _ (List.mem_of_getElem? (i := 4) rfl)) dX9_expansions_51 ?_
          refine W.lcmp hx hb dX9_expansions_54 ?_
          have hc1 := z_cmpG (x := rr) (y := 1000000)
          rw [show (1000000 : Int64).toInt = 1000000 from rfl, hrr] at hc1
          refine lv_if_le (tgt := 63) hx hb dX9_expansions_55 (by decide) (fun c_12 => ?_) (fun c_12 => ?_)
          · have i_12 := z_le c_12
            rw [tI_0] at i_12
            refine lv_lload hx hb dX9_expansions_63 (lv_at hl 0 rfl) ?_
            refine lv_l2i hx hb dX9_expansions_65 rfl ?_
            refine z_iret hx hb hr hlocks hS ?_ dX9_expansions_66
            show z_po Z G9 (sp_expansions (sg, rw9) x.toInt y.toInt (nI z9).toInt) _ _
            unfold sp_expansions
            rw [zite_t hzs, zite_t ⟨hym, (show 0 ≤ (nI z9).toInt ∧ (nI z9).toInt ≤ 12 by omega)⟩, htn, show (nI z9).toInt.toNat = z9 from by omega, zite_f (show ¬ 1000000 < zwy (sg s1) z9 y.toInt by omega)]
            exact ⟨by rw [z_l2i (by omega) (by omega)]; exact hrr, hX.ways hs2 (z_fr.rf.tr (hfr_11.wide (by omega) (by omega))) hO2⟩
          · have i_12 := z_nle c_12
            rw [tI_0] at i_12
            refine lv_ldc (v := 1000000) hx hb hown (hts _ (List.mem_of_getElem? (i := 5) rfl)) dX9_expansions_58 ?_
            refine lv_goto (tgt := 66) hx hb dX9_expansions_60 (by decide) ?_
            refine z_iret hx hb hr hlocks hS ?_ dX9_expansions_66
            show z_po Z G9 (sp_expansions (sg, rw9) x.toInt y.toInt (nI z9).toInt) _ _
            unfold sp_expansions
            rw [zite_t hzs, zite_t ⟨hym, (show 0 ≤ (nI z9).toInt ∧ (nI z9).toInt ≤ 12 by omega)⟩, htn, show (nI z9).toInt.toNat = z9 from by omega, zite_t (show 1000000 < zwy (sg s1) z9 y.toInt by omega)]
            exact ⟨rfl, hX.ways hs2 (z_fr.rf.tr (hfr_11.wide (by omega) (by omega))) hO2⟩
        · have i_8 := z_nle c_8
          rw [tI_12] at i_8
          have hbad : ¬ ((-100000 ≤ y.toInt ∧ y.toInt ≤ 100000) ∧ (0 ≤ z.toInt ∧ z.toInt ≤ 12)) := fun h9 => by omega
          refine lv_ldc (v := (-1000002)) hx hb hown (hts _ (List.mem_of_getElem? (i := 3) rfl)) dX9_expansions_34 ?_
          refine z_iret hx hb hr hlocks hS ?_ dX9_expansions_36
          show z_po Z G9 (sp_expansions (sg, rw9) x.toInt y.toInt z.toInt) _ _
          unfold sp_expansions
          rw [zite_t hzs, zite_f hbad]
          exact ⟨rfl, hX⟩
  · subst er
    refine lv_astoreN (lv' := [(4, .null), (0, .ref (Z.2.1 0)), (1, .int x), (2, .int y), (3, .int z)]) hx hb dX9_expansions_5 hl (by decide) rfl (fun ls hl => ?_)
    refine lv_aloadN hx hb dX9_expansions_7 (lv_at hl 0 rfl) ?_
    refine lv_ifnonnullN hx hb dX9_expansions_9 ?_
    refine lv_ldc (v := (-1000001)) hx hb hown (hts _ (List.mem_of_getElem? (i := 1) rfl)) dX9_expansions_12 ?_
    refine z_iret hx hb hr hlocks hS ?_ dX9_expansions_14
    show z_po Z G9 (sp_expansions (sg, rw9) x.toInt y.toInt z.toInt) _ _
    unfold sp_expansions
    rw [zite_f hnv]
    exact ⟨rfl, hX⟩

theorem in_X9_expansionDigit_5 : ∀ w ∈ wsX50, w ∈ wsX9_expansionDigit := by decide +kernel
set_option maxHeartbeats 4000000 in
set_option maxRecDepth 100000 in
theorem k_expansionDigit (Z : zT) {G9 : Nat → va_E} (g : Nat → va_E) (sg : Nat → zb) (rw9 : Nat → zr) (hX : z_xw Z G9 g sg rw9) (x y z u v : Int32) : z_Mi Z yX9_expansionDigit wsX9_expansionDigit 6 140 [.ref (Z.2.1 0), .int x, .int y, .int z, .int u, .int v] g (fun r g1 => z_po Z G9 (sp_expansionDigit (sg, rw9) x.toInt y.toInt z.toInt u.toInt v.toInt) r g1) := by
  intro l sz
  have h0 := hX.1
  obtain ⟨hN, h_x, ⟨fS, h_x1, hfS⟩, fR, h_x2, hfR⟩ := id h0
  have hN0 : 0 < Z.1 := by omega
  have hN1 : 1 < Z.1 := by omega
  have hN2 : 2 < Z.1 := by omega
  refine z_enter (maxL := 8) (ret := (some .int)) (lv := [(0, .ref (Z.2.1 0)), (1, .int x), (2, .int y), (3, .int z), (4, .int u), (5, .int v)]) (plainFor_of_name (by decide +kernel)) rfl (fun ls h => by subst h; exact lv_entry [.ref (Z.2.1 0), .int x, .int y, .int z, .int u, .int v] (n := 8) (Nat.le_of_ble_eq_true rfl)) ?_
  intro p e s m args below meth c hx hb hml hr hlocks hown hts hK hS hsz ls hl
  refine lv_aload_n hx hb dX9_expansionDigit_0 rfl (lv_at hl 0 rfl) ?_
  refine lv_iload_n hx hb dX9_expansionDigit_1 rfl (lv_at hl 1 rfl) ?_
  refine z_callq (z_runV (As := [.int x]) (rest := []) ⟨hx, hb, hml, hown, hts⟩ hK hS ((k_systemAt Z g h0 x) l _) gX9_expansionDigit_X9_systemAt rfl 1 (by decide +kernel) ⟨Nat.le_of_ble_eq_true rfl, Nat.le_of_ble_eq_true rfl⟩ h_x hN0 rfl rfl hl.1 rfl (Nat.le_of_ble_eq_true rfl) dX9_expansionDigit_2 ⟨Nat.le_of_ble_eq_true rfl, Nat.le_of_ble_eq_true rfl⟩) hS (fun r_1 g_2 H locs hp_3 hS => ?_)
  obtain ⟨rfl, hp_3⟩ := hp_3
  rcases hp_3 with ⟨s1, hs2, hsv, er⟩ | ⟨hnv, er⟩
  · subst er
    obtain ⟨h_n, hBs, ⟨w1, w2, w3, w4, w5, w6, hW⟩, h_y, ⟨lw, hw, tb, y1, y2, y3, hO⟩, l0, hC⟩ := hX.2.2.2.2.2 s1 hs2
    have hzs : zsy x.toInt := ⟨by omega, by omega⟩
    have htn : x.toInt.toNat = s1 := by omega
    obtain ⟨pb, qb, res, cmp, dg, ch, ⟨h_b, h_d, h_c, hkN, hok, hp, hq, hres, hdg⟩, hch, hcmp⟩ := id hBs
    have hkn : 15 + 13 * s1 < Z.1 := by omega
    have hk0 : 16 + 13 * s1 < Z.1 := by omega
    have hk1 : 16 + 13 * s1 + 1 < Z.1 := by omega
    have hk2 : 16 + 13 * s1 + 2 < Z.1 := by omega
    have hPb := zP_bd hok
    have hn12 := hok.2.2.2.1
    have hq1 := hok.2.1
    have h_ww := hO.1
    have hkww : 21 + 13 * s1 < Z.1 := by omega
    refine lv_astore (lv' := [(6, .ref (Z.2.1 (15 + 13 * s1))), (0, .ref (Z.2.1 0)), (1, .int x), (2, .int y), (3, .int z), (4, .int u), (5, .int v)]) hx hb dX9_expansionDigit_5 hl (by decide) rfl (fun ls hl => ?_)
    refine lv_aload hx hb dX9_expansionDigit_7 (lv_at hl 0 rfl) ?_
    refine lv_ifnonnull (tgt := 15) hx hb dX9_expansionDigit_9 (by decide) ?_
    refine lv_iload_n hx hb dX9_expansionDigit_15 rfl (lv_at hl 4 rfl) ?_
    refine lv_if_lt (tgt := 29) hx hb dX9_expansionDigit_16 (by decide) (fun c_4 => ?_) (fun c_4 => ?_)
    · have i_4 := z_lt c_4
      rw [tI_0] at i_4
      
      refine lv_iconst (v := 0) hx hb dX9_expansionDigit_29 (by decide) ?_
      refine lv_istore (lv' := [(7, .int 0), (6, .ref (Z.2.1 (15 + 13 * s1))), (0, .ref (Z.2.1 0)), (1, .int x), (2, .int y), (3, .int z), (4, .int u), (5, .int v)]) hx hb dX9_expansionDigit_30 hl (by decide) rfl (fun ls hl => ?_)
      refine lv_iload hx hb dX9_expansionDigit_32 (lv_at hl 0 rfl) ?_
      refine lv_if_eq (tgt := 51) hx hb dX9_expansionDigit_34 (by decide) (fun c_5 => ?_) (fun c_5 => ?_)
      · have i_5 := z_eq c_5
        rw [tI_0] at i_5
        
        refine lv_iload_n hx hb dX9_expansionDigit_51 rfl (lv_at hl 4 rfl) ?_
        refine lv_ldc (v := 100000) hx hb hown (hts _ (List.mem_of_getElem? (i := 2) rfl)) dX9_expansionDigit_52 ?_
        refine z_calli (z_runS (As := [.int y, .int 100000]) (rest := []) ⟨hx, hb, hml, hown, hts⟩ hK hS ((k_isWithin Z g y 100000 (by rw [tI_100000]; omega)) l _) gX9_expansionDigit_X9_isWithin rfl 2 (by decide +kernel) ⟨Nat.le_of_ble_eq_true rfl, Nat.le_of_ble_eq_true rfl⟩ rfl hl.1 rfl (Nat.le_of_ble_eq_true rfl) dX9_expansionDigit_54 ⟨Nat.le_of_ble_eq_true rfl, Nat.le_of_ble_eq_true rfl⟩) hS (fun rb g_6 H locs hp_7 hS => ?_)
        obtain ⟨rfl, hp_7⟩ := hp_7
        have hrb := hp_7
        rw [tI_100000] at hrb
        refine lv_if_eq (tgt := 77) hx hb dX9_expansionDigit_57 (by decide) (fun c_8 => ?_) (fun c_8 => ?_)
        · have i_8 := z_eq c_8
          rw [tI_0] at i_8
          have hno := zbo_f hrb c_8
          have hbad : ¬ ((-100000 ≤ y.toInt ∧ y.toInt ≤ 100000) ∧ (0 ≤ z.toInt ∧ z.toInt ≤ 12) ∧ (0 ≤ u.toInt ∧ u.toInt ≤ 999999)) := fun h9 => by omega
          have hnun : ¬ ((0 ≤ z.toInt ∧ z.toInt ≤ 12) ∧ ¬ (0 ≤ v.toInt ∧ v.toInt < z.toInt)) := fun h9 => by omega
          refine lv_ldc (v := (-1000002)) hx hb hown (hts _ (List.mem_of_getElem? (i := 4) rfl)) dX9_expansionDigit_77 ?_
          refine z_iret hx hb hr hlocks hS ?_ dX9_expansionDigit_79
          show z_po Z G9 (sp_expansionDigit (sg, rw9) x.toInt y.toInt z.toInt u.toInt v.toInt) _ _
          unfold sp_expansionDigit
          rw [zite_t hzs, zite_f hnun, zite_f hbad]
          exact ⟨rfl, hX⟩
        · have i_8 := z_ne c_8
          rw [tI_0] at i_8
          have hym := zbo_t hrb c_8
          refine lv_iload hx hb dX9_expansionDigit_60 (lv_at hl 0 rfl) ?_
          refine lv_if_eq (tgt := 77) hx hb dX9_expansionDigit_62 (by decide) (fun c_9 => ?_) (fun c_9 => ?_)
          · have i_9 := z_eq c_9
            rw [tI_0] at i_9
            have hbad : ¬ ((-100000 ≤ y.toInt ∧ y.toInt ≤ 100000) ∧ (0 ≤ z.toInt ∧ z.toInt ≤ 12) ∧ (0 ≤ u.toInt ∧ u.toInt ≤ 999999)) := fun h9 => by omega
            have hnun : ¬ ((0 ≤ z.toInt ∧ z.toInt ≤ 12) ∧ ¬ (0 ≤ v.toInt ∧ v.toInt < z.toInt)) := fun h9 => by omega
            refine lv_ldc (v := (-1000002)) hx hb hown (hts _ (List.mem_of_getElem? (i := 4) rfl)) dX9_expansionDigit_77 ?_
            refine z_iret hx hb hr hlocks hS ?_ dX9_expansionDigit_79
            show z_po Z G9 (sp_expansionDigit (sg, rw9) x.toInt y.toInt z.toInt u.toInt v.toInt) _ _
            unfold sp_expansionDigit
            rw [zite_t hzs, zite_f hnun, zite_f hbad]
            exact ⟨rfl, hX⟩
          · have i_9 := z_ne c_9
            rw [tI_0] at i_9
            exfalso; omega
      · have i_5 := z_ne c_5
        rw [tI_0] at i_5
        exfalso; omega
    · have i_4 := z_nlt c_4
      rw [tI_0] at i_4
      refine lv_iload_n hx hb dX9_expansionDigit_19 rfl (lv_at hl 4 rfl) ?_
      refine lv_bipush (v := 12) hx hb dX9_expansionDigit_20 (by decide) ?_
      refine lv_icmp_gt (tgt := 29) hx hb dX9_expansionDigit_22 (by decide) (fun c_10 => ?_) (fun c_10 => ?_)
      · have i_10 := z_lt c_10
        rw [tI_12] at i_10
        
        refine lv_iconst (v := 0) hx hb dX9_expansionDigit_29 (by decide) ?_
        refine lv_istore (lv' := [(7, .int 0), (6, .ref (Z.2.1 (15 + 13 * s1))), (0, .ref (Z.2.1 0)), (1, .int x), (2, .int y), (3, .int z), (4, .int u), (5, .int v)]) hx hb dX9_expansionDigit_30 hl (by decide) rfl (fun ls hl => ?_)
        refine lv_iload hx hb dX9_expansionDigit_32 (lv_at hl 0 rfl) ?_
        refine lv_if_eq (tgt := 51) hx hb dX9_expansionDigit_34 (by decide) (fun c_11 => ?_) (fun c_11 => ?_)
        · have i_11 := z_eq c_11
          rw [tI_0] at i_11
          
          refine lv_iload_n hx hb dX9_expansionDigit_51 rfl (lv_at hl 4 rfl) ?_
          refine lv_ldc (v := 100000) hx hb hown (hts _ (List.mem_of_getElem? (i := 2) rfl)) dX9_expansionDigit_52 ?_
          refine z_calli (z_runS (As := [.int y, .int 100000]) (rest := []) ⟨hx, hb, hml, hown, hts⟩ hK hS ((k_isWithin Z g y 100000 (by rw [tI_100000]; omega)) l _) gX9_expansionDigit_X9_isWithin rfl 2 (by decide +kernel) ⟨Nat.le_of_ble_eq_true rfl, Nat.le_of_ble_eq_true rfl⟩ rfl hl.1 rfl (Nat.le_of_ble_eq_true rfl) dX9_expansionDigit_54 ⟨Nat.le_of_ble_eq_true rfl, Nat.le_of_ble_eq_true rfl⟩) hS (fun rb g_12 H locs hp_13 hS => ?_)
          obtain ⟨rfl, hp_13⟩ := hp_13
          have hrb := hp_13
          rw [tI_100000] at hrb
          refine lv_if_eq (tgt := 77) hx hb dX9_expansionDigit_57 (by decide) (fun c_14 => ?_) (fun c_14 => ?_)
          · have i_14 := z_eq c_14
            rw [tI_0] at i_14
            have hno := zbo_f hrb c_14
            have hbad : ¬ ((-100000 ≤ y.toInt ∧ y.toInt ≤ 100000) ∧ (0 ≤ z.toInt ∧ z.toInt ≤ 12) ∧ (0 ≤ u.toInt ∧ u.toInt ≤ 999999)) := fun h9 => by omega
            have hnun : ¬ ((0 ≤ z.toInt ∧ z.toInt ≤ 12) ∧ ¬ (0 ≤ v.toInt ∧ v.toInt < z.toInt)) := fun h9 => by omega
            refine lv_ldc (v := (-1000002)) hx hb hown (hts _ (List.mem_of_getElem? (i := 4) rfl)) dX9_expansionDigit_77 ?_
            refine z_iret hx hb hr hlocks hS ?_ dX9_expansionDigit_79
            show z_po Z G9 (sp_expansionDigit (sg, rw9) x.toInt y.toInt z.toInt u.toInt v.toInt) _ _
            unfold sp_expansionDigit
            rw [zite_t hzs, zite_f hnun, zite_f hbad]
            exact ⟨rfl, hX⟩
          · have i_14 := z_ne c_14
            rw [tI_0] at i_14
            have hym := zbo_t hrb c_14
            refine lv_iload hx hb dX9_expansionDigit_60 (lv_at hl 0 rfl) ?_
            refine lv_if_eq (tgt := 77) hx hb dX9_expansionDigit_62 (by decide) (fun c_15 => ?_) (fun c_15 => ?_)
            · have i_15 := z_eq c_15
              rw [tI_0] at i_15
              have hbad : ¬ ((-100000 ≤ y.toInt ∧ y.toInt ≤ 100000) ∧ (0 ≤ z.toInt ∧ z.toInt ≤ 12) ∧ (0 ≤ u.toInt ∧ u.toInt ≤ 999999)) := fun h9 => by omega
              have hnun : ¬ ((0 ≤ z.toInt ∧ z.toInt ≤ 12) ∧ ¬ (0 ≤ v.toInt ∧ v.toInt < z.toInt)) := fun h9 => by omega
              refine lv_ldc (v := (-1000002)) hx hb hown (hts _ (List.mem_of_getElem? (i := 4) rfl)) dX9_expansionDigit_77 ?_
              refine z_iret hx hb hr hlocks hS ?_ dX9_expansionDigit_79
              show z_po Z G9 (sp_expansionDigit (sg, rw9) x.toInt y.toInt z.toInt u.toInt v.toInt) _ _
              unfold sp_expansionDigit
              rw [zite_t hzs, zite_f hnun, zite_f hbad]
              exact ⟨rfl, hX⟩
            · have i_15 := z_ne c_15
              rw [tI_0] at i_15
              exfalso; omega
        · have i_11 := z_ne c_11
          rw [tI_0] at i_11
          exfalso; omega
      · have i_10 := z_nlt c_10
        rw [tI_12] at i_10
        
        refine lv_iconst (v := 1) hx hb dX9_expansionDigit_25 (by decide) ?_
        refine lv_goto (tgt := 30) hx hb dX9_expansionDigit_26 (by decide) ?_
        refine lv_istore (lv' := [(7, .int 1), (6, .ref (Z.2.1 (15 + 13 * s1))), (0, .ref (Z.2.1 0)), (1, .int x), (2, .int y), (3, .int z), (4, .int u), (5, .int v)]) hx hb dX9_expansionDigit_30 hl (by decide) rfl (fun ls hl => ?_)
        refine lv_iload hx hb dX9_expansionDigit_32 (lv_at hl 0 rfl) ?_
        refine lv_if_eq (tgt := 51) hx hb dX9_expansionDigit_34 (by decide) (fun c_16 => ?_) (fun c_16 => ?_)
        · have i_16 := z_eq c_16
          rw [tI_1] at i_16
          rw [tI_0] at i_16
          exfalso; omega
        · have i_16 := z_ne c_16
          rw [tI_1] at i_16
          rw [tI_0] at i_16
          
          refine lv_iload hx hb dX9_expansionDigit_37 (lv_at hl 7 rfl) ?_
          refine lv_if_lt (tgt := 48) hx hb dX9_expansionDigit_39 (by decide) (fun c_17 => ?_) (fun c_17 => ?_)
          · have i_17 := z_lt c_17
            rw [tI_0] at i_17
            have hun : (0 ≤ z.toInt ∧ z.toInt ≤ 12) ∧ ¬ (0 ≤ v.toInt ∧ v.toInt < z.toInt) := by omega
            refine lv_ldc (v := (-1000001)) hx hb hown (hts _ (List.mem_of_getElem? (i := 1) rfl)) dX9_expansionDigit_48 ?_
            refine z_iret hx hb hr hlocks hS ?_ dX9_expansionDigit_50
            show z_po Z G9 (sp_expansionDigit (sg, rw9) x.toInt y.toInt z.toInt u.toInt v.toInt) _ _
            unfold sp_expansionDigit
            rw [zite_t hzs, zite_t hun]
            exact ⟨rfl, hX⟩
          · have i_17 := z_nlt c_17
            rw [tI_0] at i_17
            refine lv_iload hx hb dX9_expansionDigit_42 (lv_at hl 7 rfl) ?_
            refine lv_iload_n hx hb dX9_expansionDigit_44 rfl (lv_at hl 5 rfl) ?_
            refine lv_icmp_lt (tgt := 51) hx hb dX9_expansionDigit_45 (by decide) (fun c_18 => ?_) (fun c_18 => ?_)
            · have i_18 := z_lt c_18
              refine lv_iload_n hx hb dX9_expansionDigit_51 rfl (lv_at hl 4 rfl) ?_
              refine lv_ldc (v := 100000) hx hb hown (hts _ (List.mem_of_getElem? (i := 2) rfl)) dX9_expansionDigit_52 ?_
              refine z_calli (z_runS (As := [.int y, .int 100000]) (rest := []) ⟨hx, hb, hml, hown, hts⟩ hK hS ((k_isWithin Z g y 100000 (by rw [tI_100000]; omega)) l _) gX9_expansionDigit_X9_isWithin rfl 2 (by decide +kernel) ⟨Nat.le_of_ble_eq_true rfl, Nat.le_of_ble_eq_true rfl⟩ rfl hl.1 rfl (Nat.le_of_ble_eq_true rfl) dX9_expansionDigit_54 ⟨Nat.le_of_ble_eq_true rfl, Nat.le_of_ble_eq_true rfl⟩) hS (fun rb g_19 H locs hp_20 hS => ?_)
              obtain ⟨rfl, hp_20⟩ := hp_20
              have hrb := hp_20
              rw [tI_100000] at hrb
              refine lv_if_eq (tgt := 77) hx hb dX9_expansionDigit_57 (by decide) (fun c_21 => ?_) (fun c_21 => ?_)
              · have i_21 := z_eq c_21
                rw [tI_0] at i_21
                have hno := zbo_f hrb c_21
                have hbad : ¬ ((-100000 ≤ y.toInt ∧ y.toInt ≤ 100000) ∧ (0 ≤ z.toInt ∧ z.toInt ≤ 12) ∧ (0 ≤ u.toInt ∧ u.toInt ≤ 999999)) := fun h9 => by omega
                have hnun : ¬ ((0 ≤ z.toInt ∧ z.toInt ≤ 12) ∧ ¬ (0 ≤ v.toInt ∧ v.toInt < z.toInt)) := fun h9 => by omega
                refine lv_ldc (v := (-1000002)) hx hb hown (hts _ (List.mem_of_getElem? (i := 4) rfl)) dX9_expansionDigit_77 ?_
                refine z_iret hx hb hr hlocks hS ?_ dX9_expansionDigit_79
                show z_po Z G9 (sp_expansionDigit (sg, rw9) x.toInt y.toInt z.toInt u.toInt v.toInt) _ _
                unfold sp_expansionDigit
                rw [zite_t hzs, zite_f hnun, zite_f hbad]
                exact ⟨rfl, hX⟩
              · have i_21 := z_ne c_21
                rw [tI_0] at i_21
                have hym := zbo_t hrb c_21
                refine lv_iload hx hb dX9_expansionDigit_60 (lv_at hl 0 rfl) ?_
                refine lv_if_eq (tgt := 77) hx hb dX9_expansionDigit_62 (by decide) (fun c_22 => ?_) (fun c_22 => ?_)
                · have i_22 := z_eq c_22
                  rw [tI_1] at i_22
                  rw [tI_0] at i_22
                  exfalso; omega
                · have i_22 := z_ne c_22
                  rw [tI_1] at i_22
                  rw [tI_0] at i_22
                  
                  refine lv_iload hx hb dX9_expansionDigit_65 (lv_at hl 6 rfl) ?_
                  refine lv_if_lt (tgt := 77) hx hb dX9_expansionDigit_67 (by decide) (fun c_23 => ?_) (fun c_23 => ?_)
                  · have i_23 := z_lt c_23
                    rw [tI_0] at i_23
                    have hbad : ¬ ((-100000 ≤ y.toInt ∧ y.toInt ≤ 100000) ∧ (0 ≤ z.toInt ∧ z.toInt ≤ 12) ∧ (0 ≤ u.toInt ∧ u.toInt ≤ 999999)) := fun h9 => by omega
                    have hnun : ¬ ((0 ≤ z.toInt ∧ z.toInt ≤ 12) ∧ ¬ (0 ≤ v.toInt ∧ v.toInt < z.toInt)) := fun h9 => by omega
                    refine lv_ldc (v := (-1000002)) hx hb hown (hts _ (List.mem_of_getElem? (i := 4) rfl)) dX9_expansionDigit_77 ?_
                    refine z_iret hx hb hr hlocks hS ?_ dX9_expansionDigit_79
                    show z_po Z G9 (sp_expansionDigit (sg, rw9) x.toInt y.toInt z.toInt u.toInt v.toInt) _ _
                    unfold sp_expansionDigit
                    rw [zite_t hzs, zite_f hnun, zite_f hbad]
                    exact ⟨rfl, hX⟩
                  · have i_23 := z_nlt c_23
                    rw [tI_0] at i_23
                    refine lv_iload hx hb dX9_expansionDigit_70 (lv_at hl 6 rfl) ?_
                    refine lv_ldc (v := 999999) hx hb hown (hts _ (List.mem_of_getElem? (i := 3) rfl)) dX9_expansionDigit_72 ?_
                    refine lv_icmp_le (tgt := 80) hx hb dX9_expansionDigit_74 (by decide) (fun c_24 => ?_) (fun c_24 => ?_)
                    · have i_24 := z_le c_24
                      rw [tI_999999] at i_24
                      obtain ⟨z9, ez9, hz9, -⟩ := z_nI_of (x := z) (by omega)
                      subst ez9
                      obtain ⟨u9, eu9, hu9, -⟩ := z_nI_of (x := u) (by omega)
                      subst eu9
                      obtain ⟨e9, ee9, he9, -⟩ := z_nI_of (x := v) (by omega)
                      subst ee9
                      refine lv_iload hx hb dX9_expansionDigit_80 (lv_at hl 6 rfl) ?_
                      refine lv_i2l hx hb dX9_expansionDigit_82 rfl ?_
                      refine lv_aload hx hb dX9_expansionDigit_83 (lv_at hl 1 rfl) ?_
                      refine z_getN (own := RX9) (C := RX5) (T := TX5) (N := 5) hx hb hts in_X9_expansionDigit_5 hown hK hS h_n hkn rfl 3 (by decide) 5 rfl rfl rfl dX9_expansionDigit_85 ?_
                      refine lv_iload_n hx hb dX9_expansionDigit_88 rfl (lv_at hl 4 rfl) ?_
                      refine lv_iload_n hx hb dX9_expansionDigit_89 rfl (lv_at hl 5 rfl) ?_
                      refine z_calll (z_runVN (As := [.int y, .int (nI z9)]) (rest := [.long (Int32.toInt64 (nI u9))]) (C := RX8) ⟨hx, hb, hml, hown, hts⟩ hK hS ((k_rowsWith Z g (21 + 13 * s1) (16 + 13 * s1) (sg s1) lw hw tb y1 y2 y3 hO ⟨pb, qb, res, cmp, dg, ch, h_b, h_d, h_c, hkN, hok, hp, hq, hres, hdg⟩ y hym z9 (by omega)) l _) gX9_expansionDigit_X8_rowsWith_n159 rfl 2 8 rfl (List.mem_of_getElem? (i := 16) rfl) (List.mem_of_getElem? (i := 15) rfl) (List.mem_of_getElem? (i := 17) rfl) (by decide +kernel) ⟨Nat.le_of_ble_eq_true rfl, Nat.le_of_ble_eq_true rfl⟩ h_ww hkww rfl rfl hl.1 rfl (Nat.le_of_ble_eq_true rfl) dX9_expansionDigit_90 ⟨Nat.le_of_ble_eq_true rfl, Nat.le_of_ble_eq_true rfl⟩) hS (fun rr g_25 H locs hp_26 hS => ?_)
                      obtain ⟨⟨lo9, hi9, A9, hY9, hbd9, hAl9⟩, hrr, hfr_27⟩ := hp_26
                      have h_x := (hfr_27 _ (by omega)).trans h_x
                      have h_x1 := (hfr_27 _ (by omega)).trans h_x1
                      have h_x2 := (hfr_27 _ (by omega)).trans h_x2
                      have h_n := (hfr_27 _ (by omega)).trans h_n
                      have h_b := (hfr_27 _ (by omega)).trans h_b
                      have h_d := (hfr_27 _ (by omega)).trans h_d
                      have h_c := (hfr_27 _ (by omega)).trans h_c
                      obtain ⟨lw2, hw2, tb2, hO2, hY9r⟩ := id hY9
                      have h_ww := hO2.1
                      have hwb9 := zwy_12 hok (L := z9) (by omega) y.toInt
                      refine W.lcmp hx hb dX9_expansionDigit_93 ?_
                      have hc1 := z_cmpL (x := Int32.toInt64 (nI u9)) (y := rr)
                      rw [Int32.toInt_toInt64, hrr] at hc1
                      refine lv_if_lt (tgt := 100) hx hb dX9_expansionDigit_94 (by decide) (fun c_28 => ?_) (fun c_28 => ?_)
                      · have i_28 := z_lt c_28
                        rw [tI_0] at i_28
                        refine lv_aload hx hb dX9_expansionDigit_100 (lv_at hl 1 rfl) ?_
                        refine z_getN (own := RX9) (C := RX5) (T := TX5) (N := 5) hx hb hts in_X9_expansionDigit_5 hown hK hS h_n hkn rfl 3 (by decide) 5 rfl rfl rfl dX9_expansionDigit_102 ?_
                        refine lv_iload_n hx hb dX9_expansionDigit_105 rfl (lv_at hl 4 rfl) ?_
                        refine lv_iload hx hb dX9_expansionDigit_106 (lv_at hl 6 rfl) ?_
                        refine lv_iload hx hb dX9_expansionDigit_108 (lv_at hl 7 rfl) ?_
                        refine z_calli (z_runVN (As := [.int y, .int (nI u9), .int (nI e9)]) (rest := []) (C := RX8) ⟨hx, hb, hml, hown, hts⟩ hK hS ((k_entryOfRow Z g_25 (21 + 13 * s1) (16 + 13 * s1) (sg s1) lo9 hi9 A9 y2 y3 z9 (by omega) hY9 ⟨pb, qb, res, cmp, dg, ch, h_b, h_d, h_c, hkN, hok, hp, hq, hres, hdg⟩ y hym hbd9 hAl9 u9 (by omega) (by omega) e9 (by omega)) l _) gX9_expansionDigit_X8_entryOfRow_n169 rfl 3 9 rfl (List.mem_of_getElem? (i := 16) rfl) (List.mem_of_getElem? (i := 96) rfl) (List.mem_of_getElem? (i := 97) rfl) (by decide +kernel) ⟨Nat.le_of_ble_eq_true rfl, Nat.le_of_ble_eq_true rfl⟩ h_ww hkww rfl rfl hl.1 rfl (Nat.le_of_ble_eq_true rfl) dX9_expansionDigit_110 ⟨Nat.le_of_ble_eq_true rfl, Nat.le_of_ble_eq_true rfl⟩) hS (fun re g_29 H locs hp_30 hS => ?_)
                        obtain ⟨⟨v4, v5, hY8⟩, hre, hfr_31⟩ := hp_30
                        have h_x := (hfr_31 _ (by omega)).trans h_x
                        have h_x1 := (hfr_31 _ (by omega)).trans h_x1
                        have h_x2 := (hfr_31 _ (by omega)).trans h_x2
                        have h_n := (hfr_31 _ (by omega)).trans h_n
                        have h_b := (hfr_31 _ (by omega)).trans h_b
                        have h_d := (hfr_31 _ (by omega)).trans h_d
                        have h_c := (hfr_31 _ (by omega)).trans h_c
                        obtain ⟨lw3, hw3, tb3, hO2, -⟩ := id hY8
                        refine z_iret hx hb hr hlocks hS ?_ dX9_expansionDigit_113
                        show z_po Z G9 (sp_expansionDigit (sg, rw9) x.toInt y.toInt (nI z9).toInt (nI u9).toInt (nI e9).toInt) _ _
                        unfold sp_expansionDigit
                        rw [zite_t hzs, zite_f (show ¬ ((0 ≤ (nI z9).toInt ∧ (nI z9).toInt ≤ 12) ∧ ¬ (0 ≤ (nI e9).toInt ∧ (nI e9).toInt < (nI z9).toInt)) by omega), zite_t ⟨hym, (show (0 ≤ (nI z9).toInt ∧ (nI z9).toInt ≤ 12) ∧ (0 ≤ (nI u9).toInt ∧ (nI u9).toInt ≤ 999999) by omega)⟩, htn, show (nI z9).toInt.toNat = z9 from by omega, show (nI e9).toInt.toNat = e9 from by omega, zite_t (show (nI u9).toInt < zwy (sg s1) z9 y.toInt by omega)]
                        exact ⟨by rw [hre]; rw [show (nI u9).toInt = (u9 : Int) from by omega], hX.ways hs2 ((z_fr.rf.tr (hfr_27.wide (by omega) (by omega))).tr (hfr_31.wide (by omega) (by omega))) hO2⟩
                      · have i_28 := z_nlt c_28
                        rw [tI_0] at i_28
                        refine lv_ldc (v := (-1000006)) hx hb hown (hts _ (List.mem_of_getElem? (i := 5) rfl)) dX9_expansionDigit_97 ?_
                        refine z_iret hx hb hr hlocks hS ?_ dX9_expansionDigit_99
                        show z_po Z G9 (sp_expansionDigit (sg, rw9) x.toInt y.toInt (nI z9).toInt (nI u9).toInt (nI e9).toInt) _ _
                        unfold sp_expansionDigit
                        rw [zite_t hzs, zite_f (show ¬ ((0 ≤ (nI z9).toInt ∧ (nI z9).toInt ≤ 12) ∧ ¬ (0 ≤ (nI e9).toInt ∧ (nI e9).toInt < (nI z9).toInt)) by omega), zite_t ⟨hym, (show (0 ≤ (nI z9).toInt ∧ (nI z9).toInt ≤ 12) ∧ (0 ≤ (nI u9).toInt ∧ (nI u9).toInt ≤ 999999) by omega)⟩, htn, show (nI z9).toInt.toNat = z9 from by omega, show (nI e9).toInt.toNat = e9 from by omega, zite_f (show ¬ (nI u9).toInt < zwy (sg s1) z9 y.toInt by omega)]
                        exact ⟨rfl, hX.ways hs2 (z_fr.rf.tr (hfr_27.wide (by omega) (by omega))) hO2⟩
                    · have i_24 := z_nle c_24
                      rw [tI_999999] at i_24
                      have hbad : ¬ ((-100000 ≤ y.toInt ∧ y.toInt ≤ 100000) ∧ (0 ≤ z.toInt ∧ z.toInt ≤ 12) ∧ (0 ≤ u.toInt ∧ u.toInt ≤ 999999)) := fun h9 => by omega
                      have hnun : ¬ ((0 ≤ z.toInt ∧ z.toInt ≤ 12) ∧ ¬ (0 ≤ v.toInt ∧ v.toInt < z.toInt)) := fun h9 => by omega
                      refine lv_ldc (v := (-1000002)) hx hb hown (hts _ (List.mem_of_getElem? (i := 4) rfl)) dX9_expansionDigit_77 ?_
                      refine z_iret hx hb hr hlocks hS ?_ dX9_expansionDigit_79
                      show z_po Z G9 (sp_expansionDigit (sg, rw9) x.toInt y.toInt z.toInt u.toInt v.toInt) _ _
                      unfold sp_expansionDigit
                      rw [zite_t hzs, zite_f hnun, zite_f hbad]
                      exact ⟨rfl, hX⟩
            · have i_18 := z_nlt c_18
              have hun : (0 ≤ z.toInt ∧ z.toInt ≤ 12) ∧ ¬ (0 ≤ v.toInt ∧ v.toInt < z.toInt) := by omega
              refine lv_ldc (v := (-1000001)) hx hb hown (hts _ (List.mem_of_getElem? (i := 1) rfl)) dX9_expansionDigit_48 ?_
              refine z_iret hx hb hr hlocks hS ?_ dX9_expansionDigit_50
              show z_po Z G9 (sp_expansionDigit (sg, rw9) x.toInt y.toInt z.toInt u.toInt v.toInt) _ _
              unfold sp_expansionDigit
              rw [zite_t hzs, zite_t hun]
              exact ⟨rfl, hX⟩
  · subst er
    refine lv_astoreN (lv' := [(6, .null), (0, .ref (Z.2.1 0)), (1, .int x), (2, .int y), (3, .int z), (4, .int u), (5, .int v)]) hx hb dX9_expansionDigit_5 hl (by decide) rfl (fun ls hl => ?_)
    refine lv_aloadN hx hb dX9_expansionDigit_7 (lv_at hl 0 rfl) ?_
    refine lv_ifnonnullN hx hb dX9_expansionDigit_9 ?_
    refine lv_ldc (v := (-1000001)) hx hb hown (hts _ (List.mem_of_getElem? (i := 1) rfl)) dX9_expansionDigit_12 ?_
    refine z_iret hx hb hr hlocks hS ?_ dX9_expansionDigit_14
    show z_po Z G9 (sp_expansionDigit (sg, rw9) x.toInt y.toInt z.toInt u.toInt v.toInt) _ _
    unfold sp_expansionDigit
    rw [zite_f hnv]
    exact ⟨rfl, hX⟩

theorem in_X9_shortest_5 : ∀ w ∈ wsX50, w ∈ wsX9_shortest := by decide +kernel
set_option maxHeartbeats 4000000 in
set_option maxRecDepth 100000 in
theorem k_shortest (Z : zT) {G9 : Nat → va_E} (g : Nat → va_E) (sg : Nat → zb) (rw9 : Nat → zr) (hX : z_xw Z G9 g sg rw9) (x y : Int32) : z_Mi Z yX9_shortest wsX9_shortest 6 138 [.ref (Z.2.1 0), .int x, .int y] g (fun r g1 => z_po Z G9 (sp_shortest (sg, rw9) x.toInt y.toInt) r g1) := by
  intro l sz
  have h0 := hX.1
  obtain ⟨hN, h_x, ⟨fS, h_x1, hfS⟩, fR, h_x2, hfR⟩ := id h0
  have hN0 : 0 < Z.1 := by omega
  have hN1 : 1 < Z.1 := by omega
  have hN2 : 2 < Z.1 := by omega
  refine z_enter (maxL := 4) (ret := (some .int)) (lv := [(0, .ref (Z.2.1 0)), (1, .int x), (2, .int y)]) (plainFor_of_name (by decide +kernel)) rfl (fun ls h => by subst h; exact lv_entry [.ref (Z.2.1 0), .int x, .int y] (n := 4) (Nat.le_of_ble_eq_true rfl)) ?_
  intro p e s m args below meth c hx hb hml hr hlocks hown hts hK hS hsz ls hl
  refine lv_aload_n hx hb dX9_shortest_0 rfl (lv_at hl 0 rfl) ?_
  refine lv_iload_n hx hb dX9_shortest_1 rfl (lv_at hl 1 rfl) ?_
  refine z_callq (z_runV (As := [.int x]) (rest := []) ⟨hx, hb, hml, hown, hts⟩ hK hS ((k_systemAt Z g h0 x) l _) gX9_shortest_X9_systemAt rfl 1 (by decide +kernel) ⟨Nat.le_of_ble_eq_true rfl, Nat.le_of_ble_eq_true rfl⟩ h_x hN0 rfl rfl hl.1 rfl (Nat.le_of_ble_eq_true rfl) dX9_shortest_2 ⟨Nat.le_of_ble_eq_true rfl, Nat.le_of_ble_eq_true rfl⟩) hS (fun r_1 g_2 H locs hp_3 hS => ?_)
  obtain ⟨rfl, hp_3⟩ := hp_3
  rcases hp_3 with ⟨s1, hs2, hsv, er⟩ | ⟨hnv, er⟩
  · subst er
    obtain ⟨h_n, hBs, ⟨w1, w2, w3, w4, w5, w6, hW⟩, h_y, ⟨lw, hw, tb, y1, y2, y3, hO⟩, l0, hC⟩ := hX.2.2.2.2.2 s1 hs2
    have hzs : zsy x.toInt := ⟨by omega, by omega⟩
    have htn : x.toInt.toNat = s1 := by omega
    obtain ⟨pb, qb, res, cmp, dg, ch, ⟨h_b, h_d, h_c, hkN, hok, hp, hq, hres, hdg⟩, hch, hcmp⟩ := id hBs
    have hkn : 15 + 13 * s1 < Z.1 := by omega
    have hk0 : 16 + 13 * s1 < Z.1 := by omega
    have hk1 : 16 + 13 * s1 + 1 < Z.1 := by omega
    have hk2 : 16 + 13 * s1 + 2 < Z.1 := by omega
    have hPb := zP_bd hok
    have hn12 := hok.2.2.2.1
    have hq1 := hok.2.1
    have h_ww := hO.1
    have hkww : 21 + 13 * s1 < Z.1 := by omega
    refine lv_astore_n (lv' := [(3, .ref (Z.2.1 (15 + 13 * s1))), (0, .ref (Z.2.1 0)), (1, .int x), (2, .int y)]) hx hb dX9_shortest_5 rfl hl (by decide) rfl (fun ls hl => ?_)
    refine lv_aload_n hx hb dX9_shortest_6 rfl (lv_at hl 0 rfl) ?_
    refine lv_ifnonnull (tgt := 13) hx hb dX9_shortest_7 (by decide) ?_
    refine lv_iload_n hx hb dX9_shortest_13 rfl (lv_at hl 3 rfl) ?_
    refine lv_ldc (v := 100000) hx hb hown (hts _ (List.mem_of_getElem? (i := 2) rfl)) dX9_shortest_14 ?_
    refine z_calli (z_runS (As := [.int y, .int 100000]) (rest := []) ⟨hx, hb, hml, hown, hts⟩ hK hS ((k_isWithin Z g y 100000 (by rw [tI_100000]; omega)) l _) gX9_shortest_X9_isWithin rfl 2 (by decide +kernel) ⟨Nat.le_of_ble_eq_true rfl, Nat.le_of_ble_eq_true rfl⟩ rfl hl.1 rfl (Nat.le_of_ble_eq_true rfl) dX9_shortest_16 ⟨Nat.le_of_ble_eq_true rfl, Nat.le_of_ble_eq_true rfl⟩) hS (fun rb g_4 H locs hp_5 hS => ?_)
    obtain ⟨rfl, hp_5⟩ := hp_5
    have hrb := hp_5
    rw [tI_100000] at hrb
    refine lv_if_ne (tgt := 25) hx hb dX9_shortest_19 (by decide) (fun c_6 => ?_) (fun c_6 => ?_)
    · have i_6 := z_ne c_6
      rw [tI_0] at i_6
      have hym := zbo_t hrb c_6
      refine lv_aload_n hx hb dX9_shortest_25 rfl (lv_at hl 0 rfl) ?_
      refine z_getN (own := RX9) (C := RX5) (T := TX5) (N := 5) hx hb hts in_X9_shortest_5 hown hK hS h_n hkn rfl 3 (by decide) 5 rfl rfl rfl dX9_shortest_26 ?_
      refine lv_iload_n hx hb dX9_shortest_29 rfl (lv_at hl 3 rfl) ?_
      refine z_calli (z_runVN (As := [.int y]) (rest := []) (C := RX8) ⟨hx, hb, hml, hown, hts⟩ hK hS ((k_leastLength Z g (21 + 13 * s1) (16 + 13 * s1) (sg s1) lw hw tb y1 y2 y3 hO ⟨pb, qb, res, cmp, dg, ch, h_b, h_d, h_c, hkN, hok, hp, hq, hres, hdg⟩ y hym) l _) gX9_shortest_X8_leastLength_n173 rfl 1 10 rfl (List.mem_of_getElem? (i := 14) rfl) (List.mem_of_getElem? (i := 13) rfl) (List.mem_of_getElem? (i := 15) rfl) (by decide +kernel) ⟨Nat.le_of_ble_eq_true rfl, Nat.le_of_ble_eq_true rfl⟩ h_ww hkww rfl rfl hl.1 rfl (Nat.le_of_ble_eq_true rfl) dX9_shortest_30 ⟨Nat.le_of_ble_eq_true rfl, Nat.le_of_ble_eq_true rfl⟩) hS (fun rs g_7 H locs hp_8 hS => ?_)
      obtain ⟨⟨lo9, hi9, A9, hY9⟩, hrs, hfr_9⟩ := hp_8
      have h_x := (hfr_9 _ (by omega)).trans h_x
      have h_x1 := (hfr_9 _ (by omega)).trans h_x1
      have h_x2 := (hfr_9 _ (by omega)).trans h_x2
      have h_n := (hfr_9 _ (by omega)).trans h_n
      have h_b := (hfr_9 _ (by omega)).trans h_b
      have h_d := (hfr_9 _ (by omega)).trans h_d
      have h_c := (hfr_9 _ (by omega)).trans h_c
      obtain ⟨lw3, hw3, tb3, hO2, -⟩ := id hY9
      have hrs2 : rs.toInt = zsh (sg s1) y.toInt := by
        rcases hrs with ⟨l9, q1, q2, q3, q4⟩ | ⟨q1, q2⟩
        · rw [zsh_yes q1 q2 q3, q4]; exact nI_toInt (by omega)
        · rw [zsh_no q1, q2]; rfl
      refine z_iret hx hb hr hlocks hS ?_ dX9_shortest_33
      show z_po Z G9 (sp_shortest (sg, rw9) x.toInt y.toInt) _ _
      unfold sp_shortest
      rw [zite_t hzs, zite_t hym, htn]
      refine ⟨?_, hX.ways hs2 (z_fr.rf.tr (hfr_9.wide (by omega) (by omega))) hO2⟩
      show rs.toInt = zsh (sg s1) y.toInt
      exact hrs2
    · have i_6 := z_eq c_6
      rw [tI_0] at i_6
      have hbad := zbo_f hrb c_6
      refine lv_ldc (v := (-1000002)) hx hb hown (hts _ (List.mem_of_getElem? (i := 3) rfl)) dX9_shortest_22 ?_
      refine z_iret hx hb hr hlocks hS ?_ dX9_shortest_24
      show z_po Z G9 (sp_shortest (sg, rw9) x.toInt y.toInt) _ _
      unfold sp_shortest
      rw [zite_t hzs, zite_f hbad]
      exact ⟨rfl, hX⟩
  · subst er
    refine lv_astore_nN (lv' := [(3, .null), (0, .ref (Z.2.1 0)), (1, .int x), (2, .int y)]) hx hb dX9_shortest_5 rfl hl (by decide) rfl (fun ls hl => ?_)
    refine lv_aload_nN hx hb dX9_shortest_6 rfl (lv_at hl 0 rfl) ?_
    refine lv_ifnonnullN hx hb dX9_shortest_7 ?_
    refine lv_ldc (v := (-1000001)) hx hb hown (hts _ (List.mem_of_getElem? (i := 1) rfl)) dX9_shortest_10 ?_
    refine z_iret hx hb hr hlocks hS ?_ dX9_shortest_12
    show z_po Z G9 (sp_shortest (sg, rw9) x.toInt y.toInt) _ _
    unfold sp_shortest
    rw [zite_f hnv]
    exact ⟨rfl, hX⟩

theorem in_X9_nextCarry_0 : ∀ w ∈ wsX00, w ∈ wsX9_nextCarry := by decide +kernel
theorem in_X9_nextCarry_5 : ∀ w ∈ wsX50, w ∈ wsX9_nextCarry := by decide +kernel
set_option maxHeartbeats 4000000 in
set_option maxRecDepth 100000 in
theorem k_nextCarry (Z : zT) {G9 : Nat → va_E} (g : Nat → va_E) (sg : Nat → zb) (rw9 : Nat → zr) (hX : z_xw Z G9 g sg rw9) (x y z : Int32) : z_Mi Z yX9_nextCarry wsX9_nextCarry 3 67 [.ref (Z.2.1 0), .int x, .int y, .int z] g (fun r g1 => z_po Z G9 (sp_nextCarry (sg, rw9) x.toInt y.toInt z.toInt) r g1) := by
  intro l sz
  have h0 := hX.1
  obtain ⟨hN, h_x, ⟨fS, h_x1, hfS⟩, fR, h_x2, hfR⟩ := id h0
  have hN0 : 0 < Z.1 := by omega
  have hN1 : 1 < Z.1 := by omega
  have hN2 : 2 < Z.1 := by omega
  refine z_enter (maxL := 5) (ret := (some .int)) (lv := [(0, .ref (Z.2.1 0)), (1, .int x), (2, .int y), (3, .int z)]) (plainFor_of_name (by decide +kernel)) rfl (fun ls h => by subst h; exact lv_entry [.ref (Z.2.1 0), .int x, .int y, .int z] (n := 5) (Nat.le_of_ble_eq_true rfl)) ?_
  intro p e s m args below meth c hx hb hml hr hlocks hown hts hK hS hsz ls hl
  refine lv_aload_n hx hb dX9_nextCarry_0 rfl (lv_at hl 0 rfl) ?_
  refine lv_iload_n hx hb dX9_nextCarry_1 rfl (lv_at hl 1 rfl) ?_
  refine z_callq (z_runV (As := [.int x]) (rest := []) ⟨hx, hb, hml, hown, hts⟩ hK hS ((k_systemAt Z g h0 x) l _) gX9_nextCarry_X9_systemAt rfl 1 (by decide +kernel) ⟨Nat.le_of_ble_eq_true rfl, Nat.le_of_ble_eq_true rfl⟩ h_x hN0 rfl rfl hl.1 rfl (Nat.le_of_ble_eq_true rfl) dX9_nextCarry_2 ⟨Nat.le_of_ble_eq_true rfl, Nat.le_of_ble_eq_true rfl⟩) hS (fun r_1 g_2 H locs hp_3 hS => ?_)
  obtain ⟨rfl, hp_3⟩ := hp_3
  rcases hp_3 with ⟨s1, hs2, hsv, er⟩ | ⟨hnv, er⟩
  · subst er
    obtain ⟨h_n, hBs, ⟨w1, w2, w3, w4, w5, w6, hW⟩, h_y, ⟨lw, hw, tb, y1, y2, y3, hO⟩, l0, hC⟩ := hX.2.2.2.2.2 s1 hs2
    have hzs : zsy x.toInt := ⟨by omega, by omega⟩
    have htn : x.toInt.toNat = s1 := by omega
    obtain ⟨pb, qb, res, cmp, dg, ch, ⟨h_b, h_d, h_c, hkN, hok, hp, hq, hres, hdg⟩, hch, hcmp⟩ := id hBs
    have hkn : 15 + 13 * s1 < Z.1 := by omega
    have hk0 : 16 + 13 * s1 < Z.1 := by omega
    have hk1 : 16 + 13 * s1 + 1 < Z.1 := by omega
    have hk2 : 16 + 13 * s1 + 2 < Z.1 := by omega
    have hPb := zP_bd hok
    have hn12 := hok.2.2.2.1
    have hq1 := hok.2.1
    refine lv_astore (lv' := [(4, .ref (Z.2.1 (15 + 13 * s1))), (0, .ref (Z.2.1 0)), (1, .int x), (2, .int y), (3, .int z)]) hx hb dX9_nextCarry_5 hl (by decide) rfl (fun ls hl => ?_)
    refine lv_aload hx hb dX9_nextCarry_7 (lv_at hl 0 rfl) ?_
    refine lv_ifnonnull (tgt := 15) hx hb dX9_nextCarry_9 (by decide) ?_
    refine lv_iload_n hx hb dX9_nextCarry_15 rfl (lv_at hl 3 rfl) ?_
    refine lv_sipush (v := 10000) hx hb dX9_nextCarry_16 (by decide) ?_
    refine z_calli (z_runS (As := [.int y, .int 10000]) (rest := []) ⟨hx, hb, hml, hown, hts⟩ hK hS ((k_isWithin Z g y 10000 (by rw [tI_10000]; omega)) l _) gX9_nextCarry_X9_isWithin rfl 2 (by decide +kernel) ⟨Nat.le_of_ble_eq_true rfl, Nat.le_of_ble_eq_true rfl⟩ rfl hl.1 rfl (Nat.le_of_ble_eq_true rfl) dX9_nextCarry_19 ⟨Nat.le_of_ble_eq_true rfl, Nat.le_of_ble_eq_true rfl⟩) hS (fun rb g_4 H locs hp_5 hS => ?_)
    obtain ⟨rfl, hp_5⟩ := hp_5
    have hrb := hp_5
    rw [tI_10000] at hrb
    refine lv_if_eq (tgt := 35) hx hb dX9_nextCarry_22 (by decide) (fun c_6 => ?_) (fun c_6 => ?_)
    · have i_6 := z_eq c_6
      rw [tI_0] at i_6
      have hbad : ¬ ((-10000 ≤ y.toInt ∧ y.toInt ≤ 10000) ∧ (-2000 ≤ z.toInt ∧ z.toInt ≤ 2000)) := fun h9 => zbo_f hrb c_6 h9.1
      refine lv_ldc (v := (-1000002)) hx hb hown (hts _ (List.mem_of_getElem? (i := 2) rfl)) dX9_nextCarry_35 ?_
      refine z_iret hx hb hr hlocks hS ?_ dX9_nextCarry_37
      show z_po Z G9 (sp_nextCarry (sg, rw9) x.toInt y.toInt z.toInt) _ _
      unfold sp_nextCarry
      rw [zite_t hzs, zite_f hbad]
      exact ⟨rfl, hX⟩
    · have i_6 := z_ne c_6
      rw [tI_0] at i_6
      have hym := zbo_t hrb c_6
      refine lv_iload_n hx hb dX9_nextCarry_25 rfl (lv_at hl 4 rfl) ?_
      refine lv_sipush (v := 2000) hx hb dX9_nextCarry_26 (by decide) ?_
      refine z_calli (z_runS (As := [.int z, .int 2000]) (rest := []) ⟨hx, hb, hml, hown, hts⟩ hK hS ((k_isWithin Z g z 2000 (by rw [tI_2000]; omega)) l _) gX9_nextCarry_X9_isWithin rfl 2 (by decide +kernel) ⟨Nat.le_of_ble_eq_true rfl, Nat.le_of_ble_eq_true rfl⟩ rfl hl.1 rfl (Nat.le_of_ble_eq_true rfl) dX9_nextCarry_29 ⟨Nat.le_of_ble_eq_true rfl, Nat.le_of_ble_eq_true rfl⟩) hS (fun rb2 g_7 H locs hp_8 hS => ?_)
      obtain ⟨rfl, hp_8⟩ := hp_8
      have hrb2 := hp_8
      rw [tI_2000] at hrb2
      refine lv_if_ne (tgt := 38) hx hb dX9_nextCarry_32 (by decide) (fun c_9 => ?_) (fun c_9 => ?_)
      · have i_9 := z_ne c_9
        rw [tI_0] at i_9
        have hzm := zbo_t hrb2 c_9
        refine lv_aload hx hb dX9_nextCarry_38 (lv_at hl 0 rfl) ?_
        refine z_getN (own := RX9) (C := RX5) (T := TX5) (N := 5) hx hb hts in_X9_nextCarry_5 hown hK hS h_n hkn rfl 0 (by decide) 14 rfl rfl rfl dX9_nextCarry_40 ?_
        refine z_getN (own := RX9) (C := RX0) (T := TX0) (N := 7) hx hb hts in_X9_nextCarry_0 hown hK hS h_b hk0 rfl 4 (by decide) 1 rfl rfl rfl dX9_nextCarry_43 ?_
        refine lv_if_ne (tgt := 52) hx hb dX9_nextCarry_46 (by decide) (fun c_10 => ?_) (fun c_10 => ?_)
        · have i_10 := z_ne c_10
          rw [tI_0] at i_10
          have hcm := zbo_t hcmp c_10
          refine lv_aload hx hb dX9_nextCarry_52 (lv_at hl 0 rfl) ?_
          refine z_getN (own := RX9) (C := RX5) (T := TX5) (N := 5) hx hb hts in_X9_nextCarry_5 hown hK hS h_n hkn rfl 0 (by decide) 14 rfl rfl rfl dX9_nextCarry_54 ?_
          refine lv_iload_n hx hb dX9_nextCarry_57 rfl (lv_at hl 3 rfl) ?_
          refine lv_iload_n hx hb dX9_nextCarry_58 rfl (lv_at hl 4 rfl) ?_
          refine z_calli (z_runVN (As := [.int y, .int z]) (rest := []) (C := RX0) ⟨hx, hb, hml, hown, hts⟩ hK hS ((k_carryBehind Z g (16 + 13 * s1) (sg s1) ⟨pb, qb, res, cmp, dg, ch, ⟨h_b, h_d, h_c, hkN, hok, hp, hq, hres, hdg⟩, hch⟩ y z hcm (by omega) (by omega)) l _) gX9_nextCarry_X0_carryBehind_n222 rfl 2 17 rfl (List.mem_of_getElem? (i := 14) rfl) (List.mem_of_getElem? (i := 13) rfl) (List.mem_of_getElem? (i := 15) rfl) (by decide +kernel) ⟨Nat.le_of_ble_eq_true rfl, Nat.le_of_ble_eq_true rfl⟩ h_b hk0 rfl rfl hl.1 rfl (Nat.le_of_ble_eq_true rfl) dX9_nextCarry_59 ⟨Nat.le_of_ble_eq_true rfl, Nat.le_of_ble_eq_true rfl⟩) hS (fun rn g_11 H locs hp_12 hS => ?_)
          obtain ⟨rfl, hp_12⟩ := hp_12
          have hrn := hp_12
          refine z_iret hx hb hr hlocks hS ?_ dX9_nextCarry_62
          show z_po Z G9 (sp_nextCarry (sg, rw9) x.toInt y.toInt z.toInt) _ _
          unfold sp_nextCarry
          rw [zite_t hzs, zite_t ⟨hym, hzm⟩, htn, zite_t hcm]
          exact ⟨hrn, hX⟩
        · have i_10 := z_eq c_10
          rw [tI_0] at i_10
          have hncm := zbo_f hcmp c_10
          refine lv_ldc (v := (-1000003)) hx hb hown (hts _ (List.mem_of_getElem? (i := 3) rfl)) dX9_nextCarry_49 ?_
          refine z_iret hx hb hr hlocks hS ?_ dX9_nextCarry_51
          show z_po Z G9 (sp_nextCarry (sg, rw9) x.toInt y.toInt z.toInt) _ _
          unfold sp_nextCarry
          rw [zite_t hzs, zite_t ⟨hym, hzm⟩, htn, zite_f hncm]
          exact ⟨rfl, hX⟩
      · have i_9 := z_eq c_9
        rw [tI_0] at i_9
        have hbad : ¬ ((-10000 ≤ y.toInt ∧ y.toInt ≤ 10000) ∧ (-2000 ≤ z.toInt ∧ z.toInt ≤ 2000)) := fun h9 => zbo_f hrb2 c_9 h9.2
        refine lv_ldc (v := (-1000002)) hx hb hown (hts _ (List.mem_of_getElem? (i := 2) rfl)) dX9_nextCarry_35 ?_
        refine z_iret hx hb hr hlocks hS ?_ dX9_nextCarry_37
        show z_po Z G9 (sp_nextCarry (sg, rw9) x.toInt y.toInt z.toInt) _ _
        unfold sp_nextCarry
        rw [zite_t hzs, zite_f hbad]
        exact ⟨rfl, hX⟩
  · subst er
    refine lv_astoreN (lv' := [(4, .null), (0, .ref (Z.2.1 0)), (1, .int x), (2, .int y), (3, .int z)]) hx hb dX9_nextCarry_5 hl (by decide) rfl (fun ls hl => ?_)
    refine lv_aloadN hx hb dX9_nextCarry_7 (lv_at hl 0 rfl) ?_
    refine lv_ifnonnullN hx hb dX9_nextCarry_9 ?_
    refine lv_ldc (v := (-1000001)) hx hb hown (hts _ (List.mem_of_getElem? (i := 1) rfl)) dX9_nextCarry_12 ?_
    refine z_iret hx hb hr hlocks hS ?_ dX9_nextCarry_14
    show z_po Z G9 (sp_nextCarry (sg, rw9) x.toInt y.toInt z.toInt) _ _
    unfold sp_nextCarry
    rw [zite_f hnv]
    exact ⟨rfl, hX⟩

theorem in_X9_carryCount_0 : ∀ w ∈ wsX00, w ∈ wsX9_carryCount := by decide +kernel
theorem in_X9_carryCount_1 : ∀ w ∈ wsX10, w ∈ wsX9_carryCount := by decide +kernel
theorem in_X9_carryCount_5 : ∀ w ∈ wsX50, w ∈ wsX9_carryCount := by decide +kernel
set_option maxHeartbeats 4000000 in
set_option maxRecDepth 100000 in
theorem k_carryCount (Z : zT) {G9 : Nat → va_E} (g : Nat → va_E) (sg : Nat → zb) (rw9 : Nat → zr) (hX : z_xw Z G9 g sg rw9) (x : Int32) : z_Mi Z yX9_carryCount wsX9_carryCount 5 111 [.ref (Z.2.1 0), .int x] g (fun r g1 => z_po Z G9 (sp_carryCount (sg, rw9) x.toInt) r g1) := by
  intro l sz
  have h0 := hX.1
  obtain ⟨hN, h_x, ⟨fS, h_x1, hfS⟩, fR, h_x2, hfR⟩ := id h0
  have hN0 : 0 < Z.1 := by omega
  have hN1 : 1 < Z.1 := by omega
  have hN2 : 2 < Z.1 := by omega
  refine z_enter (maxL := 3) (ret := (some .int)) (lv := [(0, .ref (Z.2.1 0)), (1, .int x)]) (plainFor_of_name (by decide +kernel)) rfl (fun ls h => by subst h; exact lv_entry [.ref (Z.2.1 0), .int x] (n := 3) (Nat.le_of_ble_eq_true rfl)) ?_
  intro p e s m args below meth c hx hb hml hr hlocks hown hts hK hS hsz ls hl
  refine lv_aload_n hx hb dX9_carryCount_0 rfl (lv_at hl 0 rfl) ?_
  refine lv_iload_n hx hb dX9_carryCount_1 rfl (lv_at hl 1 rfl) ?_
  refine z_callq (z_runV (As := [.int x]) (rest := []) ⟨hx, hb, hml, hown, hts⟩ hK hS ((k_systemAt Z g h0 x) l _) gX9_carryCount_X9_systemAt rfl 1 (by decide +kernel) ⟨Nat.le_of_ble_eq_true rfl, Nat.le_of_ble_eq_true rfl⟩ h_x hN0 rfl rfl hl.1 rfl (Nat.le_of_ble_eq_true rfl) dX9_carryCount_2 ⟨Nat.le_of_ble_eq_true rfl, Nat.le_of_ble_eq_true rfl⟩) hS (fun r_1 g_2 H locs hp_3 hS => ?_)
  obtain ⟨rfl, hp_3⟩ := hp_3
  rcases hp_3 with ⟨s1, hs2, hsv, er⟩ | ⟨hnv, er⟩
  · subst er
    obtain ⟨h_n, hBs, ⟨w1, w2, w3, w4, w5, w6, hW⟩, h_y, ⟨lw, hw, tb, y1, y2, y3, hO⟩, l0, hC⟩ := hX.2.2.2.2.2 s1 hs2
    have hzs : zsy x.toInt := ⟨by omega, by omega⟩
    have htn : x.toInt.toNat = s1 := by omega
    obtain ⟨pb, qb, res, cmp, dg, ch, ⟨h_b, h_d, h_c, hkN, hok, hp, hq, hres, hdg⟩, hch, hcmp⟩ := id hBs
    have hkn : 15 + 13 * s1 < Z.1 := by omega
    have hk0 : 16 + 13 * s1 < Z.1 := by omega
    have hk1 : 16 + 13 * s1 + 1 < Z.1 := by omega
    have hk2 : 16 + 13 * s1 + 2 < Z.1 := by omega
    have hPb := zP_bd hok
    have hn12 := hok.2.2.2.1
    have hq1 := hok.2.1
    obtain ⟨fd0, sn0, h_cs, -, -, -, -, -, -, -, -⟩ := id hC
    have hkc : 25 + 13 * s1 < Z.1 := by omega
    refine lv_astore_n (lv' := [(2, .ref (Z.2.1 (15 + 13 * s1))), (0, .ref (Z.2.1 0)), (1, .int x)]) hx hb dX9_carryCount_5 rfl hl (by decide) rfl (fun ls hl => ?_)
    refine lv_aload_n hx hb dX9_carryCount_6 rfl (lv_at hl 0 rfl) ?_
    refine lv_ifnonnull (tgt := 13) hx hb dX9_carryCount_7 (by decide) ?_
    refine lv_aload_n hx hb dX9_carryCount_13 rfl (lv_at hl 0 rfl) ?_
    refine z_getN (own := RX9) (C := RX5) (T := TX5) (N := 5) hx hb hts in_X9_carryCount_5 hown hK hS h_n hkn rfl 0 (by decide) 14 rfl rfl rfl dX9_carryCount_14 ?_
    refine z_getN (own := RX9) (C := RX0) (T := TX0) (N := 7) hx hb hts in_X9_carryCount_0 hown hK hS h_b hk0 rfl 4 (by decide) 1 rfl rfl rfl dX9_carryCount_17 ?_
    refine lv_if_ne (tgt := 26) hx hb dX9_carryCount_20 (by decide) (fun c_4 => ?_) (fun c_4 => ?_)
    · have i_4 := z_ne c_4
      rw [tI_0] at i_4
      have hcm := zbo_t hcmp c_4
      refine lv_aload_n hx hb dX9_carryCount_26 rfl (lv_at hl 0 rfl) ?_
      refine z_getN (own := RX9) (C := RX5) (T := TX5) (N := 5) hx hb hts in_X9_carryCount_5 hown hK hS h_n hkn rfl 4 (by decide) 9 rfl rfl rfl dX9_carryCount_27 ?_
      refine z_callv (z_runVN (As := []) (rest := []) (C := RX1) ⟨hx, hb, hml, hown, hts⟩ hK hS ((k_collect Z g (25 + 13 * s1) (16 + 13 * s1) (sg s1) l0 hC ⟨pb, qb, res, cmp, dg, ch, ⟨h_b, h_d, h_c, hkN, hok, hp, hq, hres, hdg⟩, hch⟩ hcm) l _) gX9_carryCount_X1_collect_n230 rfl 0 18 rfl (List.mem_of_getElem? (i := 10) rfl) (List.mem_of_getElem? (i := 9) rfl) (List.mem_of_getElem? (i := 11) rfl) (by decide +kernel) ⟨Nat.le_of_ble_eq_true rfl, Nat.le_of_ble_eq_true rfl⟩ h_cs hkc rfl rfl hl.1 rfl (Nat.le_of_ble_eq_true rfl) dX9_carryCount_30 ⟨Nat.le_of_ble_eq_true rfl, Nat.le_of_ble_eq_true rfl⟩) hS (fun g_6 H locs hp_7 hS => ?_)
      obtain ⟨l2, hC2, hl2, hfr_8⟩ := hp_7
      have h_x := (hfr_8 _ (by omega)).trans h_x
      have h_x1 := (hfr_8 _ (by omega)).trans h_x1
      have h_x2 := (hfr_8 _ (by omega)).trans h_x2
      have h_n := (hfr_8 _ (by omega)).trans h_n
      have h_b := (hfr_8 _ (by omega)).trans h_b
      have h_d := (hfr_8 _ (by omega)).trans h_d
      have h_c := (hfr_8 _ (by omega)).trans h_c
      obtain ⟨fd2, sn2, h_cs, -, -, -, -, -, -, hlen2, -⟩ := id hC2
      have hlc : l2.length = zcc (sg s1) := by rw [hlen2]; unfold zcnt zcc; rw [zcsB_m hl2]
      have hcb : zcc (sg s1) ≤ 121 := zct_le _ 121
      refine lv_aload_n hx hb dX9_carryCount_33 rfl (lv_at hl 0 rfl) ?_
      refine z_getN (own := RX9) (C := RX5) (T := TX5) (N := 5) hx hb hts in_X9_carryCount_5 hown hK hS h_n hkn rfl 4 (by decide) 9 rfl rfl rfl dX9_carryCount_34 ?_
      refine z_getN (own := RX9) (C := RX1) (T := TX1) (N := 4) hx hb hts in_X9_carryCount_1 hown hK hS h_cs hkc rfl 3 (by decide) 10 rfl rfl rfl dX9_carryCount_37 ?_
      refine z_iret hx hb hr hlocks hS ?_ dX9_carryCount_40
      show z_po Z G9 (sp_carryCount (sg, rw9) x.toInt) _ _
      unfold sp_carryCount
      rw [zite_t hzs, htn, zite_t hcm]
      exact ⟨by rw [hlc]; exact nI_toInt (by omega), hX.carries hs2 (z_fr.rf.tr (hfr_8.wide (by omega) (by omega))) hC2⟩
    · have i_4 := z_eq c_4
      rw [tI_0] at i_4
      have hncm := zbo_f hcmp c_4
      refine lv_ldc (v := (-1000003)) hx hb hown (hts _ (List.mem_of_getElem? (i := 2) rfl)) dX9_carryCount_23 ?_
      refine z_iret hx hb hr hlocks hS ?_ dX9_carryCount_25
      show z_po Z G9 (sp_carryCount (sg, rw9) x.toInt) _ _
      unfold sp_carryCount
      rw [zite_t hzs, htn, zite_f hncm]
      exact ⟨rfl, hX⟩
  · subst er
    refine lv_astore_nN (lv' := [(2, .null), (0, .ref (Z.2.1 0)), (1, .int x)]) hx hb dX9_carryCount_5 rfl hl (by decide) rfl (fun ls hl => ?_)
    refine lv_aload_nN hx hb dX9_carryCount_6 rfl (lv_at hl 0 rfl) ?_
    refine lv_ifnonnullN hx hb dX9_carryCount_7 ?_
    refine lv_ldc (v := (-1000001)) hx hb hown (hts _ (List.mem_of_getElem? (i := 1) rfl)) dX9_carryCount_10 ?_
    refine z_iret hx hb hr hlocks hS ?_ dX9_carryCount_12
    show z_po Z G9 (sp_carryCount (sg, rw9) x.toInt) _ _
    unfold sp_carryCount
    rw [zite_f hnv]
    exact ⟨rfl, hX⟩

theorem in_X9_carry_0 : ∀ w ∈ wsX00, w ∈ wsX9_carry := by decide +kernel
theorem in_X9_carry_5 : ∀ w ∈ wsX50, w ∈ wsX9_carry := by decide +kernel
set_option maxHeartbeats 4000000 in
set_option maxRecDepth 100000 in
theorem k_carry (Z : zT) {G9 : Nat → va_E} (g : Nat → va_E) (sg : Nat → zb) (rw9 : Nat → zr) (hX : z_xw Z G9 g sg rw9) (x y : Int32) : z_Mi Z yX9_carry wsX9_carry 5 111 [.ref (Z.2.1 0), .int x, .int y] g (fun r g1 => z_po Z G9 (sp_carry (sg, rw9) x.toInt y.toInt) r g1) := by
  intro l sz
  have h0 := hX.1
  obtain ⟨hN, h_x, ⟨fS, h_x1, hfS⟩, fR, h_x2, hfR⟩ := id h0
  have hN0 : 0 < Z.1 := by omega
  have hN1 : 1 < Z.1 := by omega
  have hN2 : 2 < Z.1 := by omega
  refine z_enter (maxL := 4) (ret := (some .int)) (lv := [(0, .ref (Z.2.1 0)), (1, .int x), (2, .int y)]) (plainFor_of_name (by decide +kernel)) rfl (fun ls h => by subst h; exact lv_entry [.ref (Z.2.1 0), .int x, .int y] (n := 4) (Nat.le_of_ble_eq_true rfl)) ?_
  intro p e s m args below meth c hx hb hml hr hlocks hown hts hK hS hsz ls hl
  refine lv_aload_n hx hb dX9_carry_0 rfl (lv_at hl 0 rfl) ?_
  refine lv_iload_n hx hb dX9_carry_1 rfl (lv_at hl 1 rfl) ?_
  refine z_callq (z_runV (As := [.int x]) (rest := []) ⟨hx, hb, hml, hown, hts⟩ hK hS ((k_systemAt Z g h0 x) l _) gX9_carry_X9_systemAt rfl 1 (by decide +kernel) ⟨Nat.le_of_ble_eq_true rfl, Nat.le_of_ble_eq_true rfl⟩ h_x hN0 rfl rfl hl.1 rfl (Nat.le_of_ble_eq_true rfl) dX9_carry_2 ⟨Nat.le_of_ble_eq_true rfl, Nat.le_of_ble_eq_true rfl⟩) hS (fun r_1 g_2 H locs hp_3 hS => ?_)
  obtain ⟨rfl, hp_3⟩ := hp_3
  rcases hp_3 with ⟨s1, hs2, hsv, er⟩ | ⟨hnv, er⟩
  · subst er
    obtain ⟨h_n, hBs, ⟨w1, w2, w3, w4, w5, w6, hW⟩, h_y, ⟨lw, hw, tb, y1, y2, y3, hO⟩, l0, hC⟩ := hX.2.2.2.2.2 s1 hs2
    have hzs : zsy x.toInt := ⟨by omega, by omega⟩
    have htn : x.toInt.toNat = s1 := by omega
    obtain ⟨pb, qb, res, cmp, dg, ch, ⟨h_b, h_d, h_c, hkN, hok, hp, hq, hres, hdg⟩, hch, hcmp⟩ := id hBs
    have hkn : 15 + 13 * s1 < Z.1 := by omega
    have hk0 : 16 + 13 * s1 < Z.1 := by omega
    have hk1 : 16 + 13 * s1 + 1 < Z.1 := by omega
    have hk2 : 16 + 13 * s1 + 2 < Z.1 := by omega
    have hPb := zP_bd hok
    have hn12 := hok.2.2.2.1
    have hq1 := hok.2.1
    obtain ⟨fd0, sn0, h_cs, -, -, -, -, -, -, -, -⟩ := id hC
    have hkc : 25 + 13 * s1 < Z.1 := by omega
    refine lv_astore_n (lv' := [(3, .ref (Z.2.1 (15 + 13 * s1))), (0, .ref (Z.2.1 0)), (1, .int x), (2, .int y)]) hx hb dX9_carry_5 rfl hl (by decide) rfl (fun ls hl => ?_)
    refine lv_aload_n hx hb dX9_carry_6 rfl (lv_at hl 0 rfl) ?_
    refine lv_ifnonnull (tgt := 13) hx hb dX9_carry_7 (by decide) ?_
    refine lv_iload_n hx hb dX9_carry_13 rfl (lv_at hl 3 rfl) ?_
    refine lv_if_ge (tgt := 20) hx hb dX9_carry_14 (by decide) (fun c_4 => ?_) (fun c_4 => ?_)
    · have i_4 := z_le c_4
      rw [tI_0] at i_4
      obtain ⟨y9, ey9, hy9, hy31⟩ := z_nI_of (x := y) (by omega)
      subst ey9
      have hok3 : 0 ≤ (nI y9).toInt := by omega
      refine lv_aload_n hx hb dX9_carry_20 rfl (lv_at hl 0 rfl) ?_
      refine z_getN (own := RX9) (C := RX5) (T := TX5) (N := 5) hx hb hts in_X9_carry_5 hown hK hS h_n hkn rfl 0 (by decide) 14 rfl rfl rfl dX9_carry_21 ?_
      refine z_getN (own := RX9) (C := RX0) (T := TX0) (N := 7) hx hb hts in_X9_carry_0 hown hK hS h_b hk0 rfl 4 (by decide) 1 rfl rfl rfl dX9_carry_24 ?_
      refine lv_if_ne (tgt := 33) hx hb dX9_carry_27 (by decide) (fun c_5 => ?_) (fun c_5 => ?_)
      · have i_5 := z_ne c_5
        rw [tI_0] at i_5
        have hcm := zbo_t hcmp c_5
        refine lv_aload_n hx hb dX9_carry_33 rfl (lv_at hl 0 rfl) ?_
        refine z_getN (own := RX9) (C := RX5) (T := TX5) (N := 5) hx hb hts in_X9_carry_5 hown hK hS h_n hkn rfl 4 (by decide) 9 rfl rfl rfl dX9_carry_34 ?_
        refine z_callv (z_runVN (As := []) (rest := []) (C := RX1) ⟨hx, hb, hml, hown, hts⟩ hK hS ((k_collect Z g (25 + 13 * s1) (16 + 13 * s1) (sg s1) l0 hC ⟨pb, qb, res, cmp, dg, ch, ⟨h_b, h_d, h_c, hkN, hok, hp, hq, hres, hdg⟩, hch⟩ hcm) l _) gX9_carry_X1_collect_n230 rfl 0 18 rfl (List.mem_of_getElem? (i := 11) rfl) (List.mem_of_getElem? (i := 10) rfl) (List.mem_of_getElem? (i := 12) rfl) (by decide +kernel) ⟨Nat.le_of_ble_eq_true rfl, Nat.le_of_ble_eq_true rfl⟩ h_cs hkc rfl rfl hl.1 rfl (Nat.le_of_ble_eq_true rfl) dX9_carry_37 ⟨Nat.le_of_ble_eq_true rfl, Nat.le_of_ble_eq_true rfl⟩) hS (fun g_7 H locs hp_8 hS => ?_)
        obtain ⟨l2, hC2, hl2, hfr_9⟩ := hp_8
        have h_x := (hfr_9 _ (by omega)).trans h_x
        have h_x1 := (hfr_9 _ (by omega)).trans h_x1
        have h_x2 := (hfr_9 _ (by omega)).trans h_x2
        have h_n := (hfr_9 _ (by omega)).trans h_n
        have h_b := (hfr_9 _ (by omega)).trans h_b
        have h_d := (hfr_9 _ (by omega)).trans h_d
        have h_c := (hfr_9 _ (by omega)).trans h_c
        obtain ⟨fd2, sn2, h_cs, -, -, -, -, -, -, hlen2, -⟩ := id hC2
        have hlc : l2.length = zcc (sg s1) := by rw [hlen2]; unfold zcnt zcc; rw [zcsB_m hl2]
        have hcb : zcc (sg s1) ≤ 121 := zct_le _ 121
        refine lv_aload_n hx hb dX9_carry_40 rfl (lv_at hl 0 rfl) ?_
        refine z_getN (own := RX9) (C := RX5) (T := TX5) (N := 5) hx hb hts in_X9_carry_5 hown hK hS h_n hkn rfl 4 (by decide) 9 rfl rfl rfl dX9_carry_41 ?_
        refine lv_iload_n hx hb dX9_carry_44 rfl (lv_at hl 3 rfl) ?_
        refine z_calli (z_runVN (As := [.int (nI y9)]) (rest := []) (C := RX1) ⟨hx, hb, hml, hown, hts⟩ hK hS ((k_ascending Z g_7 (25 + 13 * s1) (16 + 13 * s1) (sg s1) l2 hC2 y9 (by omega)) l _) gX9_carry_X1_ascending_n236 rfl 1 19 rfl (List.mem_of_getElem? (i := 11) rfl) (List.mem_of_getElem? (i := 55) rfl) (List.mem_of_getElem? (i := 56) rfl) (by decide +kernel) ⟨Nat.le_of_ble_eq_true rfl, Nat.le_of_ble_eq_true rfl⟩ h_cs hkc rfl rfl hl.1 rfl (Nat.le_of_ble_eq_true rfl) dX9_carry_45 ⟨Nat.le_of_ble_eq_true rfl, Nat.le_of_ble_eq_true rfl⟩) hS (fun ra g_10 H locs hp_11 hS => ?_)
        obtain ⟨rfl, hp_11⟩ := hp_11
        have hra := hp_11
        refine z_iret hx hb hr hlocks hS ?_ dX9_carry_48
        show z_po Z G9 (sp_carry (sg, rw9) x.toInt (nI y9).toInt) _ _
        unfold sp_carry
        rw [zite_t hzs, zite_t hok3, htn, zite_t hcm]
        rcases hra with ⟨q1, t8, q2, q3, q4, q5⟩ | ⟨q1, q2⟩
        · rw [zite_t (show (nI y9).toInt < (zcc (sg s1) : Int) by omega), show (nI y9).toInt.toNat = y9 from by omega]
          rw [zcsB_m hl2] at q4
          exact ⟨by rw [zck_is q2 (zcsB_iff.mpr ((hl2 _).mp q3)) q4]; exact q5, hX.carries hs2 (z_fr.rf.tr (hfr_9.wide (by omega) (by omega))) hC2⟩
        · rw [zite_f (show ¬ (nI y9).toInt < (zcc (sg s1) : Int) by omega)]
          exact ⟨by rw [q2]; rfl, hX.carries hs2 (z_fr.rf.tr (hfr_9.wide (by omega) (by omega))) hC2⟩
      · have i_5 := z_eq c_5
        rw [tI_0] at i_5
        have hncm := zbo_f hcmp c_5
        refine lv_ldc (v := (-1000003)) hx hb hown (hts _ (List.mem_of_getElem? (i := 3) rfl)) dX9_carry_30 ?_
        refine z_iret hx hb hr hlocks hS ?_ dX9_carry_32
        show z_po Z G9 (sp_carry (sg, rw9) x.toInt (nI y9).toInt) _ _
        unfold sp_carry
        rw [zite_t hzs, zite_t hok3, htn, zite_f hncm]
        exact ⟨rfl, hX⟩
    · have i_4 := z_nle c_4
      rw [tI_0] at i_4
      have hbad : ¬ 0 ≤ y.toInt := by omega
      refine lv_ldc (v := (-1000002)) hx hb hown (hts _ (List.mem_of_getElem? (i := 2) rfl)) dX9_carry_17 ?_
      refine z_iret hx hb hr hlocks hS ?_ dX9_carry_19
      show z_po Z G9 (sp_carry (sg, rw9) x.toInt y.toInt) _ _
      unfold sp_carry
      rw [zite_t hzs, zite_f hbad]
      exact ⟨rfl, hX⟩
  · subst er
    refine lv_astore_nN (lv' := [(3, .null), (0, .ref (Z.2.1 0)), (1, .int x), (2, .int y)]) hx hb dX9_carry_5 rfl hl (by decide) rfl (fun ls hl => ?_)
    refine lv_aload_nN hx hb dX9_carry_6 rfl (lv_at hl 0 rfl) ?_
    refine lv_ifnonnullN hx hb dX9_carry_7 ?_
    refine lv_ldc (v := (-1000001)) hx hb hown (hts _ (List.mem_of_getElem? (i := 1) rfl)) dX9_carry_10 ?_
    refine z_iret hx hb hr hlocks hS ?_ dX9_carry_12
    show z_po Z G9 (sp_carry (sg, rw9) x.toInt y.toInt) _ _
    unfold sp_carry
    rw [zite_f hnv]
    exact ⟨rfl, hX⟩

