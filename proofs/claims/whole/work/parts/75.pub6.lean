/-! rows: their values, what comes into them -/
abbrev z_pl (Z : zT) (G9 : Nat → va_E) (R : Int × zS) (r : Int64) (g1 : Nat → va_E) : Prop := r.toInt = R.1 ∧ z_xw Z G9 g1 R.2.1 R.2.2
noncomputable def sp_value (S : zS) (sy ro den : Int) : Int × zS := zite (zsy sy ∧ zro ro) (zite (den = 0) (zvt (S.1 sy.toNat) (S.2 ro.toNat)) (zvb (S.1 sy.toNat) (S.2 ro.toNat)), S) (-9223372036854775808, S)
noncomputable def sp_compare (S : zS) (sy ro sz rz : Int) : Int × zS := zite (zsy sy ∧ zro ro ∧ zsy sz ∧ zro rz) (zsg (zvt (S.1 sy.toNat) (S.2 ro.toNat) * zvb (S.1 sz.toNat) (S.2 rz.toNat) - zvt (S.1 sz.toNat) (S.2 rz.toNat) * zvb (S.1 sy.toNat) (S.2 ro.toNat)) + 1, S) (-1000001, S)
theorem zsg_bd (x : Int) : -1 ≤ zsg x ∧ zsg x ≤ 1 := by
  unfold zsg
  split
  · omega
  · split <;> omega
noncomputable def sp_exp (S : zS) (sn : Nat) (m : Int) (rn : Nat) : Int × zS := zite (zor (zst (S.1 sn) 1) m (zmu (S.1 sn) 1 m) = 0 ∧ zla (S.1 sn) 1 m = 1) (zite (zmu (S.1 sn) 1 m ≤ 12) ((zmu (S.1 sn) 1 m : Int), (S.1, zupd S.2 rn (zmu (S.1 sn) 1 m, fun i => zsd (S.1 sn) 1 (zor (zst (S.1 sn) 1) m i)))) (-1000005, S)) (-1000004, S)
noncomputable def sp_load (S : zS) (sy m ro : Int) : Int × zS := zite (zsy sy ∧ zro ro) (zite (-100000 ≤ m ∧ m ≤ 100000) (zite (zcm (S.1 sy.toNat)) (sp_exp S sy.toNat m ro.toNat) (-1000003, S)) (-1000002, S)) (-1000001, S)
noncomputable def sp_convert (S : zS) (sy ro ta : Int) : Int × zS := zite (zsy sy ∧ zro ro ∧ zro ta) (zite (zcm (S.1 (1 - sy).toNat)) (zite (zvb (S.1 sy.toNat) (S.2 ro.toNat) = 1 ∧ -100000 ≤ zvt (S.1 sy.toNat) (S.2 ro.toNat) ∧ zvt (S.1 sy.toNat) (S.2 ro.toNat) ≤ 100000) (sp_exp S (1 - sy).toNat (zvt (S.1 sy.toNat) (S.2 ro.toNat)) ta.toNat) (-1000004, S)) (-1000003, S)) (-1000001, S)
noncomputable def sp_comp (S : zS) (sn n : Nat) (s9 : Nat → Int) (rn : Nat) : Int × zS := zite (zcN (S.1 sn) n s9 < 13) ((ztr (zdq (S.1 sn) s9) (zcN (S.1 sn) n s9) : Int), (S.1, zupd S.2 rn (ztr (zdq (S.1 sn) s9) (zcN (S.1 sn) n s9), zdq (S.1 sn) s9))) (-1000005, S)
noncomputable def sp_add (S : zS) (sy ro rp ta : Int) : Int × zS := zite (zsy sy ∧ zro ro ∧ zro rp ∧ zro ta) (zite (zcm (S.1 sy.toNat)) (sp_comp S sy.toNat (max (S.2 ro.toNat).1 (S.2 rp.toNat).1) (fun i => zeg (S.2 ro.toNat) i + zeg (S.2 rp.toNat) i) ta.toNat) (-1000003, S)) (-1000001, S)
noncomputable def sp_multiply (S : zS) (sy ro f ta : Int) : Int × zS := zite (zsy sy ∧ zro ro ∧ zro ta) (zite (-100 ≤ f ∧ f ≤ 100) (zite (zcm (S.1 sy.toNat)) (sp_comp S sy.toNat (S.2 ro.toNat).1 (fun i => zeg (S.2 ro.toNat) i * f) ta.toNat) (-1000003, S)) (-1000002, S)) (-1000001, S)
theorem in_X9_value_4 : ∀ w ∈ wsX40, w ∈ wsX9_value := by decide +kernel
theorem in_X9_value_5 : ∀ w ∈ wsX50, w ∈ wsX9_value := by decide +kernel
theorem in_X9_value_9 : ∀ w ∈ wsX90, w ∈ wsX9_value := by decide +kernel
set_option maxHeartbeats 4000000 in
set_option maxRecDepth 100000 in
theorem k_value (Z : zT) {G9 : Nat → va_E} (g : Nat → va_E) (sg : Nat → zb) (rw9 : Nat → zr) (hX : z_xw Z G9 g sg rw9) (x y u : Int32) : z_Ml Z yX9_value wsX9_value 3 75 [.ref (Z.2.1 0), .int x, .int y, .int u] g (fun r g1 => z_pl Z G9 (sp_value (sg, rw9) x.toInt y.toInt u.toInt) r g1) := by
  intro l sz
  have h0 := hX.1
  obtain ⟨hN, h_x, ⟨fS, h_x1, hfS⟩, fR, h_x2, hfR⟩ := id h0
  have hN0 : 0 < Z.1 := by omega
  have hN1 : 1 < Z.1 := by omega
  have hN2 : 2 < Z.1 := by omega
  obtain ⟨fa1, fa2, h_f⟩ := hX.2.2.1.1
  obtain ⟨fb1, fb2, h_f2⟩ := hX.2.2.2.1
  obtain ⟨vc1, svc, w0c, h_k, h_s, hkN3, hw0⟩ := id hX.2.1
  have hN7 : 7 < Z.1 := by omega
  have hN8 : 8 < Z.1 := by omega
  have hN3 : 3 < Z.1 := by omega
  refine z_enter (maxL := 6) (ret := (some .long)) (lv := [(0, .ref (Z.2.1 0)), (1, .int x), (2, .int y), (3, .int u)]) (plainFor_of_name (by decide +kernel)) rfl (fun ls h => by subst h; exact lv_entry [.ref (Z.2.1 0), .int x, .int y, .int u] (n := 6) (Nat.le_of_ble_eq_true rfl)) ?_
  intro p e s m args below meth c hx hb hml hr hlocks hown hts hK hS hsz ls hl
  refine lv_aload_n hx hb dX9_value_0 rfl (lv_at hl 0 rfl) ?_
  refine lv_iload_n hx hb dX9_value_1 rfl (lv_at hl 1 rfl) ?_
  refine z_callq (z_runV (As := [.int x]) (rest := []) ⟨hx, hb, hml, hown, hts⟩ hK hS ((k_systemAt Z g h0 x) l _) gX9_value_X9_systemAt rfl 1 (by decide +kernel) ⟨Nat.le_of_ble_eq_true rfl, Nat.le_of_ble_eq_true rfl⟩ h_x hN0 rfl rfl hl.1 rfl (Nat.le_of_ble_eq_true rfl) dX9_value_2 ⟨Nat.le_of_ble_eq_true rfl, Nat.le_of_ble_eq_true rfl⟩) hS (fun r_1 g_2 H locs hp_3 hS => ?_)
  obtain ⟨rfl, hp_3⟩ := hp_3
  rcases hp_3 with ⟨s1, hs2, hsv, er⟩ | ⟨hnv, er⟩
  · subst er
    obtain ⟨h_n, hBs, ⟨w1, w2, w3, w4, w5, w6, hW⟩, h_y, ⟨lw, hw, tb, y1, y2, y3, hO⟩, l0, hC⟩ := hX.2.2.2.2.2 s1 hs2
    have hzs : zsy x.toInt := ⟨by omega, by omega⟩
    have htn : x.toInt.toNat = s1 := by omega
    obtain ⟨pb, qb, res, cmp, dg, ch, ⟨h_b, h_d, h_c, hkN, hok, hp, hq, hres, hdg⟩, hch, hcmp⟩ := id hBs
    have hkn : 15 + 13 * s1 < Z.1 := by omega
    have hk0 : 16 + 13 * s1 < Z.1 := by omega
    have hk1 : 16 + 13 * s1 + 1 < Z.1 := by omega
    have hk2 : 16 + 13 * s1 + 2 < Z.1 := by omega
    have hPb := zP_bd hok
    have hn12 := hok.2.2.2.1
    have hq1 := hok.2.1
    refine lv_astore (lv' := [(4, .ref (Z.2.1 (15 + 13 * s1))), (0, .ref (Z.2.1 0)), (1, .int x), (2, .int y), (3, .int u)]) hx hb dX9_value_5 hl (by decide) rfl (fun ls hl => ?_)
    refine lv_aload_n hx hb dX9_value_7 rfl (lv_at hl 1 rfl) ?_
    refine lv_iload_n hx hb dX9_value_8 rfl (lv_at hl 3 rfl) ?_
    refine z_callq (z_runV (As := [.int y]) (rest := []) ⟨hx, hb, hml, hown, hts⟩ hK hS ((k_rowAt Z g h0 y) l _) gX9_value_X9_rowAt rfl 1 (by decide +kernel) ⟨Nat.le_of_ble_eq_true rfl, Nat.le_of_ble_eq_true rfl⟩ h_x hN0 rfl rfl hl.1 rfl (Nat.le_of_ble_eq_true rfl) dX9_value_9 ⟨Nat.le_of_ble_eq_true rfl, Nat.le_of_ble_eq_true rfl⟩) hS (fun r_4 g_5 H locs hp_6 hS => ?_)
    obtain ⟨rfl, hp_6⟩ := hp_6
    rcases hp_6 with ⟨r1, hs2r, hsvr, err⟩ | ⟨hnvr, err⟩
    · subst err
      have hRr := hX.2.2.2.2.1 r1 hs2r
      obtain ⟨avr, h_rr, h_ar, hkNrr, hnrr, havr⟩ := id hRr
      have hzsr : zro y.toInt := ⟨by omega, by omega⟩
      have htnr : y.toInt.toNat = r1 := by omega
      have hkrr : 9 + 2 * r1 < Z.1 := by omega
      have hkr1r : 9 + 2 * r1 + 1 < Z.1 := by omega
      refine lv_astore (lv' := [(5, .ref (Z.2.1 (9 + 2 * r1))), (4, .ref (Z.2.1 (15 + 13 * s1))), (0, .ref (Z.2.1 0)), (1, .int x), (2, .int y), (3, .int u)]) hx hb dX9_value_12 hl (by decide) rfl (fun ls hl => ?_)
      refine lv_aload hx hb dX9_value_14 (lv_at hl 1 rfl) ?_
      refine lv_ifnull hx hb dX9_value_16 ?_
      refine lv_aload hx hb dX9_value_19 (lv_at hl 0 rfl) ?_
      refine lv_ifnonnull (tgt := 28) hx hb dX9_value_21 (by decide) ?_
      refine lv_aload_n hx hb dX9_value_28 rfl (lv_at hl 2 rfl) ?_
      refine z_get (own := RX9) (C := RX9) (T := TX9) (N := 5) hx hb hts in_X9_value_9 hown hK hS h_x hN0 rfl 3 (by decide) (List.mem_of_getElem? (i := 2) rfl) rfl rfl dX9_value_29 ?_
      refine lv_aload hx hb dX9_value_32 (lv_at hl 1 rfl) ?_
      refine z_getN (own := RX9) (C := RX5) (T := TX5) (N := 5) hx hb hts in_X9_value_5 hown hK hS h_n hkn rfl 0 (by decide) 14 rfl rfl rfl dX9_value_34 ?_
      refine lv_aload hx hb dX9_value_37 (lv_at hl 0 rfl) ?_
      refine z_callv (z_runVN (As := [.ref (Z.2.1 (16 + 13 * s1)), .ref (Z.2.1 (9 + 2 * r1))]) (rest := []) (C := RX4) ⟨hx, hb, hml, hown, hts⟩ hK hS ((k_read Z g 7 (16 + 13 * s1) (9 + 2 * r1) (sg s1) (rw9 r1) fa1 fa2 ⟨h_f, by omega, Or.inl (by omega), Or.inl (by omega)⟩ ⟨pb, qb, res, cmp, dg, ch, h_b, h_d, h_c, hkN, hok, hp, hq, hres, hdg⟩ ⟨avr, h_rr, h_ar, hkNrr, hnrr, havr⟩) l _) gX9_value_X4_read_n187 rfl 2 13 rfl (List.mem_of_getElem? (i := 15) rfl) (List.mem_of_getElem? (i := 14) rfl) (List.mem_of_getElem? (i := 16) rfl) (by decide +kernel) ⟨Nat.le_of_ble_eq_true rfl, Nat.le_of_ble_eq_true rfl⟩ h_f hN7 rfl rfl hl.1 rfl (Nat.le_of_ble_eq_true rfl) dX9_value_39 ⟨Nat.le_of_ble_eq_true rfl, Nat.le_of_ble_eq_true rfl⟩) hS (fun g_8 H locs hp_9 hS => ?_)
      obtain ⟨tt1, bb1, h_f, htt1, hbb1, hfr_10⟩ := hp_9
      have h_x := (hfr_10 _ (by omega)).trans h_x
      have h_x1 := (hfr_10 _ (by omega)).trans h_x1
      have h_x2 := (hfr_10 _ (by omega)).trans h_x2
      have h_f2 := (hfr_10 _ (by omega)).trans h_f2
      have h_k := (hfr_10 _ (by omega)).trans h_k
      have h_n := (hfr_10 _ (by omega)).trans h_n
      have h_b := (hfr_10 _ (by omega)).trans h_b
      have h_d := (hfr_10 _ (by omega)).trans h_d
      have h_c := (hfr_10 _ (by omega)).trans h_c
      have h_rr := (hfr_10 _ (by omega)).trans h_rr
      have h_ar := (hfr_10 _ (by omega)).trans h_ar
      have hX := hX.fr7 hfr_10 ⟨_, _, h_f⟩
      have hv1 := zv_bd hok (w := rw9 r1) hnrr (fun i hi => (havr i hi).2)
      rw [← htt1, ← hbb1] at hv1
      refine lv_iload_n hx hb dX9_value_42 rfl (lv_at hl 5 rfl) ?_
      refine lv_if_eq (tgt := 56) hx hb dX9_value_43 (by decide) (fun c_11 => ?_) (fun c_11 => ?_)
      · have i_11 := z_eq c_11
        rw [tI_0] at i_11
        refine lv_aload_n hx hb dX9_value_56 rfl (lv_at hl 2 rfl) ?_
        refine z_get (own := RX9) (C := RX9) (T := TX9) (N := 5) hx hb hts in_X9_value_9 hown hK hS h_x hN0 rfl 3 (by decide) (List.mem_of_getElem? (i := 2) rfl) rfl rfl dX9_value_57 ?_
        refine z_getN (own := RX9) (C := RX4) (T := TX4) (N := 2) hx hb hts in_X9_value_4 hown hK hS h_f hN7 rfl 0 (by decide) 8 rfl rfl rfl dX9_value_60 ?_
        refine z_lret hx hb hr hlocks hS ?_ dX9_value_63
        show z_pl Z G9 (sp_value (sg, rw9) x.toInt y.toInt u.toInt) _ _
        unfold sp_value
        rw [zite_t ⟨hzs, hzsr⟩, htn, htnr, zite_t (by omega)]
        exact ⟨htt1, hX⟩
      · have i_11 := z_ne c_11
        rw [tI_0] at i_11
        refine lv_aload_n hx hb dX9_value_46 rfl (lv_at hl 2 rfl) ?_
        refine z_get (own := RX9) (C := RX9) (T := TX9) (N := 5) hx hb hts in_X9_value_9 hown hK hS h_x hN0 rfl 3 (by decide) (List.mem_of_getElem? (i := 2) rfl) rfl rfl dX9_value_47 ?_
        refine z_getN (own := RX9) (C := RX4) (T := TX4) (N := 2) hx hb hts in_X9_value_4 hown hK hS h_f hN7 rfl 1 (by decide) 7 rfl rfl rfl dX9_value_50 ?_
        refine lv_goto (tgt := 63) hx hb dX9_value_53 (by decide) ?_
        refine z_lret hx hb hr hlocks hS ?_ dX9_value_63
        show z_pl Z G9 (sp_value (sg, rw9) x.toInt y.toInt u.toInt) _ _
        unfold sp_value
        rw [zite_t ⟨hzs, hzsr⟩, htn, htnr, zite_f (by omega)]
        exact ⟨hbb1, hX⟩
    · subst err
      refine lv_astoreN (lv' := [(5, .null), (4, .ref (Z.2.1 (15 + 13 * s1))), (0, .ref (Z.2.1 0)), (1, .int x), (2, .int y), (3, .int u)]) hx hb dX9_value_12 hl (by decide) rfl (fun ls hl => ?_)
      refine lv_aload hx hb dX9_value_14 (lv_at hl 1 rfl) ?_
      refine lv_ifnull hx hb dX9_value_16 ?_
      refine lv_aloadN hx hb dX9_value_19 (lv_at hl 0 rfl) ?_
      refine lv_ifnonnullN hx hb dX9_value_21 ?_
      refine lv_ldc2 (v := (-9223372036854775808)) hx hb hown (hts _ (List.mem_of_getElem? (i := 1) rfl)) dX9_value_24 ?_
      refine z_lret hx hb hr hlocks hS ?_ dX9_value_27
      show z_pl Z G9 (sp_value (sg, rw9) x.toInt y.toInt u.toInt) _ _
      unfold sp_value
      rw [zite_f (fun h9 => hnvr h9.2)]
      exact ⟨rfl, hX⟩
  · subst er
    refine lv_astoreN (lv' := [(4, .null), (0, .ref (Z.2.1 0)), (1, .int x), (2, .int y), (3, .int u)]) hx hb dX9_value_5 hl (by decide) rfl (fun ls hl => ?_)
    refine lv_aload_n hx hb dX9_value_7 rfl (lv_at hl 1 rfl) ?_
    refine lv_iload_n hx hb dX9_value_8 rfl (lv_at hl 3 rfl) ?_
    refine z_callq (z_runV (As := [.int y]) (rest := []) ⟨hx, hb, hml, hown, hts⟩ hK hS ((k_rowAt Z g h0 y) l _) gX9_value_X9_rowAt rfl 1 (by decide +kernel) ⟨Nat.le_of_ble_eq_true rfl, Nat.le_of_ble_eq_true rfl⟩ h_x hN0 rfl rfl hl.1 rfl (Nat.le_of_ble_eq_true rfl) dX9_value_9 ⟨Nat.le_of_ble_eq_true rfl, Nat.le_of_ble_eq_true rfl⟩) hS (fun r_12 g_13 H locs hp_14 hS => ?_)
    obtain ⟨rfl, hp_14⟩ := hp_14
    rcases hp_14 with ⟨r1, hs2r, hsvr, err⟩ | ⟨hnvr, err⟩
    · subst err
      have hRr := hX.2.2.2.2.1 r1 hs2r
      obtain ⟨avr, h_rr, h_ar, hkNrr, hnrr, havr⟩ := id hRr
      have hzsr : zro y.toInt := ⟨by omega, by omega⟩
      have htnr : y.toInt.toNat = r1 := by omega
      have hkrr : 9 + 2 * r1 < Z.1 := by omega
      have hkr1r : 9 + 2 * r1 + 1 < Z.1 := by omega
      refine lv_astore (lv' := [(5, .ref (Z.2.1 (9 + 2 * r1))), (4, .null), (0, .ref (Z.2.1 0)), (1, .int x), (2, .int y), (3, .int u)]) hx hb dX9_value_12 hl (by decide) rfl (fun ls hl => ?_)
      refine lv_aloadN hx hb dX9_value_14 (lv_at hl 1 rfl) ?_
      refine lv_ifnullN (tgt := 24) hx hb dX9_value_16 (by decide) ?_
      refine lv_ldc2 (v := (-9223372036854775808)) hx hb hown (hts _ (List.mem_of_getElem? (i := 1) rfl)) dX9_value_24 ?_
      refine z_lret hx hb hr hlocks hS ?_ dX9_value_27
      show z_pl Z G9 (sp_value (sg, rw9) x.toInt y.toInt u.toInt) _ _
      unfold sp_value
      rw [zite_f (fun h9 => hnv h9.1)]
      exact ⟨rfl, hX⟩
    · subst err
      refine lv_astoreN (lv' := [(5, .null), (4, .null), (0, .ref (Z.2.1 0)), (1, .int x), (2, .int y), (3, .int u)]) hx hb dX9_value_12 hl (by decide) rfl (fun ls hl => ?_)
      refine lv_aloadN hx hb dX9_value_14 (lv_at hl 1 rfl) ?_
      refine lv_ifnullN (tgt := 24) hx hb dX9_value_16 (by decide) ?_
      refine lv_ldc2 (v := (-9223372036854775808)) hx hb hown (hts _ (List.mem_of_getElem? (i := 1) rfl)) dX9_value_24 ?_
      refine z_lret hx hb hr hlocks hS ?_ dX9_value_27
      show z_pl Z G9 (sp_value (sg, rw9) x.toInt y.toInt u.toInt) _ _
      unfold sp_value
      rw [zite_f (fun h9 => hnv h9.1)]
      exact ⟨rfl, hX⟩

theorem in_X9_compare_5 : ∀ w ∈ wsX50, w ∈ wsX9_compare := by decide +kernel
theorem in_X9_compare_9 : ∀ w ∈ wsX90, w ∈ wsX9_compare := by decide +kernel
set_option maxHeartbeats 4000000 in
set_option maxRecDepth 100000 in
theorem k_compare (Z : zT) {G9 : Nat → va_E} (g : Nat → va_E) (sg : Nat → zb) (rw9 : Nat → zr) (hX : z_xw Z G9 g sg rw9) (x y z u : Int32) : z_Mi Z yX9_compare wsX9_compare 3 75 [.ref (Z.2.1 0), .int x, .int y, .int z, .int u] g (fun r g1 => z_po Z G9 (sp_compare (sg, rw9) x.toInt y.toInt z.toInt u.toInt) r g1) := by
  intro l sz
  have h0 := hX.1
  obtain ⟨hN, h_x, ⟨fS, h_x1, hfS⟩, fR, h_x2, hfR⟩ := id h0
  have hN0 : 0 < Z.1 := by omega
  have hN1 : 1 < Z.1 := by omega
  have hN2 : 2 < Z.1 := by omega
  obtain ⟨fa1, fa2, h_f⟩ := hX.2.2.1.1
  obtain ⟨fb1, fb2, h_f2⟩ := hX.2.2.2.1
  obtain ⟨vc1, svc, w0c, h_k, h_s, hkN3, hw0⟩ := id hX.2.1
  have hN7 : 7 < Z.1 := by omega
  have hN8 : 8 < Z.1 := by omega
  have hN3 : 3 < Z.1 := by omega
  refine z_enter (maxL := 9) (ret := (some .int)) (lv := [(0, .ref (Z.2.1 0)), (1, .int x), (2, .int y), (3, .int z), (4, .int u)]) (plainFor_of_name (by decide +kernel)) rfl (fun ls h => by subst h; exact lv_entry [.ref (Z.2.1 0), .int x, .int y, .int z, .int u] (n := 9) (Nat.le_of_ble_eq_true rfl)) ?_
  intro p e s m args below meth c hx hb hml hr hlocks hown hts hK hS hsz ls hl
  refine lv_aload_n hx hb dX9_compare_0 rfl (lv_at hl 0 rfl) ?_
  refine lv_iload_n hx hb dX9_compare_1 rfl (lv_at hl 1 rfl) ?_
  refine z_callq (z_runV (As := [.int x]) (rest := []) ⟨hx, hb, hml, hown, hts⟩ hK hS ((k_systemAt Z g h0 x) l _) gX9_compare_X9_systemAt rfl 1 (by decide +kernel) ⟨Nat.le_of_ble_eq_true rfl, Nat.le_of_ble_eq_true rfl⟩ h_x hN0 rfl rfl hl.1 rfl (Nat.le_of_ble_eq_true rfl) dX9_compare_2 ⟨Nat.le_of_ble_eq_true rfl, Nat.le_of_ble_eq_true rfl⟩) hS (fun r_1 g_2 H locs hp_3 hS => ?_)
  obtain ⟨rfl, hp_3⟩ := hp_3
  rcases hp_3 with ⟨s1, hs2, hsv, er⟩ | ⟨hnv, er⟩
  · subst er
    obtain ⟨h_n, hBs, ⟨w1, w2, w3, w4, w5, w6, hW⟩, h_y, ⟨lw, hw, tb, y1, y2, y3, hO⟩, l0, hC⟩ := hX.2.2.2.2.2 s1 hs2
    have hzs : zsy x.toInt := ⟨by omega, by omega⟩
    have htn : x.toInt.toNat = s1 := by omega
    obtain ⟨pb, qb, res, cmp, dg, ch, ⟨h_b, h_d, h_c, hkN, hok, hp, hq, hres, hdg⟩, hch, hcmp⟩ := id hBs
    have hkn : 15 + 13 * s1 < Z.1 := by omega
    have hk0 : 16 + 13 * s1 < Z.1 := by omega
    have hk1 : 16 + 13 * s1 + 1 < Z.1 := by omega
    have hk2 : 16 + 13 * s1 + 2 < Z.1 := by omega
    have hPb := zP_bd hok
    have hn12 := hok.2.2.2.1
    have hq1 := hok.2.1
    refine lv_astore (lv' := [(5, .ref (Z.2.1 (15 + 13 * s1))), (0, .ref (Z.2.1 0)), (1, .int x), (2, .int y), (3, .int z), (4, .int u)]) hx hb dX9_compare_5 hl (by decide) rfl (fun ls hl => ?_)
    refine lv_aload_n hx hb dX9_compare_7 rfl (lv_at hl 1 rfl) ?_
    refine lv_iload_n hx hb dX9_compare_8 rfl (lv_at hl 3 rfl) ?_
    refine z_callq (z_runV (As := [.int y]) (rest := []) ⟨hx, hb, hml, hown, hts⟩ hK hS ((k_rowAt Z g h0 y) l _) gX9_compare_X9_rowAt rfl 1 (by decide +kernel) ⟨Nat.le_of_ble_eq_true rfl, Nat.le_of_ble_eq_true rfl⟩ h_x hN0 rfl rfl hl.1 rfl (Nat.le_of_ble_eq_true rfl) dX9_compare_9 ⟨Nat.le_of_ble_eq_true rfl, Nat.le_of_ble_eq_true rfl⟩) hS (fun r_4 g_5 H locs hp_6 hS => ?_)
    obtain ⟨rfl, hp_6⟩ := hp_6
    rcases hp_6 with ⟨r1, hs2r, hsvr, err⟩ | ⟨hnvr, err⟩
    · subst err
      have hRr := hX.2.2.2.2.1 r1 hs2r
      obtain ⟨avr, h_rr, h_ar, hkNrr, hnrr, havr⟩ := id hRr
      have hzsr : zro y.toInt := ⟨by omega, by omega⟩
      have htnr : y.toInt.toNat = r1 := by omega
      have hkrr : 9 + 2 * r1 < Z.1 := by omega
      have hkr1r : 9 + 2 * r1 + 1 < Z.1 := by omega
      refine lv_astore (lv' := [(6, .ref (Z.2.1 (9 + 2 * r1))), (5, .ref (Z.2.1 (15 + 13 * s1))), (0, .ref (Z.2.1 0)), (1, .int x), (2, .int y), (3, .int z), (4, .int u)]) hx hb dX9_compare_12 hl (by decide) rfl (fun ls hl => ?_)
      refine lv_aload_n hx hb dX9_compare_14 rfl (lv_at hl 2 rfl) ?_
      refine lv_iload_n hx hb dX9_compare_15 rfl (lv_at hl 5 rfl) ?_
      refine z_callq (z_runV (As := [.int z]) (rest := []) ⟨hx, hb, hml, hown, hts⟩ hK hS ((k_systemAt Z g h0 z) l _) gX9_compare_X9_systemAt rfl 1 (by decide +kernel) ⟨Nat.le_of_ble_eq_true rfl, Nat.le_of_ble_eq_true rfl⟩ h_x hN0 rfl rfl hl.1 rfl (Nat.le_of_ble_eq_true rfl) dX9_compare_16 ⟨Nat.le_of_ble_eq_true rfl, Nat.le_of_ble_eq_true rfl⟩) hS (fun r_7 g_8 H locs hp_9 hS => ?_)
      obtain ⟨rfl, hp_9⟩ := hp_9
      rcases hp_9 with ⟨s2, hs2t, hsvt, ert⟩ | ⟨hnvt, ert⟩
      · subst ert
        obtain ⟨h_nt, hBst, ⟨w1t, w2t, w3t, w4t, w5t, w6t, hWt⟩, h_yt, ⟨lwt, hwt, tbt, y1t, y2t, y3t, hOt⟩, l0t, hCt⟩ := hX.2.2.2.2.2 s2 hs2t
        have hzst : zsy z.toInt := ⟨by omega, by omega⟩
        have htnt : z.toInt.toNat = s2 := by omega
        obtain ⟨pbt, qbt, rest, cmpt, dgt, cht, ⟨h_bt, h_dt, h_ct, hkNt, hokt, hpt, hqt, hrest, hdgt⟩, hcht, hcmpt⟩ := id hBst
        have hknt : 15 + 13 * s2 < Z.1 := by omega
        have hk0t : 16 + 13 * s2 < Z.1 := by omega
        have hk1t : 16 + 13 * s2 + 1 < Z.1 := by omega
        have hk2t : 16 + 13 * s2 + 2 < Z.1 := by omega
        have hPbt := zP_bd hokt
        have hn12t := hokt.2.2.2.1
        have hq1t := hokt.2.1
        refine lv_astore (lv' := [(7, .ref (Z.2.1 (15 + 13 * s2))), (6, .ref (Z.2.1 (9 + 2 * r1))), (5, .ref (Z.2.1 (15 + 13 * s1))), (0, .ref (Z.2.1 0)), (1, .int x), (2, .int y), (3, .int z), (4, .int u)]) hx hb dX9_compare_19 hl (by decide) rfl (fun ls hl => ?_)
        refine lv_aload_n hx hb dX9_compare_21 rfl (lv_at hl 3 rfl) ?_
        refine lv_iload hx hb dX9_compare_22 (lv_at hl 7 rfl) ?_
        refine z_callq (z_runV (As := [.int u]) (rest := []) ⟨hx, hb, hml, hown, hts⟩ hK hS ((k_rowAt Z g h0 u) l _) gX9_compare_X9_rowAt rfl 1 (by decide +kernel) ⟨Nat.le_of_ble_eq_true rfl, Nat.le_of_ble_eq_true rfl⟩ h_x hN0 rfl rfl hl.1 rfl (Nat.le_of_ble_eq_true rfl) dX9_compare_24 ⟨Nat.le_of_ble_eq_true rfl, Nat.le_of_ble_eq_true rfl⟩) hS (fun r_10 g_11 H locs hp_12 hS => ?_)
        obtain ⟨rfl, hp_12⟩ := hp_12
        rcases hp_12 with ⟨r2, hs2q, hsvq, erq⟩ | ⟨hnvq, erq⟩
        · subst erq
          have hRq := hX.2.2.2.2.1 r2 hs2q
          obtain ⟨avq, h_rq, h_aq, hkNrq, hnrq, havq⟩ := id hRq
          have hzsq : zro u.toInt := ⟨by omega, by omega⟩
          have htnq : u.toInt.toNat = r2 := by omega
          have hkrq : 9 + 2 * r2 < Z.1 := by omega
          have hkr1q : 9 + 2 * r2 + 1 < Z.1 := by omega
          refine lv_astore (lv' := [(8, .ref (Z.2.1 (9 + 2 * r2))), (7, .ref (Z.2.1 (15 + 13 * s2))), (6, .ref (Z.2.1 (9 + 2 * r1))), (5, .ref (Z.2.1 (15 + 13 * s1))), (0, .ref (Z.2.1 0)), (1, .int x), (2, .int y), (3, .int z), (4, .int u)]) hx hb dX9_compare_27 hl (by decide) rfl (fun ls hl => ?_)
          refine lv_aload hx hb dX9_compare_29 (lv_at hl 3 rfl) ?_
          refine lv_ifnull hx hb dX9_compare_31 ?_
          refine lv_aload hx hb dX9_compare_34 (lv_at hl 2 rfl) ?_
          refine lv_ifnull hx hb dX9_compare_36 ?_
          refine lv_aload hx hb dX9_compare_39 (lv_at hl 1 rfl) ?_
          refine lv_ifnull hx hb dX9_compare_41 ?_
          refine lv_aload hx hb dX9_compare_44 (lv_at hl 0 rfl) ?_
          refine lv_ifnonnull (tgt := 52) hx hb dX9_compare_46 (by decide) ?_
          refine lv_aload_n hx hb dX9_compare_52 rfl (lv_at hl 4 rfl) ?_
          refine z_get (own := RX9) (C := RX9) (T := TX9) (N := 5) hx hb hts in_X9_compare_9 hown hK hS h_x hN0 rfl 3 (by decide) (List.mem_of_getElem? (i := 2) rfl) rfl rfl dX9_compare_53 ?_
          refine lv_aload hx hb dX9_compare_56 (lv_at hl 3 rfl) ?_
          refine z_getN (own := RX9) (C := RX5) (T := TX5) (N := 5) hx hb hts in_X9_compare_5 hown hK hS h_n hkn rfl 0 (by decide) 14 rfl rfl rfl dX9_compare_58 ?_
          refine lv_aload hx hb dX9_compare_61 (lv_at hl 2 rfl) ?_
          refine z_callv (z_runVN (As := [.ref (Z.2.1 (16 + 13 * s1)), .ref (Z.2.1 (9 + 2 * r1))]) (rest := []) (C := RX4) ⟨hx, hb, hml, hown, hts⟩ hK hS ((k_read Z g 7 (16 + 13 * s1) (9 + 2 * r1) (sg s1) (rw9 r1) fa1 fa2 ⟨h_f, by omega, Or.inl (by omega), Or.inl (by omega)⟩ ⟨pb, qb, res, cmp, dg, ch, h_b, h_d, h_c, hkN, hok, hp, hq, hres, hdg⟩ ⟨avr, h_rr, h_ar, hkNrr, hnrr, havr⟩) l _) gX9_compare_X4_read_n187 rfl 2 13 rfl (List.mem_of_getElem? (i := 16) rfl) (List.mem_of_getElem? (i := 15) rfl) (List.mem_of_getElem? (i := 17) rfl) (by decide +kernel) ⟨Nat.le_of_ble_eq_true rfl, Nat.le_of_ble_eq_true rfl⟩ h_f hN7 rfl rfl hl.1 rfl (Nat.le_of_ble_eq_true rfl) dX9_compare_63 ⟨Nat.le_of_ble_eq_true rfl, Nat.le_of_ble_eq_true rfl⟩) hS (fun g_14 H locs hp_15 hS => ?_)
          obtain ⟨tt1, bb1, h_f, htt1, hbb1, hfr_16⟩ := hp_15
          have h_x := (hfr_16 _ (by omega)).trans h_x
          have h_x1 := (hfr_16 _ (by omega)).trans h_x1
          have h_x2 := (hfr_16 _ (by omega)).trans h_x2
          have h_f2 := (hfr_16 _ (by omega)).trans h_f2
          have h_k := (hfr_16 _ (by omega)).trans h_k
          have h_n := (hfr_16 _ (by omega)).trans h_n
          have h_b := (hfr_16 _ (by omega)).trans h_b
          have h_d := (hfr_16 _ (by omega)).trans h_d
          have h_c := (hfr_16 _ (by omega)).trans h_c
          have h_rr := (hfr_16 _ (by omega)).trans h_rr
          have h_ar := (hfr_16 _ (by omega)).trans h_ar
          have h_nt := (hfr_16 _ (by omega)).trans h_nt
          have h_bt := (hfr_16 _ (by omega)).trans h_bt
          have h_dt := (hfr_16 _ (by omega)).trans h_dt
          have h_ct := (hfr_16 _ (by omega)).trans h_ct
          have h_rq := (hfr_16 _ (by omega)).trans h_rq
          have h_aq := (hfr_16 _ (by omega)).trans h_aq
          have hX := hX.fr7 hfr_16 ⟨_, _, h_f⟩
          have hv1 := zv_bd hok (w := rw9 r1) hnrr (fun i hi => (havr i hi).2)
          rw [← htt1, ← hbb1] at hv1
          refine lv_aload_n hx hb dX9_compare_66 rfl (lv_at hl 4 rfl) ?_
          refine z_get (own := RX9) (C := RX9) (T := TX9) (N := 5) hx hb hts in_X9_compare_9 hown hK hS h_x hN0 rfl 4 (by decide) (List.mem_of_getElem? (i := 3) rfl) rfl rfl dX9_compare_67 ?_
          refine lv_aload hx hb dX9_compare_70 (lv_at hl 1 rfl) ?_
          refine z_getN (own := RX9) (C := RX5) (T := TX5) (N := 5) hx hb hts in_X9_compare_5 hown hK hS h_nt hknt rfl 0 (by decide) 14 rfl rfl rfl dX9_compare_72 ?_
          refine lv_aload hx hb dX9_compare_75 (lv_at hl 0 rfl) ?_
          refine z_callv (z_runVN (As := [.ref (Z.2.1 (16 + 13 * s2)), .ref (Z.2.1 (9 + 2 * r2))]) (rest := []) (C := RX4) ⟨hx, hb, hml, hown, hts⟩ hK hS ((k_read Z g_14 8 (16 + 13 * s2) (9 + 2 * r2) (sg s2) (rw9 r2) fb1 fb2 ⟨h_f2, by omega, Or.inl (by omega), Or.inl (by omega)⟩ ⟨pbt, qbt, rest, cmpt, dgt, cht, h_bt, h_dt, h_ct, hkNt, hokt, hpt, hqt, hrest, hdgt⟩ ⟨avq, h_rq, h_aq, hkNrq, hnrq, havq⟩) l _) gX9_compare_X4_read_n187 rfl 2 13 rfl (List.mem_of_getElem? (i := 16) rfl) (List.mem_of_getElem? (i := 15) rfl) (List.mem_of_getElem? (i := 17) rfl) (by decide +kernel) ⟨Nat.le_of_ble_eq_true rfl, Nat.le_of_ble_eq_true rfl⟩ h_f2 hN8 rfl rfl hl.1 rfl (Nat.le_of_ble_eq_true rfl) dX9_compare_77 ⟨Nat.le_of_ble_eq_true rfl, Nat.le_of_ble_eq_true rfl⟩) hS (fun g_18 H locs hp_19 hS => ?_)
          obtain ⟨tt2, bb2, h_f2, htt2, hbb2, hfr_20⟩ := hp_19
          have h_x := (hfr_20 _ (by omega)).trans h_x
          have h_x1 := (hfr_20 _ (by omega)).trans h_x1
          have h_x2 := (hfr_20 _ (by omega)).trans h_x2
          have h_k := (hfr_20 _ (by omega)).trans h_k
          have h_n := (hfr_20 _ (by omega)).trans h_n
          have h_b := (hfr_20 _ (by omega)).trans h_b
          have h_d := (hfr_20 _ (by omega)).trans h_d
          have h_c := (hfr_20 _ (by omega)).trans h_c
          have h_rr := (hfr_20 _ (by omega)).trans h_rr
          have h_ar := (hfr_20 _ (by omega)).trans h_ar
          have h_nt := (hfr_20 _ (by omega)).trans h_nt
          have h_bt := (hfr_20 _ (by omega)).trans h_bt
          have h_dt := (hfr_20 _ (by omega)).trans h_dt
          have h_ct := (hfr_20 _ (by omega)).trans h_ct
          have h_rq := (hfr_20 _ (by omega)).trans h_rq
          have h_aq := (hfr_20 _ (by omega)).trans h_aq
          have h_f := (hfr_20 _ (by omega)).trans h_f
          have hX := hX.fr8 hfr_20 ⟨_, _, h_f2⟩
          have hv2 := zv_bd hokt (w := rw9 r2) hnrq (fun i hi => (havq i hi).2)
          rw [← htt2, ← hbb2] at hv2
          refine lv_aload_n hx hb dX9_compare_80 rfl (lv_at hl 4 rfl) ?_
          refine z_get (own := RX9) (C := RX9) (T := TX9) (N := 5) hx hb hts in_X9_compare_9 hown hK hS h_x hN0 rfl 3 (by decide) (List.mem_of_getElem? (i := 2) rfl) rfl rfl dX9_compare_81 ?_
          refine lv_aload_n hx hb dX9_compare_84 rfl (lv_at hl 4 rfl) ?_
          refine z_get (own := RX9) (C := RX9) (T := TX9) (N := 5) hx hb hts in_X9_compare_9 hown hK hS h_x hN0 rfl 4 (by decide) (List.mem_of_getElem? (i := 3) rfl) rfl rfl dX9_compare_85 ?_
          refine z_calli (z_runVN (As := [.ref (Z.2.1 8)]) (rest := []) (C := RX4) ⟨hx, hb, hml, hown, hts⟩ hK hS ((k_orderTo Z g_18 7 8 tt1 bb1 tt2 bb2 h_f hN7 h_f2 hN8 (by omega) (by omega) (by omega) (by omega)) l _) gX9_compare_X4_orderTo_n198 rfl 1 14 rfl (List.mem_of_getElem? (i := 16) rfl) (List.mem_of_getElem? (i := 33) rfl) (List.mem_of_getElem? (i := 34) rfl) (by decide +kernel) ⟨Nat.le_of_ble_eq_true rfl, Nat.le_of_ble_eq_true rfl⟩ h_f hN7 rfl rfl hl.1 rfl (Nat.le_of_ble_eq_true rfl) dX9_compare_88 ⟨Nat.le_of_ble_eq_true rfl, Nat.le_of_ble_eq_true rfl⟩) hS (fun ro g_21 H locs hp_22 hS => ?_)
          obtain ⟨rfl, hp_22⟩ := hp_22
          have hro := hp_22
          refine lv_iconst (v := 1) hx hb dX9_compare_91 (by decide) ?_
          refine lv_iadd hx hb dX9_compare_92 ?_
          refine z_iret hx hb hr hlocks hS ?_ dX9_compare_93
          show z_po Z G9 (sp_compare (sg, rw9) x.toInt y.toInt z.toInt u.toInt) _ _
          unfold sp_compare
          rw [zite_t ⟨hzs, hzsr, hzst, hzsq⟩, htn, htnr, htnt, htnq]
          exact ⟨by rw [fb_addI (by rw [hro, tI_1]; have := zsg_bd (tt1.toInt * bb2.toInt - tt2.toInt * bb1.toInt); omega) (by rw [hro, tI_1]; have := zsg_bd (tt1.toInt * bb2.toInt - tt2.toInt * bb1.toInt); omega), hro, tI_1, htt1, htt2, hbb1, hbb2], hX⟩
        · subst erq
          refine lv_astoreN (lv' := [(8, .null), (7, .ref (Z.2.1 (15 + 13 * s2))), (6, .ref (Z.2.1 (9 + 2 * r1))), (5, .ref (Z.2.1 (15 + 13 * s1))), (0, .ref (Z.2.1 0)), (1, .int x), (2, .int y), (3, .int z), (4, .int u)]) hx hb dX9_compare_27 hl (by decide) rfl (fun ls hl => ?_)
          refine lv_aload hx hb dX9_compare_29 (lv_at hl 3 rfl) ?_
          refine lv_ifnull hx hb dX9_compare_31 ?_
          refine lv_aload hx hb dX9_compare_34 (lv_at hl 2 rfl) ?_
          refine lv_ifnull hx hb dX9_compare_36 ?_
          refine lv_aload hx hb dX9_compare_39 (lv_at hl 1 rfl) ?_
          refine lv_ifnull hx hb dX9_compare_41 ?_
          refine lv_aloadN hx hb dX9_compare_44 (lv_at hl 0 rfl) ?_
          refine lv_ifnonnullN hx hb dX9_compare_46 ?_
          refine lv_ldc (v := (-1000001)) hx hb hown (hts _ (List.mem_of_getElem? (i := 1) rfl)) dX9_compare_49 ?_
          refine z_iret hx hb hr hlocks hS ?_ dX9_compare_51
          show z_po Z G9 (sp_compare (sg, rw9) x.toInt y.toInt z.toInt u.toInt) _ _
          unfold sp_compare
          rw [zite_f (fun h9 => hnvq h9.2.2.2)]
          exact ⟨rfl, hX⟩
      · subst ert
        refine lv_astoreN (lv' := [(7, .null), (6, .ref (Z.2.1 (9 + 2 * r1))), (5, .ref (Z.2.1 (15 + 13 * s1))), (0, .ref (Z.2.1 0)), (1, .int x), (2, .int y), (3, .int z), (4, .int u)]) hx hb dX9_compare_19 hl (by decide) rfl (fun ls hl => ?_)
        refine lv_aload_n hx hb dX9_compare_21 rfl (lv_at hl 3 rfl) ?_
        refine lv_iload hx hb dX9_compare_22 (lv_at hl 7 rfl) ?_
        refine z_callq (z_runV (As := [.int u]) (rest := []) ⟨hx, hb, hml, hown, hts⟩ hK hS ((k_rowAt Z g h0 u) l _) gX9_compare_X9_rowAt rfl 1 (by decide +kernel) ⟨Nat.le_of_ble_eq_true rfl, Nat.le_of_ble_eq_true rfl⟩ h_x hN0 rfl rfl hl.1 rfl (Nat.le_of_ble_eq_true rfl) dX9_compare_24 ⟨Nat.le_of_ble_eq_true rfl, Nat.le_of_ble_eq_true rfl⟩) hS (fun r_23 g_24 H locs hp_25 hS => ?_)
        obtain ⟨rfl, hp_25⟩ := hp_25
        rcases hp_25 with ⟨r2, hs2q, hsvq, erq⟩ | ⟨hnvq, erq⟩
        · subst erq
          have hRq := hX.2.2.2.2.1 r2 hs2q
          obtain ⟨avq, h_rq, h_aq, hkNrq, hnrq, havq⟩ := id hRq
          have hzsq : zro u.toInt := ⟨by omega, by omega⟩
          have htnq : u.toInt.toNat = r2 := by omega
          have hkrq : 9 + 2 * r2 < Z.1 := by omega
          have hkr1q : 9 + 2 * r2 + 1 < Z.1 := by omega
          refine lv_astore (lv' := [(8, .ref (Z.2.1 (9 + 2 * r2))), (7, .null), (6, .ref (Z.2.1 (9 + 2 * r1))), (5, .ref (Z.2.1 (15 + 13 * s1))), (0, .ref (Z.2.1 0)), (1, .int x), (2, .int y), (3, .int z), (4, .int u)]) hx hb dX9_compare_27 hl (by decide) rfl (fun ls hl => ?_)
          refine lv_aload hx hb dX9_compare_29 (lv_at hl 3 rfl) ?_
          refine lv_ifnull hx hb dX9_compare_31 ?_
          refine lv_aload hx hb dX9_compare_34 (lv_at hl 2 rfl) ?_
          refine lv_ifnull hx hb dX9_compare_36 ?_
          refine lv_aloadN hx hb dX9_compare_39 (lv_at hl 1 rfl) ?_
          refine lv_ifnullN (tgt := 49) hx hb dX9_compare_41 (by decide) ?_
          refine lv_ldc (v := (-1000001)) hx hb hown (hts _ (List.mem_of_getElem? (i := 1) rfl)) dX9_compare_49 ?_
          refine z_iret hx hb hr hlocks hS ?_ dX9_compare_51
          show z_po Z G9 (sp_compare (sg, rw9) x.toInt y.toInt z.toInt u.toInt) _ _
          unfold sp_compare
          rw [zite_f (fun h9 => hnvt h9.2.2.1)]
          exact ⟨rfl, hX⟩
        · subst erq
          refine lv_astoreN (lv' := [(8, .null), (7, .null), (6, .ref (Z.2.1 (9 + 2 * r1))), (5, .ref (Z.2.1 (15 + 13 * s1))), (0, .ref (Z.2.1 0)), (1, .int x), (2, .int y), (3, .int z), (4, .int u)]) hx hb dX9_compare_27 hl (by decide) rfl (fun ls hl => ?_)
          refine lv_aload hx hb dX9_compare_29 (lv_at hl 3 rfl) ?_
          refine lv_ifnull hx hb dX9_compare_31 ?_
          refine lv_aload hx hb dX9_compare_34 (lv_at hl 2 rfl) ?_
          refine lv_ifnull hx hb dX9_compare_36 ?_
          refine lv_aloadN hx hb dX9_compare_39 (lv_at hl 1 rfl) ?_
          refine lv_ifnullN (tgt := 49) hx hb dX9_compare_41 (by decide) ?_
          refine lv_ldc (v := (-1000001)) hx hb hown (hts _ (List.mem_of_getElem? (i := 1) rfl)) dX9_compare_49 ?_
          refine z_iret hx hb hr hlocks hS ?_ dX9_compare_51
          show z_po Z G9 (sp_compare (sg, rw9) x.toInt y.toInt z.toInt u.toInt) _ _
          unfold sp_compare
          rw [zite_f (fun h9 => hnvt h9.2.2.1)]
          exact ⟨rfl, hX⟩
    · subst err
      refine lv_astoreN (lv' := [(6, .null), (5, .ref (Z.2.1 (15 + 13 * s1))), (0, .ref (Z.2.1 0)), (1, .int x), (2, .int y), (3, .int z), (4, .int u)]) hx hb dX9_compare_12 hl (by decide) rfl (fun ls hl => ?_)
      refine lv_aload_n hx hb dX9_compare_14 rfl (lv_at hl 2 rfl) ?_
      refine lv_iload_n hx hb dX9_compare_15 rfl (lv_at hl 5 rfl) ?_
      refine z_callq (z_runV (As := [.int z]) (rest := []) ⟨hx, hb, hml, hown, hts⟩ hK hS ((k_systemAt Z g h0 z) l _) gX9_compare_X9_systemAt rfl 1 (by decide +kernel) ⟨Nat.le_of_ble_eq_true rfl, Nat.le_of_ble_eq_true rfl⟩ h_x hN0 rfl rfl hl.1 rfl (Nat.le_of_ble_eq_true rfl) dX9_compare_16 ⟨Nat.le_of_ble_eq_true rfl, Nat.le_of_ble_eq_true rfl⟩) hS (fun r_26 g_27 H locs hp_28 hS => ?_)
      obtain ⟨rfl, hp_28⟩ := hp_28
      rcases hp_28 with ⟨s2, hs2t, hsvt, ert⟩ | ⟨hnvt, ert⟩
      · subst ert
        obtain ⟨h_nt, hBst, ⟨w1t, w2t, w3t, w4t, w5t, w6t, hWt⟩, h_yt, ⟨lwt, hwt, tbt, y1t, y2t, y3t, hOt⟩, l0t, hCt⟩ := hX.2.2.2.2.2 s2 hs2t
        have hzst : zsy z.toInt := ⟨by omega, by omega⟩
        have htnt : z.toInt.toNat = s2 := by omega
        obtain ⟨pbt, qbt, rest, cmpt, dgt, cht, ⟨h_bt, h_dt, h_ct, hkNt, hokt, hpt, hqt, hrest, hdgt⟩, hcht, hcmpt⟩ := id hBst
        have hknt : 15 + 13 * s2 < Z.1 := by omega
        have hk0t : 16 + 13 * s2 < Z.1 := by omega
        have hk1t : 16 + 13 * s2 + 1 < Z.1 := by omega
        have hk2t : 16 + 13 * s2 + 2 < Z.1 := by omega
        have hPbt := zP_bd hokt
        have hn12t := hokt.2.2.2.1
        have hq1t := hokt.2.1
        refine lv_astore (lv' := [(7, .ref (Z.2.1 (15 + 13 * s2))), (6, .null), (5, .ref (Z.2.1 (15 + 13 * s1))), (0, .ref (Z.2.1 0)), (1, .int x), (2, .int y), (3, .int z), (4, .int u)]) hx hb dX9_compare_19 hl (by decide) rfl (fun ls hl => ?_)
        refine lv_aload_n hx hb dX9_compare_21 rfl (lv_at hl 3 rfl) ?_
        refine lv_iload hx hb dX9_compare_22 (lv_at hl 7 rfl) ?_
        refine z_callq (z_runV (As := [.int u]) (rest := []) ⟨hx, hb, hml, hown, hts⟩ hK hS ((k_rowAt Z g h0 u) l _) gX9_compare_X9_rowAt rfl 1 (by decide +kernel) ⟨Nat.le_of_ble_eq_true rfl, Nat.le_of_ble_eq_true rfl⟩ h_x hN0 rfl rfl hl.1 rfl (Nat.le_of_ble_eq_true rfl) dX9_compare_24 ⟨Nat.le_of_ble_eq_true rfl, Nat.le_of_ble_eq_true rfl⟩) hS (fun r_29 g_30 H locs hp_31 hS => ?_)
        obtain ⟨rfl, hp_31⟩ := hp_31
        rcases hp_31 with ⟨r2, hs2q, hsvq, erq⟩ | ⟨hnvq, erq⟩
        · subst erq
          have hRq := hX.2.2.2.2.1 r2 hs2q
          obtain ⟨avq, h_rq, h_aq, hkNrq, hnrq, havq⟩ := id hRq
          have hzsq : zro u.toInt := ⟨by omega, by omega⟩
          have htnq : u.toInt.toNat = r2 := by omega
          have hkrq : 9 + 2 * r2 < Z.1 := by omega
          have hkr1q : 9 + 2 * r2 + 1 < Z.1 := by omega
          refine lv_astore (lv' := [(8, .ref (Z.2.1 (9 + 2 * r2))), (7, .ref (Z.2.1 (15 + 13 * s2))), (6, .null), (5, .ref (Z.2.1 (15 + 13 * s1))), (0, .ref (Z.2.1 0)), (1, .int x), (2, .int y), (3, .int z), (4, .int u)]) hx hb dX9_compare_27 hl (by decide) rfl (fun ls hl => ?_)
          refine lv_aload hx hb dX9_compare_29 (lv_at hl 3 rfl) ?_
          refine lv_ifnull hx hb dX9_compare_31 ?_
          refine lv_aloadN hx hb dX9_compare_34 (lv_at hl 2 rfl) ?_
          refine lv_ifnullN (tgt := 49) hx hb dX9_compare_36 (by decide) ?_
          refine lv_ldc (v := (-1000001)) hx hb hown (hts _ (List.mem_of_getElem? (i := 1) rfl)) dX9_compare_49 ?_
          refine z_iret hx hb hr hlocks hS ?_ dX9_compare_51
          show z_po Z G9 (sp_compare (sg, rw9) x.toInt y.toInt z.toInt u.toInt) _ _
          unfold sp_compare
          rw [zite_f (fun h9 => hnvr h9.2.1)]
          exact ⟨rfl, hX⟩
        · subst erq
          refine lv_astoreN (lv' := [(8, .null), (7, .ref (Z.2.1 (15 + 13 * s2))), (6, .null), (5, .ref (Z.2.1 (15 + 13 * s1))), (0, .ref (Z.2.1 0)), (1, .int x), (2, .int y), (3, .int z), (4, .int u)]) hx hb dX9_compare_27 hl (by decide) rfl (fun ls hl => ?_)
          refine lv_aload hx hb dX9_compare_29 (lv_at hl 3 rfl) ?_
          refine lv_ifnull hx hb dX9_compare_31 ?_
          refine lv_aloadN hx hb dX9_compare_34 (lv_at hl 2 rfl) ?_
          refine lv_ifnullN (tgt := 49) hx hb dX9_compare_36 (by decide) ?_
          refine lv_ldc (v := (-1000001)) hx hb hown (hts _ (List.mem_of_getElem? (i := 1) rfl)) dX9_compare_49 ?_
          refine z_iret hx hb hr hlocks hS ?_ dX9_compare_51
          show z_po Z G9 (sp_compare (sg, rw9) x.toInt y.toInt z.toInt u.toInt) _ _
          unfold sp_compare
          rw [zite_f (fun h9 => hnvr h9.2.1)]
          exact ⟨rfl, hX⟩
      · subst ert
        refine lv_astoreN (lv' := [(7, .null), (6, .null), (5, .ref (Z.2.1 (15 + 13 * s1))), (0, .ref (Z.2.1 0)), (1, .int x), (2, .int y), (3, .int z), (4, .int u)]) hx hb dX9_compare_19 hl (by decide) rfl (fun ls hl => ?_)
        refine lv_aload_n hx hb dX9_compare_21 rfl (lv_at hl 3 rfl) ?_
        refine lv_iload hx hb dX9_compare_22 (lv_at hl 7 rfl) ?_
        refine z_callq (z_runV (As := [.int u]) (rest := []) ⟨hx, hb, hml, hown, hts⟩ hK hS ((k_rowAt Z g h0 u) l _) gX9_compare_X9_rowAt rfl 1 (by decide +kernel) ⟨Nat.le_of_ble_eq_true rfl, Nat.le_of_ble_eq_true rfl⟩ h_x hN0 rfl rfl hl.1 rfl (Nat.le_of_ble_eq_true rfl) dX9_compare_24 ⟨Nat.le_of_ble_eq_true rfl, Nat.le_of_ble_eq_true rfl⟩) hS (fun r_32 g_33 H locs hp_34 hS => ?_)
        obtain ⟨rfl, hp_34⟩ := hp_34
        rcases hp_34 with ⟨r2, hs2q, hsvq, erq⟩ | ⟨hnvq, erq⟩
        · subst erq
          have hRq := hX.2.2.2.2.1 r2 hs2q
          obtain ⟨avq, h_rq, h_aq, hkNrq, hnrq, havq⟩ := id hRq
          have hzsq : zro u.toInt := ⟨by omega, by omega⟩
          have htnq : u.toInt.toNat = r2 := by omega
          have hkrq : 9 + 2 * r2 < Z.1 := by omega
          have hkr1q : 9 + 2 * r2 + 1 < Z.1 := by omega
          refine lv_astore (lv' := [(8, .ref (Z.2.1 (9 + 2 * r2))), (7, .null), (6, .null), (5, .ref (Z.2.1 (15 + 13 * s1))), (0, .ref (Z.2.1 0)), (1, .int x), (2, .int y), (3, .int z), (4, .int u)]) hx hb dX9_compare_27 hl (by decide) rfl (fun ls hl => ?_)
          refine lv_aload hx hb dX9_compare_29 (lv_at hl 3 rfl) ?_
          refine lv_ifnull hx hb dX9_compare_31 ?_
          refine lv_aloadN hx hb dX9_compare_34 (lv_at hl 2 rfl) ?_
          refine lv_ifnullN (tgt := 49) hx hb dX9_compare_36 (by decide) ?_
          refine lv_ldc (v := (-1000001)) hx hb hown (hts _ (List.mem_of_getElem? (i := 1) rfl)) dX9_compare_49 ?_
          refine z_iret hx hb hr hlocks hS ?_ dX9_compare_51
          show z_po Z G9 (sp_compare (sg, rw9) x.toInt y.toInt z.toInt u.toInt) _ _
          unfold sp_compare
          rw [zite_f (fun h9 => hnvr h9.2.1)]
          exact ⟨rfl, hX⟩
        · subst erq
          refine lv_astoreN (lv' := [(8, .null), (7, .null), (6, .null), (5, .ref (Z.2.1 (15 + 13 * s1))), (0, .ref (Z.2.1 0)), (1, .int x), (2, .int y), (3, .int z), (4, .int u)]) hx hb dX9_compare_27 hl (by decide) rfl (fun ls hl => ?_)
          refine lv_aload hx hb dX9_compare_29 (lv_at hl 3 rfl) ?_
          refine lv_ifnull hx hb dX9_compare_31 ?_
          refine lv_aloadN hx hb dX9_compare_34 (lv_at hl 2 rfl) ?_
          refine lv_ifnullN (tgt := 49) hx hb dX9_compare_36 (by decide) ?_
          refine lv_ldc (v := (-1000001)) hx hb hown (hts _ (List.mem_of_getElem? (i := 1) rfl)) dX9_compare_49 ?_
          refine z_iret hx hb hr hlocks hS ?_ dX9_compare_51
          show z_po Z G9 (sp_compare (sg, rw9) x.toInt y.toInt z.toInt u.toInt) _ _
          unfold sp_compare
          rw [zite_f (fun h9 => hnvr h9.2.1)]
          exact ⟨rfl, hX⟩
  · subst er
    refine lv_astoreN (lv' := [(5, .null), (0, .ref (Z.2.1 0)), (1, .int x), (2, .int y), (3, .int z), (4, .int u)]) hx hb dX9_compare_5 hl (by decide) rfl (fun ls hl => ?_)
    refine lv_aload_n hx hb dX9_compare_7 rfl (lv_at hl 1 rfl) ?_
    refine lv_iload_n hx hb dX9_compare_8 rfl (lv_at hl 3 rfl) ?_
    refine z_callq (z_runV (As := [.int y]) (rest := []) ⟨hx, hb, hml, hown, hts⟩ hK hS ((k_rowAt Z g h0 y) l _) gX9_compare_X9_rowAt rfl 1 (by decide +kernel) ⟨Nat.le_of_ble_eq_true rfl, Nat.le_of_ble_eq_true rfl⟩ h_x hN0 rfl rfl hl.1 rfl (Nat.le_of_ble_eq_true rfl) dX9_compare_9 ⟨Nat.le_of_ble_eq_true rfl, Nat.le_of_ble_eq_true rfl⟩) hS (fun r_35 g_36 H locs hp_37 hS => ?_)
    obtain ⟨rfl, hp_37⟩ := hp_37
    rcases hp_37 with ⟨r1, hs2r, hsvr, err⟩ | ⟨hnvr, err⟩
    · subst err
      have hRr := hX.2.2.2.2.1 r1 hs2r
      obtain ⟨avr, h_rr, h_ar, hkNrr, hnrr, havr⟩ := id hRr
      have hzsr : zro y.toInt := ⟨by omega, by omega⟩
      have htnr : y.toInt.toNat = r1 := by omega
      have hkrr : 9 + 2 * r1 < Z.1 := by omega
      have hkr1r : 9 + 2 * r1 + 1 < Z.1 := by omega
      refine lv_astore (lv' := [(6, .ref (Z.2.1 (9 + 2 * r1))), (5, .null), (0, .ref (Z.2.1 0)), (1, .int x), (2, .int y), (3, .int z), (4, .int u)]) hx hb dX9_compare_12 hl (by decide) rfl (fun ls hl => ?_)
      refine lv_aload_n hx hb dX9_compare_14 rfl (lv_at hl 2 rfl) ?_
      refine lv_iload_n hx hb dX9_compare_15 rfl (lv_at hl 5 rfl) ?_
      refine z_callq (z_runV (As := [.int z]) (rest := []) ⟨hx, hb, hml, hown, hts⟩ hK hS ((k_systemAt Z g h0 z) l _) gX9_compare_X9_systemAt rfl 1 (by decide +kernel) ⟨Nat.le_of_ble_eq_true rfl, Nat.le_of_ble_eq_true rfl⟩ h_x hN0 rfl rfl hl.1 rfl (Nat.le_of_ble_eq_true rfl) dX9_compare_16 ⟨Nat.le_of_ble_eq_true rfl, Nat.le_of_ble_eq_true rfl⟩) hS (fun r_38 g_39 H locs hp_40 hS => ?_)
      obtain ⟨rfl, hp_40⟩ := hp_40
      rcases hp_40 with ⟨s2, hs2t, hsvt, ert⟩ | ⟨hnvt, ert⟩
      · subst ert
        obtain ⟨h_nt, hBst, ⟨w1t, w2t, w3t, w4t, w5t, w6t, hWt⟩, h_yt, ⟨lwt, hwt, tbt, y1t, y2t, y3t, hOt⟩, l0t, hCt⟩ := hX.2.2.2.2.2 s2 hs2t
        have hzst : zsy z.toInt := ⟨by omega, by omega⟩
        have htnt : z.toInt.toNat = s2 := by omega
        obtain ⟨pbt, qbt, rest, cmpt, dgt, cht, ⟨h_bt, h_dt, h_ct, hkNt, hokt, hpt, hqt, hrest, hdgt⟩, hcht, hcmpt⟩ := id hBst
        have hknt : 15 + 13 * s2 < Z.1 := by omega
        have hk0t : 16 + 13 * s2 < Z.1 := by omega
        have hk1t : 16 + 13 * s2 + 1 < Z.1 := by omega
        have hk2t : 16 + 13 * s2 + 2 < Z.1 := by omega
        have hPbt := zP_bd hokt
        have hn12t := hokt.2.2.2.1
        have hq1t := hokt.2.1
        refine lv_astore (lv' := [(7, .ref (Z.2.1 (15 + 13 * s2))), (6, .ref (Z.2.1 (9 + 2 * r1))), (5, .null), (0, .ref (Z.2.1 0)), (1, .int x), (2, .int y), (3, .int z), (4, .int u)]) hx hb dX9_compare_19 hl (by decide) rfl (fun ls hl => ?_)
        refine lv_aload_n hx hb dX9_compare_21 rfl (lv_at hl 3 rfl) ?_
        refine lv_iload hx hb dX9_compare_22 (lv_at hl 7 rfl) ?_
        refine z_callq (z_runV (As := [.int u]) (rest := []) ⟨hx, hb, hml, hown, hts⟩ hK hS ((k_rowAt Z g h0 u) l _) gX9_compare_X9_rowAt rfl 1 (by decide +kernel) ⟨Nat.le_of_ble_eq_true rfl, Nat.le_of_ble_eq_true rfl⟩ h_x hN0 rfl rfl hl.1 rfl (Nat.le_of_ble_eq_true rfl) dX9_compare_24 ⟨Nat.le_of_ble_eq_true rfl, Nat.le_of_ble_eq_true rfl⟩) hS (fun r_41 g_42 H locs hp_43 hS => ?_)
        obtain ⟨rfl, hp_43⟩ := hp_43
        rcases hp_43 with ⟨r2, hs2q, hsvq, erq⟩ | ⟨hnvq, erq⟩
        · subst erq
          have hRq := hX.2.2.2.2.1 r2 hs2q
          obtain ⟨avq, h_rq, h_aq, hkNrq, hnrq, havq⟩ := id hRq
          have hzsq : zro u.toInt := ⟨by omega, by omega⟩
          have htnq : u.toInt.toNat = r2 := by omega
          have hkrq : 9 + 2 * r2 < Z.1 := by omega
          have hkr1q : 9 + 2 * r2 + 1 < Z.1 := by omega
          refine lv_astore (lv' := [(8, .ref (Z.2.1 (9 + 2 * r2))), (7, .ref (Z.2.1 (15 + 13 * s2))), (6, .ref (Z.2.1 (9 + 2 * r1))), (5, .null), (0, .ref (Z.2.1 0)), (1, .int x), (2, .int y), (3, .int z), (4, .int u)]) hx hb dX9_compare_27 hl (by decide) rfl (fun ls hl => ?_)
          refine lv_aloadN hx hb dX9_compare_29 (lv_at hl 3 rfl) ?_
          refine lv_ifnullN (tgt := 49) hx hb dX9_compare_31 (by decide) ?_
          refine lv_ldc (v := (-1000001)) hx hb hown (hts _ (List.mem_of_getElem? (i := 1) rfl)) dX9_compare_49 ?_
          refine z_iret hx hb hr hlocks hS ?_ dX9_compare_51
          show z_po Z G9 (sp_compare (sg, rw9) x.toInt y.toInt z.toInt u.toInt) _ _
          unfold sp_compare
          rw [zite_f (fun h9 => hnv h9.1)]
          exact ⟨rfl, hX⟩
        · subst erq
          refine lv_astoreN (lv' := [(8, .null), (7, .ref (Z.2.1 (15 + 13 * s2))), (6, .ref (Z.2.1 (9 + 2 * r1))), (5, .null), (0, .ref (Z.2.1 0)), (1, .int x), (2, .int y), (3, .int z), (4, .int u)]) hx hb dX9_compare_27 hl (by decide) rfl (fun ls hl => ?_)
          refine lv_aloadN hx hb dX9_compare_29 (lv_at hl 3 rfl) ?_
          refine lv_ifnullN (tgt := 49) hx hb dX9_compare_31 (by decide) ?_
          refine lv_ldc (v := (-1000001)) hx hb hown (hts _ (List.mem_of_getElem? (i := 1) rfl)) dX9_compare_49 ?_
          refine z_iret hx hb hr hlocks hS ?_ dX9_compare_51
          show z_po Z G9 (sp_compare (sg, rw9) x.toInt y.toInt z.toInt u.toInt) _ _
          unfold sp_compare
          rw [zite_f (fun h9 => hnv h9.1)]
          exact ⟨rfl, hX⟩
      · subst ert
        refine lv_astoreN (lv' := [(7, .null), (6, .ref (Z.2.1 (9 + 2 * r1))), (5, .null), (0, .ref (Z.2.1 0)), (1, .int x), (2, .int y), (3, .int z), (4, .int u)]) hx hb dX9_compare_19 hl (by decide) rfl (fun ls hl => ?_)
        refine lv_aload_n hx hb dX9_compare_21 rfl (lv_at hl 3 rfl) ?_
        refine lv_iload hx hb dX9_compare_22 (lv_at hl 7 rfl) ?_
        refine z_callq (z_runV (As := [.int u]) (rest := []) ⟨hx, hb, hml, hown, hts⟩ hK hS ((k_rowAt Z g h0 u) l _) gX9_compare_X9_rowAt rfl 1 (by decide +kernel) ⟨Nat.le_of_ble_eq_true rfl, Nat.le_of_ble_eq_true rfl⟩ h_x hN0 rfl rfl hl.1 rfl (Nat.le_of_ble_eq_true rfl) dX9_compare_24 ⟨Nat.le_of_ble_eq_true rfl, Nat.le_of_ble_eq_true rfl⟩) hS (fun r_44 g_45 H locs hp_46 hS => ?_)
        obtain ⟨rfl, hp_46⟩ := hp_46
        rcases hp_46 with ⟨r2, hs2q, hsvq, erq⟩ | ⟨hnvq, erq⟩
        · subst erq
          have hRq := hX.2.2.2.2.1 r2 hs2q
          obtain ⟨avq, h_rq, h_aq, hkNrq, hnrq, havq⟩ := id hRq
          have hzsq : zro u.toInt := ⟨by omega, by omega⟩
          have htnq : u.toInt.toNat = r2 := by omega
          have hkrq : 9 + 2 * r2 < Z.1 := by omega
          have hkr1q : 9 + 2 * r2 + 1 < Z.1 := by omega
          refine lv_astore (lv' := [(8, .ref (Z.2.1 (9 + 2 * r2))), (7, .null), (6, .ref (Z.2.1 (9 + 2 * r1))), (5, .null), (0, .ref (Z.2.1 0)), (1, .int x), (2, .int y), (3, .int z), (4, .int u)]) hx hb dX9_compare_27 hl (by decide) rfl (fun ls hl => ?_)
          refine lv_aloadN hx hb dX9_compare_29 (lv_at hl 3 rfl) ?_
          refine lv_ifnullN (tgt := 49) hx hb dX9_compare_31 (by decide) ?_
          refine lv_ldc (v := (-1000001)) hx hb hown (hts _ (List.mem_of_getElem? (i := 1) rfl)) dX9_compare_49 ?_
          refine z_iret hx hb hr hlocks hS ?_ dX9_compare_51
          show z_po Z G9 (sp_compare (sg, rw9) x.toInt y.toInt z.toInt u.toInt) _ _
          unfold sp_compare
          rw [zite_f (fun h9 => hnv h9.1)]
          exact ⟨rfl, hX⟩
        · subst erq
          refine lv_astoreN (lv' := [(8, .null), (7, .null), (6, .ref (Z.2.1 (9 + 2 * r1))), (5, .null), (0, .ref (Z.2.1 0)), (1, .int x), (2, .int y), (3, .int z), (4, .int u)]) hx hb dX9_compare_27 hl (by decide) rfl (fun ls hl => ?_)
          refine lv_aloadN hx hb dX9_compare_29 (lv_at hl 3 rfl) ?_
          refine lv_ifnullN (tgt := 49) hx hb dX9_compare_31 (by decide) ?_
          refine lv_ldc (v := (-1000001)) hx hb hown (hts _ (List.mem_of_getElem? (i := 1) rfl)) dX9_compare_49 ?_
          refine z_iret hx hb hr hlocks hS ?_ dX9_compare_51
          show z_po Z G9 (sp_compare (sg, rw9) x.toInt y.toInt z.toInt u.toInt) _ _
          unfold sp_compare
          rw [zite_f (fun h9 => hnv h9.1)]
          exact ⟨rfl, hX⟩
    · subst err
      refine lv_astoreN (lv' := [(6, .null), (5, .null), (0, .ref (Z.2.1 0)), (1, .int x), (2, .int y), (3, .int z), (4, .int u)]) hx hb dX9_compare_12 hl (by decide) rfl (fun ls hl => ?_)
      refine lv_aload_n hx hb dX9_compare_14 rfl (lv_at hl 2 rfl) ?_
      refine lv_iload_n hx hb dX9_compare_15 rfl (lv_at hl 5 rfl) ?_
      refine z_callq (z_runV (As := [.int z]) (rest := []) ⟨hx, hb, hml, hown, hts⟩ hK hS ((k_systemAt Z g h0 z) l _) gX9_compare_X9_systemAt rfl 1 (by decide +kernel) ⟨Nat.le_of_ble_eq_true rfl, Nat.le_of_ble_eq_true rfl⟩ h_x hN0 rfl rfl hl.1 rfl (Nat.le_of_ble_eq_true rfl) dX9_compare_16 ⟨Nat.le_of_ble_eq_true rfl, Nat.le_of_ble_eq_true rfl⟩) hS (fun r_47 g_48 H locs hp_49 hS => ?_)
      obtain ⟨rfl, hp_49⟩ := hp_49
      rcases hp_49 with ⟨s2, hs2t, hsvt, ert⟩ | ⟨hnvt, ert⟩
      · subst ert
        obtain ⟨h_nt, hBst, ⟨w1t, w2t, w3t, w4t, w5t, w6t, hWt⟩, h_yt, ⟨lwt, hwt, tbt, y1t, y2t, y3t, hOt⟩, l0t, hCt⟩ := hX.2.2.2.2.2 s2 hs2t
        have hzst : zsy z.toInt := ⟨by omega, by omega⟩
        have htnt : z.toInt.toNat = s2 := by omega
        obtain ⟨pbt, qbt, rest, cmpt, dgt, cht, ⟨h_bt, h_dt, h_ct, hkNt, hokt, hpt, hqt, hrest, hdgt⟩, hcht, hcmpt⟩ := id hBst
        have hknt : 15 + 13 * s2 < Z.1 := by omega
        have hk0t : 16 + 13 * s2 < Z.1 := by omega
        have hk1t : 16 + 13 * s2 + 1 < Z.1 := by omega
        have hk2t : 16 + 13 * s2 + 2 < Z.1 := by omega
        have hPbt := zP_bd hokt
        have hn12t := hokt.2.2.2.1
        have hq1t := hokt.2.1
        refine lv_astore (lv' := [(7, .ref (Z.2.1 (15 + 13 * s2))), (6, .null), (5, .null), (0, .ref (Z.2.1 0)), (1, .int x), (2, .int y), (3, .int z), (4, .int u)]) hx hb dX9_compare_19 hl (by decide) rfl (fun ls hl => ?_)
        refine lv_aload_n hx hb dX9_compare_21 rfl (lv_at hl 3 rfl) ?_
        refine lv_iload hx hb dX9_compare_22 (lv_at hl 7 rfl) ?_
        refine z_callq (z_runV (As := [.int u]) (rest := []) ⟨hx, hb, hml, hown, hts⟩ hK hS ((k_rowAt Z g h0 u) l _) gX9_compare_X9_rowAt rfl 1 (by decide +kernel) ⟨Nat.le_of_ble_eq_true rfl, Nat.le_of_ble_eq_true rfl⟩ h_x hN0 rfl rfl hl.1 rfl (Nat.le_of_ble_eq_true rfl) dX9_compare_24 ⟨Nat.le_of_ble_eq_true rfl, Nat.le_of_ble_eq_true rfl⟩) hS (fun r_50 g_51 H locs hp_52 hS => ?_)
        obtain ⟨rfl, hp_52⟩ := hp_52
        rcases hp_52 with ⟨r2, hs2q, hsvq, erq⟩ | ⟨hnvq, erq⟩
        · subst erq
          have hRq := hX.2.2.2.2.1 r2 hs2q
          obtain ⟨avq, h_rq, h_aq, hkNrq, hnrq, havq⟩ := id hRq
          have hzsq : zro u.toInt := ⟨by omega, by omega⟩
          have htnq : u.toInt.toNat = r2 := by omega
          have hkrq : 9 + 2 * r2 < Z.1 := by omega
          have hkr1q : 9 + 2 * r2 + 1 < Z.1 := by omega
          refine lv_astore (lv' := [(8, .ref (Z.2.1 (9 + 2 * r2))), (7, .ref (Z.2.1 (15 + 13 * s2))), (6, .null), (5, .null), (0, .ref (Z.2.1 0)), (1, .int x), (2, .int y), (3, .int z), (4, .int u)]) hx hb dX9_compare_27 hl (by decide) rfl (fun ls hl => ?_)
          refine lv_aloadN hx hb dX9_compare_29 (lv_at hl 3 rfl) ?_
          refine lv_ifnullN (tgt := 49) hx hb dX9_compare_31 (by decide) ?_
          refine lv_ldc (v := (-1000001)) hx hb hown (hts _ (List.mem_of_getElem? (i := 1) rfl)) dX9_compare_49 ?_
          refine z_iret hx hb hr hlocks hS ?_ dX9_compare_51
          show z_po Z G9 (sp_compare (sg, rw9) x.toInt y.toInt z.toInt u.toInt) _ _
          unfold sp_compare
          rw [zite_f (fun h9 => hnv h9.1)]
          exact ⟨rfl, hX⟩
        · subst erq
          refine lv_astoreN (lv' := [(8, .null), (7, .ref (Z.2.1 (15 + 13 * s2))), (6, .null), (5, .null), (0, .ref (Z.2.1 0)), (1, .int x), (2, .int y), (3, .int z), (4, .int u)]) hx hb dX9_compare_27 hl (by decide) rfl (fun ls hl => ?_)
          refine lv_aloadN hx hb dX9_compare_29 (lv_at hl 3 rfl) ?_
          refine lv_ifnullN (tgt := 49) hx hb dX9_compare_31 (by decide) ?_
          refine lv_ldc (v := (-1000001)) hx hb hown (hts _ (List.mem_of_getElem? (i := 1) rfl)) dX9_compare_49 ?_
          refine z_iret hx hb hr hlocks hS ?_ dX9_compare_51
          show z_po Z G9 (sp_compare (sg, rw9) x.toInt y.toInt z.toInt u.toInt) _ _
          unfold sp_compare
          rw [zite_f (fun h9 => hnv h9.1)]
          exact ⟨rfl, hX⟩
      · subst ert
        refine lv_astoreN (lv' := [(7, .null), (6, .null), (5, .null), (0, .ref (Z.2.1 0)), (1, .int x), (2, .int y), (3, .int z), (4, .int u)]) hx hb dX9_compare_19 hl (by decide) rfl (fun ls hl => ?_)
        refine lv_aload_n hx hb dX9_compare_21 rfl (lv_at hl 3 rfl) ?_
        refine lv_iload hx hb dX9_compare_22 (lv_at hl 7 rfl) ?_
        refine z_callq (z_runV (As := [.int u]) (rest := []) ⟨hx, hb, hml, hown, hts⟩ hK hS ((k_rowAt Z g h0 u) l _) gX9_compare_X9_rowAt rfl 1 (by decide +kernel) ⟨Nat.le_of_ble_eq_true rfl, Nat.le_of_ble_eq_true rfl⟩ h_x hN0 rfl rfl hl.1 rfl (Nat.le_of_ble_eq_true rfl) dX9_compare_24 ⟨Nat.le_of_ble_eq_true rfl, Nat.le_of_ble_eq_true rfl⟩) hS (fun r_53 g_54 H locs hp_55 hS => ?_)
        obtain ⟨rfl, hp_55⟩ := hp_55
        rcases hp_55 with ⟨r2, hs2q, hsvq, erq⟩ | ⟨hnvq, erq⟩
        · subst erq
          have hRq := hX.2.2.2.2.1 r2 hs2q
          obtain ⟨avq, h_rq, h_aq, hkNrq, hnrq, havq⟩ := id hRq
          have hzsq : zro u.toInt := ⟨by omega, by omega⟩
          have htnq : u.toInt.toNat = r2 := by omega
          have hkrq : 9 + 2 * r2 < Z.1 := by omega
          have hkr1q : 9 + 2 * r2 + 1 < Z.1 := by omega
          refine lv_astore (lv' := [(8, .ref (Z.2.1 (9 + 2 * r2))), (7, .null), (6, .null), (5, .null), (0, .ref (Z.2.1 0)), (1, .int x), (2, .int y), (3, .int z), (4, .int u)]) hx hb dX9_compare_27 hl (by decide) rfl (fun ls hl => ?_)
          refine lv_aloadN hx hb dX9_compare_29 (lv_at hl 3 rfl) ?_
          refine lv_ifnullN (tgt := 49) hx hb dX9_compare_31 (by decide) ?_
          refine lv_ldc (v := (-1000001)) hx hb hown (hts _ (List.mem_of_getElem? (i := 1) rfl)) dX9_compare_49 ?_
          refine z_iret hx hb hr hlocks hS ?_ dX9_compare_51
          show z_po Z G9 (sp_compare (sg, rw9) x.toInt y.toInt z.toInt u.toInt) _ _
          unfold sp_compare
          rw [zite_f (fun h9 => hnv h9.1)]
          exact ⟨rfl, hX⟩
        · subst erq
          refine lv_astoreN (lv' := [(8, .null), (7, .null), (6, .null), (5, .null), (0, .ref (Z.2.1 0)), (1, .int x), (2, .int y), (3, .int z), (4, .int u)]) hx hb dX9_compare_27 hl (by decide) rfl (fun ls hl => ?_)
          refine lv_aloadN hx hb dX9_compare_29 (lv_at hl 3 rfl) ?_
          refine lv_ifnullN (tgt := 49) hx hb dX9_compare_31 (by decide) ?_
          refine lv_ldc (v := (-1000001)) hx hb hown (hts _ (List.mem_of_getElem? (i := 1) rfl)) dX9_compare_49 ?_
          refine z_iret hx hb hr hlocks hS ?_ dX9_compare_51
          show z_po Z G9 (sp_compare (sg, rw9) x.toInt y.toInt z.toInt u.toInt) _ _
          unfold sp_compare
          rw [zite_f (fun h9 => hnv h9.1)]
          exact ⟨rfl, hX⟩

theorem in_X9_expandInto_5 : ∀ w ∈ wsX50, w ∈ wsX9_expandInto := by decide +kernel
theorem in_X9_expandInto_6 : ∀ w ∈ wsX60, w ∈ wsX9_expandInto := by decide +kernel
theorem in_X9_expandInto_7 : ∀ w ∈ wsX70, w ∈ wsX9_expandInto := by decide +kernel
set_option maxHeartbeats 4000000 in
set_option maxRecDepth 100000 in
theorem k_expandInto (Z : zT) {G9 : Nat → va_E} (g : Nat → va_E) (sg : Nat → zb) (rw9 : Nat → zr) (hX : z_xw Z G9 g sg rw9) (s1 r1 : Nat) (hs2 : s1 < 2) (hs2r : r1 < 3) (y : Int32) (hym : -100000 ≤ y.toInt ∧ y.toInt ≤ 100000) (hcm : zcm (sg s1)) : z_Mi Z yX9_expandInto wsX9_expandInto 5 113 [.ref (Z.2.1 (15 + 13 * s1)), .int y, .ref (Z.2.1 (9 + 2 * r1))] g (fun r g1 => z_po Z G9 (sp_exp (sg, rw9) s1 y.toInt r1) r g1) := by
  intro l sz
  have h0 := hX.1
  obtain ⟨hN, h_x, ⟨fS, h_x1, hfS⟩, fR, h_x2, hfR⟩ := id h0
  have hN0 : 0 < Z.1 := by omega
  have hN1 : 1 < Z.1 := by omega
  have hN2 : 2 < Z.1 := by omega
  obtain ⟨h_n, hBs, ⟨w1, w2, w3, w4, w5, w6, hW⟩, h_y, ⟨lw, hw, tb, y1, y2, y3, hO⟩, l0, hC⟩ := hX.2.2.2.2.2 s1 hs2
  obtain ⟨pb, qb, res, cmp, dg, ch, ⟨h_b, h_d, h_c, hkN, hok, hp, hq, hres, hdg⟩, hch, hcmp⟩ := id hBs
  have hkn : 15 + 13 * s1 < Z.1 := by omega
  have hk0 : 16 + 13 * s1 < Z.1 := by omega
  have hk1 : 16 + 13 * s1 + 1 < Z.1 := by omega
  have hk2 : 16 + 13 * s1 + 2 < Z.1 := by omega
  have hPb := zP_bd hok
  have hn12 := hok.2.2.2.1
  have hq1 := hok.2.1
  have hRr := hX.2.2.2.2.1 r1 hs2r
  obtain ⟨avr, h_rr, h_ar, hkNrr, hnrr, havr⟩ := id hRr
  have hkrr : 9 + 2 * r1 < Z.1 := by omega
  have hkr1r : 9 + 2 * r1 + 1 < Z.1 := by omega
  obtain ⟨h_w, hkw, hws⟩ := id hW
  refine z_enter (maxL := 7) (ret := (some .int)) (lv := [(0, .ref (Z.2.1 (15 + 13 * s1))), (1, .int y), (2, .ref (Z.2.1 (9 + 2 * r1)))]) (plainFor_of_name (by decide +kernel)) rfl (fun ls h => by subst h; exact lv_entry [.ref (Z.2.1 (15 + 13 * s1)), .int y, .ref (Z.2.1 (9 + 2 * r1))] (n := 7) (Nat.le_of_ble_eq_true rfl)) ?_
  intro p e s m args below meth c hx hb hml hr hlocks hown hts hK hS hsz ls hl
  refine lv_aload_n hx hb dX9_expandInto_0 rfl (lv_at hl 0 rfl) ?_
  refine z_getN (own := RX9) (C := RX5) (T := TX5) (N := 5) hx hb hts in_X9_expandInto_5 hown hK hS h_n hkn rfl 1 (by decide) 3 rfl rfl rfl dX9_expandInto_1 ?_
  refine lv_astore_n (lv' := [(3, .ref (Z.2.1 (19 + 13 * s1))), (0, .ref (Z.2.1 (15 + 13 * s1))), (1, .int y), (2, .ref (Z.2.1 (9 + 2 * r1)))]) hx hb dX9_expandInto_4 rfl hl (by decide) rfl (fun ls hl => ?_)
  refine lv_aload_n hx hb dX9_expandInto_5 rfl (lv_at hl 0 rfl) ?_
  refine lv_iload_n hx hb dX9_expandInto_6 rfl (lv_at hl 2 rfl) ?_
  refine lv_iconst (v := 1) hx hb dX9_expandInto_7 (by decide) ?_
  refine z_callv (z_runVN (As := [.int y, .int 1]) (rest := []) (C := RX7) ⟨hx, hb, hml, hown, hts⟩ hK hS ((k_begin Z g (19 + 13 * s1) (16 + 13 * s1) (sg s1) w1 w2 w3 w4 w5 w6 ⟨h_w, hkw, hws⟩ ⟨pb, qb, res, cmp, dg, ch, ⟨h_b, h_d, h_c, hkN, hok, hp, hq, hres, hdg⟩, hch⟩ hcm y 1 hym (by rw [tI_1]; omega) (by rw [tI_1]; exact z_inv_1 ⟨hPb.1, hPb.2.1⟩) (zmu (sg s1) 1 y.toInt) (zla (sg s1) 1 y.toInt) (by rw [tI_1]; exact (zmula hok (by omega) hym).1) (zmula hok (by omega) hym).2) l _) gX9_expandInto_X7_begin_n140 rfl 2 5 rfl (List.mem_of_getElem? (i := 4) rfl) (List.mem_of_getElem? (i := 3) rfl) (List.mem_of_getElem? (i := 5) rfl) (by decide +kernel) ⟨Nat.le_of_ble_eq_true rfl, Nat.le_of_ble_eq_true rfl⟩ h_w hkw rfl rfl hl.1 rfl (Nat.le_of_ble_eq_true rfl) dX9_expandInto_8 ⟨Nat.le_of_ble_eq_true rfl, Nat.le_of_ble_eq_true rfl⟩) hS (fun g_2 H locs hp_3 hS => ?_)
  obtain ⟨iv9, en9, hok9, hen9, hfr_4, h_w⟩ := hp_3
  have h_x := (hfr_4 _ (by omega)).trans h_x
  have h_x1 := (hfr_4 _ (by omega)).trans h_x1
  have h_x2 := (hfr_4 _ (by omega)).trans h_x2
  have h_n := (hfr_4 _ (by omega)).trans h_n
  have h_b := (hfr_4 _ (by omega)).trans h_b
  have h_d := (hfr_4 _ (by omega)).trans h_d
  have h_c := (hfr_4 _ (by omega)).trans h_c
  have h_rr := (hfr_4 _ (by omega)).trans h_rr
  have h_ar := (hfr_4 _ (by omega)).trans h_ar
  have hX := hX.walk hs2 hfr_4 ⟨h_w, hkw, hws⟩
  rw [tI_1] at hok9 hen9
  have hper9 := (zmula hok (nn := 1) (by omega) hym).1
  have hml9 := (zmula hok (nn := 1) (by omega) hym).2
  refine lv_aload_n hx hb dX9_expandInto_11 rfl (lv_at hl 0 rfl) ?_
  refine z_calli (z_runVN (As := []) (rest := []) (C := RX7) ⟨hx, hb, hml, hown, hts⟩ hK hS ((k_isFinite Z g_2 (19 + 13 * s1) (16 + 13 * s1) y 1 iv9 (nI (zmu (sg s1) 1 y.toInt)) (nI (zla (sg s1) 1 y.toInt)) en9 ⟨h_w, hkw, hws⟩) l _) gX9_expandInto_X7_isFinite_n274 rfl 0 29 rfl (List.mem_of_getElem? (i := 4) rfl) (List.mem_of_getElem? (i := 53) rfl) (List.mem_of_getElem? (i := 54) rfl) (by decide +kernel) ⟨Nat.le_of_ble_eq_true rfl, Nat.le_of_ble_eq_true rfl⟩ h_w hkw rfl rfl hl.1 rfl (Nat.le_of_ble_eq_true rfl) dX9_expandInto_12 ⟨Nat.le_of_ble_eq_true rfl, Nat.le_of_ble_eq_true rfl⟩) hS (fun rf9 g_5 H locs hp_6 hS => ?_)
  obtain ⟨rfl, hp_6⟩ := hp_6
  have hrf := hp_6
  rw [hen9, nI_toInt (by omega)] at hrf
  refine lv_if_ne (tgt := 21) hx hb dX9_expandInto_15 (by decide) (fun c_7 => ?_) (fun c_7 => ?_)
  · have i_7 := z_ne c_7
    rw [tI_0] at i_7
    have hfin0 := zbo_t hrf c_7
    have hfin : zor (zst (sg s1) 1) y.toInt (zmu (sg s1) 1 y.toInt) = 0 ∧ zla (sg s1) 1 y.toInt = 1 := ⟨hfin0.1, by omega⟩
    refine lv_aload_n hx hb dX9_expandInto_21 rfl (lv_at hl 0 rfl) ?_
    refine z_getN (own := RX9) (C := RX7) (T := TX7) (N := 7) hx hb hts in_X9_expandInto_7 hown hK hS h_w hkw rfl 4 (by decide) 11 rfl rfl rfl dX9_expandInto_22 ?_
    refine lv_bipush (v := 12) hx hb dX9_expandInto_25 (by decide) ?_
    refine lv_icmp_le (tgt := 33) hx hb dX9_expandInto_27 (by decide) (fun c_8 => ?_) (fun c_8 => ?_)
    · have i_8 := z_le c_8
      rw [nI_toInt (by omega)] at i_8
      rw [tI_12] at i_8
      refine lv_aload_n hx hb dX9_expandInto_33 rfl (lv_at hl 0 rfl) ?_
      refine z_getN (own := RX9) (C := RX7) (T := TX7) (N := 7) hx hb hts in_X9_expandInto_7 hown hK hS h_w hkw rfl 4 (by decide) 11 rfl rfl rfl dX9_expandInto_34 ?_
      refine lv_istore (lv' := [(4, .int (nI (zmu (sg s1) 1 y.toInt))), (3, .ref (Z.2.1 (19 + 13 * s1))), (0, .ref (Z.2.1 (15 + 13 * s1))), (1, .int y), (2, .ref (Z.2.1 (9 + 2 * r1)))]) hx hb dX9_expandInto_37 hl (by decide) rfl (fun ls hl => ?_)
      refine lv_iload_n hx hb dX9_expandInto_39 rfl (lv_at hl 3 rfl) ?_
      refine lv_istore (lv' := [(5, .int y), (4, .int (nI (zmu (sg s1) 1 y.toInt))), (3, .ref (Z.2.1 (19 + 13 * s1))), (0, .ref (Z.2.1 (15 + 13 * s1))), (1, .int y), (2, .ref (Z.2.1 (9 + 2 * r1)))]) hx hb dX9_expandInto_40 hl (by decide) rfl (fun ls hl => ?_)
      refine lv_aload_n hx hb dX9_expandInto_42 rfl (lv_at hl 5 rfl) ?_
      refine lv_iconst (v := 0) hx hb dX9_expandInto_43 (by decide) ?_
      refine z_putN (fs' := [.ref (Z.2.1 (9 + 2 * r1 + 1)), .int 0]) (own := RX9) (C := RX6) (T := TX6) (N := 2) hx hb hts in_X9_expandInto_6 tyX6 tyX6_ok nmX6 hown hK hS h_rr hkrr rfl 1 (by decide) 6 rfl rfl rfl rfl rfl (Nat.le_of_ble_eq_true rfl) rfl dX9_expandInto_44 (fun g_9 H locs hg_9 hS => ?_)
      have h_rr : g_9 (9 + 2 * r1) = .inr (6, [.ref (Z.2.1 (9 + 2 * r1 + 1)), .int 0]) := z_up_s hg_9
      have h_x := z_up_n hg_9 h_x (by omega)
      have h_x1 := z_up_n hg_9 h_x1 (by omega)
      have h_x2 := z_up_n hg_9 h_x2 (by omega)
      have h_n := z_up_n hg_9 h_n (by omega)
      have h_b := z_up_n hg_9 h_b (by omega)
      have h_d := z_up_n hg_9 h_d (by omega)
      have h_c := z_up_n hg_9 h_c (by omega)
      have h_ar := z_up_n hg_9 h_ar (by omega)
      have h_w := z_up_n hg_9 h_w (by omega)
      refine lv_iconst (v := 0) hx hb dX9_expandInto_47 (by decide) ?_
      refine lv_istore (lv' := [(6, .int 0), (5, .int y), (4, .int (nI (zmu (sg s1) 1 y.toInt))), (3, .ref (Z.2.1 (19 + 13 * s1))), (0, .ref (Z.2.1 (15 + 13 * s1))), (1, .int y), (2, .ref (Z.2.1 (9 + 2 * r1)))]) hx hb dX9_expandInto_48 hl (by decide) rfl (fun ls hl => ?_)
      have hcut_50 : ∀ (nn_50 : Nat) (j : Nat) (x5 : Int32) (ga : Nat → va_E) (h_x : ga 0 = .inr (9, [.ref (Z.2.1 1), .ref (Z.2.1 2), .ref (Z.2.1 3), .ref (Z.2.1 7), .ref (Z.2.1 8)])) (h_x1 : ga 1 = .inl (Z.2.2.2 3, 2, .inr (.inr (.inr (.inr fS))))) (h_x2 : ga 2 = .inl (Z.2.2.2 4, 3, .inr (.inr (.inr (.inr fR))))) (h_n : ga (15 + 13 * s1) = .inr (5, [.ref (Z.2.1 (16 + 13 * s1)), .ref (Z.2.1 (19 + 13 * s1)), .ref (Z.2.1 (20 + 13 * s1)), .ref (Z.2.1 (21 + 13 * s1)), .ref (Z.2.1 (25 + 13 * s1))])) (h_b : ga (16 + 13 * s1) = .inr (0, [.int pb, .int qb, .int res, .int (nI (sg s1).2.2.1), .int cmp, .ref (Z.2.1 (16 + 13 * s1 + 1)), .ref (Z.2.1 (16 + 13 * s1 + 2))])) (h_d : ga (16 + 13 * s1 + 1) = .inl (Z.2.2.2 0, 12, .inl dg)) (h_c : ga (16 + 13 * s1 + 2) = .inl (Z.2.2.2 0, 10, .inl ch)) (h_rr : ga (9 + 2 * r1) = .inr (6, [.ref (Z.2.1 (9 + 2 * r1 + 1)), .int (nI j)])) (h_w : ga (19 + 13 * s1) = .inr (7, [.ref (Z.2.1 (16 + 13 * s1)), .int y, .int 1, .int iv9, .int (nI (zmu (sg s1) 1 y.toInt)), .int (nI (zla (sg s1) 1 y.toInt)), .int en9])) (hfr_ga : z_fr (9 + 2 * r1) 2 g_2 ga) (hj : j ≤ zmu (sg s1) 1 y.toInt) (hx5 : x5.toInt = zor (zst (sg s1) 1) y.toInt j) (hRw : z_row Z ga (9 + 2 * r1) (j, (fun i => zsd (sg s1) 1 (zor (zst (sg s1) 1) y.toInt i)))) (hm_50 : zmu (sg s1) 1 y.toInt - j < nn_50) (H : Heap) (locs : List Loc) (ls : Array Slot), z_S Z (z_A Z sz) s.heap ga H locs → lv_has ls 7 [(0, .ref (Z.2.1 (15 + 13 * s1))), (1, .int y), (2, .ref (Z.2.1 (9 + 2 * r1))), (3, .ref (Z.2.1 (19 + 13 * s1))), (4, .int (nI (zmu (sg s1) 1 y.toInt))), (5, .int x5), (6, .int (nI j))] → W p l e (headSpec wsX9_expandInto (z_rm 5 113)).room s m args below meth c H locs 0 0 (MQ below (va_Qi (fun r g1 => z_po Z G9 (sp_exp (sg, rw9) s1 y.toInt r1) r g1) (z_B Z) (z_A Z sz)) args s 0 0 (z_A Z sz)) (F0 m 50 ls []) := by
        intro nn_50
        induction nn_50 with
        | zero => intro j x5 ga h_x h_x1 h_x2 h_n h_b h_d h_c h_rr h_w hfr_ga hj hx5 hRw hm_50 H locs ls hS hl; exact absurd hm_50 (Nat.not_lt_zero _)
        | succ nn_50 ih_50 =>
          intro j x5 ga h_x h_x1 h_x2 h_n h_b h_d h_c h_rr h_w hfr_ga hj hx5 hRw hm_50 H locs ls hS hl
          refine lv_iload hx hb dX9_expandInto_50 (lv_at hl 6 rfl) ?_
          refine lv_iload hx hb dX9_expandInto_52 (lv_at hl 4 rfl) ?_
          refine lv_icmp_ge (tgt := 81) hx hb dX9_expandInto_54 (by decide) (fun c_10 => ?_) (fun c_10 => ?_)
          · have i_10 := z_le c_10
            rw [nI_toInt (by omega)] at i_10
            rw [nI_toInt (by omega)] at i_10
            have hjm : j = zmu (sg s1) 1 y.toInt := by omega
            refine lv_aload_n hx hb dX9_expandInto_81 rfl (lv_at hl 2 rfl) ?_
            refine z_getN (own := RX9) (C := RX6) (T := TX6) (N := 2) hx hb hts in_X9_expandInto_6 hown hK hS h_rr hkrr rfl 1 (by decide) 6 rfl rfl rfl dX9_expandInto_82 ?_
            refine z_iret hx hb hr hlocks hS ?_ dX9_expandInto_85
            show z_po Z G9 (sp_exp (sg, rw9) s1 y.toInt r1) _ _
            unfold sp_exp
            rw [zite_t hfin, zite_t (show zmu (sg s1) 1 y.toInt ≤ 12 by omega), ← hjm]
            exact ⟨nI_toInt (by omega), hX.row hs2r hfr_ga hRw⟩
          · have i_10 := z_nle c_10
            rw [nI_toInt (by omega)] at i_10
            rw [nI_toInt (by omega)] at i_10
            have hxb := zor_bd hok (nn := 1) (by omega) hym j
            rw [← hx5] at hxb
            refine lv_aload_n hx hb dX9_expandInto_57 rfl (lv_at hl 2 rfl) ?_
            refine lv_aload_n hx hb dX9_expandInto_58 rfl (lv_at hl 3 rfl) ?_
            refine lv_iload hx hb dX9_expandInto_59 (lv_at hl 5 rfl) ?_
            refine z_calli (z_runVN (As := [.int x5]) (rest := [.ref (Z.2.1 (9 + 2 * r1))]) (C := RX7) ⟨hx, hb, hml, hown, hts⟩ hK hS ((k_digitOf Z ga (19 + 13 * s1) (16 + 13 * s1) (sg s1) y 1 iv9 (nI (zmu (sg s1) 1 y.toInt)) (nI (zla (sg s1) 1 y.toInt)) en9 ⟨h_w, hkw, hws⟩ ⟨pb, qb, res, cmp, dg, ch, ⟨h_b, h_d, h_c, hkN, hok, hp, hq, hres, hdg⟩, hch⟩ 1 hok9 x5 hxb) l _) gX9_expandInto_X7_digitOf_n265 rfl 1 28 rfl (List.mem_of_getElem? (i := 4) rfl) (List.mem_of_getElem? (i := 56) rfl) (List.mem_of_getElem? (i := 57) rfl) (by decide +kernel) ⟨Nat.le_of_ble_eq_true rfl, Nat.le_of_ble_eq_true rfl⟩ h_w hkw rfl rfl hl.1 rfl (Nat.le_of_ble_eq_true rfl) dX9_expandInto_61 ⟨Nat.le_of_ble_eq_true rfl, Nat.le_of_ble_eq_true rfl⟩) hS (fun dd g_11 H locs hp_12 hS => ?_)
            obtain ⟨rfl, hp_12⟩ := hp_12
            have hdd := hp_12
            have hdb := zsd_bd hok 1 x5.toInt
            rw [← hdd] at hdb
            rw [hx5] at hdd
            refine z_callv (z_runVN (As := [.int dd]) (rest := []) (C := RX6) ⟨hx, hb, hml, hown, hts⟩ hK hS ((k_rappend Z ga (9 + 2 * r1) (j, (fun i => zsd (sg s1) 1 (zor (zst (sg s1) 1) y.toInt i))) hRw dd hdb (by show j < 12; omega)) l _) gX9_expandInto_X6_append_n181 rfl 1 11 rfl (List.mem_of_getElem? (i := 60) rfl) (List.mem_of_getElem? (i := 59) rfl) (List.mem_of_getElem? (i := 61) rfl) (by decide +kernel) ⟨Nat.le_of_ble_eq_true rfl, Nat.le_of_ble_eq_true rfl⟩ h_rr hkrr rfl rfl hl.1 rfl (Nat.le_of_ble_eq_true rfl) dX9_expandInto_64 ⟨Nat.le_of_ble_eq_true rfl, Nat.le_of_ble_eq_true rfl⟩) hS (fun g_14 H locs hp_15 hS => ?_)
            obtain ⟨hR2, hfr_16⟩ := hp_15
            have h_x := (hfr_16 _ (by omega)).trans h_x
            have h_x1 := (hfr_16 _ (by omega)).trans h_x1
            have h_x2 := (hfr_16 _ (by omega)).trans h_x2
            have h_n := (hfr_16 _ (by omega)).trans h_n
            have h_b := (hfr_16 _ (by omega)).trans h_b
            have h_d := (hfr_16 _ (by omega)).trans h_d
            have h_c := (hfr_16 _ (by omega)).trans h_c
            have h_w := (hfr_16 _ (by omega)).trans h_w
            have hR3 := z_row_ext (c := (fun i => zsd (sg s1) 1 (zor (zst (sg s1) 1) y.toInt i))) hR2 (fun t ht => by
              by_cases h9 : t = j
              · rw [if_pos h9, h9]; exact hdd
              · rw [if_neg h9])
            obtain ⟨av3, h_rr, -⟩ := id hR3
            refine lv_aload_n hx hb dX9_expandInto_67 rfl (lv_at hl 3 rfl) ?_
            refine lv_iload hx hb dX9_expandInto_68 (lv_at hl 5 rfl) ?_
            refine z_calli (z_runVN (As := [.int x5]) (rest := []) (C := RX7) ⟨hx, hb, hml, hown, hts⟩ hK hS ((k_after Z g_14 (19 + 13 * s1) (16 + 13 * s1) (sg s1) y 1 iv9 (nI (zmu (sg s1) 1 y.toInt)) (nI (zla (sg s1) 1 y.toInt)) en9 ⟨h_w, hkw, hws⟩ ⟨pb, qb, res, cmp, dg, ch, ⟨h_b, h_d, h_c, hkN, hok, hp, hq, hres, hdg⟩, hch⟩ 1 hok9 x5 hxb) l _) gX9_expandInto_X7_after_n277 rfl 1 30 rfl (List.mem_of_getElem? (i := 4) rfl) (List.mem_of_getElem? (i := 31) rfl) (List.mem_of_getElem? (i := 32) rfl) (by decide +kernel) ⟨Nat.le_of_ble_eq_true rfl, Nat.le_of_ble_eq_true rfl⟩ h_w hkw rfl rfl hl.1 rfl (Nat.le_of_ble_eq_true rfl) dX9_expandInto_70 ⟨Nat.le_of_ble_eq_true rfl, Nat.le_of_ble_eq_true rfl⟩) hS (fun xn g_17 H locs hp_18 hS => ?_)
            obtain ⟨rfl, hp_18⟩ := hp_18
            have hxn : xn.toInt = zor (zst (sg s1) 1) y.toInt (j + 1) := by rw [hp_18, hx5]; rfl
            refine lv_istore (lv' := [(5, .int xn), (0, .ref (Z.2.1 (15 + 13 * s1))), (1, .int y), (2, .ref (Z.2.1 (9 + 2 * r1))), (3, .ref (Z.2.1 (19 + 13 * s1))), (4, .int (nI (zmu (sg s1) 1 y.toInt))), (6, .int (nI j))]) hx hb dX9_expandInto_73 hl (by decide) rfl (fun ls hl => ?_)
            refine lv_iinc (v := (nI (j + 1))) (lv' := [(6, .int (nI (j + 1))), (5, .int xn), (0, .ref (Z.2.1 (15 + 13 * s1))), (1, .int y), (2, .ref (Z.2.1 (9 + 2 * r1))), (3, .ref (Z.2.1 (19 + 13 * s1))), (4, .int (nI (zmu (sg s1) 1 y.toInt)))]) hx hb dX9_expandInto_75 hl (k := 6) rfl (nI_1 _) (by decide) rfl (fun ls hl => ?_)
            refine lv_goto (tgt := 50) hx hb dX9_expandInto_78 (by decide) ?_
            exact ih_50 (j + 1) xn g_14 h_x h_x1 h_x2 h_n h_b h_d h_c h_rr h_w (hfr_ga.tr (hfr_16.wide (by omega) (by omega))) (by omega) hxn hR3 (by omega) _ _ _ hS (lv_sub hl [2, 3, 4, 5, 6, 1, 0] rfl)
      exact hcut_50 (zmu (sg s1) 1 y.toInt - 0 + 1) 0 y g_9 h_x h_x1 h_x2 h_n h_b h_d h_c h_rr h_w (z_fr.rf.up hg_9 (by omega)) (by omega) rfl ⟨avr, h_rr, h_ar, hkNrr, by omega, fun t ht => absurd ht (Nat.not_lt_zero t)⟩ (Nat.lt_succ_self _) _ _ _ hS (lv_sub hl [4, 5, 6, 3, 2, 1, 0] rfl)
    · have i_8 := z_nle c_8
      rw [nI_toInt (by omega)] at i_8
      rw [tI_12] at i_8
      refine lv_ldc (v := (-1000005)) hx hb hown (hts _ (List.mem_of_getElem? (i := 2) rfl)) dX9_expandInto_30 ?_
      refine z_iret hx hb hr hlocks hS ?_ dX9_expandInto_32
      show z_po Z G9 (sp_exp (sg, rw9) s1 y.toInt r1) _ _
      unfold sp_exp
      rw [zite_t hfin, zite_f (show ¬ zmu (sg s1) 1 y.toInt ≤ 12 by omega)]
      exact ⟨rfl, hX⟩
  · have i_7 := z_eq c_7
    rw [tI_0] at i_7
    have hfin0 := zbo_f hrf c_7
    have hfin : ¬ (zor (zst (sg s1) 1) y.toInt (zmu (sg s1) 1 y.toInt) = 0 ∧ zla (sg s1) 1 y.toInt = 1) := fun h9 => hfin0 ⟨h9.1, by omega⟩
    refine lv_ldc (v := (-1000004)) hx hb hown (hts _ (List.mem_of_getElem? (i := 1) rfl)) dX9_expandInto_18 ?_
    refine z_iret hx hb hr hlocks hS ?_ dX9_expandInto_20
    show z_po Z G9 (sp_exp (sg, rw9) s1 y.toInt r1) _ _
    unfold sp_exp
    rw [zite_f hfin]
    exact ⟨rfl, hX⟩

theorem in_X9_load_0 : ∀ w ∈ wsX00, w ∈ wsX9_load := by decide +kernel
theorem in_X9_load_5 : ∀ w ∈ wsX50, w ∈ wsX9_load := by decide +kernel
set_option maxHeartbeats 4000000 in
set_option maxRecDepth 100000 in
theorem k_load (Z : zT) {G9 : Nat → va_E} (g : Nat → va_E) (sg : Nat → zb) (rw9 : Nat → zr) (hX : z_xw Z G9 g sg rw9) (x y z : Int32) : z_Mi Z yX9_load wsX9_load 6 139 [.ref (Z.2.1 0), .int x, .int y, .int z] g (fun r g1 => z_po Z G9 (sp_load (sg, rw9) x.toInt y.toInt z.toInt) r g1) := by
  intro l sz
  have h0 := hX.1
  obtain ⟨hN, h_x, ⟨fS, h_x1, hfS⟩, fR, h_x2, hfR⟩ := id h0
  have hN0 : 0 < Z.1 := by omega
  have hN1 : 1 < Z.1 := by omega
  have hN2 : 2 < Z.1 := by omega
  obtain ⟨fa1, fa2, h_f⟩ := hX.2.2.1.1
  obtain ⟨fb1, fb2, h_f2⟩ := hX.2.2.2.1
  obtain ⟨vc1, svc, w0c, h_k, h_s, hkN3, hw0⟩ := id hX.2.1
  have hN7 : 7 < Z.1 := by omega
  have hN8 : 8 < Z.1 := by omega
  have hN3 : 3 < Z.1 := by omega
  refine z_enter (maxL := 6) (ret := (some .int)) (lv := [(0, .ref (Z.2.1 0)), (1, .int x), (2, .int y), (3, .int z)]) (plainFor_of_name (by decide +kernel)) rfl (fun ls h => by subst h; exact lv_entry [.ref (Z.2.1 0), .int x, .int y, .int z] (n := 6) (Nat.le_of_ble_eq_true rfl)) ?_
  intro p e s m args below meth c hx hb hml hr hlocks hown hts hK hS hsz ls hl
  refine lv_aload_n hx hb dX9_load_0 rfl (lv_at hl 0 rfl) ?_
  refine lv_iload_n hx hb dX9_load_1 rfl (lv_at hl 1 rfl) ?_
  refine z_callq (z_runV (As := [.int x]) (rest := []) ⟨hx, hb, hml, hown, hts⟩ hK hS ((k_systemAt Z g h0 x) l _) gX9_load_X9_systemAt rfl 1 (by decide +kernel) ⟨Nat.le_of_ble_eq_true rfl, Nat.le_of_ble_eq_true rfl⟩ h_x hN0 rfl rfl hl.1 rfl (Nat.le_of_ble_eq_true rfl) dX9_load_2 ⟨Nat.le_of_ble_eq_true rfl, Nat.le_of_ble_eq_true rfl⟩) hS (fun r_1 g_2 H locs hp_3 hS => ?_)
  obtain ⟨rfl, hp_3⟩ := hp_3
  rcases hp_3 with ⟨s1, hs2, hsv, er⟩ | ⟨hnv, er⟩
  · subst er
    obtain ⟨h_n, hBs, ⟨w1, w2, w3, w4, w5, w6, hW⟩, h_y, ⟨lw, hw, tb, y1, y2, y3, hO⟩, l0, hC⟩ := hX.2.2.2.2.2 s1 hs2
    have hzs : zsy x.toInt := ⟨by omega, by omega⟩
    have htn : x.toInt.toNat = s1 := by omega
    obtain ⟨pb, qb, res, cmp, dg, ch, ⟨h_b, h_d, h_c, hkN, hok, hp, hq, hres, hdg⟩, hch, hcmp⟩ := id hBs
    have hkn : 15 + 13 * s1 < Z.1 := by omega
    have hk0 : 16 + 13 * s1 < Z.1 := by omega
    have hk1 : 16 + 13 * s1 + 1 < Z.1 := by omega
    have hk2 : 16 + 13 * s1 + 2 < Z.1 := by omega
    have hPb := zP_bd hok
    have hn12 := hok.2.2.2.1
    have hq1 := hok.2.1
    refine lv_astore (lv' := [(4, .ref (Z.2.1 (15 + 13 * s1))), (0, .ref (Z.2.1 0)), (1, .int x), (2, .int y), (3, .int z)]) hx hb dX9_load_5 hl (by decide) rfl (fun ls hl => ?_)
    refine lv_aload_n hx hb dX9_load_7 rfl (lv_at hl 1 rfl) ?_
    refine lv_iload_n hx hb dX9_load_8 rfl (lv_at hl 4 rfl) ?_
    refine z_callq (z_runV (As := [.int z]) (rest := []) ⟨hx, hb, hml, hown, hts⟩ hK hS ((k_rowAt Z g h0 z) l _) gX9_load_X9_rowAt rfl 1 (by decide +kernel) ⟨Nat.le_of_ble_eq_true rfl, Nat.le_of_ble_eq_true rfl⟩ h_x hN0 rfl rfl hl.1 rfl (Nat.le_of_ble_eq_true rfl) dX9_load_9 ⟨Nat.le_of_ble_eq_true rfl, Nat.le_of_ble_eq_true rfl⟩) hS (fun r_4 g_5 H locs hp_6 hS => ?_)
    obtain ⟨rfl, hp_6⟩ := hp_6
    rcases hp_6 with ⟨r1, hs2r, hsvr, err⟩ | ⟨hnvr, err⟩
    · subst err
      have hRr := hX.2.2.2.2.1 r1 hs2r
      obtain ⟨avr, h_rr, h_ar, hkNrr, hnrr, havr⟩ := id hRr
      have hzsr : zro z.toInt := ⟨by omega, by omega⟩
      have htnr : z.toInt.toNat = r1 := by omega
      have hkrr : 9 + 2 * r1 < Z.1 := by omega
      have hkr1r : 9 + 2 * r1 + 1 < Z.1 := by omega
      refine lv_astore (lv' := [(5, .ref (Z.2.1 (9 + 2 * r1))), (4, .ref (Z.2.1 (15 + 13 * s1))), (0, .ref (Z.2.1 0)), (1, .int x), (2, .int y), (3, .int z)]) hx hb dX9_load_12 hl (by decide) rfl (fun ls hl => ?_)
      refine lv_aload hx hb dX9_load_14 (lv_at hl 1 rfl) ?_
      refine lv_ifnull hx hb dX9_load_16 ?_
      refine lv_aload hx hb dX9_load_19 (lv_at hl 0 rfl) ?_
      refine lv_ifnonnull (tgt := 27) hx hb dX9_load_21 (by decide) ?_
      refine lv_iload_n hx hb dX9_load_27 rfl (lv_at hl 4 rfl) ?_
      refine lv_ldc (v := 100000) hx hb hown (hts _ (List.mem_of_getElem? (i := 2) rfl)) dX9_load_28 ?_
      refine z_calli (z_runS (As := [.int y, .int 100000]) (rest := []) ⟨hx, hb, hml, hown, hts⟩ hK hS ((k_isWithin Z g y 100000 (by rw [tI_100000]; omega)) l _) gX9_load_X9_isWithin rfl 2 (by decide +kernel) ⟨Nat.le_of_ble_eq_true rfl, Nat.le_of_ble_eq_true rfl⟩ rfl hl.1 rfl (Nat.le_of_ble_eq_true rfl) dX9_load_30 ⟨Nat.le_of_ble_eq_true rfl, Nat.le_of_ble_eq_true rfl⟩) hS (fun rb g_7 H locs hp_8 hS => ?_)
      obtain ⟨rfl, hp_8⟩ := hp_8
      have hrb := hp_8
      rw [tI_100000] at hrb
      refine lv_if_ne (tgt := 39) hx hb dX9_load_33 (by decide) (fun c_9 => ?_) (fun c_9 => ?_)
      · have i_9 := z_ne c_9
        rw [tI_0] at i_9
        have hym := zbo_t hrb c_9
        refine lv_aload hx hb dX9_load_39 (lv_at hl 1 rfl) ?_
        refine z_getN (own := RX9) (C := RX5) (T := TX5) (N := 5) hx hb hts in_X9_load_5 hown hK hS h_n hkn rfl 0 (by decide) 14 rfl rfl rfl dX9_load_41 ?_
        refine z_getN (own := RX9) (C := RX0) (T := TX0) (N := 7) hx hb hts in_X9_load_0 hown hK hS h_b hk0 rfl 4 (by decide) 1 rfl rfl rfl dX9_load_44 ?_
        refine lv_if_ne (tgt := 53) hx hb dX9_load_47 (by decide) (fun c_10 => ?_) (fun c_10 => ?_)
        · have i_10 := z_ne c_10
          rw [tI_0] at i_10
          have hcm := zbo_t hcmp c_10
          refine lv_aload hx hb dX9_load_53 (lv_at hl 1 rfl) ?_
          refine lv_iload_n hx hb dX9_load_55 rfl (lv_at hl 4 rfl) ?_
          refine lv_aload hx hb dX9_load_56 (lv_at hl 0 rfl) ?_
          refine z_calli (z_runS (As := [.ref (Z.2.1 (15 + 13 * s1)), .int y, .ref (Z.2.1 (9 + 2 * r1))]) (rest := []) ⟨hx, hb, hml, hown, hts⟩ hK hS ((k_expandInto Z g sg rw9 hX s1 r1 hs2 hs2r y hym hcm) l _) gX9_load_X9_expandInto rfl 3 (by decide +kernel) ⟨Nat.le_of_ble_eq_true rfl, Nat.le_of_ble_eq_true rfl⟩ rfl hl.1 rfl (Nat.le_of_ble_eq_true rfl) dX9_load_58 ⟨Nat.le_of_ble_eq_true rfl, Nat.le_of_ble_eq_true rfl⟩) hS (fun re g_11 H locs hp_12 hS => ?_)
          have hpo := hp_12
          refine z_iret hx hb hr hlocks hS ?_ dX9_load_61
          show z_po Z G9 (sp_load (sg, rw9) x.toInt y.toInt z.toInt) _ _
          unfold sp_load
          rw [zite_t ⟨hzs, hzsr⟩, zite_t hym, htn, htnr, zite_t hcm]
          exact hpo
        · have i_10 := z_eq c_10
          rw [tI_0] at i_10
          have hncm := zbo_f hcmp c_10
          refine lv_ldc (v := (-1000003)) hx hb hown (hts _ (List.mem_of_getElem? (i := 4) rfl)) dX9_load_50 ?_
          refine z_iret hx hb hr hlocks hS ?_ dX9_load_52
          show z_po Z G9 (sp_load (sg, rw9) x.toInt y.toInt z.toInt) _ _
          unfold sp_load
          rw [zite_t ⟨hzs, hzsr⟩, zite_t hym, htn, zite_f hncm]
          exact ⟨rfl, hX⟩
      · have i_9 := z_eq c_9
        rw [tI_0] at i_9
        have hbad := zbo_f hrb c_9
        refine lv_ldc (v := (-1000002)) hx hb hown (hts _ (List.mem_of_getElem? (i := 3) rfl)) dX9_load_36 ?_
        refine z_iret hx hb hr hlocks hS ?_ dX9_load_38
        show z_po Z G9 (sp_load (sg, rw9) x.toInt y.toInt z.toInt) _ _
        unfold sp_load
        rw [zite_t ⟨hzs, hzsr⟩, zite_f hbad]
        exact ⟨rfl, hX⟩
    · subst err
      refine lv_astoreN (lv' := [(5, .null), (4, .ref (Z.2.1 (15 + 13 * s1))), (0, .ref (Z.2.1 0)), (1, .int x), (2, .int y), (3, .int z)]) hx hb dX9_load_12 hl (by decide) rfl (fun ls hl => ?_)
      refine lv_aload hx hb dX9_load_14 (lv_at hl 1 rfl) ?_
      refine lv_ifnull hx hb dX9_load_16 ?_
      refine lv_aloadN hx hb dX9_load_19 (lv_at hl 0 rfl) ?_
      refine lv_ifnonnullN hx hb dX9_load_21 ?_
      refine lv_ldc (v := (-1000001)) hx hb hown (hts _ (List.mem_of_getElem? (i := 1) rfl)) dX9_load_24 ?_
      refine z_iret hx hb hr hlocks hS ?_ dX9_load_26
      show z_po Z G9 (sp_load (sg, rw9) x.toInt y.toInt z.toInt) _ _
      unfold sp_load
      rw [zite_f (fun h9 => hnvr h9.2)]
      exact ⟨rfl, hX⟩
  · subst er
    refine lv_astoreN (lv' := [(4, .null), (0, .ref (Z.2.1 0)), (1, .int x), (2, .int y), (3, .int z)]) hx hb dX9_load_5 hl (by decide) rfl (fun ls hl => ?_)
    refine lv_aload_n hx hb dX9_load_7 rfl (lv_at hl 1 rfl) ?_
    refine lv_iload_n hx hb dX9_load_8 rfl (lv_at hl 4 rfl) ?_
    refine z_callq (z_runV (As := [.int z]) (rest := []) ⟨hx, hb, hml, hown, hts⟩ hK hS ((k_rowAt Z g h0 z) l _) gX9_load_X9_rowAt rfl 1 (by decide +kernel) ⟨Nat.le_of_ble_eq_true rfl, Nat.le_of_ble_eq_true rfl⟩ h_x hN0 rfl rfl hl.1 rfl (Nat.le_of_ble_eq_true rfl) dX9_load_9 ⟨Nat.le_of_ble_eq_true rfl, Nat.le_of_ble_eq_true rfl⟩) hS (fun r_13 g_14 H locs hp_15 hS => ?_)
    obtain ⟨rfl, hp_15⟩ := hp_15
    rcases hp_15 with ⟨r1, hs2r, hsvr, err⟩ | ⟨hnvr, err⟩
    · subst err
      have hRr := hX.2.2.2.2.1 r1 hs2r
      obtain ⟨avr, h_rr, h_ar, hkNrr, hnrr, havr⟩ := id hRr
      have hzsr : zro z.toInt := ⟨by omega, by omega⟩
      have htnr : z.toInt.toNat = r1 := by omega
      have hkrr : 9 + 2 * r1 < Z.1 := by omega
      have hkr1r : 9 + 2 * r1 + 1 < Z.1 := by omega
      refine lv_astore (lv' := [(5, .ref (Z.2.1 (9 + 2 * r1))), (4, .null), (0, .ref (Z.2.1 0)), (1, .int x), (2, .int y), (3, .int z)]) hx hb dX9_load_12 hl (by decide) rfl (fun ls hl => ?_)
      refine lv_aloadN hx hb dX9_load_14 (lv_at hl 1 rfl) ?_
      refine lv_ifnullN (tgt := 24) hx hb dX9_load_16 (by decide) ?_
      refine lv_ldc (v := (-1000001)) hx hb hown (hts _ (List.mem_of_getElem? (i := 1) rfl)) dX9_load_24 ?_
      refine z_iret hx hb hr hlocks hS ?_ dX9_load_26
      show z_po Z G9 (sp_load (sg, rw9) x.toInt y.toInt z.toInt) _ _
      unfold sp_load
      rw [zite_f (fun h9 => hnv h9.1)]
      exact ⟨rfl, hX⟩
    · subst err
      refine lv_astoreN (lv' := [(5, .null), (4, .null), (0, .ref (Z.2.1 0)), (1, .int x), (2, .int y), (3, .int z)]) hx hb dX9_load_12 hl (by decide) rfl (fun ls hl => ?_)
      refine lv_aloadN hx hb dX9_load_14 (lv_at hl 1 rfl) ?_
      refine lv_ifnullN (tgt := 24) hx hb dX9_load_16 (by decide) ?_
      refine lv_ldc (v := (-1000001)) hx hb hown (hts _ (List.mem_of_getElem? (i := 1) rfl)) dX9_load_24 ?_
      refine z_iret hx hb hr hlocks hS ?_ dX9_load_26
      show z_po Z G9 (sp_load (sg, rw9) x.toInt y.toInt z.toInt) _ _
      unfold sp_load
      rw [zite_f (fun h9 => hnv h9.1)]
      exact ⟨rfl, hX⟩

theorem in_X9_convert_0 : ∀ w ∈ wsX00, w ∈ wsX9_convert := by decide +kernel
theorem in_X9_convert_4 : ∀ w ∈ wsX40, w ∈ wsX9_convert := by decide +kernel
theorem in_X9_convert_5 : ∀ w ∈ wsX50, w ∈ wsX9_convert := by decide +kernel
theorem in_X9_convert_9 : ∀ w ∈ wsX90, w ∈ wsX9_convert := by decide +kernel
set_option maxHeartbeats 4000000 in
set_option maxRecDepth 100000 in
theorem k_convert (Z : zT) {G9 : Nat → va_E} (g : Nat → va_E) (sg : Nat → zb) (rw9 : Nat → zr) (hX : z_xw Z G9 g sg rw9) (x y z : Int32) : z_Mi Z yX9_convert wsX9_convert 6 139 [.ref (Z.2.1 0), .int x, .int y, .int z] g (fun r g1 => z_po Z G9 (sp_convert (sg, rw9) x.toInt y.toInt z.toInt) r g1) := by
  intro l sz
  have h0 := hX.1
  obtain ⟨hN, h_x, ⟨fS, h_x1, hfS⟩, fR, h_x2, hfR⟩ := id h0
  have hN0 : 0 < Z.1 := by omega
  have hN1 : 1 < Z.1 := by omega
  have hN2 : 2 < Z.1 := by omega
  obtain ⟨fa1, fa2, h_f⟩ := hX.2.2.1.1
  obtain ⟨fb1, fb2, h_f2⟩ := hX.2.2.2.1
  obtain ⟨vc1, svc, w0c, h_k, h_s, hkN3, hw0⟩ := id hX.2.1
  have hN7 : 7 < Z.1 := by omega
  have hN8 : 8 < Z.1 := by omega
  have hN3 : 3 < Z.1 := by omega
  refine z_enter (maxL := 8) (ret := (some .int)) (lv := [(0, .ref (Z.2.1 0)), (1, .int x), (2, .int y), (3, .int z)]) (plainFor_of_name (by decide +kernel)) rfl (fun ls h => by subst h; exact lv_entry [.ref (Z.2.1 0), .int x, .int y, .int z] (n := 8) (Nat.le_of_ble_eq_true rfl)) ?_
  intro p e s m args below meth c hx hb hml hr hlocks hown hts hK hS hsz ls hl
  refine lv_aload_n hx hb dX9_convert_0 rfl (lv_at hl 0 rfl) ?_
  refine lv_iload_n hx hb dX9_convert_1 rfl (lv_at hl 1 rfl) ?_
  refine z_callq (z_runV (As := [.int x]) (rest := []) ⟨hx, hb, hml, hown, hts⟩ hK hS ((k_systemAt Z g h0 x) l _) gX9_convert_X9_systemAt rfl 1 (by decide +kernel) ⟨Nat.le_of_ble_eq_true rfl, Nat.le_of_ble_eq_true rfl⟩ h_x hN0 rfl rfl hl.1 rfl (Nat.le_of_ble_eq_true rfl) dX9_convert_2 ⟨Nat.le_of_ble_eq_true rfl, Nat.le_of_ble_eq_true rfl⟩) hS (fun r_1 g_2 H locs hp_3 hS => ?_)
  obtain ⟨rfl, hp_3⟩ := hp_3
  rcases hp_3 with ⟨s1, hs2, hsv, er⟩ | ⟨hnv, er⟩
  · subst er
    obtain ⟨h_n, hBs, ⟨w1, w2, w3, w4, w5, w6, hW⟩, h_y, ⟨lw, hw, tb, y1, y2, y3, hO⟩, l0, hC⟩ := hX.2.2.2.2.2 s1 hs2
    have hzs : zsy x.toInt := ⟨by omega, by omega⟩
    have htn : x.toInt.toNat = s1 := by omega
    obtain ⟨pb, qb, res, cmp, dg, ch, ⟨h_b, h_d, h_c, hkN, hok, hp, hq, hres, hdg⟩, hch, hcmp⟩ := id hBs
    have hkn : 15 + 13 * s1 < Z.1 := by omega
    have hk0 : 16 + 13 * s1 < Z.1 := by omega
    have hk1 : 16 + 13 * s1 + 1 < Z.1 := by omega
    have hk2 : 16 + 13 * s1 + 2 < Z.1 := by omega
    have hPb := zP_bd hok
    have hn12 := hok.2.2.2.1
    have hq1 := hok.2.1
    have h1x : (1 - x).toInt = 1 - x.toInt := by rw [fb_subI (by rw [tI_1]; omega) (by rw [tI_1]; omega), tI_1]
    refine lv_astore (lv' := [(4, .ref (Z.2.1 (15 + 13 * s1))), (0, .ref (Z.2.1 0)), (1, .int x), (2, .int y), (3, .int z)]) hx hb dX9_convert_5 hl (by decide) rfl (fun ls hl => ?_)
    refine lv_aload_n hx hb dX9_convert_7 rfl (lv_at hl 1 rfl) ?_
    refine lv_iconst (v := 1) hx hb dX9_convert_8 (by decide) ?_
    refine lv_iload_n hx hb dX9_convert_9 rfl (lv_at hl 2 rfl) ?_
    refine lv_isub hx hb dX9_convert_10 ?_
    refine z_callq (z_runV (As := [.int (1 - x)]) (rest := []) ⟨hx, hb, hml, hown, hts⟩ hK hS ((k_systemAt Z g h0 (1 - x)) l _) gX9_convert_X9_systemAt rfl 1 (by decide +kernel) ⟨Nat.le_of_ble_eq_true rfl, Nat.le_of_ble_eq_true rfl⟩ h_x hN0 rfl rfl hl.1 rfl (Nat.le_of_ble_eq_true rfl) dX9_convert_11 ⟨Nat.le_of_ble_eq_true rfl, Nat.le_of_ble_eq_true rfl⟩) hS (fun r_4 g_5 H locs hp_6 hS => ?_)
    obtain ⟨rfl, hp_6⟩ := hp_6
    rcases hp_6 with ⟨s2, hs2t, hsvt, ert⟩ | ⟨hnvt, ert⟩
    · subst ert
      obtain ⟨h_nt, hBst, ⟨w1t, w2t, w3t, w4t, w5t, w6t, hWt⟩, h_yt, ⟨lwt, hwt, tbt, y1t, y2t, y3t, hOt⟩, l0t, hCt⟩ := hX.2.2.2.2.2 s2 hs2t
      have hzst : zsy (1 - x).toInt := ⟨by omega, by omega⟩
      have htnt : (1 - x).toInt.toNat = s2 := by omega
      obtain ⟨pbt, qbt, rest, cmpt, dgt, cht, ⟨h_bt, h_dt, h_ct, hkNt, hokt, hpt, hqt, hrest, hdgt⟩, hcht, hcmpt⟩ := id hBst
      have hknt : 15 + 13 * s2 < Z.1 := by omega
      have hk0t : 16 + 13 * s2 < Z.1 := by omega
      have hk1t : 16 + 13 * s2 + 1 < Z.1 := by omega
      have hk2t : 16 + 13 * s2 + 2 < Z.1 := by omega
      have hPbt := zP_bd hokt
      have hn12t := hokt.2.2.2.1
      have hq1t := hokt.2.1
      refine lv_astore (lv' := [(5, .ref (Z.2.1 (15 + 13 * s2))), (4, .ref (Z.2.1 (15 + 13 * s1))), (0, .ref (Z.2.1 0)), (1, .int x), (2, .int y), (3, .int z)]) hx hb dX9_convert_14 hl (by decide) rfl (fun ls hl => ?_)
      refine lv_aload_n hx hb dX9_convert_16 rfl (lv_at hl 2 rfl) ?_
      refine lv_iload_n hx hb dX9_convert_17 rfl (lv_at hl 4 rfl) ?_
      refine z_callq (z_runV (As := [.int y]) (rest := []) ⟨hx, hb, hml, hown, hts⟩ hK hS ((k_rowAt Z g h0 y) l _) gX9_convert_X9_rowAt rfl 1 (by decide +kernel) ⟨Nat.le_of_ble_eq_true rfl, Nat.le_of_ble_eq_true rfl⟩ h_x hN0 rfl rfl hl.1 rfl (Nat.le_of_ble_eq_true rfl) dX9_convert_18 ⟨Nat.le_of_ble_eq_true rfl, Nat.le_of_ble_eq_true rfl⟩) hS (fun r_7 g_8 H locs hp_9 hS => ?_)
      obtain ⟨rfl, hp_9⟩ := hp_9
      rcases hp_9 with ⟨r1, hs2r, hsvr, err⟩ | ⟨hnvr, err⟩
      · subst err
        have hRr := hX.2.2.2.2.1 r1 hs2r
        obtain ⟨avr, h_rr, h_ar, hkNrr, hnrr, havr⟩ := id hRr
        have hzsr : zro y.toInt := ⟨by omega, by omega⟩
        have htnr : y.toInt.toNat = r1 := by omega
        have hkrr : 9 + 2 * r1 < Z.1 := by omega
        have hkr1r : 9 + 2 * r1 + 1 < Z.1 := by omega
        refine lv_astore (lv' := [(6, .ref (Z.2.1 (9 + 2 * r1))), (5, .ref (Z.2.1 (15 + 13 * s2))), (4, .ref (Z.2.1 (15 + 13 * s1))), (0, .ref (Z.2.1 0)), (1, .int x), (2, .int y), (3, .int z)]) hx hb dX9_convert_21 hl (by decide) rfl (fun ls hl => ?_)
        refine lv_aload_n hx hb dX9_convert_23 rfl (lv_at hl 3 rfl) ?_
        refine lv_iload_n hx hb dX9_convert_24 rfl (lv_at hl 6 rfl) ?_
        refine z_callq (z_runV (As := [.int z]) (rest := []) ⟨hx, hb, hml, hown, hts⟩ hK hS ((k_rowAt Z g h0 z) l _) gX9_convert_X9_rowAt rfl 1 (by decide +kernel) ⟨Nat.le_of_ble_eq_true rfl, Nat.le_of_ble_eq_true rfl⟩ h_x hN0 rfl rfl hl.1 rfl (Nat.le_of_ble_eq_true rfl) dX9_convert_25 ⟨Nat.le_of_ble_eq_true rfl, Nat.le_of_ble_eq_true rfl⟩) hS (fun r_10 g_11 H locs hp_12 hS => ?_)
        obtain ⟨rfl, hp_12⟩ := hp_12
        rcases hp_12 with ⟨r2, hs2q, hsvq, erq⟩ | ⟨hnvq, erq⟩
        · subst erq
          have hRq := hX.2.2.2.2.1 r2 hs2q
          obtain ⟨avq, h_rq, h_aq, hkNrq, hnrq, havq⟩ := id hRq
          have hzsq : zro z.toInt := ⟨by omega, by omega⟩
          have htnq : z.toInt.toNat = r2 := by omega
          have hkrq : 9 + 2 * r2 < Z.1 := by omega
          have hkr1q : 9 + 2 * r2 + 1 < Z.1 := by omega
          refine lv_astore (lv' := [(7, .ref (Z.2.1 (9 + 2 * r2))), (6, .ref (Z.2.1 (9 + 2 * r1))), (5, .ref (Z.2.1 (15 + 13 * s2))), (4, .ref (Z.2.1 (15 + 13 * s1))), (0, .ref (Z.2.1 0)), (1, .int x), (2, .int y), (3, .int z)]) hx hb dX9_convert_28 hl (by decide) rfl (fun ls hl => ?_)
          refine lv_aload hx hb dX9_convert_30 (lv_at hl 3 rfl) ?_
          refine lv_ifnull hx hb dX9_convert_32 ?_
          refine lv_aload hx hb dX9_convert_35 (lv_at hl 2 rfl) ?_
          refine lv_ifnull hx hb dX9_convert_37 ?_
          refine lv_aload hx hb dX9_convert_40 (lv_at hl 1 rfl) ?_
          refine lv_ifnull hx hb dX9_convert_42 ?_
          refine lv_aload hx hb dX9_convert_45 (lv_at hl 0 rfl) ?_
          refine lv_ifnonnull (tgt := 53) hx hb dX9_convert_47 (by decide) ?_
          refine lv_aload hx hb dX9_convert_53 (lv_at hl 2 rfl) ?_
          refine z_getN (own := RX9) (C := RX5) (T := TX5) (N := 5) hx hb hts in_X9_convert_5 hown hK hS h_nt hknt rfl 0 (by decide) 14 rfl rfl rfl dX9_convert_55 ?_
          refine z_getN (own := RX9) (C := RX0) (T := TX0) (N := 7) hx hb hts in_X9_convert_0 hown hK hS h_bt hk0t rfl 4 (by decide) 1 rfl rfl rfl dX9_convert_58 ?_
          refine lv_if_ne (tgt := 67) hx hb dX9_convert_61 (by decide) (fun c_13 => ?_) (fun c_13 => ?_)
          · have i_13 := z_ne c_13
            rw [tI_0] at i_13
            have hcm := zbo_t hcmpt c_13
            refine lv_aload_n hx hb dX9_convert_67 rfl (lv_at hl 4 rfl) ?_
            refine z_get (own := RX9) (C := RX9) (T := TX9) (N := 5) hx hb hts in_X9_convert_9 hown hK hS h_x hN0 rfl 3 (by decide) (List.mem_of_getElem? (i := 3) rfl) rfl rfl dX9_convert_68 ?_
            refine lv_aload hx hb dX9_convert_71 (lv_at hl 3 rfl) ?_
            refine z_getN (own := RX9) (C := RX5) (T := TX5) (N := 5) hx hb hts in_X9_convert_5 hown hK hS h_n hkn rfl 0 (by decide) 14 rfl rfl rfl dX9_convert_73 ?_
            refine lv_aload hx hb dX9_convert_76 (lv_at hl 1 rfl) ?_
            refine z_callv (z_runVN (As := [.ref (Z.2.1 (16 + 13 * s1)), .ref (Z.2.1 (9 + 2 * r1))]) (rest := []) (C := RX4) ⟨hx, hb, hml, hown, hts⟩ hK hS ((k_read Z g 7 (16 + 13 * s1) (9 + 2 * r1) (sg s1) (rw9 r1) fa1 fa2 ⟨h_f, by omega, Or.inl (by omega), Or.inl (by omega)⟩ ⟨pb, qb, res, cmp, dg, ch, h_b, h_d, h_c, hkN, hok, hp, hq, hres, hdg⟩ ⟨avr, h_rr, h_ar, hkNrr, hnrr, havr⟩) l _) gX9_convert_X4_read_n187 rfl 2 13 rfl (List.mem_of_getElem? (i := 19) rfl) (List.mem_of_getElem? (i := 18) rfl) (List.mem_of_getElem? (i := 20) rfl) (by decide +kernel) ⟨Nat.le_of_ble_eq_true rfl, Nat.le_of_ble_eq_true rfl⟩ h_f hN7 rfl rfl hl.1 rfl (Nat.le_of_ble_eq_true rfl) dX9_convert_78 ⟨Nat.le_of_ble_eq_true rfl, Nat.le_of_ble_eq_true rfl⟩) hS (fun g_15 H locs hp_16 hS => ?_)
            obtain ⟨tt1, bb1, h_f, htt1, hbb1, hfr_17⟩ := hp_16
            have h_x := (hfr_17 _ (by omega)).trans h_x
            have h_x1 := (hfr_17 _ (by omega)).trans h_x1
            have h_x2 := (hfr_17 _ (by omega)).trans h_x2
            have h_f2 := (hfr_17 _ (by omega)).trans h_f2
            have h_k := (hfr_17 _ (by omega)).trans h_k
            have h_n := (hfr_17 _ (by omega)).trans h_n
            have h_b := (hfr_17 _ (by omega)).trans h_b
            have h_d := (hfr_17 _ (by omega)).trans h_d
            have h_c := (hfr_17 _ (by omega)).trans h_c
            have h_nt := (hfr_17 _ (by omega)).trans h_nt
            have h_bt := (hfr_17 _ (by omega)).trans h_bt
            have h_dt := (hfr_17 _ (by omega)).trans h_dt
            have h_ct := (hfr_17 _ (by omega)).trans h_ct
            have h_rr := (hfr_17 _ (by omega)).trans h_rr
            have h_ar := (hfr_17 _ (by omega)).trans h_ar
            have h_rq := (hfr_17 _ (by omega)).trans h_rq
            have h_aq := (hfr_17 _ (by omega)).trans h_aq
            have hX := hX.fr7 hfr_17 ⟨_, _, h_f⟩
            have hv1 := zv_bd hok (w := rw9 r1) hnrr (fun i hi => (havr i hi).2)
            rw [← htt1, ← hbb1] at hv1
            refine lv_aload_n hx hb dX9_convert_81 rfl (lv_at hl 4 rfl) ?_
            refine z_get (own := RX9) (C := RX9) (T := TX9) (N := 5) hx hb hts in_X9_convert_9 hown hK hS h_x hN0 rfl 3 (by decide) (List.mem_of_getElem? (i := 3) rfl) rfl rfl dX9_convert_82 ?_
            refine z_getN (own := RX9) (C := RX4) (T := TX4) (N := 2) hx hb hts in_X9_convert_4 hown hK hS h_f hN7 rfl 1 (by decide) 7 rfl rfl rfl dX9_convert_85 ?_
            refine lv_lconst (v := 1) hx hb dX9_convert_88 rfl ?_
            have hc1 := z_cmp0 (x := bb1) (y := 1)
            rw [show (1 : Int64).toInt = 1 from rfl, hbb1] at hc1
            refine W.lcmp hx hb dX9_convert_89 ?_
            refine lv_if_ne (tgt := 121) hx hb dX9_convert_90 (by decide) (fun c_18 => ?_) (fun c_18 => ?_)
            · have i_18 := z_ne c_18
              rw [tI_0] at i_18
              have hb1 : ¬ zvb (sg s1) (rw9 r1) = 1 := fun h9 => c_18 (hc1.mpr h9)
              have hnpo : ¬ (zvb (sg s1) (rw9 r1) = 1 ∧ -100000 ≤ zvt (sg s1) (rw9 r1) ∧ zvt (sg s1) (rw9 r1) ≤ 100000) := fun h9 => by omega
              refine lv_ldc (v := (-1000004)) hx hb hown (hts _ (List.mem_of_getElem? (i := 6) rfl)) dX9_convert_121 ?_
              refine z_iret hx hb hr hlocks hS ?_ dX9_convert_123
              show z_po Z G9 (sp_convert (sg, rw9) x.toInt y.toInt z.toInt) _ _
              unfold sp_convert
              rw [zite_t ⟨hzs, hzsr, hzsq⟩, htn, htnr, htnq, show (1 - x.toInt).toNat = s2 from by omega, zite_t hcm, zite_f hnpo]
              exact ⟨rfl, hX⟩
            · have i_18 := z_eq c_18
              rw [tI_0] at i_18
              have hb1 := hc1.mp c_18
              refine lv_aload_n hx hb dX9_convert_93 rfl (lv_at hl 4 rfl) ?_
              refine z_get (own := RX9) (C := RX9) (T := TX9) (N := 5) hx hb hts in_X9_convert_9 hown hK hS h_x hN0 rfl 3 (by decide) (List.mem_of_getElem? (i := 3) rfl) rfl rfl dX9_convert_94 ?_
              refine z_getN (own := RX9) (C := RX4) (T := TX4) (N := 2) hx hb hts in_X9_convert_4 hown hK hS h_f hN7 rfl 0 (by decide) 8 rfl rfl rfl dX9_convert_97 ?_
              refine lv_ldc2 (v := (-100000)) hx hb hown (hts _ (List.mem_of_getElem? (i := 4) rfl)) dX9_convert_100 ?_
              have hc2 := z_cmpL (x := tt1) (y := -100000)
              rw [show (-100000 : Int64).toInt = -100000 from by decide, htt1] at hc2
              refine W.lcmp hx hb dX9_convert_103 ?_
              refine lv_if_lt (tgt := 121) hx hb dX9_convert_104 (by decide) (fun c_19 => ?_) (fun c_19 => ?_)
              · have i_19 := z_lt c_19
                rw [tI_0] at i_19
                have hnpo : ¬ (zvb (sg s1) (rw9 r1) = 1 ∧ -100000 ≤ zvt (sg s1) (rw9 r1) ∧ zvt (sg s1) (rw9 r1) ≤ 100000) := fun h9 => by omega
                refine lv_ldc (v := (-1000004)) hx hb hown (hts _ (List.mem_of_getElem? (i := 6) rfl)) dX9_convert_121 ?_
                refine z_iret hx hb hr hlocks hS ?_ dX9_convert_123
                show z_po Z G9 (sp_convert (sg, rw9) x.toInt y.toInt z.toInt) _ _
                unfold sp_convert
                rw [zite_t ⟨hzs, hzsr, hzsq⟩, htn, htnr, htnq, show (1 - x.toInt).toNat = s2 from by omega, zite_t hcm, zite_f hnpo]
                exact ⟨rfl, hX⟩
              · have i_19 := z_nlt c_19
                rw [tI_0] at i_19
                refine lv_aload_n hx hb dX9_convert_107 rfl (lv_at hl 4 rfl) ?_
                refine z_get (own := RX9) (C := RX9) (T := TX9) (N := 5) hx hb hts in_X9_convert_9 hown hK hS h_x hN0 rfl 3 (by decide) (List.mem_of_getElem? (i := 3) rfl) rfl rfl dX9_convert_108 ?_
                refine z_getN (own := RX9) (C := RX4) (T := TX4) (N := 2) hx hb hts in_X9_convert_4 hown hK hS h_f hN7 rfl 0 (by decide) 8 rfl rfl rfl dX9_convert_111 ?_
                refine lv_ldc2 (v := 100000) hx hb hown (hts _ (List.mem_of_getElem? (i := 5) rfl)) dX9_convert_114 ?_
                have hc3 := z_cmpG (x := tt1) (y := 100000)
                rw [show (100000 : Int64).toInt = 100000 from by decide, htt1] at hc3
                refine W.lcmp hx hb dX9_convert_117 ?_
                refine lv_if_le (tgt := 124) hx hb dX9_convert_118 (by decide) (fun c_20 => ?_) (fun c_20 => ?_)
                · have i_20 := z_le c_20
                  rw [tI_0] at i_20
                  have hpo9 : zvb (sg s1) (rw9 r1) = 1 ∧ -100000 ≤ zvt (sg s1) (rw9 r1) ∧ zvt (sg s1) (rw9 r1) ≤ 100000 := ⟨hb1, by omega, by omega⟩
                  refine lv_aload hx hb dX9_convert_124 (lv_at hl 2 rfl) ?_
                  refine lv_aload_n hx hb dX9_convert_126 rfl (lv_at hl 4 rfl) ?_
                  refine z_get (own := RX9) (C := RX9) (T := TX9) (N := 5) hx hb hts in_X9_convert_9 hown hK hS h_x hN0 rfl 3 (by decide) (List.mem_of_getElem? (i := 3) rfl) rfl rfl dX9_convert_127 ?_
                  refine z_getN (own := RX9) (C := RX4) (T := TX4) (N := 2) hx hb hts in_X9_convert_4 hown hK hS h_f hN7 rfl 0 (by decide) 8 rfl rfl rfl dX9_convert_130 ?_
                  refine lv_l2i hx hb dX9_convert_133 rfl ?_
                  refine lv_aload hx hb dX9_convert_134 (lv_at hl 0 rfl) ?_
                  refine z_calli (z_runS (As := [.ref (Z.2.1 (15 + 13 * s2)), .int (Int64.toInt32 tt1), .ref (Z.2.1 (9 + 2 * r2))]) (rest := []) ⟨hx, hb, hml, hown, hts⟩ hK hS ((k_expandInto Z g_15 sg rw9 hX s2 r2 hs2t hs2q (Int64.toInt32 tt1) (by rw [z_l2i (by omega) (by omega)]; omega) hcm) l _) gX9_convert_X9_expandInto rfl 3 (by decide +kernel) ⟨Nat.le_of_ble_eq_true rfl, Nat.le_of_ble_eq_true rfl⟩ rfl hl.1 rfl (Nat.le_of_ble_eq_true rfl) dX9_convert_136 ⟨Nat.le_of_ble_eq_true rfl, Nat.le_of_ble_eq_true rfl⟩) hS (fun re g_21 H locs hp_22 hS => ?_)
                  have hpo := hp_22
                  rw [z_l2i (by omega) (by omega), htt1] at hpo
                  refine z_iret hx hb hr hlocks hS ?_ dX9_convert_139
                  show z_po Z G9 (sp_convert (sg, rw9) x.toInt y.toInt z.toInt) _ _
                  unfold sp_convert
                  rw [zite_t ⟨hzs, hzsr, hzsq⟩, htn, htnr, htnq, show (1 - x.toInt).toNat = s2 from by omega, zite_t hcm, zite_t hpo9]
                  exact hpo
                · have i_20 := z_nle c_20
                  rw [tI_0] at i_20
                  have hnpo : ¬ (zvb (sg s1) (rw9 r1) = 1 ∧ -100000 ≤ zvt (sg s1) (rw9 r1) ∧ zvt (sg s1) (rw9 r1) ≤ 100000) := fun h9 => by omega
                  refine lv_ldc (v := (-1000004)) hx hb hown (hts _ (List.mem_of_getElem? (i := 6) rfl)) dX9_convert_121 ?_
                  refine z_iret hx hb hr hlocks hS ?_ dX9_convert_123
                  show z_po Z G9 (sp_convert (sg, rw9) x.toInt y.toInt z.toInt) _ _
                  unfold sp_convert
                  rw [zite_t ⟨hzs, hzsr, hzsq⟩, htn, htnr, htnq, show (1 - x.toInt).toNat = s2 from by omega, zite_t hcm, zite_f hnpo]
                  exact ⟨rfl, hX⟩
          · have i_13 := z_eq c_13
            rw [tI_0] at i_13
            have hncm := zbo_f hcmpt c_13
            refine lv_ldc (v := (-1000003)) hx hb hown (hts _ (List.mem_of_getElem? (i := 2) rfl)) dX9_convert_64 ?_
            refine z_iret hx hb hr hlocks hS ?_ dX9_convert_66
            show z_po Z G9 (sp_convert (sg, rw9) x.toInt y.toInt z.toInt) _ _
            unfold sp_convert
            rw [zite_t ⟨hzs, hzsr, hzsq⟩, htn, htnr, htnq, show (1 - x.toInt).toNat = s2 from by omega, zite_f hncm]
            exact ⟨rfl, hX⟩
        · subst erq
          refine lv_astoreN (lv' := [(7, .null), (6, .ref (Z.2.1 (9 + 2 * r1))), (5, .ref (Z.2.1 (15 + 13 * s2))), (4, .ref (Z.2.1 (15 + 13 * s1))), (0, .ref (Z.2.1 0)), (1, .int x), (2, .int y), (3, .int z)]) hx hb dX9_convert_28 hl (by decide) rfl (fun ls hl => ?_)
          refine lv_aload hx hb dX9_convert_30 (lv_at hl 3 rfl) ?_
          refine lv_ifnull hx hb dX9_convert_32 ?_
          refine lv_aload hx hb dX9_convert_35 (lv_at hl 2 rfl) ?_
          refine lv_ifnull hx hb dX9_convert_37 ?_
          refine lv_aload hx hb dX9_convert_40 (lv_at hl 1 rfl) ?_
          refine lv_ifnull hx hb dX9_convert_42 ?_
          refine lv_aloadN hx hb dX9_convert_45 (lv_at hl 0 rfl) ?_
          refine lv_ifnonnullN hx hb dX9_convert_47 ?_
          refine lv_ldc (v := (-1000001)) hx hb hown (hts _ (List.mem_of_getElem? (i := 1) rfl)) dX9_convert_50 ?_
          refine z_iret hx hb hr hlocks hS ?_ dX9_convert_52
          show z_po Z G9 (sp_convert (sg, rw9) x.toInt y.toInt z.toInt) _ _
          unfold sp_convert
          rw [zite_f (fun h9 => hnvq h9.2.2)]
          exact ⟨rfl, hX⟩
      · subst err
        refine lv_astoreN (lv' := [(6, .null), (5, .ref (Z.2.1 (15 + 13 * s2))), (4, .ref (Z.2.1 (15 + 13 * s1))), (0, .ref (Z.2.1 0)), (1, .int x), (2, .int y), (3, .int z)]) hx hb dX9_convert_21 hl (by decide) rfl (fun ls hl => ?_)
        refine lv_aload_n hx hb dX9_convert_23 rfl (lv_at hl 3 rfl) ?_
        refine lv_iload_n hx hb dX9_convert_24 rfl (lv_at hl 6 rfl) ?_
        refine z_callq (z_runV (As := [.int z]) (rest := []) ⟨hx, hb, hml, hown, hts⟩ hK hS ((k_rowAt Z g h0 z) l _) gX9_convert_X9_rowAt rfl 1 (by decide +kernel) ⟨Nat.le_of_ble_eq_true rfl, Nat.le_of_ble_eq_true rfl⟩ h_x hN0 rfl rfl hl.1 rfl (Nat.le_of_ble_eq_true rfl) dX9_convert_25 ⟨Nat.le_of_ble_eq_true rfl, Nat.le_of_ble_eq_true rfl⟩) hS (fun r_23 g_24 H locs hp_25 hS => ?_)
        obtain ⟨rfl, hp_25⟩ := hp_25
        rcases hp_25 with ⟨r2, hs2q, hsvq, erq⟩ | ⟨hnvq, erq⟩
        · subst erq
          have hRq := hX.2.2.2.2.1 r2 hs2q
          obtain ⟨avq, h_rq, h_aq, hkNrq, hnrq, havq⟩ := id hRq
          have hzsq : zro z.toInt := ⟨by omega, by omega⟩
          have htnq : z.toInt.toNat = r2 := by omega
          have hkrq : 9 + 2 * r2 < Z.1 := by omega
          have hkr1q : 9 + 2 * r2 + 1 < Z.1 := by omega
          refine lv_astore (lv' := [(7, .ref (Z.2.1 (9 + 2 * r2))), (6, .null), (5, .ref (Z.2.1 (15 + 13 * s2))), (4, .ref (Z.2.1 (15 + 13 * s1))), (0, .ref (Z.2.1 0)), (1, .int x), (2, .int y), (3, .int z)]) hx hb dX9_convert_28 hl (by decide) rfl (fun ls hl => ?_)
          refine lv_aload hx hb dX9_convert_30 (lv_at hl 3 rfl) ?_
          refine lv_ifnull hx hb dX9_convert_32 ?_
          refine lv_aload hx hb dX9_convert_35 (lv_at hl 2 rfl) ?_
          refine lv_ifnull hx hb dX9_convert_37 ?_
          refine lv_aloadN hx hb dX9_convert_40 (lv_at hl 1 rfl) ?_
          refine lv_ifnullN (tgt := 50) hx hb dX9_convert_42 (by decide) ?_
          refine lv_ldc (v := (-1000001)) hx hb hown (hts _ (List.mem_of_getElem? (i := 1) rfl)) dX9_convert_50 ?_
          refine z_iret hx hb hr hlocks hS ?_ dX9_convert_52
          show z_po Z G9 (sp_convert (sg, rw9) x.toInt y.toInt z.toInt) _ _
          unfold sp_convert
          rw [zite_f (fun h9 => hnvr h9.2.1)]
          exact ⟨rfl, hX⟩
        · subst erq
          refine lv_astoreN (lv' := [(7, .null), (6, .null), (5, .ref (Z.2.1 (15 + 13 * s2))), (4, .ref (Z.2.1 (15 + 13 * s1))), (0, .ref (Z.2.1 0)), (1, .int x), (2, .int y), (3, .int z)]) hx hb dX9_convert_28 hl (by decide) rfl (fun ls hl => ?_)
          refine lv_aload hx hb dX9_convert_30 (lv_at hl 3 rfl) ?_
          refine lv_ifnull hx hb dX9_convert_32 ?_
          refine lv_aload hx hb dX9_convert_35 (lv_at hl 2 rfl) ?_
          refine lv_ifnull hx hb dX9_convert_37 ?_
          refine lv_aloadN hx hb dX9_convert_40 (lv_at hl 1 rfl) ?_
          refine lv_ifnullN (tgt := 50) hx hb dX9_convert_42 (by decide) ?_
          refine lv_ldc (v := (-1000001)) hx hb hown (hts _ (List.mem_of_getElem? (i := 1) rfl)) dX9_convert_50 ?_
          refine z_iret hx hb hr hlocks hS ?_ dX9_convert_52
          show z_po Z G9 (sp_convert (sg, rw9) x.toInt y.toInt z.toInt) _ _
          unfold sp_convert
          rw [zite_f (fun h9 => hnvr h9.2.1)]
          exact ⟨rfl, hX⟩
    · subst ert
      refine lv_astoreN (lv' := [(5, .null), (4, .ref (Z.2.1 (15 + 13 * s1))), (0, .ref (Z.2.1 0)), (1, .int x), (2, .int y), (3, .int z)]) hx hb dX9_convert_14 hl (by decide) rfl (fun ls hl => ?_)
      refine lv_aload_n hx hb dX9_convert_16 rfl (lv_at hl 2 rfl) ?_
      refine lv_iload_n hx hb dX9_convert_17 rfl (lv_at hl 4 rfl) ?_
      refine z_callq (z_runV (As := [.int y]) (rest := []) ⟨hx, hb, hml, hown, hts⟩ hK hS ((k_rowAt Z g h0 y) l _) gX9_convert_X9_rowAt rfl 1 (by decide +kernel) ⟨Nat.le_of_ble_eq_true rfl, Nat.le_of_ble_eq_true rfl⟩ h_x hN0 rfl rfl hl.1 rfl (Nat.le_of_ble_eq_true rfl) dX9_convert_18 ⟨Nat.le_of_ble_eq_true rfl, Nat.le_of_ble_eq_true rfl⟩) hS (fun r_26 g_27 H locs hp_28 hS => ?_)
      obtain ⟨rfl, hp_28⟩ := hp_28
      rcases hp_28 with ⟨r1, hs2r, hsvr, err⟩ | ⟨hnvr, err⟩
      · subst err
        have hRr := hX.2.2.2.2.1 r1 hs2r
        obtain ⟨avr, h_rr, h_ar, hkNrr, hnrr, havr⟩ := id hRr
        have hzsr : zro y.toInt := ⟨by omega, by omega⟩
        have htnr : y.toInt.toNat = r1 := by omega
        have hkrr : 9 + 2 * r1 < Z.1 := by omega
        have hkr1r : 9 + 2 * r1 + 1 < Z.1 := by omega
        refine lv_astore (lv' := [(6, .ref (Z.2.1 (9 + 2 * r1))), (5, .null), (4, .ref (Z.2.1 (15 + 13 * s1))), (0, .ref (Z.2.1 0)), (1, .int x), (2, .int y), (3, .int z)]) hx hb dX9_convert_21 hl (by decide) rfl (fun ls hl => ?_)
        refine lv_aload_n hx hb dX9_convert_23 rfl (lv_at hl 3 rfl) ?_
        refine lv_iload_n hx hb dX9_convert_24 rfl (lv_at hl 6 rfl) ?_
        refine z_callq (z_runV (As := [.int z]) (rest := []) ⟨hx, hb, hml, hown, hts⟩ hK hS ((k_rowAt Z g h0 z) l _) gX9_convert_X9_rowAt rfl 1 (by decide +kernel) ⟨Nat.le_of_ble_eq_true rfl, Nat.le_of_ble_eq_true rfl⟩ h_x hN0 rfl rfl hl.1 rfl (Nat.le_of_ble_eq_true rfl) dX9_convert_25 ⟨Nat.le_of_ble_eq_true rfl, Nat.le_of_ble_eq_true rfl⟩) hS (fun r_29 g_30 H locs hp_31 hS => ?_)
        obtain ⟨rfl, hp_31⟩ := hp_31
        rcases hp_31 with ⟨r2, hs2q, hsvq, erq⟩ | ⟨hnvq, erq⟩
        · subst erq
          have hRq := hX.2.2.2.2.1 r2 hs2q
          obtain ⟨avq, h_rq, h_aq, hkNrq, hnrq, havq⟩ := id hRq
          have hzsq : zro z.toInt := ⟨by omega, by omega⟩
          have htnq : z.toInt.toNat = r2 := by omega
          have hkrq : 9 + 2 * r2 < Z.1 := by omega
          have hkr1q : 9 + 2 * r2 + 1 < Z.1 := by omega
          refine lv_astore (lv' := [(7, .ref (Z.2.1 (9 + 2 * r2))), (6, .ref (Z.2.1 (9 + 2 * r1))), (5, .null), (4, .ref (Z.2.1 (15 + 13 * s1))), (0, .ref (Z.2.1 0)), (1, .int x), (2, .int y), (3, .int z)]) hx hb dX9_convert_28 hl (by decide) rfl (fun ls hl => ?_)
          refine lv_aload hx hb dX9_convert_30 (lv_at hl 3 rfl) ?_
          refine lv_ifnull hx hb dX9_convert_32 ?_
          refine lv_aloadN hx hb dX9_convert_35 (lv_at hl 2 rfl) ?_
          refine lv_ifnullN (tgt := 50) hx hb dX9_convert_37 (by decide) ?_
          refine lv_ldc (v := (-1000001)) hx hb hown (hts _ (List.mem_of_getElem? (i := 1) rfl)) dX9_convert_50 ?_
          refine z_iret hx hb hr hlocks hS ?_ dX9_convert_52
          exfalso
          exact hnvt ⟨by omega, by omega⟩
        · subst erq
          refine lv_astoreN (lv' := [(7, .null), (6, .ref (Z.2.1 (9 + 2 * r1))), (5, .null), (4, .ref (Z.2.1 (15 + 13 * s1))), (0, .ref (Z.2.1 0)), (1, .int x), (2, .int y), (3, .int z)]) hx hb dX9_convert_28 hl (by decide) rfl (fun ls hl => ?_)
          refine lv_aload hx hb dX9_convert_30 (lv_at hl 3 rfl) ?_
          refine lv_ifnull hx hb dX9_convert_32 ?_
          refine lv_aloadN hx hb dX9_convert_35 (lv_at hl 2 rfl) ?_
          refine lv_ifnullN (tgt := 50) hx hb dX9_convert_37 (by decide) ?_
          refine lv_ldc (v := (-1000001)) hx hb hown (hts _ (List.mem_of_getElem? (i := 1) rfl)) dX9_convert_50 ?_
          refine z_iret hx hb hr hlocks hS ?_ dX9_convert_52
          exfalso
          exact hnvt ⟨by omega, by omega⟩
      · subst err
        refine lv_astoreN (lv' := [(6, .null), (5, .null), (4, .ref (Z.2.1 (15 + 13 * s1))), (0, .ref (Z.2.1 0)), (1, .int x), (2, .int y), (3, .int z)]) hx hb dX9_convert_21 hl (by decide) rfl (fun ls hl => ?_)
        refine lv_aload_n hx hb dX9_convert_23 rfl (lv_at hl 3 rfl) ?_
        refine lv_iload_n hx hb dX9_convert_24 rfl (lv_at hl 6 rfl) ?_
        refine z_callq (z_runV (As := [.int z]) (rest := []) ⟨hx, hb, hml, hown, hts⟩ hK hS ((k_rowAt Z g h0 z) l _) gX9_convert_X9_rowAt rfl 1 (by decide +kernel) ⟨Nat.le_of_ble_eq_true rfl, Nat.le_of_ble_eq_true rfl⟩ h_x hN0 rfl rfl hl.1 rfl (Nat.le_of_ble_eq_true rfl) dX9_convert_25 ⟨Nat.le_of_ble_eq_true rfl, Nat.le_of_ble_eq_true rfl⟩) hS (fun r_32 g_33 H locs hp_34 hS => ?_)
        obtain ⟨rfl, hp_34⟩ := hp_34
        rcases hp_34 with ⟨r2, hs2q, hsvq, erq⟩ | ⟨hnvq, erq⟩
        · subst erq
          have hRq := hX.2.2.2.2.1 r2 hs2q
          obtain ⟨avq, h_rq, h_aq, hkNrq, hnrq, havq⟩ := id hRq
          have hzsq : zro z.toInt := ⟨by omega, by omega⟩
          have htnq : z.toInt.toNat = r2 := by omega
          have hkrq : 9 + 2 * r2 < Z.1 := by omega
          have hkr1q : 9 + 2 * r2 + 1 < Z.1 := by omega
          refine lv_astore (lv' := [(7, .ref (Z.2.1 (9 + 2 * r2))), (6, .null), (5, .null), (4, .ref (Z.2.1 (15 + 13 * s1))), (0, .ref (Z.2.1 0)), (1, .int x), (2, .int y), (3, .int z)]) hx hb dX9_convert_28 hl (by decide) rfl (fun ls hl => ?_)
          refine lv_aload hx hb dX9_convert_30 (lv_at hl 3 rfl) ?_
          refine lv_ifnull hx hb dX9_convert_32 ?_
          refine lv_aloadN hx hb dX9_convert_35 (lv_at hl 2 rfl) ?_
          refine lv_ifnullN (tgt := 50) hx hb dX9_convert_37 (by decide) ?_
          refine lv_ldc (v := (-1000001)) hx hb hown (hts _ (List.mem_of_getElem? (i := 1) rfl)) dX9_convert_50 ?_
          refine z_iret hx hb hr hlocks hS ?_ dX9_convert_52
          exfalso
          exact hnvt ⟨by omega, by omega⟩
        · subst erq
          refine lv_astoreN (lv' := [(7, .null), (6, .null), (5, .null), (4, .ref (Z.2.1 (15 + 13 * s1))), (0, .ref (Z.2.1 0)), (1, .int x), (2, .int y), (3, .int z)]) hx hb dX9_convert_28 hl (by decide) rfl (fun ls hl => ?_)
          refine lv_aload hx hb dX9_convert_30 (lv_at hl 3 rfl) ?_
          refine lv_ifnull hx hb dX9_convert_32 ?_
          refine lv_aloadN hx hb dX9_convert_35 (lv_at hl 2 rfl) ?_
          refine lv_ifnullN (tgt := 50) hx hb dX9_convert_37 (by decide) ?_
          refine lv_ldc (v := (-1000001)) hx hb hown (hts _ (List.mem_of_getElem? (i := 1) rfl)) dX9_convert_50 ?_
          refine z_iret hx hb hr hlocks hS ?_ dX9_convert_52
          exfalso
          exact hnvt ⟨by omega, by omega⟩
  · subst er
    refine lv_astoreN (lv' := [(4, .null), (0, .ref (Z.2.1 0)), (1, .int x), (2, .int y), (3, .int z)]) hx hb dX9_convert_5 hl (by decide) rfl (fun ls hl => ?_)
    refine lv_aload_n hx hb dX9_convert_7 rfl (lv_at hl 1 rfl) ?_
    refine lv_iconst (v := 1) hx hb dX9_convert_8 (by decide) ?_
    refine lv_iload_n hx hb dX9_convert_9 rfl (lv_at hl 2 rfl) ?_
    refine lv_isub hx hb dX9_convert_10 ?_
    refine z_callq (z_runV (As := [.int (1 - x)]) (rest := []) ⟨hx, hb, hml, hown, hts⟩ hK hS ((k_systemAt Z g h0 (1 - x)) l _) gX9_convert_X9_systemAt rfl 1 (by decide +kernel) ⟨Nat.le_of_ble_eq_true rfl, Nat.le_of_ble_eq_true rfl⟩ h_x hN0 rfl rfl hl.1 rfl (Nat.le_of_ble_eq_true rfl) dX9_convert_11 ⟨Nat.le_of_ble_eq_true rfl, Nat.le_of_ble_eq_true rfl⟩) hS (fun r_35 g_36 H locs hp_37 hS => ?_)
    obtain ⟨rfl, hp_37⟩ := hp_37
    rcases hp_37 with ⟨s2, hs2t, hsvt, ert⟩ | ⟨hnvt, ert⟩
    · subst ert
      obtain ⟨h_nt, hBst, ⟨w1t, w2t, w3t, w4t, w5t, w6t, hWt⟩, h_yt, ⟨lwt, hwt, tbt, y1t, y2t, y3t, hOt⟩, l0t, hCt⟩ := hX.2.2.2.2.2 s2 hs2t
      have hzst : zsy (1 - x).toInt := ⟨by omega, by omega⟩
      have htnt : (1 - x).toInt.toNat = s2 := by omega
      obtain ⟨pbt, qbt, rest, cmpt, dgt, cht, ⟨h_bt, h_dt, h_ct, hkNt, hokt, hpt, hqt, hrest, hdgt⟩, hcht, hcmpt⟩ := id hBst
      have hknt : 15 + 13 * s2 < Z.1 := by omega
      have hk0t : 16 + 13 * s2 < Z.1 := by omega
      have hk1t : 16 + 13 * s2 + 1 < Z.1 := by omega
      have hk2t : 16 + 13 * s2 + 2 < Z.1 := by omega
      have hPbt := zP_bd hokt
      have hn12t := hokt.2.2.2.1
      have hq1t := hokt.2.1
      refine lv_astore (lv' := [(5, .ref (Z.2.1 (15 + 13 * s2))), (4, .null), (0, .ref (Z.2.1 0)), (1, .int x), (2, .int y), (3, .int z)]) hx hb dX9_convert_14 hl (by decide) rfl (fun ls hl => ?_)
      refine lv_aload_n hx hb dX9_convert_16 rfl (lv_at hl 2 rfl) ?_
      refine lv_iload_n hx hb dX9_convert_17 rfl (lv_at hl 4 rfl) ?_
      refine z_callq (z_runV (As := [.int y]) (rest := []) ⟨hx, hb, hml, hown, hts⟩ hK hS ((k_rowAt Z g h0 y) l _) gX9_convert_X9_rowAt rfl 1 (by decide +kernel) ⟨Nat.le_of_ble_eq_true rfl, Nat.le_of_ble_eq_true rfl⟩ h_x hN0 rfl rfl hl.1 rfl (Nat.le_of_ble_eq_true rfl) dX9_convert_18 ⟨Nat.le_of_ble_eq_true rfl, Nat.le_of_ble_eq_true rfl⟩) hS (fun r_38 g_39 H locs hp_40 hS => ?_)
      obtain ⟨rfl, hp_40⟩ := hp_40
      rcases hp_40 with ⟨r1, hs2r, hsvr, err⟩ | ⟨hnvr, err⟩
      · subst err
        have hRr := hX.2.2.2.2.1 r1 hs2r
        obtain ⟨avr, h_rr, h_ar, hkNrr, hnrr, havr⟩ := id hRr
        have hzsr : zro y.toInt := ⟨by omega, by omega⟩
        have htnr : y.toInt.toNat = r1 := by omega
        have hkrr : 9 + 2 * r1 < Z.1 := by omega
        have hkr1r : 9 + 2 * r1 + 1 < Z.1 := by omega
        refine lv_astore (lv' := [(6, .ref (Z.2.1 (9 + 2 * r1))), (5, .ref (Z.2.1 (15 + 13 * s2))), (4, .null), (0, .ref (Z.2.1 0)), (1, .int x), (2, .int y), (3, .int z)]) hx hb dX9_convert_21 hl (by decide) rfl (fun ls hl => ?_)
        refine lv_aload_n hx hb dX9_convert_23 rfl (lv_at hl 3 rfl) ?_
        refine lv_iload_n hx hb dX9_convert_24 rfl (lv_at hl 6 rfl) ?_
        refine z_callq (z_runV (As := [.int z]) (rest := []) ⟨hx, hb, hml, hown, hts⟩ hK hS ((k_rowAt Z g h0 z) l _) gX9_convert_X9_rowAt rfl 1 (by decide +kernel) ⟨Nat.le_of_ble_eq_true rfl, Nat.le_of_ble_eq_true rfl⟩ h_x hN0 rfl rfl hl.1 rfl (Nat.le_of_ble_eq_true rfl) dX9_convert_25 ⟨Nat.le_of_ble_eq_true rfl, Nat.le_of_ble_eq_true rfl⟩) hS (fun r_41 g_42 H locs hp_43 hS => ?_)
        obtain ⟨rfl, hp_43⟩ := hp_43
        rcases hp_43 with ⟨r2, hs2q, hsvq, erq⟩ | ⟨hnvq, erq⟩
        · subst erq
          have hRq := hX.2.2.2.2.1 r2 hs2q
          obtain ⟨avq, h_rq, h_aq, hkNrq, hnrq, havq⟩ := id hRq
          have hzsq : zro z.toInt := ⟨by omega, by omega⟩
          have htnq : z.toInt.toNat = r2 := by omega
          have hkrq : 9 + 2 * r2 < Z.1 := by omega
          have hkr1q : 9 + 2 * r2 + 1 < Z.1 := by omega
          refine lv_astore (lv' := [(7, .ref (Z.2.1 (9 + 2 * r2))), (6, .ref (Z.2.1 (9 + 2 * r1))), (5, .ref (Z.2.1 (15 + 13 * s2))), (4, .null), (0, .ref (Z.2.1 0)), (1, .int x), (2, .int y), (3, .int z)]) hx hb dX9_convert_28 hl (by decide) rfl (fun ls hl => ?_)
          refine lv_aloadN hx hb dX9_convert_30 (lv_at hl 3 rfl) ?_
          refine lv_ifnullN (tgt := 50) hx hb dX9_convert_32 (by decide) ?_
          refine lv_ldc (v := (-1000001)) hx hb hown (hts _ (List.mem_of_getElem? (i := 1) rfl)) dX9_convert_50 ?_
          refine z_iret hx hb hr hlocks hS ?_ dX9_convert_52
          show z_po Z G9 (sp_convert (sg, rw9) x.toInt y.toInt z.toInt) _ _
          unfold sp_convert
          rw [zite_f (fun h9 => hnv h9.1)]
          exact ⟨rfl, hX⟩
        · subst erq
          refine lv_astoreN (lv' := [(7, .null), (6, .ref (Z.2.1 (9 + 2 * r1))), (5, .ref (Z.2.1 (15 + 13 * s2))), (4, .null), (0, .ref (Z.2.1 0)), (1, .int x), (2, .int y), (3, .int z)]) hx hb dX9_convert_28 hl (by decide) rfl (fun ls hl => ?_)
          refine lv_aloadN hx hb dX9_convert_30 (lv_at hl 3 rfl) ?_
          refine lv_ifnullN (tgt := 50) hx hb dX9_convert_32 (by decide) ?_
          refine lv_ldc (v := (-1000001)) hx hb hown (hts _ (List.mem_of_getElem? (i := 1) rfl)) dX9_convert_50 ?_
          refine z_iret hx hb hr hlocks hS ?_ dX9_convert_52
          show z_po Z G9 (sp_convert (sg, rw9) x.toInt y.toInt z.toInt) _ _
          unfold sp_convert
          rw [zite_f (fun h9 => hnv h9.1)]
          exact ⟨rfl, hX⟩
      · subst err
        refine lv_astoreN (lv' := [(6, .null), (5, .ref (Z.2.1 (15 + 13 * s2))), (4, .null), (0, .ref (Z.2.1 0)), (1, .int x), (2, .int y), (3, .int z)]) hx hb dX9_convert_21 hl (by decide) rfl (fun ls hl => ?_)
        refine lv_aload_n hx hb dX9_convert_23 rfl (lv_at hl 3 rfl) ?_
        refine lv_iload_n hx hb dX9_convert_24 rfl (lv_at hl 6 rfl) ?_
        refine z_callq (z_runV (As := [.int z]) (rest := []) ⟨hx, hb, hml, hown, hts⟩ hK hS ((k_rowAt Z g h0 z) l _) gX9_convert_X9_rowAt rfl 1 (by decide +kernel) ⟨Nat.le_of_ble_eq_true rfl, Nat.le_of_ble_eq_true rfl⟩ h_x hN0 rfl rfl hl.1 rfl (Nat.le_of_ble_eq_true rfl) dX9_convert_25 ⟨Nat.le_of_ble_eq_true rfl, Nat.le_of_ble_eq_true rfl⟩) hS (fun r_44 g_45 H locs hp_46 hS => ?_)
        obtain ⟨rfl, hp_46⟩ := hp_46
        rcases hp_46 with ⟨r2, hs2q, hsvq, erq⟩ | ⟨hnvq, erq⟩
        · subst erq
          have hRq := hX.2.2.2.2.1 r2 hs2q
          obtain ⟨avq, h_rq, h_aq, hkNrq, hnrq, havq⟩ := id hRq
          have hzsq : zro z.toInt := ⟨by omega, by omega⟩
          have htnq : z.toInt.toNat = r2 := by omega
          have hkrq : 9 + 2 * r2 < Z.1 := by omega
          have hkr1q : 9 + 2 * r2 + 1 < Z.1 := by omega
          refine lv_astore (lv' := [(7, .ref (Z.2.1 (9 + 2 * r2))), (6, .null), (5, .ref (Z.2.1 (15 + 13 * s2))), (4, .null), (0, .ref (Z.2.1 0)), (1, .int x), (2, .int y), (3, .int z)]) hx hb dX9_convert_28 hl (by decide) rfl (fun ls hl => ?_)
          refine lv_aloadN hx hb dX9_convert_30 (lv_at hl 3 rfl) ?_
          refine lv_ifnullN (tgt := 50) hx hb dX9_convert_32 (by decide) ?_
          refine lv_ldc (v := (-1000001)) hx hb hown (hts _ (List.mem_of_getElem? (i := 1) rfl)) dX9_convert_50 ?_
          refine z_iret hx hb hr hlocks hS ?_ dX9_convert_52
          show z_po Z G9 (sp_convert (sg, rw9) x.toInt y.toInt z.toInt) _ _
          unfold sp_convert
          rw [zite_f (fun h9 => hnv h9.1)]
          exact ⟨rfl, hX⟩
        · subst erq
          refine lv_astoreN (lv' := [(7, .null), (6, .null), (5, .ref (Z.2.1 (15 + 13 * s2))), (4, .null), (0, .ref (Z.2.1 0)), (1, .int x), (2, .int y), (3, .int z)]) hx hb dX9_convert_28 hl (by decide) rfl (fun ls hl => ?_)
          refine lv_aloadN hx hb dX9_convert_30 (lv_at hl 3 rfl) ?_
          refine lv_ifnullN (tgt := 50) hx hb dX9_convert_32 (by decide) ?_
          refine lv_ldc (v := (-1000001)) hx hb hown (hts _ (List.mem_of_getElem? (i := 1) rfl)) dX9_convert_50 ?_
          refine z_iret hx hb hr hlocks hS ?_ dX9_convert_52
          show z_po Z G9 (sp_convert (sg, rw9) x.toInt y.toInt z.toInt) _ _
          unfold sp_convert
          rw [zite_f (fun h9 => hnv h9.1)]
          exact ⟨rfl, hX⟩
    · subst ert
      refine lv_astoreN (lv' := [(5, .null), (4, .null), (0, .ref (Z.2.1 0)), (1, .int x), (2, .int y), (3, .int z)]) hx hb dX9_convert_14 hl (by decide) rfl (fun ls hl => ?_)
      refine lv_aload_n hx hb dX9_convert_16 rfl (lv_at hl 2 rfl) ?_
      refine lv_iload_n hx hb dX9_convert_17 rfl (lv_at hl 4 rfl) ?_
      refine z_callq (z_runV (As := [.int y]) (rest := []) ⟨hx, hb, hml, hown, hts⟩ hK hS ((k_rowAt Z g h0 y) l _) gX9_convert_X9_rowAt rfl 1 (by decide +kernel) ⟨Nat.le_of_ble_eq_true rfl, Nat.le_of_ble_eq_true rfl⟩ h_x hN0 rfl rfl hl.1 rfl (Nat.le_of_ble_eq_true rfl) dX9_convert_18 ⟨Nat.le_of_ble_eq_true rfl, Nat.le_of_ble_eq_true rfl⟩) hS (fun r_47 g_48 H locs hp_49 hS => ?_)
      obtain ⟨rfl, hp_49⟩ := hp_49
      rcases hp_49 with ⟨r1, hs2r, hsvr, err⟩ | ⟨hnvr, err⟩
      · subst err
        have hRr := hX.2.2.2.2.1 r1 hs2r
        obtain ⟨avr, h_rr, h_ar, hkNrr, hnrr, havr⟩ := id hRr
        have hzsr : zro y.toInt := ⟨by omega, by omega⟩
        have htnr : y.toInt.toNat = r1 := by omega
        have hkrr : 9 + 2 * r1 < Z.1 := by omega
        have hkr1r : 9 + 2 * r1 + 1 < Z.1 := by omega
        refine lv_astore (lv' := [(6, .ref (Z.2.1 (9 + 2 * r1))), (5, .null), (4, .null), (0, .ref (Z.2.1 0)), (1, .int x), (2, .int y), (3, .int z)]) hx hb dX9_convert_21 hl (by decide) rfl (fun ls hl => ?_)
        refine lv_aload_n hx hb dX9_convert_23 rfl (lv_at hl 3 rfl) ?_
        refine lv_iload_n hx hb dX9_convert_24 rfl (lv_at hl 6 rfl) ?_
        refine z_callq (z_runV (As := [.int z]) (rest := []) ⟨hx, hb, hml, hown, hts⟩ hK hS ((k_rowAt Z g h0 z) l _) gX9_convert_X9_rowAt rfl 1 (by decide +kernel) ⟨Nat.le_of_ble_eq_true rfl, Nat.le_of_ble_eq_true rfl⟩ h_x hN0 rfl rfl hl.1 rfl (Nat.le_of_ble_eq_true rfl) dX9_convert_25 ⟨Nat.le_of_ble_eq_true rfl, Nat.le_of_ble_eq_true rfl⟩) hS (fun r_50 g_51 H locs hp_52 hS => ?_)
        obtain ⟨rfl, hp_52⟩ := hp_52
        rcases hp_52 with ⟨r2, hs2q, hsvq, erq⟩ | ⟨hnvq, erq⟩
        · subst erq
          have hRq := hX.2.2.2.2.1 r2 hs2q
          obtain ⟨avq, h_rq, h_aq, hkNrq, hnrq, havq⟩ := id hRq
          have hzsq : zro z.toInt := ⟨by omega, by omega⟩
          have htnq : z.toInt.toNat = r2 := by omega
          have hkrq : 9 + 2 * r2 < Z.1 := by omega
          have hkr1q : 9 + 2 * r2 + 1 < Z.1 := by omega
          refine lv_astore (lv' := [(7, .ref (Z.2.1 (9 + 2 * r2))), (6, .ref (Z.2.1 (9 + 2 * r1))), (5, .null), (4, .null), (0, .ref (Z.2.1 0)), (1, .int x), (2, .int y), (3, .int z)]) hx hb dX9_convert_28 hl (by decide) rfl (fun ls hl => ?_)
          refine lv_aloadN hx hb dX9_convert_30 (lv_at hl 3 rfl) ?_
          refine lv_ifnullN (tgt := 50) hx hb dX9_convert_32 (by decide) ?_
          refine lv_ldc (v := (-1000001)) hx hb hown (hts _ (List.mem_of_getElem? (i := 1) rfl)) dX9_convert_50 ?_
          refine z_iret hx hb hr hlocks hS ?_ dX9_convert_52
          show z_po Z G9 (sp_convert (sg, rw9) x.toInt y.toInt z.toInt) _ _
          unfold sp_convert
          rw [zite_f (fun h9 => hnv h9.1)]
          exact ⟨rfl, hX⟩
        · subst erq
          refine lv_astoreN (lv' := [(7, .null), (6, .ref (Z.2.1 (9 + 2 * r1))), (5, .null), (4, .null), (0, .ref (Z.2.1 0)), (1, .int x), (2, .int y), (3, .int z)]) hx hb dX9_convert_28 hl (by decide) rfl (fun ls hl => ?_)
          refine lv_aloadN hx hb dX9_convert_30 (lv_at hl 3 rfl) ?_
          refine lv_ifnullN (tgt := 50) hx hb dX9_convert_32 (by decide) ?_
          refine lv_ldc (v := (-1000001)) hx hb hown (hts _ (List.mem_of_getElem? (i := 1) rfl)) dX9_convert_50 ?_
          refine z_iret hx hb hr hlocks hS ?_ dX9_convert_52
          show z_po Z G9 (sp_convert (sg, rw9) x.toInt y.toInt z.toInt) _ _
          unfold sp_convert
          rw [zite_f (fun h9 => hnv h9.1)]
          exact ⟨rfl, hX⟩
      · subst err
        refine lv_astoreN (lv' := [(6, .null), (5, .null), (4, .null), (0, .ref (Z.2.1 0)), (1, .int x), (2, .int y), (3, .int z)]) hx hb dX9_convert_21 hl (by decide) rfl (fun ls hl => ?_)
        refine lv_aload_n hx hb dX9_convert_23 rfl (lv_at hl 3 rfl) ?_
        refine lv_iload_n hx hb dX9_convert_24 rfl (lv_at hl 6 rfl) ?_
        refine z_callq (z_runV (As := [.int z]) (rest := []) ⟨hx, hb, hml, hown, hts⟩ hK hS ((k_rowAt Z g h0 z) l _) gX9_convert_X9_rowAt rfl 1 (by decide +kernel) ⟨Nat.le_of_ble_eq_true rfl, Nat.le_of_ble_eq_true rfl⟩ h_x hN0 rfl rfl hl.1 rfl (Nat.le_of_ble_eq_true rfl) dX9_convert_25 ⟨Nat.le_of_ble_eq_true rfl, Nat.le_of_ble_eq_true rfl⟩) hS (fun r_53 g_54 H locs hp_55 hS => ?_)
        obtain ⟨rfl, hp_55⟩ := hp_55
        rcases hp_55 with ⟨r2, hs2q, hsvq, erq⟩ | ⟨hnvq, erq⟩
        · subst erq
          have hRq := hX.2.2.2.2.1 r2 hs2q
          obtain ⟨avq, h_rq, h_aq, hkNrq, hnrq, havq⟩ := id hRq
          have hzsq : zro z.toInt := ⟨by omega, by omega⟩
          have htnq : z.toInt.toNat = r2 := by omega
          have hkrq : 9 + 2 * r2 < Z.1 := by omega
          have hkr1q : 9 + 2 * r2 + 1 < Z.1 := by omega
          refine lv_astore (lv' := [(7, .ref (Z.2.1 (9 + 2 * r2))), (6, .null), (5, .null), (4, .null), (0, .ref (Z.2.1 0)), (1, .int x), (2, .int y), (3, .int z)]) hx hb dX9_convert_28 hl (by decide) rfl (fun ls hl => ?_)
          refine lv_aloadN hx hb dX9_convert_30 (lv_at hl 3 rfl) ?_
          refine lv_ifnullN (tgt := 50) hx hb dX9_convert_32 (by decide) ?_
          refine lv_ldc (v := (-1000001)) hx hb hown (hts _ (List.mem_of_getElem? (i := 1) rfl)) dX9_convert_50 ?_
          refine z_iret hx hb hr hlocks hS ?_ dX9_convert_52
          show z_po Z G9 (sp_convert (sg, rw9) x.toInt y.toInt z.toInt) _ _
          unfold sp_convert
          rw [zite_f (fun h9 => hnv h9.1)]
          exact ⟨rfl, hX⟩
        · subst erq
          refine lv_astoreN (lv' := [(7, .null), (6, .null), (5, .null), (4, .null), (0, .ref (Z.2.1 0)), (1, .int x), (2, .int y), (3, .int z)]) hx hb dX9_convert_28 hl (by decide) rfl (fun ls hl => ?_)
          refine lv_aloadN hx hb dX9_convert_30 (lv_at hl 3 rfl) ?_
          refine lv_ifnullN (tgt := 50) hx hb dX9_convert_32 (by decide) ?_
          refine lv_ldc (v := (-1000001)) hx hb hown (hts _ (List.mem_of_getElem? (i := 1) rfl)) dX9_convert_50 ?_
          refine z_iret hx hb hr hlocks hS ?_ dX9_convert_52
          show z_po Z G9 (sp_convert (sg, rw9) x.toInt y.toInt z.toInt) _ _
          unfold sp_convert
          rw [zite_f (fun h9 => hnv h9.1)]
          exact ⟨rfl, hX⟩

theorem in_X9_compute_2 : ∀ w ∈ wsX20, w ∈ wsX9_compute := by decide +kernel
theorem in_X9_compute_5 : ∀ w ∈ wsX50, w ∈ wsX9_compute := by decide +kernel
theorem in_X9_compute_6 : ∀ w ∈ wsX60, w ∈ wsX9_compute := by decide +kernel
theorem in_X9_compute_9 : ∀ w ∈ wsX90, w ∈ wsX9_compute := by decide +kernel
set_option maxHeartbeats 4000000 in
set_option maxRecDepth 100000 in
theorem k_compute (Z : zT) {G9 : Nat → va_E} (g : Nat → va_E) (sg : Nat → zb) (rw9 : Nat → zr) (hX : z_xw Z G9 g sg rw9) (s1 r1 : Nat) (hs2 : s1 < 2) (hs2r : r1 < 3) (hcm : zcm (sg s1)) (n : Nat) (s9 : Nat → Int) (hP3 : z_cp Z g 3 n s9) : z_Mi Z yX9_compute wsX9_compute 5 110 [.ref (Z.2.1 0), .ref (Z.2.1 (15 + 13 * s1)), .ref (Z.2.1 (9 + 2 * r1))] g (fun r g1 => z_po Z G9 (sp_comp (sg, rw9) s1 n s9 r1) r g1) := by
  intro l sz
  have h0 := hX.1
  obtain ⟨hN, h_x, ⟨fS, h_x1, hfS⟩, fR, h_x2, hfR⟩ := id h0
  have hN0 : 0 < Z.1 := by omega
  have hN1 : 1 < Z.1 := by omega
  have hN2 : 2 < Z.1 := by omega
  obtain ⟨h_n, hBs, ⟨w1, w2, w3, w4, w5, w6, hW⟩, h_y, ⟨lw, hw, tb, y1, y2, y3, hO⟩, l0, hC⟩ := hX.2.2.2.2.2 s1 hs2
  obtain ⟨pb, qb, res, cmp, dg, ch, ⟨h_b, h_d, h_c, hkN, hok, hp, hq, hres, hdg⟩, hch, hcmp⟩ := id hBs
  have hkn : 15 + 13 * s1 < Z.1 := by omega
  have hk0 : 16 + 13 * s1 < Z.1 := by omega
  have hk1 : 16 + 13 * s1 + 1 < Z.1 := by omega
  have hk2 : 16 + 13 * s1 + 2 < Z.1 := by omega
  have hPb := zP_bd hok
  have hn12 := hok.2.2.2.1
  have hq1 := hok.2.1
  have hRr := hX.2.2.2.2.1 r1 hs2r
  obtain ⟨avr, h_rr, h_ar, hkNrr, hnrr, havr⟩ := id hRr
  have hkrr : 9 + 2 * r1 < Z.1 := by omega
  have hkr1r : 9 + 2 * r1 + 1 < Z.1 := by omega
  obtain ⟨sv, w0, h_k, h_s, hkN3, hn12k, hsv, hw0⟩ := id hP3
  have hN3 : 3 < Z.1 := by omega
  refine z_enter (maxL := 3) (ret := (some .int)) (lv := [(0, .ref (Z.2.1 0)), (1, .ref (Z.2.1 (15 + 13 * s1))), (2, .ref (Z.2.1 (9 + 2 * r1)))]) (plainFor_of_name (by decide +kernel)) rfl (fun ls h => by subst h; exact lv_entry [.ref (Z.2.1 0), .ref (Z.2.1 (15 + 13 * s1)), .ref (Z.2.1 (9 + 2 * r1))] (n := 3) (Nat.le_of_ble_eq_true rfl)) ?_
  intro p e s m args below meth c hx hb hml hr hlocks hown hts hK hS hsz ls hl
  refine lv_aload_n hx hb dX9_compute_0 rfl (lv_at hl 0 rfl) ?_
  refine z_get (own := RX9) (C := RX9) (T := TX9) (N := 5) hx hb hts in_X9_compute_9 hown hK hS h_x hN0 rfl 2 (by decide) (List.mem_of_getElem? (i := 1) rfl) rfl rfl dX9_compute_1 ?_
  refine lv_aload_n hx hb dX9_compute_4 rfl (lv_at hl 1 rfl) ?_
  refine z_getN (own := RX9) (C := RX5) (T := TX5) (N := 5) hx hb hts in_X9_compute_5 hown hK hS h_n hkn rfl 0 (by decide) 14 rfl rfl rfl dX9_compute_5 ?_
  refine z_calli (z_runVN (As := [.ref (Z.2.1 (16 + 13 * s1))]) (rest := []) (C := RX2) ⟨hx, hb, hml, hown, hts⟩ hK hS ((k_carryThrough Z g 3 (16 + 13 * s1) (sg s1) n s9 hP3 ⟨pb, qb, res, cmp, dg, ch, ⟨h_b, h_d, h_c, hkN, hok, hp, hq, hres, hdg⟩, hch⟩ hcm (Or.inr (by omega))) l _) gX9_compute_X2_carryThrough_n280 rfl 1 31 rfl (List.mem_of_getElem? (i := 4) rfl) (List.mem_of_getElem? (i := 3) rfl) (List.mem_of_getElem? (i := 5) rfl) (by decide +kernel) ⟨Nat.le_of_ble_eq_true rfl, Nat.le_of_ble_eq_true rfl⟩ h_k hN3 rfl rfl hl.1 rfl (Nat.le_of_ble_eq_true rfl) dX9_compute_8 ⟨Nat.le_of_ble_eq_true rfl, Nat.le_of_ble_eq_true rfl⟩) hS (fun rc g_1 H locs hp_2 hS => ?_)
  obtain ⟨hP4, hrc, hfr_3⟩ := hp_2
  have h_x := (hfr_3 _ (by omega)).trans h_x
  have h_x1 := (hfr_3 _ (by omega)).trans h_x1
  have h_x2 := (hfr_3 _ (by omega)).trans h_x2
  have h_n := (hfr_3 _ (by omega)).trans h_n
  have h_b := (hfr_3 _ (by omega)).trans h_b
  have h_d := (hfr_3 _ (by omega)).trans h_d
  have h_c := (hfr_3 _ (by omega)).trans h_c
  have h_rr := (hfr_3 _ (by omega)).trans h_rr
  have h_ar := (hfr_3 _ (by omega)).trans h_ar
  have hX := hX.comp hfr_3 hP4.cr
  obtain ⟨sv4, w4, h_k, -⟩ := id hP4
  refine lv_if_ne (tgt := 17) hx hb dX9_compute_11 (by decide) (fun c_4 => ?_) (fun c_4 => ?_)
  · have i_4 := z_ne c_4
    rw [tI_0] at i_4
    rcases hrc with ⟨hz13, -, hR5⟩ | ⟨-, hr0⟩
    rotate_left
    · exact absurd hr0 c_4
    obtain ⟨nz, enz⟩ : ∃ nz : Nat, nz = ztr (zdq (sg s1) s9) (zcN (sg s1) n s9) := ⟨_, rfl⟩
    rw [← enz] at hR5
    refine lv_aload_n hx hb dX9_compute_17 rfl (lv_at hl 2 rfl) ?_
    refine lv_aload_n hx hb dX9_compute_18 rfl (lv_at hl 0 rfl) ?_
    refine z_get (own := RX9) (C := RX9) (T := TX9) (N := 5) hx hb hts in_X9_compute_9 hown hK hS h_x hN0 rfl 2 (by decide) (List.mem_of_getElem? (i := 1) rfl) rfl rfl dX9_compute_19 ?_
    refine z_getN (own := RX9) (C := RX2) (T := TX2) (N := 3) hx hb hts in_X9_compute_2 hown hK hS h_k hN3 rfl 2 (by decide) 13 rfl rfl rfl dX9_compute_22 ?_
    refine z_callv (z_runVN (As := [.ref (Z.2.1 (3 + 2))]) (rest := []) (C := RX6) ⟨hx, hb, hml, hown, hts⟩ hK hS ((k_rbecome Z g_1 (9 + 2 * r1) (rw9 r1) ⟨avr, h_rr, h_ar, hkNrr, hnrr, havr⟩ (3 + 2) (nz, zdq (sg s1) s9) hR5 (Or.inr (by omega))) l _) gX9_compute_X6_become_n288 rfl 1 32 rfl (List.mem_of_getElem? (i := 30) rfl) (List.mem_of_getElem? (i := 51) rfl) (List.mem_of_getElem? (i := 52) rfl) (by decide +kernel) ⟨Nat.le_of_ble_eq_true rfl, Nat.le_of_ble_eq_true rfl⟩ h_rr hkrr rfl rfl hl.1 rfl (Nat.le_of_ble_eq_true rfl) dX9_compute_25 ⟨Nat.le_of_ble_eq_true rfl, Nat.le_of_ble_eq_true rfl⟩) hS (fun g_6 H locs hp_7 hS => ?_)
    obtain ⟨hR2, hfr_8⟩ := hp_7
    have h_x := (hfr_8 _ (by omega)).trans h_x
    have h_x1 := (hfr_8 _ (by omega)).trans h_x1
    have h_x2 := (hfr_8 _ (by omega)).trans h_x2
    have h_n := (hfr_8 _ (by omega)).trans h_n
    have h_b := (hfr_8 _ (by omega)).trans h_b
    have h_d := (hfr_8 _ (by omega)).trans h_d
    have h_c := (hfr_8 _ (by omega)).trans h_c
    have h_k := (hfr_8 _ (by omega)).trans h_k
    obtain ⟨av2, h_rr, -, -, hn2, -⟩ := id hR2
    have hn3 : nz ≤ 12 := hn2
    refine lv_aload_n hx hb dX9_compute_28 rfl (lv_at hl 2 rfl) ?_
    refine z_getN (own := RX9) (C := RX6) (T := TX6) (N := 2) hx hb hts in_X9_compute_6 hown hK hS h_rr hkrr rfl 1 (by decide) 6 rfl rfl rfl dX9_compute_29 ?_
    refine z_iret hx hb hr hlocks hS ?_ dX9_compute_32
    show z_po Z G9 (sp_comp (sg, rw9) s1 n s9 r1) _ _
    unfold sp_comp
    dsimp only
    rw [zite_t hz13, ← enz]
    exact ⟨nI_toInt (by omega), hX.row hs2r (z_fr.rf.tr (hfr_8.wide (by omega) (by omega))) hR2⟩
  · have i_4 := z_eq c_4
    rw [tI_0] at i_4
    rcases hrc with ⟨-, hr1, -⟩ | ⟨hz13, -⟩
    · rw [hr1] at c_4; exact absurd c_4 (by decide)
    refine lv_ldc (v := (-1000005)) hx hb hown (hts _ (List.mem_of_getElem? (i := 2) rfl)) dX9_compute_14 ?_
    refine z_iret hx hb hr hlocks hS ?_ dX9_compute_16
    show z_po Z G9 (sp_comp (sg, rw9) s1 n s9 r1) _ _
    unfold sp_comp
    dsimp only
    rw [zite_f hz13]
    exact ⟨rfl, hX⟩

theorem in_X9_add_0 : ∀ w ∈ wsX00, w ∈ wsX9_add := by decide +kernel
theorem in_X9_add_5 : ∀ w ∈ wsX50, w ∈ wsX9_add := by decide +kernel
theorem in_X9_add_9 : ∀ w ∈ wsX90, w ∈ wsX9_add := by decide +kernel
set_option maxHeartbeats 4000000 in
set_option maxRecDepth 100000 in
theorem k_add (Z : zT) {G9 : Nat → va_E} (g : Nat → va_E) (sg : Nat → zb) (rw9 : Nat → zr) (hX : z_xw Z G9 g sg rw9) (x y z u : Int32) : z_Mi Z yX9_add wsX9_add 6 132 [.ref (Z.2.1 0), .int x, .int y, .int z, .int u] g (fun r g1 => z_po Z G9 (sp_add (sg, rw9) x.toInt y.toInt z.toInt u.toInt) r g1) := by
  intro l sz
  have h0 := hX.1
  obtain ⟨hN, h_x, ⟨fS, h_x1, hfS⟩, fR, h_x2, hfR⟩ := id h0
  have hN0 : 0 < Z.1 := by omega
  have hN1 : 1 < Z.1 := by omega
  have hN2 : 2 < Z.1 := by omega
  obtain ⟨fa1, fa2, h_f⟩ := hX.2.2.1.1
  obtain ⟨fb1, fb2, h_f2⟩ := hX.2.2.2.1
  obtain ⟨vc1, svc, w0c, h_k, h_s, hkN3, hw0⟩ := id hX.2.1
  have hN7 : 7 < Z.1 := by omega
  have hN8 : 8 < Z.1 := by omega
  have hN3 : 3 < Z.1 := by omega
  refine z_enter (maxL := 9) (ret := (some .int)) (lv := [(0, .ref (Z.2.1 0)), (1, .int x), (2, .int y), (3, .int z), (4, .int u)]) (plainFor_of_name (by decide +kernel)) rfl (fun ls h => by subst h; exact lv_entry [.ref (Z.2.1 0), .int x, .int y, .int z, .int u] (n := 9) (Nat.le_of_ble_eq_true rfl)) ?_
  intro p e s m args below meth c hx hb hml hr hlocks hown hts hK hS hsz ls hl
  refine lv_aload_n hx hb dX9_add_0 rfl (lv_at hl 0 rfl) ?_
  refine lv_iload_n hx hb dX9_add_1 rfl (lv_at hl 1 rfl) ?_
  refine z_callq (z_runV (As := [.int x]) (rest := []) ⟨hx, hb, hml, hown, hts⟩ hK hS ((k_systemAt Z g h0 x) l _) gX9_add_X9_systemAt rfl 1 (by decide +kernel) ⟨Nat.le_of_ble_eq_true rfl, Nat.le_of_ble_eq_true rfl⟩ h_x hN0 rfl rfl hl.1 rfl (Nat.le_of_ble_eq_true rfl) dX9_add_2 ⟨Nat.le_of_ble_eq_true rfl, Nat.le_of_ble_eq_true rfl⟩) hS (fun r_1 g_2 H locs hp_3 hS => ?_)
  obtain ⟨rfl, hp_3⟩ := hp_3
  rcases hp_3 with ⟨s1, hs2, hsv, er⟩ | ⟨hnv, er⟩
  · subst er
    obtain ⟨h_n, hBs, ⟨w1, w2, w3, w4, w5, w6, hW⟩, h_y, ⟨lw, hw, tb, y1, y2, y3, hO⟩, l0, hC⟩ := hX.2.2.2.2.2 s1 hs2
    have hzs : zsy x.toInt := ⟨by omega, by omega⟩
    have htn : x.toInt.toNat = s1 := by omega
    obtain ⟨pb, qb, res, cmp, dg, ch, ⟨h_b, h_d, h_c, hkN, hok, hp, hq, hres, hdg⟩, hch, hcmp⟩ := id hBs
    have hkn : 15 + 13 * s1 < Z.1 := by omega
    have hk0 : 16 + 13 * s1 < Z.1 := by omega
    have hk1 : 16 + 13 * s1 + 1 < Z.1 := by omega
    have hk2 : 16 + 13 * s1 + 2 < Z.1 := by omega
    have hPb := zP_bd hok
    have hn12 := hok.2.2.2.1
    have hq1 := hok.2.1
    refine lv_astore (lv' := [(5, .ref (Z.2.1 (15 + 13 * s1))), (0, .ref (Z.2.1 0)), (1, .int x), (2, .int y), (3, .int z), (4, .int u)]) hx hb dX9_add_5 hl (by decide) rfl (fun ls hl => ?_)
    refine lv_aload_n hx hb dX9_add_7 rfl (lv_at hl 1 rfl) ?_
    refine lv_iload_n hx hb dX9_add_8 rfl (lv_at hl 3 rfl) ?_
    refine z_callq (z_runV (As := [.int y]) (rest := []) ⟨hx, hb, hml, hown, hts⟩ hK hS ((k_rowAt Z g h0 y) l _) gX9_add_X9_rowAt rfl 1 (by decide +kernel) ⟨Nat.le_of_ble_eq_true rfl, Nat.le_of_ble_eq_true rfl⟩ h_x hN0 rfl rfl hl.1 rfl (Nat.le_of_ble_eq_true rfl) dX9_add_9 ⟨Nat.le_of_ble_eq_true rfl, Nat.le_of_ble_eq_true rfl⟩) hS (fun r_4 g_5 H locs hp_6 hS => ?_)
    obtain ⟨rfl, hp_6⟩ := hp_6
    rcases hp_6 with ⟨r1, hs2r, hsvr, err⟩ | ⟨hnvr, err⟩
    · subst err
      have hRr := hX.2.2.2.2.1 r1 hs2r
      obtain ⟨avr, h_rr, h_ar, hkNrr, hnrr, havr⟩ := id hRr
      have hzsr : zro y.toInt := ⟨by omega, by omega⟩
      have htnr : y.toInt.toNat = r1 := by omega
      have hkrr : 9 + 2 * r1 < Z.1 := by omega
      have hkr1r : 9 + 2 * r1 + 1 < Z.1 := by omega
      refine lv_astore (lv' := [(6, .ref (Z.2.1 (9 + 2 * r1))), (5, .ref (Z.2.1 (15 + 13 * s1))), (0, .ref (Z.2.1 0)), (1, .int x), (2, .int y), (3, .int z), (4, .int u)]) hx hb dX9_add_12 hl (by decide) rfl (fun ls hl => ?_)
      refine lv_aload_n hx hb dX9_add_14 rfl (lv_at hl 2 rfl) ?_
      refine lv_iload_n hx hb dX9_add_15 rfl (lv_at hl 5 rfl) ?_
      refine z_callq (z_runV (As := [.int z]) (rest := []) ⟨hx, hb, hml, hown, hts⟩ hK hS ((k_rowAt Z g h0 z) l _) gX9_add_X9_rowAt rfl 1 (by decide +kernel) ⟨Nat.le_of_ble_eq_true rfl, Nat.le_of_ble_eq_true rfl⟩ h_x hN0 rfl rfl hl.1 rfl (Nat.le_of_ble_eq_true rfl) dX9_add_16 ⟨Nat.le_of_ble_eq_true rfl, Nat.le_of_ble_eq_true rfl⟩) hS (fun r_7 g_8 H locs hp_9 hS => ?_)
      obtain ⟨rfl, hp_9⟩ := hp_9
      rcases hp_9 with ⟨r2, hs2q, hsvq, erq⟩ | ⟨hnvq, erq⟩
      · subst erq
        have hRq := hX.2.2.2.2.1 r2 hs2q
        obtain ⟨avq, h_rq, h_aq, hkNrq, hnrq, havq⟩ := id hRq
        have hzsq : zro z.toInt := ⟨by omega, by omega⟩
        have htnq : z.toInt.toNat = r2 := by omega
        have hkrq : 9 + 2 * r2 < Z.1 := by omega
        have hkr1q : 9 + 2 * r2 + 1 < Z.1 := by omega
        refine lv_astore (lv' := [(7, .ref (Z.2.1 (9 + 2 * r2))), (6, .ref (Z.2.1 (9 + 2 * r1))), (5, .ref (Z.2.1 (15 + 13 * s1))), (0, .ref (Z.2.1 0)), (1, .int x), (2, .int y), (3, .int z), (4, .int u)]) hx hb dX9_add_19 hl (by decide) rfl (fun ls hl => ?_)
        refine lv_aload_n hx hb dX9_add_21 rfl (lv_at hl 3 rfl) ?_
        refine lv_iload hx hb dX9_add_22 (lv_at hl 7 rfl) ?_
        refine z_callq (z_runV (As := [.int u]) (rest := []) ⟨hx, hb, hml, hown, hts⟩ hK hS ((k_rowAt Z g h0 u) l _) gX9_add_X9_rowAt rfl 1 (by decide +kernel) ⟨Nat.le_of_ble_eq_true rfl, Nat.le_of_ble_eq_true rfl⟩ h_x hN0 rfl rfl hl.1 rfl (Nat.le_of_ble_eq_true rfl) dX9_add_24 ⟨Nat.le_of_ble_eq_true rfl, Nat.le_of_ble_eq_true rfl⟩) hS (fun r_10 g_11 H locs hp_12 hS => ?_)
        obtain ⟨rfl, hp_12⟩ := hp_12
        rcases hp_12 with ⟨r3, hs2w, hsvw, erw⟩ | ⟨hnvw, erw⟩
        · subst erw
          have hRw := hX.2.2.2.2.1 r3 hs2w
          obtain ⟨avw, h_rw, h_aw, hkNrw, hnrw, havw⟩ := id hRw
          have hzsw : zro u.toInt := ⟨by omega, by omega⟩
          have htnw : u.toInt.toNat = r3 := by omega
          have hkrw : 9 + 2 * r3 < Z.1 := by omega
          have hkr1w : 9 + 2 * r3 + 1 < Z.1 := by omega
          refine lv_astore (lv' := [(8, .ref (Z.2.1 (9 + 2 * r3))), (7, .ref (Z.2.1 (9 + 2 * r2))), (6, .ref (Z.2.1 (9 + 2 * r1))), (5, .ref (Z.2.1 (15 + 13 * s1))), (0, .ref (Z.2.1 0)), (1, .int x), (2, .int y), (3, .int z), (4, .int u)]) hx hb dX9_add_27 hl (by decide) rfl (fun ls hl => ?_)
          refine lv_aload hx hb dX9_add_29 (lv_at hl 3 rfl) ?_
          refine lv_ifnull hx hb dX9_add_31 ?_
          refine lv_aload hx hb dX9_add_34 (lv_at hl 2 rfl) ?_
          refine lv_ifnull hx hb dX9_add_36 ?_
          refine lv_aload hx hb dX9_add_39 (lv_at hl 1 rfl) ?_
          refine lv_ifnull hx hb dX9_add_41 ?_
          refine lv_aload hx hb dX9_add_44 (lv_at hl 0 rfl) ?_
          refine lv_ifnonnull (tgt := 52) hx hb dX9_add_46 (by decide) ?_
          refine lv_aload hx hb dX9_add_52 (lv_at hl 3 rfl) ?_
          refine z_getN (own := RX9) (C := RX5) (T := TX5) (N := 5) hx hb hts in_X9_add_5 hown hK hS h_n hkn rfl 0 (by decide) 14 rfl rfl rfl dX9_add_54 ?_
          refine z_getN (own := RX9) (C := RX0) (T := TX0) (N := 7) hx hb hts in_X9_add_0 hown hK hS h_b hk0 rfl 4 (by decide) 1 rfl rfl rfl dX9_add_57 ?_
          refine lv_if_ne (tgt := 66) hx hb dX9_add_60 (by decide) (fun c_13 => ?_) (fun c_13 => ?_)
          · have i_13 := z_ne c_13
            rw [tI_0] at i_13
            have hcm := zbo_t hcmp c_13
            refine lv_aload_n hx hb dX9_add_66 rfl (lv_at hl 4 rfl) ?_
            refine z_get (own := RX9) (C := RX9) (T := TX9) (N := 5) hx hb hts in_X9_add_9 hown hK hS h_x hN0 rfl 2 (by decide) (List.mem_of_getElem? (i := 3) rfl) rfl rfl dX9_add_67 ?_
            refine lv_aload hx hb dX9_add_70 (lv_at hl 2 rfl) ?_
            refine lv_aload hx hb dX9_add_72 (lv_at hl 1 rfl) ?_
            refine z_callv (z_runVN (As := [.ref (Z.2.1 (9 + 2 * r1)), .ref (Z.2.1 (9 + 2 * r2))]) (rest := []) (C := RX2) ⟨hx, hb, hml, hown, hts⟩ hK hS ((k_giveSums Z g 3 hX.2.1 (9 + 2 * r1) (rw9 r1) ⟨avr, h_rr, h_ar, hkNrr, hnrr, havr⟩ (Or.inr (by omega)) (9 + 2 * r2) (rw9 r2) ⟨avq, h_rq, h_aq, hkNrq, hnrq, havq⟩ (Or.inr (by omega))) l _) gX9_add_X2_giveSums_n206 rfl 2 15 rfl (List.mem_of_getElem? (i := 16) rfl) (List.mem_of_getElem? (i := 15) rfl) (List.mem_of_getElem? (i := 17) rfl) (by decide +kernel) ⟨Nat.le_of_ble_eq_true rfl, Nat.le_of_ble_eq_true rfl⟩ h_k hN3 rfl rfl hl.1 rfl (Nat.le_of_ble_eq_true rfl) dX9_add_74 ⟨Nat.le_of_ble_eq_true rfl, Nat.le_of_ble_eq_true rfl⟩) hS (fun g_15 H locs hp_16 hS => ?_)
            obtain ⟨hP4, hfr_17⟩ := hp_16
            have h_x := (hfr_17 _ (by omega)).trans h_x
            have h_x1 := (hfr_17 _ (by omega)).trans h_x1
            have h_x2 := (hfr_17 _ (by omega)).trans h_x2
            have h_f := (hfr_17 _ (by omega)).trans h_f
            have h_f2 := (hfr_17 _ (by omega)).trans h_f2
            have h_n := (hfr_17 _ (by omega)).trans h_n
            have h_b := (hfr_17 _ (by omega)).trans h_b
            have h_d := (hfr_17 _ (by omega)).trans h_d
            have h_c := (hfr_17 _ (by omega)).trans h_c
            have h_rr := (hfr_17 _ (by omega)).trans h_rr
            have h_ar := (hfr_17 _ (by omega)).trans h_ar
            have h_rq := (hfr_17 _ (by omega)).trans h_rq
            have h_aq := (hfr_17 _ (by omega)).trans h_aq
            have h_rw := (hfr_17 _ (by omega)).trans h_rw
            have h_aw := (hfr_17 _ (by omega)).trans h_aw
            have hX := hX.comp (hfr_17.wide (by omega) (by omega)) hP4.cr
            refine lv_aload_n hx hb dX9_add_77 rfl (lv_at hl 4 rfl) ?_
            refine lv_aload hx hb dX9_add_78 (lv_at hl 3 rfl) ?_
            refine lv_aload hx hb dX9_add_80 (lv_at hl 0 rfl) ?_
            refine z_calli (z_runV (As := [.ref (Z.2.1 (15 + 13 * s1)), .ref (Z.2.1 (9 + 2 * r3))]) (rest := []) ⟨hx, hb, hml, hown, hts⟩ hK hS ((k_compute Z g_15 sg rw9 hX s1 r3 hs2 hs2w hcm _ _ hP4) l _) gX9_add_X9_compute rfl 2 (by decide +kernel) ⟨Nat.le_of_ble_eq_true rfl, Nat.le_of_ble_eq_true rfl⟩ h_x hN0 rfl rfl hl.1 rfl (Nat.le_of_ble_eq_true rfl) dX9_add_82 ⟨Nat.le_of_ble_eq_true rfl, Nat.le_of_ble_eq_true rfl⟩) hS (fun rk g_18 H locs hp_19 hS => ?_)
            have hpo := hp_19
            refine z_iret hx hb hr hlocks hS ?_ dX9_add_85
            show z_po Z G9 (sp_add (sg, rw9) x.toInt y.toInt z.toInt u.toInt) _ _
            unfold sp_add
            rw [zite_t ⟨hzs, hzsr, hzsq, hzsw⟩, htn, htnr, htnq, htnw, zite_t hcm]
            exact hpo
          · have i_13 := z_eq c_13
            rw [tI_0] at i_13
            have hncm := zbo_f hcmp c_13
            refine lv_ldc (v := (-1000003)) hx hb hown (hts _ (List.mem_of_getElem? (i := 2) rfl)) dX9_add_63 ?_
            refine z_iret hx hb hr hlocks hS ?_ dX9_add_65
            show z_po Z G9 (sp_add (sg, rw9) x.toInt y.toInt z.toInt u.toInt) _ _
            unfold sp_add
            rw [zite_t ⟨hzs, hzsr, hzsq, hzsw⟩, htn, zite_f hncm]
            exact ⟨rfl, hX⟩
        · subst erw
          refine lv_astoreN (lv' := [(8, .null), (7, .ref (Z.2.1 (9 + 2 * r2))), (6, .ref (Z.2.1 (9 + 2 * r1))), (5, .ref (Z.2.1 (15 + 13 * s1))), (0, .ref (Z.2.1 0)), (1, .int x), (2, .int y), (3, .int z), (4, .int u)]) hx hb dX9_add_27 hl (by decide) rfl (fun ls hl => ?_)
          refine lv_aload hx hb dX9_add_29 (lv_at hl 3 rfl) ?_
          refine lv_ifnull hx hb dX9_add_31 ?_
          refine lv_aload hx hb dX9_add_34 (lv_at hl 2 rfl) ?_
          refine lv_ifnull hx hb dX9_add_36 ?_
          refine lv_aload hx hb dX9_add_39 (lv_at hl 1 rfl) ?_
          refine lv_ifnull hx hb dX9_add_41 ?_
          refine lv_aloadN hx hb dX9_add_44 (lv_at hl 0 rfl) ?_
          refine lv_ifnonnullN hx hb dX9_add_46 ?_
          refine lv_ldc (v := (-1000001)) hx hb hown (hts _ (List.mem_of_getElem? (i := 1) rfl)) dX9_add_49 ?_
          refine z_iret hx hb hr hlocks hS ?_ dX9_add_51
          show z_po Z G9 (sp_add (sg, rw9) x.toInt y.toInt z.toInt u.toInt) _ _
          unfold sp_add
          rw [zite_f (fun h9 => hnvw h9.2.2.2)]
          exact ⟨rfl, hX⟩
      · subst erq
        refine lv_astoreN (lv' := [(7, .null), (6, .ref (Z.2.1 (9 + 2 * r1))), (5, .ref (Z.2.1 (15 + 13 * s1))), (0, .ref (Z.2.1 0)), (1, .int x), (2, .int y), (3, .int z), (4, .int u)]) hx hb dX9_add_19 hl (by decide) rfl (fun ls hl => ?_)
        refine lv_aload_n hx hb dX9_add_21 rfl (lv_at hl 3 rfl) ?_
        refine lv_iload hx hb dX9_add_22 (lv_at hl 7 rfl) ?_
        refine z_callq (z_runV (As := [.int u]) (rest := []) ⟨hx, hb, hml, hown, hts⟩ hK hS ((k_rowAt Z g h0 u) l _) gX9_add_X9_rowAt rfl 1 (by decide +kernel) ⟨Nat.le_of_ble_eq_true rfl, Nat.le_of_ble_eq_true rfl⟩ h_x hN0 rfl rfl hl.1 rfl (Nat.le_of_ble_eq_true rfl) dX9_add_24 ⟨Nat.le_of_ble_eq_true rfl, Nat.le_of_ble_eq_true rfl⟩) hS (fun r_20 g_21 H locs hp_22 hS => ?_)
        obtain ⟨rfl, hp_22⟩ := hp_22
        rcases hp_22 with ⟨r3, hs2w, hsvw, erw⟩ | ⟨hnvw, erw⟩
        · subst erw
          have hRw := hX.2.2.2.2.1 r3 hs2w
          obtain ⟨avw, h_rw, h_aw, hkNrw, hnrw, havw⟩ := id hRw
          have hzsw : zro u.toInt := ⟨by omega, by omega⟩
          have htnw : u.toInt.toNat = r3 := by omega
          have hkrw : 9 + 2 * r3 < Z.1 := by omega
          have hkr1w : 9 + 2 * r3 + 1 < Z.1 := by omega
          refine lv_astore (lv' := [(8, .ref (Z.2.1 (9 + 2 * r3))), (7, .null), (6, .ref (Z.2.1 (9 + 2 * r1))), (5, .ref (Z.2.1 (15 + 13 * s1))), (0, .ref (Z.2.1 0)), (1, .int x), (2, .int y), (3, .int z), (4, .int u)]) hx hb dX9_add_27 hl (by decide) rfl (fun ls hl => ?_)
          refine lv_aload hx hb dX9_add_29 (lv_at hl 3 rfl) ?_
          refine lv_ifnull hx hb dX9_add_31 ?_
          refine lv_aload hx hb dX9_add_34 (lv_at hl 2 rfl) ?_
          refine lv_ifnull hx hb dX9_add_36 ?_
          refine lv_aloadN hx hb dX9_add_39 (lv_at hl 1 rfl) ?_
          refine lv_ifnullN (tgt := 49) hx hb dX9_add_41 (by decide) ?_
          refine lv_ldc (v := (-1000001)) hx hb hown (hts _ (List.mem_of_getElem? (i := 1) rfl)) dX9_add_49 ?_
          refine z_iret hx hb hr hlocks hS ?_ dX9_add_51
          show z_po Z G9 (sp_add (sg, rw9) x.toInt y.toInt z.toInt u.toInt) _ _
          unfold sp_add
          rw [zite_f (fun h9 => hnvq h9.2.2.1)]
          exact ⟨rfl, hX⟩
        · subst erw
          refine lv_astoreN (lv' := [(8, .null), (7, .null), (6, .ref (Z.2.1 (9 + 2 * r1))), (5, .ref (Z.2.1 (15 + 13 * s1))), (0, .ref (Z.2.1 0)), (1, .int x), (2, .int y), (3, .int z), (4, .int u)]) hx hb dX9_add_27 hl (by decide) rfl (fun ls hl => ?_)
          refine lv_aload hx hb dX9_add_29 (lv_at hl 3 rfl) ?_
          refine lv_ifnull hx hb dX9_add_31 ?_
          refine lv_aload hx hb dX9_add_34 (lv_at hl 2 rfl) ?_
          refine lv_ifnull hx hb dX9_add_36 ?_
          refine lv_aloadN hx hb dX9_add_39 (lv_at hl 1 rfl) ?_
          refine lv_ifnullN (tgt := 49) hx hb dX9_add_41 (by decide) ?_
          refine lv_ldc (v := (-1000001)) hx hb hown (hts _ (List.mem_of_getElem? (i := 1) rfl)) dX9_add_49 ?_
          refine z_iret hx hb hr hlocks hS ?_ dX9_add_51
          show z_po Z G9 (sp_add (sg, rw9) x.toInt y.toInt z.toInt u.toInt) _ _
          unfold sp_add
          rw [zite_f (fun h9 => hnvq h9.2.2.1)]
          exact ⟨rfl, hX⟩
    · subst err
      refine lv_astoreN (lv' := [(6, .null), (5, .ref (Z.2.1 (15 + 13 * s1))), (0, .ref (Z.2.1 0)), (1, .int x), (2, .int y), (3, .int z), (4, .int u)]) hx hb dX9_add_12 hl (by decide) rfl (fun ls hl => ?_)
      refine lv_aload_n hx hb dX9_add_14 rfl (lv_at hl 2 rfl) ?_
      refine lv_iload_n hx hb dX9_add_15 rfl (lv_at hl 5 rfl) ?_
      refine z_callq (z_runV (As := [.int z]) (rest := []) ⟨hx, hb, hml, hown, hts⟩ hK hS ((k_rowAt Z g h0 z) l _) gX9_add_X9_rowAt rfl 1 (by decide +kernel) ⟨Nat.le_of_ble_eq_true rfl, Nat.le_of_ble_eq_true rfl⟩ h_x hN0 rfl rfl hl.1 rfl (Nat.le_of_ble_eq_true rfl) dX9_add_16 ⟨Nat.le_of_ble_eq_true rfl, Nat.le_of_ble_eq_true rfl⟩) hS (fun r_23 g_24 H locs hp_25 hS => ?_)
      obtain ⟨rfl, hp_25⟩ := hp_25
      rcases hp_25 with ⟨r2, hs2q, hsvq, erq⟩ | ⟨hnvq, erq⟩
      · subst erq
        have hRq := hX.2.2.2.2.1 r2 hs2q
        obtain ⟨avq, h_rq, h_aq, hkNrq, hnrq, havq⟩ := id hRq
        have hzsq : zro z.toInt := ⟨by omega, by omega⟩
        have htnq : z.toInt.toNat = r2 := by omega
        have hkrq : 9 + 2 * r2 < Z.1 := by omega
        have hkr1q : 9 + 2 * r2 + 1 < Z.1 := by omega
        refine lv_astore (lv' := [(7, .ref (Z.2.1 (9 + 2 * r2))), (6, .null), (5, .ref (Z.2.1 (15 + 13 * s1))), (0, .ref (Z.2.1 0)), (1, .int x), (2, .int y), (3, .int z), (4, .int u)]) hx hb dX9_add_19 hl (by decide) rfl (fun ls hl => ?_)
        refine lv_aload_n hx hb dX9_add_21 rfl (lv_at hl 3 rfl) ?_
        refine lv_iload hx hb dX9_add_22 (lv_at hl 7 rfl) ?_
        refine z_callq (z_runV (As := [.int u]) (rest := []) ⟨hx, hb, hml, hown, hts⟩ hK hS ((k_rowAt Z g h0 u) l _) gX9_add_X9_rowAt rfl 1 (by decide +kernel) ⟨Nat.le_of_ble_eq_true rfl, Nat.le_of_ble_eq_true rfl⟩ h_x hN0 rfl rfl hl.1 rfl (Nat.le_of_ble_eq_true rfl) dX9_add_24 ⟨Nat.le_of_ble_eq_true rfl, Nat.le_of_ble_eq_true rfl⟩) hS (fun r_26 g_27 H locs hp_28 hS => ?_)
        obtain ⟨rfl, hp_28⟩ := hp_28
        rcases hp_28 with ⟨r3, hs2w, hsvw, erw⟩ | ⟨hnvw, erw⟩
        · subst erw
          have hRw := hX.2.2.2.2.1 r3 hs2w
          obtain ⟨avw, h_rw, h_aw, hkNrw, hnrw, havw⟩ := id hRw
          have hzsw : zro u.toInt := ⟨by omega, by omega⟩
          have htnw : u.toInt.toNat = r3 := by omega
          have hkrw : 9 + 2 * r3 < Z.1 := by omega
          have hkr1w : 9 + 2 * r3 + 1 < Z.1 := by omega
          refine lv_astore (lv' := [(8, .ref (Z.2.1 (9 + 2 * r3))), (7, .ref (Z.2.1 (9 + 2 * r2))), (6, .null), (5, .ref (Z.2.1 (15 + 13 * s1))), (0, .ref (Z.2.1 0)), (1, .int x), (2, .int y), (3, .int z), (4, .int u)]) hx hb dX9_add_27 hl (by decide) rfl (fun ls hl => ?_)
          refine lv_aload hx hb dX9_add_29 (lv_at hl 3 rfl) ?_
          refine lv_ifnull hx hb dX9_add_31 ?_
          refine lv_aloadN hx hb dX9_add_34 (lv_at hl 2 rfl) ?_
          refine lv_ifnullN (tgt := 49) hx hb dX9_add_36 (by decide) ?_
          refine lv_ldc (v := (-1000001)) hx hb hown (hts _ (List.mem_of_getElem? (i := 1) rfl)) dX9_add_49 ?_
          refine z_iret hx hb hr hlocks hS ?_ dX9_add_51
          show z_po Z G9 (sp_add (sg, rw9) x.toInt y.toInt z.toInt u.toInt) _ _
          unfold sp_add
          rw [zite_f (fun h9 => hnvr h9.2.1)]
          exact ⟨rfl, hX⟩
        · subst erw
          refine lv_astoreN (lv' := [(8, .null), (7, .ref (Z.2.1 (9 + 2 * r2))), (6, .null), (5, .ref (Z.2.1 (15 + 13 * s1))), (0, .ref (Z.2.1 0)), (1, .int x), (2, .int y), (3, .int z), (4, .int u)]) hx hb dX9_add_27 hl (by decide) rfl (fun ls hl => ?_)
          refine lv_aload hx hb dX9_add_29 (lv_at hl 3 rfl) ?_
          refine lv_ifnull hx hb dX9_add_31 ?_
          refine lv_aloadN hx hb dX9_add_34 (lv_at hl 2 rfl) ?_
          refine lv_ifnullN (tgt := 49) hx hb dX9_add_36 (by decide) ?_
          refine lv_ldc (v := (-1000001)) hx hb hown (hts _ (List.mem_of_getElem? (i := 1) rfl)) dX9_add_49 ?_
          refine z_iret hx hb hr hlocks hS ?_ dX9_add_51
          show z_po Z G9 (sp_add (sg, rw9) x.toInt y.toInt z.toInt u.toInt) _ _
          unfold sp_add
          rw [zite_f (fun h9 => hnvr h9.2.1)]
          exact ⟨rfl, hX⟩
      · subst erq
        refine lv_astoreN (lv' := [(7, .null), (6, .null), (5, .ref (Z.2.1 (15 + 13 * s1))), (0, .ref (Z.2.1 0)), (1, .int x), (2, .int y), (3, .int z), (4, .int u)]) hx hb dX9_add_19 hl (by decide) rfl (fun ls hl => ?_)
        refine lv_aload_n hx hb dX9_add_21 rfl (lv_at hl 3 rfl) ?_
        refine lv_iload hx hb dX9_add_22 (lv_at hl 7 rfl) ?_
        refine z_callq (z_runV (As := [.int u]) (rest := []) ⟨hx, hb, hml, hown, hts⟩ hK hS ((k_rowAt Z g h0 u) l _) gX9_add_X9_rowAt rfl 1 (by decide +kernel) ⟨Nat.le_of_ble_eq_true rfl, Nat.le_of_ble_eq_true rfl⟩ h_x hN0 rfl rfl hl.1 rfl (Nat.le_of_ble_eq_true rfl) dX9_add_24 ⟨Nat.le_of_ble_eq_true rfl, Nat.le_of_ble_eq_true rfl⟩) hS (fun r_29 g_30 H locs hp_31 hS => ?_)
        obtain ⟨rfl, hp_31⟩ := hp_31
        rcases hp_31 with ⟨r3, hs2w, hsvw, erw⟩ | ⟨hnvw, erw⟩
        · subst erw
          have hRw := hX.2.2.2.2.1 r3 hs2w
          obtain ⟨avw, h_rw, h_aw, hkNrw, hnrw, havw⟩ := id hRw
          have hzsw : zro u.toInt := ⟨by omega, by omega⟩
          have htnw : u.toInt.toNat = r3 := by omega
          have hkrw : 9 + 2 * r3 < Z.1 := by omega
          have hkr1w : 9 + 2 * r3 + 1 < Z.1 := by omega
          refine lv_astore (lv' := [(8, .ref (Z.2.1 (9 + 2 * r3))), (7, .null), (6, .null), (5, .ref (Z.2.1 (15 + 13 * s1))), (0, .ref (Z.2.1 0)), (1, .int x), (2, .int y), (3, .int z), (4, .int u)]) hx hb dX9_add_27 hl (by decide) rfl (fun ls hl => ?_)
          refine lv_aload hx hb dX9_add_29 (lv_at hl 3 rfl) ?_
          refine lv_ifnull hx hb dX9_add_31 ?_
          refine lv_aloadN hx hb dX9_add_34 (lv_at hl 2 rfl) ?_
          refine lv_ifnullN (tgt := 49) hx hb dX9_add_36 (by decide) ?_
          refine lv_ldc (v := (-1000001)) hx hb hown (hts _ (List.mem_of_getElem? (i := 1) rfl)) dX9_add_49 ?_
          refine z_iret hx hb hr hlocks hS ?_ dX9_add_51
          show z_po Z G9 (sp_add (sg, rw9) x.toInt y.toInt z.toInt u.toInt) _ _
          unfold sp_add
          rw [zite_f (fun h9 => hnvr h9.2.1)]
          exact ⟨rfl, hX⟩
        · subst erw
          refine lv_astoreN (lv' := [(8, .null), (7, .null), (6, .null), (5, .ref (Z.2.1 (15 + 13 * s1))), (0, .ref (Z.2.1 0)), (1, .int x), (2, .int y), (3, .int z), (4, .int u)]) hx hb dX9_add_27 hl (by decide) rfl (fun ls hl => ?_)
          refine lv_aload hx hb dX9_add_29 (lv_at hl 3 rfl) ?_
          refine lv_ifnull hx hb dX9_add_31 ?_
          refine lv_aloadN hx hb dX9_add_34 (lv_at hl 2 rfl) ?_
          refine lv_ifnullN (tgt := 49) hx hb dX9_add_36 (by decide) ?_
          refine lv_ldc (v := (-1000001)) hx hb hown (hts _ (List.mem_of_getElem? (i := 1) rfl)) dX9_add_49 ?_
          refine z_iret hx hb hr hlocks hS ?_ dX9_add_51
          show z_po Z G9 (sp_add (sg, rw9) x.toInt y.toInt z.toInt u.toInt) _ _
          unfold sp_add
          rw [zite_f (fun h9 => hnvr h9.2.1)]
          exact ⟨rfl, hX⟩
  · subst er
    refine lv_astoreN (lv' := [(5, .null), (0, .ref (Z.2.1 0)), (1, .int x), (2, .int y), (3, .int z), (4, .int u)]) hx hb dX9_add_5 hl (by decide) rfl (fun ls hl => ?_)
    refine lv_aload_n hx hb dX9_add_7 rfl (lv_at hl 1 rfl) ?_
    refine lv_iload_n hx hb dX9_add_8 rfl (lv_at hl 3 rfl) ?_
    refine z_callq (z_runV (As := [.int y]) (rest := []) ⟨hx, hb, hml, hown, hts⟩ hK hS ((k_rowAt Z g h0 y) l _) gX9_add_X9_rowAt rfl 1 (by decide +kernel) ⟨Nat.le_of_ble_eq_true rfl, Nat.le_of_ble_eq_true rfl⟩ h_x hN0 rfl rfl hl.1 rfl (Nat.le_of_ble_eq_true rfl) dX9_add_9 ⟨Nat.le_of_ble_eq_true rfl, Nat.le_of_ble_eq_true rfl⟩) hS (fun r_32 g_33 H locs hp_34 hS => ?_)
    obtain ⟨rfl, hp_34⟩ := hp_34
    rcases hp_34 with ⟨r1, hs2r, hsvr, err⟩ | ⟨hnvr, err⟩
    · subst err
      have hRr := hX.2.2.2.2.1 r1 hs2r
      obtain ⟨avr, h_rr, h_ar, hkNrr, hnrr, havr⟩ := id hRr
      have hzsr : zro y.toInt := ⟨by omega, by omega⟩
      have htnr : y.toInt.toNat = r1 := by omega
      have hkrr : 9 + 2 * r1 < Z.1 := by omega
      have hkr1r : 9 + 2 * r1 + 1 < Z.1 := by omega
      refine lv_astore (lv' := [(6, .ref (Z.2.1 (9 + 2 * r1))), (5, .null), (0, .ref (Z.2.1 0)), (1, .int x), (2, .int y), (3, .int z), (4, .int u)]) hx hb dX9_add_12 hl (by decide) rfl (fun ls hl => ?_)
      refine lv_aload_n hx hb dX9_add_14 rfl (lv_at hl 2 rfl) ?_
      refine lv_iload_n hx hb dX9_add_15 rfl (lv_at hl 5 rfl) ?_
      refine z_callq (z_runV (As := [.int z]) (rest := []) ⟨hx, hb, hml, hown, hts⟩ hK hS ((k_rowAt Z g h0 z) l _) gX9_add_X9_rowAt rfl 1 (by decide +kernel) ⟨Nat.le_of_ble_eq_true rfl, Nat.le_of_ble_eq_true rfl⟩ h_x hN0 rfl rfl hl.1 rfl (Nat.le_of_ble_eq_true rfl) dX9_add_16 ⟨Nat.le_of_ble_eq_true rfl, Nat.le_of_ble_eq_true rfl⟩) hS (fun r_35 g_36 H locs hp_37 hS => ?_)
      obtain ⟨rfl, hp_37⟩ := hp_37
      rcases hp_37 with ⟨r2, hs2q, hsvq, erq⟩ | ⟨hnvq, erq⟩
      · subst erq
        have hRq := hX.2.2.2.2.1 r2 hs2q
        obtain ⟨avq, h_rq, h_aq, hkNrq, hnrq, havq⟩ := id hRq
        have hzsq : zro z.toInt := ⟨by omega, by omega⟩
        have htnq : z.toInt.toNat = r2 := by omega
        have hkrq : 9 + 2 * r2 < Z.1 := by omega
        have hkr1q : 9 + 2 * r2 + 1 < Z.1 := by omega
        refine lv_astore (lv' := [(7, .ref (Z.2.1 (9 + 2 * r2))), (6, .ref (Z.2.1 (9 + 2 * r1))), (5, .null), (0, .ref (Z.2.1 0)), (1, .int x), (2, .int y), (3, .int z), (4, .int u)]) hx hb dX9_add_19 hl (by decide) rfl (fun ls hl => ?_)
        refine lv_aload_n hx hb dX9_add_21 rfl (lv_at hl 3 rfl) ?_
        refine lv_iload hx hb dX9_add_22 (lv_at hl 7 rfl) ?_
        refine z_callq (z_runV (As := [.int u]) (rest := []) ⟨hx, hb, hml, hown, hts⟩ hK hS ((k_rowAt Z g h0 u) l _) gX9_add_X9_rowAt rfl 1 (by decide +kernel) ⟨Nat.le_of_ble_eq_true rfl, Nat.le_of_ble_eq_true rfl⟩ h_x hN0 rfl rfl hl.1 rfl (Nat.le_of_ble_eq_true rfl) dX9_add_24 ⟨Nat.le_of_ble_eq_true rfl, Nat.le_of_ble_eq_true rfl⟩) hS (fun r_38 g_39 H locs hp_40 hS => ?_)
        obtain ⟨rfl, hp_40⟩ := hp_40
        rcases hp_40 with ⟨r3, hs2w, hsvw, erw⟩ | ⟨hnvw, erw⟩
        · subst erw
          have hRw := hX.2.2.2.2.1 r3 hs2w
          obtain ⟨avw, h_rw, h_aw, hkNrw, hnrw, havw⟩ := id hRw
          have hzsw : zro u.toInt := ⟨by omega, by omega⟩
          have htnw : u.toInt.toNat = r3 := by omega
          have hkrw : 9 + 2 * r3 < Z.1 := by omega
          have hkr1w : 9 + 2 * r3 + 1 < Z.1 := by omega
          refine lv_astore (lv' := [(8, .ref (Z.2.1 (9 + 2 * r3))), (7, .ref (Z.2.1 (9 + 2 * r2))), (6, .ref (Z.2.1 (9 + 2 * r1))), (5, .null), (0, .ref (Z.2.1 0)), (1, .int x), (2, .int y), (3, .int z), (4, .int u)]) hx hb dX9_add_27 hl (by decide) rfl (fun ls hl => ?_)
          refine lv_aloadN hx hb dX9_add_29 (lv_at hl 3 rfl) ?_
          refine lv_ifnullN (tgt := 49) hx hb dX9_add_31 (by decide) ?_
          refine lv_ldc (v := (-1000001)) hx hb hown (hts _ (List.mem_of_getElem? (i := 1) rfl)) dX9_add_49 ?_
          refine z_iret hx hb hr hlocks hS ?_ dX9_add_51
          show z_po Z G9 (sp_add (sg, rw9) x.toInt y.toInt z.toInt u.toInt) _ _
          unfold sp_add
          rw [zite_f (fun h9 => hnv h9.1)]
          exact ⟨rfl, hX⟩
        · subst erw
          refine lv_astoreN (lv' := [(8, .null), (7, .ref (Z.2.1 (9 + 2 * r2))), (6, .ref (Z.2.1 (9 + 2 * r1))), (5, .null), (0, .ref (Z.2.1 0)), (1, .int x), (2, .int y), (3, .int z), (4, .int u)]) hx hb dX9_add_27 hl (by decide) rfl (fun ls hl => ?_)
          refine lv_aloadN hx hb dX9_add_29 (lv_at hl 3 rfl) ?_
          refine lv_ifnullN (tgt := 49) hx hb dX9_add_31 (by decide) ?_
          refine lv_ldc (v := (-1000001)) hx hb hown (hts _ (List.mem_of_getElem? (i := 1) rfl)) dX9_add_49 ?_
          refine z_iret hx hb hr hlocks hS ?_ dX9_add_51
          show z_po Z G9 (sp_add (sg, rw9) x.toInt y.toInt z.toInt u.toInt) _ _
          unfold sp_add
          rw [zite_f (fun h9 => hnv h9.1)]
          exact ⟨rfl, hX⟩
      · subst erq
        refine lv_astoreN (lv' := [(7, .null), (6, .ref (Z.2.1 (9 + 2 * r1))), (5, .null), (0, .ref (Z.2.1 0)), (1, .int x), (2, .int y), (3, .int z), (4, .int u)]) hx hb dX9_add_19 hl (by decide) rfl (fun ls hl => ?_)
        refine lv_aload_n hx hb dX9_add_21 rfl (lv_at hl 3 rfl) ?_
        refine lv_iload hx hb dX9_add_22 (lv_at hl 7 rfl) ?_
        refine z_callq (z_runV (As := [.int u]) (rest := []) ⟨hx, hb, hml, hown, hts⟩ hK hS ((k_rowAt Z g h0 u) l _) gX9_add_X9_rowAt rfl 1 (by decide +kernel) ⟨Nat.le_of_ble_eq_true rfl, Nat.le_of_ble_eq_true rfl⟩ h_x hN0 rfl rfl hl.1 rfl (Nat.le_of_ble_eq_true rfl) dX9_add_24 ⟨Nat.le_of_ble_eq_true rfl, Nat.le_of_ble_eq_true rfl⟩) hS (fun r_41 g_42 H locs hp_43 hS => ?_)
        obtain ⟨rfl, hp_43⟩ := hp_43
        rcases hp_43 with ⟨r3, hs2w, hsvw, erw⟩ | ⟨hnvw, erw⟩
        · subst erw
          have hRw := hX.2.2.2.2.1 r3 hs2w
          obtain ⟨avw, h_rw, h_aw, hkNrw, hnrw, havw⟩ := id hRw
          have hzsw : zro u.toInt := ⟨by omega, by omega⟩
          have htnw : u.toInt.toNat = r3 := by omega
          have hkrw : 9 + 2 * r3 < Z.1 := by omega
          have hkr1w : 9 + 2 * r3 + 1 < Z.1 := by omega
          refine lv_astore (lv' := [(8, .ref (Z.2.1 (9 + 2 * r3))), (7, .null), (6, .ref (Z.2.1 (9 + 2 * r1))), (5, .null), (0, .ref (Z.2.1 0)), (1, .int x), (2, .int y), (3, .int z), (4, .int u)]) hx hb dX9_add_27 hl (by decide) rfl (fun ls hl => ?_)
          refine lv_aloadN hx hb dX9_add_29 (lv_at hl 3 rfl) ?_
          refine lv_ifnullN (tgt := 49) hx hb dX9_add_31 (by decide) ?_
          refine lv_ldc (v := (-1000001)) hx hb hown (hts _ (List.mem_of_getElem? (i := 1) rfl)) dX9_add_49 ?_
          refine z_iret hx hb hr hlocks hS ?_ dX9_add_51
          show z_po Z G9 (sp_add (sg, rw9) x.toInt y.toInt z.toInt u.toInt) _ _
          unfold sp_add
          rw [zite_f (fun h9 => hnv h9.1)]
          exact ⟨rfl, hX⟩
        · subst erw
          refine lv_astoreN (lv' := [(8, .null), (7, .null), (6, .ref (Z.2.1 (9 + 2 * r1))), (5, .null), (0, .ref (Z.2.1 0)), (1, .int x), (2, .int y), (3, .int z), (4, .int u)]) hx hb dX9_add_27 hl (by decide) rfl (fun ls hl => ?_)
          refine lv_aloadN hx hb dX9_add_29 (lv_at hl 3 rfl) ?_
          refine lv_ifnullN (tgt := 49) hx hb dX9_add_31 (by decide) ?_
          refine lv_ldc (v := (-1000001)) hx hb hown (hts _ (List.mem_of_getElem? (i := 1) rfl)) dX9_add_49 ?_
          refine z_iret hx hb hr hlocks hS ?_ dX9_add_51
          show z_po Z G9 (sp_add (sg, rw9) x.toInt y.toInt z.toInt u.toInt) _ _
          unfold sp_add
          rw [zite_f (fun h9 => hnv h9.1)]
          exact ⟨rfl, hX⟩
    · subst err
      refine lv_astoreN (lv' := [(6, .null), (5, .null), (0, .ref (Z.2.1 0)), (1, .int x), (2, .int y), (3, .int z), (4, .int u)]) hx hb dX9_add_12 hl (by decide) rfl (fun ls hl => ?_)
      refine lv_aload_n hx hb dX9_add_14 rfl (lv_at hl 2 rfl) ?_
      refine lv_iload_n hx hb dX9_add_15 rfl (lv_at hl 5 rfl) ?_
      refine z_callq (z_runV (As := [.int z]) (rest := []) ⟨hx, hb, hml, hown, hts⟩ hK hS ((k_rowAt Z g h0 z) l _) gX9_add_X9_rowAt rfl 1 (by decide +kernel) ⟨Nat.le_of_ble_eq_true rfl, Nat.le_of_ble_eq_true rfl⟩ h_x hN0 rfl rfl hl.1 rfl (Nat.le_of_ble_eq_true rfl) dX9_add_16 ⟨Nat.le_of_ble_eq_true rfl, Nat.le_of_ble_eq_true rfl⟩) hS (fun r_44 g_45 H locs hp_46 hS => ?_)
      obtain ⟨rfl, hp_46⟩ := hp_46
      rcases hp_46 with ⟨r2, hs2q, hsvq, erq⟩ | ⟨hnvq, erq⟩
      · subst erq
        have hRq := hX.2.2.2.2.1 r2 hs2q
        obtain ⟨avq, h_rq, h_aq, hkNrq, hnrq, havq⟩ := id hRq
        have hzsq : zro z.toInt := ⟨by omega, by omega⟩
        have htnq : z.toInt.toNat = r2 := by omega
        have hkrq : 9 + 2 * r2 < Z.1 := by omega
        have hkr1q : 9 + 2 * r2 + 1 < Z.1 := by omega
        refine lv_astore (lv' := [(7, .ref (Z.2.1 (9 + 2 * r2))), (6, .null), (5, .null), (0, .ref (Z.2.1 0)), (1, .int x), (2, .int y), (3, .int z), (4, .int u)]) hx hb dX9_add_19 hl (by decide) rfl (fun ls hl => ?_)
        refine lv_aload_n hx hb dX9_add_21 rfl (lv_at hl 3 rfl) ?_
        refine lv_iload hx hb dX9_add_22 (lv_at hl 7 rfl) ?_
        refine z_callq (z_runV (As := [.int u]) (rest := []) ⟨hx, hb, hml, hown, hts⟩ hK hS ((k_rowAt Z g h0 u) l _) gX9_add_X9_rowAt rfl 1 (by decide +kernel) ⟨Nat.le_of_ble_eq_true rfl, Nat.le_of_ble_eq_true rfl⟩ h_x hN0 rfl rfl hl.1 rfl (Nat.le_of_ble_eq_true rfl) dX9_add_24 ⟨Nat.le_of_ble_eq_true rfl, Nat.le_of_ble_eq_true rfl⟩) hS (fun r_47 g_48 H locs hp_49 hS => ?_)
        obtain ⟨rfl, hp_49⟩ := hp_49
        rcases hp_49 with ⟨r3, hs2w, hsvw, erw⟩ | ⟨hnvw, erw⟩
        · subst erw
          have hRw := hX.2.2.2.2.1 r3 hs2w
          obtain ⟨avw, h_rw, h_aw, hkNrw, hnrw, havw⟩ := id hRw
          have hzsw : zro u.toInt := ⟨by omega, by omega⟩
          have htnw : u.toInt.toNat = r3 := by omega
          have hkrw : 9 + 2 * r3 < Z.1 := by omega
          have hkr1w : 9 + 2 * r3 + 1 < Z.1 := by omega
          refine lv_astore (lv' := [(8, .ref (Z.2.1 (9 + 2 * r3))), (7, .ref (Z.2.1 (9 + 2 * r2))), (6, .null), (5, .null), (0, .ref (Z.2.1 0)), (1, .int x), (2, .int y), (3, .int z), (4, .int u)]) hx hb dX9_add_27 hl (by decide) rfl (fun ls hl => ?_)
          refine lv_aloadN hx hb dX9_add_29 (lv_at hl 3 rfl) ?_
          refine lv_ifnullN (tgt := 49) hx hb dX9_add_31 (by decide) ?_
          refine lv_ldc (v := (-1000001)) hx hb hown (hts _ (List.mem_of_getElem? (i := 1) rfl)) dX9_add_49 ?_
          refine z_iret hx hb hr hlocks hS ?_ dX9_add_51
          show z_po Z G9 (sp_add (sg, rw9) x.toInt y.toInt z.toInt u.toInt) _ _
          unfold sp_add
          rw [zite_f (fun h9 => hnv h9.1)]
          exact ⟨rfl, hX⟩
        · subst erw
          refine lv_astoreN (lv' := [(8, .null), (7, .ref (Z.2.1 (9 + 2 * r2))), (6, .null), (5, .null), (0, .ref (Z.2.1 0)), (1, .int x), (2, .int y), (3, .int z), (4, .int u)]) hx hb dX9_add_27 hl (by decide) rfl (fun ls hl => ?_)
          refine lv_aloadN hx hb dX9_add_29 (lv_at hl 3 rfl) ?_
          refine lv_ifnullN (tgt := 49) hx hb dX9_add_31 (by decide) ?_
          refine lv_ldc (v := (-1000001)) hx hb hown (hts _ (List.mem_of_getElem? (i := 1) rfl)) dX9_add_49 ?_
          refine z_iret hx hb hr hlocks hS ?_ dX9_add_51
          show z_po Z G9 (sp_add (sg, rw9) x.toInt y.toInt z.toInt u.toInt) _ _
          unfold sp_add
          rw [zite_f (fun h9 => hnv h9.1)]
          exact ⟨rfl, hX⟩
      · subst erq
        refine lv_astoreN (lv' := [(7, .null), (6, .null), (5, .null), (0, .ref (Z.2.1 0)), (1, .int x), (2, .int y), (3, .int z), (4, .int u)]) hx hb dX9_add_19 hl (by decide) rfl (fun ls hl => ?_)
        refine lv_aload_n hx hb dX9_add_21 rfl (lv_at hl 3 rfl) ?_
        refine lv_iload hx hb dX9_add_22 (lv_at hl 7 rfl) ?_
        refine z_callq (z_runV (As := [.int u]) (rest := []) ⟨hx, hb, hml, hown, hts⟩ hK hS ((k_rowAt Z g h0 u) l _) gX9_add_X9_rowAt rfl 1 (by decide +kernel) ⟨Nat.le_of_ble_eq_true rfl, Nat.le_of_ble_eq_true rfl⟩ h_x hN0 rfl rfl hl.1 rfl (Nat.le_of_ble_eq_true rfl) dX9_add_24 ⟨Nat.le_of_ble_eq_true rfl, Nat.le_of_ble_eq_true rfl⟩) hS (fun r_50 g_51 H locs hp_52 hS => ?_)
        obtain ⟨rfl, hp_52⟩ := hp_52
        rcases hp_52 with ⟨r3, hs2w, hsvw, erw⟩ | ⟨hnvw, erw⟩
        · subst erw
          have hRw := hX.2.2.2.2.1 r3 hs2w
          obtain ⟨avw, h_rw, h_aw, hkNrw, hnrw, havw⟩ := id hRw
          have hzsw : zro u.toInt := ⟨by omega, by omega⟩
          have htnw : u.toInt.toNat = r3 := by omega
          have hkrw : 9 + 2 * r3 < Z.1 := by omega
          have hkr1w : 9 + 2 * r3 + 1 < Z.1 := by omega
          refine lv_astore (lv' := [(8, .ref (Z.2.1 (9 + 2 * r3))), (7, .null), (6, .null), (5, .null), (0, .ref (Z.2.1 0)), (1, .int x), (2, .int y), (3, .int z), (4, .int u)]) hx hb dX9_add_27 hl (by decide) rfl (fun ls hl => ?_)
          refine lv_aloadN hx hb dX9_add_29 (lv_at hl 3 rfl) ?_
          refine lv_ifnullN (tgt := 49) hx hb dX9_add_31 (by decide) ?_
          refine lv_ldc (v := (-1000001)) hx hb hown (hts _ (List.mem_of_getElem? (i := 1) rfl)) dX9_add_49 ?_
          refine z_iret hx hb hr hlocks hS ?_ dX9_add_51
          show z_po Z G9 (sp_add (sg, rw9) x.toInt y.toInt z.toInt u.toInt) _ _
          unfold sp_add
          rw [zite_f (fun h9 => hnv h9.1)]
          exact ⟨rfl, hX⟩
        · subst erw
          refine lv_astoreN (lv' := [(8, .null), (7, .null), (6, .null), (5, .null), (0, .ref (Z.2.1 0)), (1, .int x), (2, .int y), (3, .int z), (4, .int u)]) hx hb dX9_add_27 hl (by decide) rfl (fun ls hl => ?_)
          refine lv_aloadN hx hb dX9_add_29 (lv_at hl 3 rfl) ?_
          refine lv_ifnullN (tgt := 49) hx hb dX9_add_31 (by decide) ?_
          refine lv_ldc (v := (-1000001)) hx hb hown (hts _ (List.mem_of_getElem? (i := 1) rfl)) dX9_add_49 ?_
          refine z_iret hx hb hr hlocks hS ?_ dX9_add_51
          show z_po Z G9 (sp_add (sg, rw9) x.toInt y.toInt z.toInt u.toInt) _ _
          unfold sp_add
          rw [zite_f (fun h9 => hnv h9.1)]
          exact ⟨rfl, hX⟩

theorem in_X9_multiply_0 : ∀ w ∈ wsX00, w ∈ wsX9_multiply := by decide +kernel
theorem in_X9_multiply_5 : ∀ w ∈ wsX50, w ∈ wsX9_multiply := by decide +kernel
theorem in_X9_multiply_9 : ∀ w ∈ wsX90, w ∈ wsX9_multiply := by decide +kernel
set_option maxHeartbeats 4000000 in
set_option maxRecDepth 100000 in
theorem k_multiply (Z : zT) {G9 : Nat → va_E} (g : Nat → va_E) (sg : Nat → zb) (rw9 : Nat → zr) (hX : z_xw Z G9 g sg rw9) (x y z u : Int32) : z_Mi Z yX9_multiply wsX9_multiply 6 132 [.ref (Z.2.1 0), .int x, .int y, .int z, .int u] g (fun r g1 => z_po Z G9 (sp_multiply (sg, rw9) x.toInt y.toInt z.toInt u.toInt) r g1) := by
  intro l sz
  have h0 := hX.1
  obtain ⟨hN, h_x, ⟨fS, h_x1, hfS⟩, fR, h_x2, hfR⟩ := id h0
  have hN0 : 0 < Z.1 := by omega
  have hN1 : 1 < Z.1 := by omega
  have hN2 : 2 < Z.1 := by omega
  obtain ⟨fa1, fa2, h_f⟩ := hX.2.2.1.1
  obtain ⟨fb1, fb2, h_f2⟩ := hX.2.2.2.1
  obtain ⟨vc1, svc, w0c, h_k, h_s, hkN3, hw0⟩ := id hX.2.1
  have hN7 : 7 < Z.1 := by omega
  have hN8 : 8 < Z.1 := by omega
  have hN3 : 3 < Z.1 := by omega
  refine z_enter (maxL := 8) (ret := (some .int)) (lv := [(0, .ref (Z.2.1 0)), (1, .int x), (2, .int y), (3, .int z), (4, .int u)]) (plainFor_of_name (by decide +kernel)) rfl (fun ls h => by subst h; exact lv_entry [.ref (Z.2.1 0), .int x, .int y, .int z, .int u] (n := 8) (Nat.le_of_ble_eq_true rfl)) ?_
  intro p e s m args below meth c hx hb hml hr hlocks hown hts hK hS hsz ls hl
  refine lv_aload_n hx hb dX9_multiply_0 rfl (lv_at hl 0 rfl) ?_
  refine lv_iload_n hx hb dX9_multiply_1 rfl (lv_at hl 1 rfl) ?_
  refine z_callq (z_runV (As := [.int x]) (rest := []) ⟨hx, hb, hml, hown, hts⟩ hK hS ((k_systemAt Z g h0 x) l _) gX9_multiply_X9_systemAt rfl 1 (by decide +kernel) ⟨Nat.le_of_ble_eq_true rfl, Nat.le_of_ble_eq_true rfl⟩ h_x hN0 rfl rfl hl.1 rfl (Nat.le_of_ble_eq_true rfl) dX9_multiply_2 ⟨Nat.le_of_ble_eq_true rfl, Nat.le_of_ble_eq_true rfl⟩) hS (fun r_1 g_2 H locs hp_3 hS => ?_)
  obtain ⟨rfl, hp_3⟩ := hp_3
  rcases hp_3 with ⟨s1, hs2, hsv, er⟩ | ⟨hnv, er⟩
  · subst er
    obtain ⟨h_n, hBs, ⟨w1, w2, w3, w4, w5, w6, hW⟩, h_y, ⟨lw, hw, tb, y1, y2, y3, hO⟩, l0, hC⟩ := hX.2.2.2.2.2 s1 hs2
    have hzs : zsy x.toInt := ⟨by omega, by omega⟩
    have htn : x.toInt.toNat = s1 := by omega
    obtain ⟨pb, qb, res, cmp, dg, ch, ⟨h_b, h_d, h_c, hkN, hok, hp, hq, hres, hdg⟩, hch, hcmp⟩ := id hBs
    have hkn : 15 + 13 * s1 < Z.1 := by omega
    have hk0 : 16 + 13 * s1 < Z.1 := by omega
    have hk1 : 16 + 13 * s1 + 1 < Z.1 := by omega
    have hk2 : 16 + 13 * s1 + 2 < Z.1 := by omega
    have hPb := zP_bd hok
    have hn12 := hok.2.2.2.1
    have hq1 := hok.2.1
    refine lv_astore (lv' := [(5, .ref (Z.2.1 (15 + 13 * s1))), (0, .ref (Z.2.1 0)), (1, .int x), (2, .int y), (3, .int z), (4, .int u)]) hx hb dX9_multiply_5 hl (by decide) rfl (fun ls hl => ?_)
    refine lv_aload_n hx hb dX9_multiply_7 rfl (lv_at hl 1 rfl) ?_
    refine lv_iload_n hx hb dX9_multiply_8 rfl (lv_at hl 3 rfl) ?_
    refine z_callq (z_runV (As := [.int y]) (rest := []) ⟨hx, hb, hml, hown, hts⟩ hK hS ((k_rowAt Z g h0 y) l _) gX9_multiply_X9_rowAt rfl 1 (by decide +kernel) ⟨Nat.le_of_ble_eq_true rfl, Nat.le_of_ble_eq_true rfl⟩ h_x hN0 rfl rfl hl.1 rfl (Nat.le_of_ble_eq_true rfl) dX9_multiply_9 ⟨Nat.le_of_ble_eq_true rfl, Nat.le_of_ble_eq_true rfl⟩) hS (fun r_4 g_5 H locs hp_6 hS => ?_)
    obtain ⟨rfl, hp_6⟩ := hp_6
    rcases hp_6 with ⟨r1, hs2r, hsvr, err⟩ | ⟨hnvr, err⟩
    · subst err
      have hRr := hX.2.2.2.2.1 r1 hs2r
      obtain ⟨avr, h_rr, h_ar, hkNrr, hnrr, havr⟩ := id hRr
      have hzsr : zro y.toInt := ⟨by omega, by omega⟩
      have htnr : y.toInt.toNat = r1 := by omega
      have hkrr : 9 + 2 * r1 < Z.1 := by omega
      have hkr1r : 9 + 2 * r1 + 1 < Z.1 := by omega
      refine lv_astore (lv' := [(6, .ref (Z.2.1 (9 + 2 * r1))), (5, .ref (Z.2.1 (15 + 13 * s1))), (0, .ref (Z.2.1 0)), (1, .int x), (2, .int y), (3, .int z), (4, .int u)]) hx hb dX9_multiply_12 hl (by decide) rfl (fun ls hl => ?_)
      refine lv_aload_n hx hb dX9_multiply_14 rfl (lv_at hl 2 rfl) ?_
      refine lv_iload hx hb dX9_multiply_15 (lv_at hl 6 rfl) ?_
      refine z_callq (z_runV (As := [.int u]) (rest := []) ⟨hx, hb, hml, hown, hts⟩ hK hS ((k_rowAt Z g h0 u) l _) gX9_multiply_X9_rowAt rfl 1 (by decide +kernel) ⟨Nat.le_of_ble_eq_true rfl, Nat.le_of_ble_eq_true rfl⟩ h_x hN0 rfl rfl hl.1 rfl (Nat.le_of_ble_eq_true rfl) dX9_multiply_17 ⟨Nat.le_of_ble_eq_true rfl, Nat.le_of_ble_eq_true rfl⟩) hS (fun r_7 g_8 H locs hp_9 hS => ?_)
      obtain ⟨rfl, hp_9⟩ := hp_9
      rcases hp_9 with ⟨r3, hs2w, hsvw, erw⟩ | ⟨hnvw, erw⟩
      · subst erw
        have hRw := hX.2.2.2.2.1 r3 hs2w
        obtain ⟨avw, h_rw, h_aw, hkNrw, hnrw, havw⟩ := id hRw
        have hzsw : zro u.toInt := ⟨by omega, by omega⟩
        have htnw : u.toInt.toNat = r3 := by omega
        have hkrw : 9 + 2 * r3 < Z.1 := by omega
        have hkr1w : 9 + 2 * r3 + 1 < Z.1 := by omega
        refine lv_astore (lv' := [(7, .ref (Z.2.1 (9 + 2 * r3))), (6, .ref (Z.2.1 (9 + 2 * r1))), (5, .ref (Z.2.1 (15 + 13 * s1))), (0, .ref (Z.2.1 0)), (1, .int x), (2, .int y), (3, .int z), (4, .int u)]) hx hb dX9_multiply_20 hl (by decide) rfl (fun ls hl => ?_)
        refine lv_aload hx hb dX9_multiply_22 (lv_at hl 2 rfl) ?_
        refine lv_ifnull hx hb dX9_multiply_24 ?_
        refine lv_aload hx hb dX9_multiply_27 (lv_at hl 1 rfl) ?_
        refine lv_ifnull hx hb dX9_multiply_29 ?_
        refine lv_aload hx hb dX9_multiply_32 (lv_at hl 0 rfl) ?_
        refine lv_ifnonnull (tgt := 40) hx hb dX9_multiply_34 (by decide) ?_
        refine lv_iload_n hx hb dX9_multiply_40 rfl (lv_at hl 6 rfl) ?_
        refine lv_bipush (v := 100) hx hb dX9_multiply_41 (by decide) ?_
        refine z_calli (z_runS (As := [.int z, .int 100]) (rest := []) ⟨hx, hb, hml, hown, hts⟩ hK hS ((k_isWithin Z g z 100 (by rw [tI_100]; omega)) l _) gX9_multiply_X9_isWithin rfl 2 (by decide +kernel) ⟨Nat.le_of_ble_eq_true rfl, Nat.le_of_ble_eq_true rfl⟩ rfl hl.1 rfl (Nat.le_of_ble_eq_true rfl) dX9_multiply_43 ⟨Nat.le_of_ble_eq_true rfl, Nat.le_of_ble_eq_true rfl⟩) hS (fun rb g_10 H locs hp_11 hS => ?_)
        obtain ⟨rfl, hp_11⟩ := hp_11
        have hrb := hp_11
        rw [tI_100] at hrb
        refine lv_if_ne (tgt := 52) hx hb dX9_multiply_46 (by decide) (fun c_12 => ?_) (fun c_12 => ?_)
        · have i_12 := z_ne c_12
          rw [tI_0] at i_12
          have hzm := zbo_t hrb c_12
          refine lv_aload hx hb dX9_multiply_52 (lv_at hl 2 rfl) ?_
          refine z_getN (own := RX9) (C := RX5) (T := TX5) (N := 5) hx hb hts in_X9_multiply_5 hown hK hS h_n hkn rfl 0 (by decide) 14 rfl rfl rfl dX9_multiply_54 ?_
          refine z_getN (own := RX9) (C := RX0) (T := TX0) (N := 7) hx hb hts in_X9_multiply_0 hown hK hS h_b hk0 rfl 4 (by decide) 1 rfl rfl rfl dX9_multiply_57 ?_
          refine lv_if_ne (tgt := 66) hx hb dX9_multiply_60 (by decide) (fun c_13 => ?_) (fun c_13 => ?_)
          · have i_13 := z_ne c_13
            rw [tI_0] at i_13
            have hcm := zbo_t hcmp c_13
            refine lv_aload_n hx hb dX9_multiply_66 rfl (lv_at hl 3 rfl) ?_
            refine z_get (own := RX9) (C := RX9) (T := TX9) (N := 5) hx hb hts in_X9_multiply_9 hown hK hS h_x hN0 rfl 2 (by decide) (List.mem_of_getElem? (i := 4) rfl) rfl rfl dX9_multiply_67 ?_
            refine lv_aload hx hb dX9_multiply_70 (lv_at hl 1 rfl) ?_
            refine lv_iload_n hx hb dX9_multiply_72 rfl (lv_at hl 6 rfl) ?_
            refine z_callv (z_runVN (As := [.ref (Z.2.1 (9 + 2 * r1)), .int z]) (rest := []) (C := RX2) ⟨hx, hb, hml, hown, hts⟩ hK hS ((k_giveMultiples Z g 3 hX.2.1 (9 + 2 * r1) (rw9 r1) ⟨avr, h_rr, h_ar, hkNrr, hnrr, havr⟩ (Or.inr (by omega)) z hzm) l _) gX9_multiply_X2_giveMultiples_n214 rfl 2 16 rfl (List.mem_of_getElem? (i := 20) rfl) (List.mem_of_getElem? (i := 19) rfl) (List.mem_of_getElem? (i := 21) rfl) (by decide +kernel) ⟨Nat.le_of_ble_eq_true rfl, Nat.le_of_ble_eq_true rfl⟩ h_k hN3 rfl rfl hl.1 rfl (Nat.le_of_ble_eq_true rfl) dX9_multiply_73 ⟨Nat.le_of_ble_eq_true rfl, Nat.le_of_ble_eq_true rfl⟩) hS (fun g_15 H locs hp_16 hS => ?_)
            obtain ⟨hP4, hfr_17⟩ := hp_16
            have h_x := (hfr_17 _ (by omega)).trans h_x
            have h_x1 := (hfr_17 _ (by omega)).trans h_x1
            have h_x2 := (hfr_17 _ (by omega)).trans h_x2
            have h_f := (hfr_17 _ (by omega)).trans h_f
            have h_f2 := (hfr_17 _ (by omega)).trans h_f2
            have h_n := (hfr_17 _ (by omega)).trans h_n
            have h_b := (hfr_17 _ (by omega)).trans h_b
            have h_d := (hfr_17 _ (by omega)).trans h_d
            have h_c := (hfr_17 _ (by omega)).trans h_c
            have h_rr := (hfr_17 _ (by omega)).trans h_rr
            have h_ar := (hfr_17 _ (by omega)).trans h_ar
            have h_rw := (hfr_17 _ (by omega)).trans h_rw
            have h_aw := (hfr_17 _ (by omega)).trans h_aw
            have hX := hX.comp (hfr_17.wide (by omega) (by omega)) hP4.cr
            refine lv_aload_n hx hb dX9_multiply_76 rfl (lv_at hl 3 rfl) ?_
            refine lv_aload hx hb dX9_multiply_77 (lv_at hl 2 rfl) ?_
            refine lv_aload hx hb dX9_multiply_79 (lv_at hl 0 rfl) ?_
            refine z_calli (z_runV (As := [.ref (Z.2.1 (15 + 13 * s1)), .ref (Z.2.1 (9 + 2 * r3))]) (rest := []) ⟨hx, hb, hml, hown, hts⟩ hK hS ((k_compute Z g_15 sg rw9 hX s1 r3 hs2 hs2w hcm _ _ hP4) l _) gX9_multiply_X9_compute rfl 2 (by decide +kernel) ⟨Nat.le_of_ble_eq_true rfl, Nat.le_of_ble_eq_true rfl⟩ h_x hN0 rfl rfl hl.1 rfl (Nat.le_of_ble_eq_true rfl) dX9_multiply_81 ⟨Nat.le_of_ble_eq_true rfl, Nat.le_of_ble_eq_true rfl⟩) hS (fun rk g_18 H locs hp_19 hS => ?_)
            have hpo := hp_19
            refine z_iret hx hb hr hlocks hS ?_ dX9_multiply_84
            show z_po Z G9 (sp_multiply (sg, rw9) x.toInt y.toInt z.toInt u.toInt) _ _
            unfold sp_multiply
            rw [zite_t ⟨hzs, hzsr, hzsw⟩, zite_t hzm, htn, htnr, htnw, zite_t hcm]
            exact hpo
          · have i_13 := z_eq c_13
            rw [tI_0] at i_13
            have hncm := zbo_f hcmp c_13
            refine lv_ldc (v := (-1000003)) hx hb hown (hts _ (List.mem_of_getElem? (i := 3) rfl)) dX9_multiply_63 ?_
            refine z_iret hx hb hr hlocks hS ?_ dX9_multiply_65
            show z_po Z G9 (sp_multiply (sg, rw9) x.toInt y.toInt z.toInt u.toInt) _ _
            unfold sp_multiply
            rw [zite_t ⟨hzs, hzsr, hzsw⟩, zite_t hzm, htn, zite_f hncm]
            exact ⟨rfl, hX⟩
        · have i_12 := z_eq c_12
          rw [tI_0] at i_12
          have hbad := zbo_f hrb c_12
          refine lv_ldc (v := (-1000002)) hx hb hown (hts _ (List.mem_of_getElem? (i := 2) rfl)) dX9_multiply_49 ?_
          refine z_iret hx hb hr hlocks hS ?_ dX9_multiply_51
          show z_po Z G9 (sp_multiply (sg, rw9) x.toInt y.toInt z.toInt u.toInt) _ _
          unfold sp_multiply
          rw [zite_t ⟨hzs, hzsr, hzsw⟩, zite_f hbad]
          exact ⟨rfl, hX⟩
      · subst erw
        refine lv_astoreN (lv' := [(7, .null), (6, .ref (Z.2.1 (9 + 2 * r1))), (5, .ref (Z.2.1 (15 + 13 * s1))), (0, .ref (Z.2.1 0)), (1, .int x), (2, .int y), (3, .int z), (4, .int u)]) hx hb dX9_multiply_20 hl (by decide) rfl (fun ls hl => ?_)
        refine lv_aload hx hb dX9_multiply_22 (lv_at hl 2 rfl) ?_
        refine lv_ifnull hx hb dX9_multiply_24 ?_
        refine lv_aload hx hb dX9_multiply_27 (lv_at hl 1 rfl) ?_
        refine lv_ifnull hx hb dX9_multiply_29 ?_
        refine lv_aloadN hx hb dX9_multiply_32 (lv_at hl 0 rfl) ?_
        refine lv_ifnonnullN hx hb dX9_multiply_34 ?_
        refine lv_ldc (v := (-1000001)) hx hb hown (hts _ (List.mem_of_getElem? (i := 1) rfl)) dX9_multiply_37 ?_
        refine z_iret hx hb hr hlocks hS ?_ dX9_multiply_39
        show z_po Z G9 (sp_multiply (sg, rw9) x.toInt y.toInt z.toInt u.toInt) _ _
        unfold sp_multiply
        rw [zite_f (fun h9 => hnvw h9.2.2)]
        exact ⟨rfl, hX⟩
    · subst err
      refine lv_astoreN (lv' := [(6, .null), (5, .ref (Z.2.1 (15 + 13 * s1))), (0, .ref (Z.2.1 0)), (1, .int x), (2, .int y), (3, .int z), (4, .int u)]) hx hb dX9_multiply_12 hl (by decide) rfl (fun ls hl => ?_)
      refine lv_aload_n hx hb dX9_multiply_14 rfl (lv_at hl 2 rfl) ?_
      refine lv_iload hx hb dX9_multiply_15 (lv_at hl 6 rfl) ?_
      refine z_callq (z_runV (As := [.int u]) (rest := []) ⟨hx, hb, hml, hown, hts⟩ hK hS ((k_rowAt Z g h0 u) l _) gX9_multiply_X9_rowAt rfl 1 (by decide +kernel) ⟨Nat.le_of_ble_eq_true rfl, Nat.le_of_ble_eq_true rfl⟩ h_x hN0 rfl rfl hl.1 rfl (Nat.le_of_ble_eq_true rfl) dX9_multiply_17 ⟨Nat.le_of_ble_eq_true rfl, Nat.le_of_ble_eq_true rfl⟩) hS (fun r_20 g_21 H locs hp_22 hS => ?_)
      obtain ⟨rfl, hp_22⟩ := hp_22
      rcases hp_22 with ⟨r3, hs2w, hsvw, erw⟩ | ⟨hnvw, erw⟩
      · subst erw
        have hRw := hX.2.2.2.2.1 r3 hs2w
        obtain ⟨avw, h_rw, h_aw, hkNrw, hnrw, havw⟩ := id hRw
        have hzsw : zro u.toInt := ⟨by omega, by omega⟩
        have htnw : u.toInt.toNat = r3 := by omega
        have hkrw : 9 + 2 * r3 < Z.1 := by omega
        have hkr1w : 9 + 2 * r3 + 1 < Z.1 := by omega
        refine lv_astore (lv' := [(7, .ref (Z.2.1 (9 + 2 * r3))), (6, .null), (5, .ref (Z.2.1 (15 + 13 * s1))), (0, .ref (Z.2.1 0)), (1, .int x), (2, .int y), (3, .int z), (4, .int u)]) hx hb dX9_multiply_20 hl (by decide) rfl (fun ls hl => ?_)
        refine lv_aload hx hb dX9_multiply_22 (lv_at hl 2 rfl) ?_
        refine lv_ifnull hx hb dX9_multiply_24 ?_
        refine lv_aloadN hx hb dX9_multiply_27 (lv_at hl 1 rfl) ?_
        refine lv_ifnullN (tgt := 37) hx hb dX9_multiply_29 (by decide) ?_
        refine lv_ldc (v := (-1000001)) hx hb hown (hts _ (List.mem_of_getElem? (i := 1) rfl)) dX9_multiply_37 ?_
        refine z_iret hx hb hr hlocks hS ?_ dX9_multiply_39
        show z_po Z G9 (sp_multiply (sg, rw9) x.toInt y.toInt z.toInt u.toInt) _ _
        unfold sp_multiply
        rw [zite_f (fun h9 => hnvr h9.2.1)]
        exact ⟨rfl, hX⟩
      · subst erw
        refine lv_astoreN (lv' := [(7, .null), (6, .null), (5, .ref (Z.2.1 (15 + 13 * s1))), (0, .ref (Z.2.1 0)), (1, .int x), (2, .int y), (3, .int z), (4, .int u)]) hx hb dX9_multiply_20 hl (by decide) rfl (fun ls hl => ?_)
        refine lv_aload hx hb dX9_multiply_22 (lv_at hl 2 rfl) ?_
        refine lv_ifnull hx hb dX9_multiply_24 ?_
        refine lv_aloadN hx hb dX9_multiply_27 (lv_at hl 1 rfl) ?_
        refine lv_ifnullN (tgt := 37) hx hb dX9_multiply_29 (by decide) ?_
        refine lv_ldc (v := (-1000001)) hx hb hown (hts _ (List.mem_of_getElem? (i := 1) rfl)) dX9_multiply_37 ?_
        refine z_iret hx hb hr hlocks hS ?_ dX9_multiply_39
        show z_po Z G9 (sp_multiply (sg, rw9) x.toInt y.toInt z.toInt u.toInt) _ _
        unfold sp_multiply
        rw [zite_f (fun h9 => hnvr h9.2.1)]
        exact ⟨rfl, hX⟩
  · subst er
    refine lv_astoreN (lv' := [(5, .null), (0, .ref (Z.2.1 0)), (1, .int x), (2, .int y), (3, .int z), (4, .int u)]) hx hb dX9_multiply_5 hl (by decide) rfl (fun ls hl => ?_)
    refine lv_aload_n hx hb dX9_multiply_7 rfl (lv_at hl 1 rfl) ?_
    refine lv_iload_n hx hb dX9_multiply_8 rfl (lv_at hl 3 rfl) ?_
    refine z_callq (z_runV (As := [.int y]) (rest := []) ⟨hx, hb, hml, hown, hts⟩ hK hS ((k_rowAt Z g h0 y) l _) gX9_multiply_X9_rowAt rfl 1 (by decide +kernel) ⟨Nat.le_of_ble_eq_true rfl, Nat.le_of_ble_eq_true rfl⟩ h_x hN0 rfl rfl hl.1 rfl (Nat.le_of_ble_eq_true rfl) dX9_multiply_9 ⟨Nat.le_of_ble_eq_true rfl, Nat.le_of_ble_eq_true rfl⟩) hS (fun r_23 g_24 H locs hp_25 hS => ?_)
    obtain ⟨rfl, hp_25⟩ := hp_25
    rcases hp_25 with ⟨r1, hs2r, hsvr, err⟩ | ⟨hnvr, err⟩
    · subst err
      have hRr := hX.2.2.2.2.1 r1 hs2r
      obtain ⟨avr, h_rr, h_ar, hkNrr, hnrr, havr⟩ := id hRr
      have hzsr : zro y.toInt := ⟨by omega, by omega⟩
      have htnr : y.toInt.toNat = r1 := by omega
      have hkrr : 9 + 2 * r1 < Z.1 := by omega
      have hkr1r : 9 + 2 * r1 + 1 < Z.1 := by omega
      refine lv_astore (lv' := [(6, .ref (Z.2.1 (9 + 2 * r1))), (5, .null), (0, .ref (Z.2.1 0)), (1, .int x), (2, .int y), (3, .int z), (4, .int u)]) hx hb dX9_multiply_12 hl (by decide) rfl (fun ls hl => ?_)
      refine lv_aload_n hx hb dX9_multiply_14 rfl (lv_at hl 2 rfl) ?_
      refine lv_iload hx hb dX9_multiply_15 (lv_at hl 6 rfl) ?_
      refine z_callq (z_runV (As := [.int u]) (rest := []) ⟨hx, hb, hml, hown, hts⟩ hK hS ((k_rowAt Z g h0 u) l _) gX9_multiply_X9_rowAt rfl 1 (by decide +kernel) ⟨Nat.le_of_ble_eq_true rfl, Nat.le_of_ble_eq_true rfl⟩ h_x hN0 rfl rfl hl.1 rfl (Nat.le_of_ble_eq_true rfl) dX9_multiply_17 ⟨Nat.le_of_ble_eq_true rfl, Nat.le_of_ble_eq_true rfl⟩) hS (fun r_26 g_27 H locs hp_28 hS => ?_)
      obtain ⟨rfl, hp_28⟩ := hp_28
      rcases hp_28 with ⟨r3, hs2w, hsvw, erw⟩ | ⟨hnvw, erw⟩
      · subst erw
        have hRw := hX.2.2.2.2.1 r3 hs2w
        obtain ⟨avw, h_rw, h_aw, hkNrw, hnrw, havw⟩ := id hRw
        have hzsw : zro u.toInt := ⟨by omega, by omega⟩
        have htnw : u.toInt.toNat = r3 := by omega
        have hkrw : 9 + 2 * r3 < Z.1 := by omega
        have hkr1w : 9 + 2 * r3 + 1 < Z.1 := by omega
        refine lv_astore (lv' := [(7, .ref (Z.2.1 (9 + 2 * r3))), (6, .ref (Z.2.1 (9 + 2 * r1))), (5, .null), (0, .ref (Z.2.1 0)), (1, .int x), (2, .int y), (3, .int z), (4, .int u)]) hx hb dX9_multiply_20 hl (by decide) rfl (fun ls hl => ?_)
        refine lv_aloadN hx hb dX9_multiply_22 (lv_at hl 2 rfl) ?_
        refine lv_ifnullN (tgt := 37) hx hb dX9_multiply_24 (by decide) ?_
        refine lv_ldc (v := (-1000001)) hx hb hown (hts _ (List.mem_of_getElem? (i := 1) rfl)) dX9_multiply_37 ?_
        refine z_iret hx hb hr hlocks hS ?_ dX9_multiply_39
        show z_po Z G9 (sp_multiply (sg, rw9) x.toInt y.toInt z.toInt u.toInt) _ _
        unfold sp_multiply
        rw [zite_f (fun h9 => hnv h9.1)]
        exact ⟨rfl, hX⟩
      · subst erw
        refine lv_astoreN (lv' := [(7, .null), (6, .ref (Z.2.1 (9 + 2 * r1))), (5, .null), (0, .ref (Z.2.1 0)), (1, .int x), (2, .int y), (3, .int z), (4, .int u)]) hx hb dX9_multiply_20 hl (by decide) rfl (fun ls hl => ?_)
        refine lv_aloadN hx hb dX9_multiply_22 (lv_at hl 2 rfl) ?_
        refine lv_ifnullN (tgt := 37) hx hb dX9_multiply_24 (by decide) ?_
        refine lv_ldc (v := (-1000001)) hx hb hown (hts _ (List.mem_of_getElem? (i := 1) rfl)) dX9_multiply_37 ?_
        refine z_iret hx hb hr hlocks hS ?_ dX9_multiply_39
        show z_po Z G9 (sp_multiply (sg, rw9) x.toInt y.toInt z.toInt u.toInt) _ _
        unfold sp_multiply
        rw [zite_f (fun h9 => hnv h9.1)]
        exact ⟨rfl, hX⟩
    · subst err
      refine lv_astoreN (lv' := [(6, .null), (5, .null), (0, .ref (Z.2.1 0)), (1, .int x), (2, .int y), (3, .int z), (4, .int u)]) hx hb dX9_multiply_12 hl (by decide) rfl (fun ls hl => ?_)
      refine lv_aload_n hx hb dX9_multiply_14 rfl (lv_at hl 2 rfl) ?_
      refine lv_iload hx hb dX9_multiply_15 (lv_at hl 6 rfl) ?_
      refine z_callq (z_runV (As := [.int u]) (rest := []) ⟨hx, hb, hml, hown, hts⟩ hK hS ((k_rowAt Z g h0 u) l _) gX9_multiply_X9_rowAt rfl 1 (by decide +kernel) ⟨Nat.le_of_ble_eq_true rfl, Nat.le_of_ble_eq_true rfl⟩ h_x hN0 rfl rfl hl.1 rfl (Nat.le_of_ble_eq_true rfl) dX9_multiply_17 ⟨Nat.le_of_ble_eq_true rfl, Nat.le_of_ble_eq_true rfl⟩) hS (fun r_29 g_30 H locs hp_31 hS => ?_)
      obtain ⟨rfl, hp_31⟩ := hp_31
      rcases hp_31 with ⟨r3, hs2w, hsvw, erw⟩ | ⟨hnvw, erw⟩
      · subst erw
        have hRw := hX.2.2.2.2.1 r3 hs2w
        obtain ⟨avw, h_rw, h_aw, hkNrw, hnrw, havw⟩ := id hRw
        have hzsw : zro u.toInt := ⟨by omega, by omega⟩
        have htnw : u.toInt.toNat = r3 := by omega
        have hkrw : 9 + 2 * r3 < Z.1 := by omega
        have hkr1w : 9 + 2 * r3 + 1 < Z.1 := by omega
        refine lv_astore (lv' := [(7, .ref (Z.2.1 (9 + 2 * r3))), (6, .null), (5, .null), (0, .ref (Z.2.1 0)), (1, .int x), (2, .int y), (3, .int z), (4, .int u)]) hx hb dX9_multiply_20 hl (by decide) rfl (fun ls hl => ?_)
        refine lv_aloadN hx hb dX9_multiply_22 (lv_at hl 2 rfl) ?_
        refine lv_ifnullN (tgt := 37) hx hb dX9_multiply_24 (by decide) ?_
        refine lv_ldc (v := (-1000001)) hx hb hown (hts _ (List.mem_of_getElem? (i := 1) rfl)) dX9_multiply_37 ?_
        refine z_iret hx hb hr hlocks hS ?_ dX9_multiply_39
        show z_po Z G9 (sp_multiply (sg, rw9) x.toInt y.toInt z.toInt u.toInt) _ _
        unfold sp_multiply
        rw [zite_f (fun h9 => hnv h9.1)]
        exact ⟨rfl, hX⟩
      · subst erw
        refine lv_astoreN (lv' := [(7, .null), (6, .null), (5, .null), (0, .ref (Z.2.1 0)), (1, .int x), (2, .int y), (3, .int z), (4, .int u)]) hx hb dX9_multiply_20 hl (by decide) rfl (fun ls hl => ?_)
        refine lv_aloadN hx hb dX9_multiply_22 (lv_at hl 2 rfl) ?_
        refine lv_ifnullN (tgt := 37) hx hb dX9_multiply_24 (by decide) ?_
        refine lv_ldc (v := (-1000001)) hx hb hown (hts _ (List.mem_of_getElem? (i := 1) rfl)) dX9_multiply_37 ?_
        refine z_iret hx hb hr hlocks hS ?_ dX9_multiply_39
        show z_po Z G9 (sp_multiply (sg, rw9) x.toInt y.toInt z.toInt u.toInt) _ _
        unfold sp_multiply
        rw [zite_f (fun h9 => hnv h9.1)]
        exact ⟨rfl, hX⟩

