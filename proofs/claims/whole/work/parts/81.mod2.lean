/-! the reference: the step, the divisor, what bars a call -/
theorem z_lN_of {x : Int64} (h : 0 ≤ x.toInt) : ∃ j : Nat, x = lN j ∧ (j : Int) = x.toInt := ⟨x.toInt.toNat, z_lN_is (by omega), by omega⟩
noncomputable def z_fb (S : zS) (sy m n pl : Int) : Int := zite (zsy sy) (zite ((-100000 ≤ m ∧ m ≤ 100000) ∧ (1 ≤ n ∧ n ≤ 60) ∧ (0 ≤ pl ∧ pl ≤ 1000000000)) (zite (zcm (S.1 sy.toNat)) (zite (Nat.gcd n.toNat (zP (S.1 sy.toNat)).toNat = 1) 0 (-1000004)) (-1000003)) (-1000002)) (-1000001)
theorem in_X10_stepDigit_10 : ∀ w ∈ wsX100, w ∈ wsX10_stepDigit := by decide +kernel
set_option maxHeartbeats 4000000 in
set_option maxRecDepth 100000 in
theorem m_stepDigit (Z : zT) (g : Nat → va_E) (sg : Nat → zb) (hM : z_mr Z g sg) (s1 : Nat) (hs1 : s1 < 2) (x y : Int32) (hx5 : -100000 ≤ x.toInt ∧ x.toInt ≤ 100000) (hy6 : 1 ≤ y.toInt ∧ y.toInt ≤ 60) : z_Mi Z yX10_stepDigit wsX10_stepDigit 1 20 [.ref (Z.2.1 41), .int (nI s1), .int x, .int y] g (fun r g1 => g = g1 ∧ r.toInt = zsd (sg s1) y.toInt x.toInt) := by
  intro l sz
  obtain ⟨v4, v5, v6, v15, v16, v17, fu, fq, fm, fd, h_m, h_u, h_q, h_n9, h_g, hMN, hSg⟩ := id hM
  have hM41 : 41 < Z.1 := by omega
  have hM42 : 42 < Z.1 := by omega
  have hM43 : 43 < Z.1 := by omega
  have hM44 : 44 < Z.1 := by omega
  have hM45 : 45 < Z.1 := by omega
  obtain ⟨hok, hp, hq, hm, hd⟩ := hSg s1 hs1
  have hPb := zP_bd hok
  have hn12 := hok.2.2.2.1
  have hq1 := hok.2.1
  have hqx := z_mul_bd (x := (sg s1).2.1) (y := x.toInt) (a := 9) (b := 100000) (by omega) (by omega) (by omega) (by omega)
  have hqx2 : ((fq s1) * x).toInt = (sg s1).2.1 * x.toInt := by rw [fb_mulI (by rw [hq]; omega) (by rw [hq]; omega), hq]
  
  refine z_enter (maxL := 6) (ret := (some .int)) (lv := [(0, .ref (Z.2.1 41)), (1, .int (nI s1)), (2, .int x), (3, .int y)]) (plainFor_of_name (by decide +kernel)) rfl (fun ls h => by subst h; exact lv_entry [.ref (Z.2.1 41), .int (nI s1), .int x, .int y] (n := 6) (Nat.le_of_ble_eq_true rfl)) ?_
  intro p e s m args below meth c hx hb hml hr hlocks hown hts hK hS hsz ls hl
  refine lv_aload_n hx hb dX10_stepDigit_0 rfl (lv_at hl 0 rfl) ?_
  refine z_get (own := RX10) (C := RX10) (T := TX10) (N := 21) hx hb hts in_X10_stepDigit_10 hown hK hS h_m hM41 rfl 0 (by decide) (List.mem_of_getElem? (i := 1) rfl) rfl rfl dX10_stepDigit_1 ?_
  refine lv_iload_n hx hb dX10_stepDigit_4 rfl (lv_at hl 1 rfl) ?_
  refine z_iald hx hb hK hS h_u hM42 (vp_in_nI (by omega) (by omega)) dX10_stepDigit_5 ?_
  rw [show fu (nI s1).toNatClampNeg = fu s1 from by rw [nI_clamp (by omega)]]
  refine z_calli (z_runS (As := [.int (fu s1)]) (rest := []) ⟨hx, hb, hml, hown, hts⟩ hK hS ((m_absolute Z g (fu s1)) l _) gX10_stepDigit_X10_absolute rfl 1 (by decide +kernel) ⟨Nat.le_of_ble_eq_true rfl, Nat.le_of_ble_eq_true rfl⟩ rfl hl.1 rfl (Nat.le_of_ble_eq_true rfl) dX10_stepDigit_6 ⟨Nat.le_of_ble_eq_true rfl, Nat.le_of_ble_eq_true rfl⟩) hS (fun ab g_1 H locs hp_2 hS => ?_)
  obtain ⟨rfl, hp_2⟩ := hp_2
  have hab : ab.toInt = zP (sg s1) := by rw [hp_2.1 (by omega), hp]; rfl
  refine lv_istore (lv' := [(4, .int ab), (0, .ref (Z.2.1 41)), (1, .int (nI s1)), (2, .int x), (3, .int y)]) hx hb dX10_stepDigit_9 hl (by decide) rfl (fun ls hl => ?_)
  refine lv_iconst (v := 0) hx hb dX10_stepDigit_11 (by decide) ?_
  refine lv_istore (lv' := [(5, .int 0), (4, .int ab), (0, .ref (Z.2.1 41)), (1, .int (nI s1)), (2, .int x), (3, .int y)]) hx hb dX10_stepDigit_12 hl (by decide) rfl (fun ls hl => ?_)
  have hcut_14 : ∀ (nn_14 : Nat) (j : Nat) (hj : j ≤ (sg s1).2.2.1) (hno : ∀ t, t < j → decide (((sg s1).2.1 * x.toInt - (sg s1).2.2.2 t * y.toInt) % zP (sg s1) = 0) = false) (hm_14 : (sg s1).2.2.1 - j < nn_14) (H : Heap) (locs : List Loc) (ls : Array Slot), z_S Z (z_A Z sz) s.heap g H locs → lv_has ls 6 [(0, .ref (Z.2.1 41)), (1, .int (nI s1)), (2, .int x), (3, .int y), (4, .int ab), (5, .int (nI j))] → W p l e (headSpec wsX10_stepDigit (z_rm 1 20)).room s m args below meth c H locs 0 0 (MQ below (va_Qi (fun r g1 => g = g1 ∧ r.toInt = zsd (sg s1) y.toInt x.toInt) (z_B Z) (z_A Z sz)) args s 0 0 (z_A Z sz)) (F0 m 14 ls []) := by
    intro nn_14
    induction nn_14 with
    | zero => intro j hj hno hm_14 H locs ls hS hl; exact absurd hm_14 (Nat.not_lt_zero _)
    | succ nn_14 ih_14 =>
      intro j hj hno hm_14 H locs ls hS hl
      refine lv_iload hx hb dX10_stepDigit_14 (lv_at hl 5 rfl) ?_
      refine lv_aload_n hx hb dX10_stepDigit_16 rfl (lv_at hl 0 rfl) ?_
      refine z_get (own := RX10) (C := RX10) (T := TX10) (N := 21) hx hb hts in_X10_stepDigit_10 hown hK hS h_m hM41 rfl 2 (by decide) (List.mem_of_getElem? (i := 2) rfl) rfl rfl dX10_stepDigit_17 ?_
      refine lv_iload_n hx hb dX10_stepDigit_20 rfl (lv_at hl 1 rfl) ?_
      refine z_iald hx hb hK hS h_n9 hM44 (vp_in_nI (by omega) (by omega)) dX10_stepDigit_21 ?_
      rw [show fm (nI s1).toNatClampNeg = nI (sg s1).2.2.1 from by rw [nI_clamp (by omega)]; exact hm]
      refine lv_icmp_ge (tgt := 73) hx hb dX10_stepDigit_22 (by decide) (fun c_3 => ?_) (fun c_3 => ?_)
      · have i_3 := z_le c_3
        rw [nI_toInt (by omega)] at i_3
        rw [nI_toInt (by omega)] at i_3
        have hzn : zsi (sg s1) y.toInt x.toInt = (sg s1).2.2.1 := zfi_none (fun t ht => hno t (by omega))
        refine lv_iconst (v := 0) hx hb dX10_stepDigit_73 (by decide) ?_
        refine z_iret hx hb hr hlocks hS ?_ dX10_stepDigit_74
        exact ⟨rfl, by unfold zsd; rw [hzn, if_neg (by omega)]; rfl⟩
      · have i_3 := z_nle c_3
        rw [nI_toInt (by omega)] at i_3
        rw [nI_toInt (by omega)] at i_3
        have hdj := hd j (by omega)
        have hdb := hok.2.2.2.2 j (by omega)
        have hdy := z_mul_bd (x := (sg s1).2.2.2 j) (y := y.toInt) (a := 20) (b := 60) (by omega) (by omega) (by omega) (by omega)
        have hdy2 : (fd (12 * s1 + j) * y).toInt = (sg s1).2.2.2 j * y.toInt := by rw [fb_mulI (by rw [hdj]; omega) (by rw [hdj]; omega), hdj]
        have hE : (((fq s1) * x) - ((fd (12 * s1 + j)) * y)).toInt = (sg s1).2.1 * x.toInt - (sg s1).2.2.2 j * y.toInt := by rw [fb_subI (by rw [hqx2, hdy2]; omega) (by rw [hqx2, hdy2]; omega), hqx2, hdy2]
        refine lv_aload_n hx hb dX10_stepDigit_25 rfl (lv_at hl 0 rfl) ?_
        refine z_get (own := RX10) (C := RX10) (T := TX10) (N := 21) hx hb hts in_X10_stepDigit_10 hown hK hS h_m hM41 rfl 1 (by decide) (List.mem_of_getElem? (i := 3) rfl) rfl rfl dX10_stepDigit_26 ?_
        refine lv_iload_n hx hb dX10_stepDigit_29 rfl (lv_at hl 1 rfl) ?_
        refine z_iald hx hb hK hS h_q hM43 (vp_in_nI (by omega) (by omega)) dX10_stepDigit_30 ?_
        rw [show fq (nI s1).toNatClampNeg = fq s1 from by rw [nI_clamp (by omega)]]
        refine lv_iload_n hx hb dX10_stepDigit_31 rfl (lv_at hl 2 rfl) ?_
        refine lv_imul hx hb dX10_stepDigit_32 ?_
        refine lv_aload_n hx hb dX10_stepDigit_33 rfl (lv_at hl 0 rfl) ?_
        refine z_get (own := RX10) (C := RX10) (T := TX10) (N := 21) hx hb hts in_X10_stepDigit_10 hown hK hS h_m hM41 rfl 3 (by decide) (List.mem_of_getElem? (i := 4) rfl) rfl rfl dX10_stepDigit_34 ?_
        refine lv_bipush (v := 12) hx hb dX10_stepDigit_37 (by decide) ?_
        refine lv_iload_n hx hb dX10_stepDigit_39 rfl (lv_at hl 1 rfl) ?_
        refine lv_imul hx hb dX10_stepDigit_40 ?_
        refine lv_iload hx hb dX10_stepDigit_41 (lv_at hl 5 rfl) ?_
        refine lv_iadd hx hb dX10_stepDigit_43 ?_
        rw [show (12 * (nI s1)) + (nI j) = nI (12 * s1 + j) from zm_ix (by omega) (by omega)]
        refine z_iald hx hb hK hS h_g hM45 (vp_in_nI (by omega) (by omega)) dX10_stepDigit_44 ?_
        rw [show fd (nI (12 * s1 + j)).toNatClampNeg = fd (12 * s1 + j) from by rw [nI_clamp (by omega)]]
        refine lv_iload_n hx hb dX10_stepDigit_45 rfl (lv_at hl 3 rfl) ?_
        refine lv_imul hx hb dX10_stepDigit_46 ?_
        refine lv_isub hx hb dX10_stepDigit_47 ?_
        refine lv_iload hx hb dX10_stepDigit_48 (lv_at hl 4 rfl) ?_
        refine lv_irem hx hb dX10_stepDigit_50 (fun h => by rw [h] at hab; have : (0 : Int32).toInt = 0 := rfl; omega) ?_
        refine lv_if_ne (tgt := 67) hx hb dX10_stepDigit_51 (by decide) (fun c_4 => ?_) (fun c_4 => ?_)
        · have i_4 := z_ne c_4
          rw [tI_0] at i_4
          rw [z_rem (by omega), hE, hab] at i_4
          have hne : ¬ ((sg s1).2.1 * x.toInt - (sg s1).2.2.2 j * y.toInt) % zP (sg s1) = 0 := fun h9 => i_4 (z_tmod0.mpr (Int.dvd_of_emod_eq_zero h9))
          refine lv_iinc (v := (nI (j + 1))) (lv' := [(5, .int (nI (j + 1))), (0, .ref (Z.2.1 41)), (1, .int (nI s1)), (2, .int x), (3, .int y), (4, .int ab)]) hx hb dX10_stepDigit_67 hl (k := 5) rfl (nI_1 _) (by decide) rfl (fun ls hl => ?_)
          refine lv_goto (tgt := 14) hx hb dX10_stepDigit_70 (by decide) ?_
          exact ih_14 (j + 1) (by omega) (fun t ht => by
              rcases Nat.lt_or_ge t j with q9 | q9
              · exact hno t q9
              · have : t = j := by omega
                subst this; exact decide_eq_false hne) (by omega) _ _ _ hS (lv_sub hl [1, 2, 3, 4, 5, 0] rfl)
        · have i_4 := z_eq c_4
          rw [tI_0] at i_4
          rw [z_rem (by omega), hE, hab] at i_4
          have hye : ((sg s1).2.1 * x.toInt - (sg s1).2.2.2 j * y.toInt) % zP (sg s1) = 0 := Int.emod_eq_zero_of_dvd (z_tmod0.mp i_4)
          have hzi : zsi (sg s1) y.toInt x.toInt = j := zfi_is (by omega) (decide_eq_true hye) hno
          refine lv_aload_n hx hb dX10_stepDigit_54 rfl (lv_at hl 0 rfl) ?_
          refine z_get (own := RX10) (C := RX10) (T := TX10) (N := 21) hx hb hts in_X10_stepDigit_10 hown hK hS h_m hM41 rfl 3 (by decide) (List.mem_of_getElem? (i := 4) rfl) rfl rfl dX10_stepDigit_55 ?_
          refine lv_bipush (v := 12) hx hb dX10_stepDigit_58 (by decide) ?_
          refine lv_iload_n hx hb dX10_stepDigit_60 rfl (lv_at hl 1 rfl) ?_
          refine lv_imul hx hb dX10_stepDigit_61 ?_
          refine lv_iload hx hb dX10_stepDigit_62 (lv_at hl 5 rfl) ?_
          refine lv_iadd hx hb dX10_stepDigit_64 ?_
          rw [show (12 * (nI s1)) + (nI j) = nI (12 * s1 + j) from zm_ix (by omega) (by omega)]
          refine z_iald hx hb hK hS h_g hM45 (vp_in_nI (by omega) (by omega)) dX10_stepDigit_65 ?_
          rw [show fd (nI (12 * s1 + j)).toNatClampNeg = fd (12 * s1 + j) from by rw [nI_clamp (by omega)]]
          refine z_iret hx hb hr hlocks hS ?_ dX10_stepDigit_66
          exact ⟨rfl, by unfold zsd; rw [hzi, if_pos (by omega), hdj]⟩
  exact hcut_14 ((sg s1).2.2.1 - 0 + 1) 0 (by omega) (fun t ht => absurd ht (Nat.not_lt_zero t)) (Nat.lt_succ_self _) _ _ _ hS (lv_sub hl [2, 3, 4, 5, 1, 0] rfl)

theorem in_X10_step_10 : ∀ w ∈ wsX100, w ∈ wsX10_step := by decide +kernel
set_option maxHeartbeats 4000000 in
set_option maxRecDepth 100000 in
theorem m_step (Z : zT) (g : Nat → va_E) (sg : Nat → zb) (hM : z_mr Z g sg) (s1 : Nat) (hs1 : s1 < 2) (x y : Int32) (hx5 : -100000 ≤ x.toInt ∧ x.toInt ≤ 100000) (hy6 : 1 ≤ y.toInt ∧ y.toInt ≤ 60) : z_Mi Z yX10_step wsX10_step 2 45 [.ref (Z.2.1 41), .int (nI s1), .int x, .int y] g (fun r g1 => g = g1 ∧ r.toInt = zst (sg s1) y.toInt x.toInt) := by
  intro l sz
  obtain ⟨v4, v5, v6, v15, v16, v17, fu, fq, fm, fd, h_m, h_u, h_q, h_n9, h_g, hMN, hSg⟩ := id hM
  have hM41 : 41 < Z.1 := by omega
  have hM42 : 42 < Z.1 := by omega
  have hM43 : 43 < Z.1 := by omega
  have hM44 : 44 < Z.1 := by omega
  have hM45 : 45 < Z.1 := by omega
  obtain ⟨hok, hp, hq, hm, hd⟩ := hSg s1 hs1
  have hPb := zP_bd hok
  have hn12 := hok.2.2.2.1
  have hq1 := hok.2.1
  have hqx := z_mul_bd (x := (sg s1).2.1) (y := x.toInt) (a := 9) (b := 100000) (by omega) (by omega) (by omega) (by omega)
  have hqx2 : ((fq s1) * x).toInt = (sg s1).2.1 * x.toInt := by rw [fb_mulI (by rw [hq]; omega) (by rw [hq]; omega), hq]
  
  refine z_enter (maxL := 4) (ret := (some .int)) (lv := [(0, .ref (Z.2.1 41)), (1, .int (nI s1)), (2, .int x), (3, .int y)]) (plainFor_of_name (by decide +kernel)) rfl (fun ls h => by subst h; exact lv_entry [.ref (Z.2.1 41), .int (nI s1), .int x, .int y] (n := 4) (Nat.le_of_ble_eq_true rfl)) ?_
  intro p e s m args below meth c hx hb hml hr hlocks hown hts hK hS hsz ls hl
  refine lv_aload_n hx hb dX10_step_0 rfl (lv_at hl 0 rfl) ?_
  refine z_get (own := RX10) (C := RX10) (T := TX10) (N := 21) hx hb hts in_X10_step_10 hown hK hS h_m hM41 rfl 1 (by decide) (List.mem_of_getElem? (i := 1) rfl) rfl rfl dX10_step_1 ?_
  refine lv_iload_n hx hb dX10_step_4 rfl (lv_at hl 1 rfl) ?_
  refine z_iald hx hb hK hS h_q hM43 (vp_in_nI (by omega) (by omega)) dX10_step_5 ?_
  rw [show fq (nI s1).toNatClampNeg = fq s1 from by rw [nI_clamp (by omega)]]
  refine lv_iload_n hx hb dX10_step_6 rfl (lv_at hl 2 rfl) ?_
  refine lv_imul hx hb dX10_step_7 ?_
  refine lv_aload_n hx hb dX10_step_8 rfl (lv_at hl 0 rfl) ?_
  refine lv_iload_n hx hb dX10_step_9 rfl (lv_at hl 1 rfl) ?_
  refine lv_iload_n hx hb dX10_step_10 rfl (lv_at hl 2 rfl) ?_
  refine lv_iload_n hx hb dX10_step_11 rfl (lv_at hl 3 rfl) ?_
  refine z_calli (z_runV (As := [.int (nI s1), .int x, .int y]) (rest := [.int ((fq s1) * x)]) ⟨hx, hb, hml, hown, hts⟩ hK hS ((m_stepDigit Z g sg hM s1 hs1 x y hx5 hy6) l _) gX10_step_X10_stepDigit rfl 3 (by decide +kernel) ⟨Nat.le_of_ble_eq_true rfl, Nat.le_of_ble_eq_true rfl⟩ h_m hM41 rfl rfl hl.1 rfl (Nat.le_of_ble_eq_true rfl) dX10_step_12 ⟨Nat.le_of_ble_eq_true rfl, Nat.le_of_ble_eq_true rfl⟩) hS (fun sd g_1 H locs hp_2 hS => ?_)
  obtain ⟨rfl, hp_2⟩ := hp_2
  have hsd := hp_2
  have hsb := zsd_bd hok y.toInt x.toInt
  have hdy := z_mul_bd (x := sd.toInt) (y := y.toInt) (a := 20) (b := 60) (by omega) (by omega) (by omega) (by omega)
  have hdy2 : (sd * y).toInt = sd.toInt * y.toInt := fb_mulI (by omega) (by omega)
  have hE : (((fq s1) * x) - (sd * y)).toInt = (sg s1).2.1 * x.toInt - sd.toInt * y.toInt := by rw [fb_subI (by rw [hqx2, hdy2]; omega) (by rw [hqx2, hdy2]; omega), hqx2, hdy2]
  refine lv_iload_n hx hb dX10_step_15 rfl (lv_at hl 3 rfl) ?_
  refine lv_imul hx hb dX10_step_16 ?_
  refine lv_isub hx hb dX10_step_17 ?_
  refine lv_aload_n hx hb dX10_step_18 rfl (lv_at hl 0 rfl) ?_
  refine z_get (own := RX10) (C := RX10) (T := TX10) (N := 21) hx hb hts in_X10_step_10 hown hK hS h_m hM41 rfl 0 (by decide) (List.mem_of_getElem? (i := 2) rfl) rfl rfl dX10_step_19 ?_
  refine lv_iload_n hx hb dX10_step_22 rfl (lv_at hl 1 rfl) ?_
  refine z_iald hx hb hK hS h_u hM42 (vp_in_nI (by omega) (by omega)) dX10_step_23 ?_
  rw [show fu (nI s1).toNatClampNeg = fu s1 from by rw [nI_clamp (by omega)]]
  refine lv_idiv hx hb dX10_step_24 (fun h => by rw [h] at hp; have : (0 : Int32).toInt = 0 := rfl; omega) ?_
  refine z_iret hx hb hr hlocks hS ?_ dX10_step_25
  exact ⟨rfl, by rw [z_div (by omega), hE, hp, hsd]; rfl⟩

theorem in_X10_placeOf_10 : ∀ w ∈ wsX100, w ∈ wsX10_placeOf := by decide +kernel
set_option maxHeartbeats 4000000 in
set_option maxRecDepth 100000 in
theorem m_placeOf (Z : zT) (g : Nat → va_E) (sg : Nat → zb) (hM : z_mr Z g sg) (s1 : Nat) (hs1 : s1 < 2) (x : Int32) : z_Mi Z yX10_placeOf wsX10_placeOf 0 0 [.ref (Z.2.1 41), .int (nI s1), .int x] g (fun r g1 => g = g1 ∧ ((zdi (sg s1) x.toInt < (sg s1).2.2.1 ∧ r = nI (zdi (sg s1) x.toInt)) ∨ (¬ zdi (sg s1) x.toInt < (sg s1).2.2.1 ∧ r = -1))) := by
  intro l sz
  obtain ⟨v4, v5, v6, v15, v16, v17, fu, fq, fm, fd, h_m, h_u, h_q, h_n9, h_g, hMN, hSg⟩ := id hM
  have hM41 : 41 < Z.1 := by omega
  have hM42 : 42 < Z.1 := by omega
  have hM43 : 43 < Z.1 := by omega
  have hM44 : 44 < Z.1 := by omega
  have hM45 : 45 < Z.1 := by omega
  obtain ⟨hok, hp, hq, hm, hd⟩ := hSg s1 hs1
  have hPb := zP_bd hok
  have hn12 := hok.2.2.2.1
  have hq1 := hok.2.1
  refine z_enter (maxL := 4) (ret := (some .int)) (lv := [(0, .ref (Z.2.1 41)), (1, .int (nI s1)), (2, .int x)]) (plainFor_of_name (by decide +kernel)) rfl (fun ls h => by subst h; exact lv_entry [.ref (Z.2.1 41), .int (nI s1), .int x] (n := 4) (Nat.le_of_ble_eq_true rfl)) ?_
  intro p e s m args below meth c hx hb hml hr hlocks hown hts hK hS hsz ls hl
  refine lv_iconst (v := 0) hx hb dX10_placeOf_0 (by decide) ?_
  refine lv_istore_n (lv' := [(3, .int 0), (0, .ref (Z.2.1 41)), (1, .int (nI s1)), (2, .int x)]) hx hb dX10_placeOf_1 rfl hl (by decide) rfl (fun ls hl => ?_)
  have hcut_2 : ∀ (nn_2 : Nat) (j : Nat) (hj : j ≤ (sg s1).2.2.1) (hno : ∀ t, t < j → decide ((sg s1).2.2.2 t = x.toInt) = false) (hm_2 : (sg s1).2.2.1 - j < nn_2) (H : Heap) (locs : List Loc) (ls : Array Slot), z_S Z (z_A Z sz) s.heap g H locs → lv_has ls 4 [(0, .ref (Z.2.1 41)), (1, .int (nI s1)), (2, .int x), (3, .int (nI j))] → W p l e (headSpec wsX10_placeOf (z_rm 0 0)).room s m args below meth c H locs 0 0 (MQ below (va_Qi (fun r g1 => g = g1 ∧ ((zdi (sg s1) x.toInt < (sg s1).2.2.1 ∧ r = nI (zdi (sg s1) x.toInt)) ∨ (¬ zdi (sg s1) x.toInt < (sg s1).2.2.1 ∧ r = -1))) (z_B Z) (z_A Z sz)) args s 0 0 (z_A Z sz)) (F0 m 2 ls []) := by
    intro nn_2
    induction nn_2 with
    | zero => intro j hj hno hm_2 H locs ls hS hl; exact absurd hm_2 (Nat.not_lt_zero _)
    | succ nn_2 ih_2 =>
      intro j hj hno hm_2 H locs ls hS hl
      refine lv_iload_n hx hb dX10_placeOf_2 rfl (lv_at hl 3 rfl) ?_
      refine lv_aload_n hx hb dX10_placeOf_3 rfl (lv_at hl 0 rfl) ?_
      refine z_get (own := RX10) (C := RX10) (T := TX10) (N := 21) hx hb hts in_X10_placeOf_10 hown hK hS h_m hM41 rfl 2 (by decide) (List.mem_of_getElem? (i := 1) rfl) rfl rfl dX10_placeOf_4 ?_
      refine lv_iload_n hx hb dX10_placeOf_7 rfl (lv_at hl 1 rfl) ?_
      refine z_iald hx hb hK hS h_n9 hM44 (vp_in_nI (by omega) (by omega)) dX10_placeOf_8 ?_
      rw [show fm (nI s1).toNatClampNeg = nI (sg s1).2.2.1 from by rw [nI_clamp (by omega)]; exact hm]
      refine lv_icmp_ge (tgt := 35) hx hb dX10_placeOf_9 (by decide) (fun c_1 => ?_) (fun c_1 => ?_)
      · have i_1 := z_le c_1
        rw [nI_toInt (by omega)] at i_1
        rw [nI_toInt (by omega)] at i_1
        have hzn : zdi (sg s1) x.toInt = (sg s1).2.2.1 := zfi_none (fun t ht => hno t (by omega))
        refine lv_iconst (v := (-1)) hx hb dX10_placeOf_35 (by decide) ?_
        refine z_iret hx hb hr hlocks hS ?_ dX10_placeOf_36
        exact ⟨rfl, Or.inr ⟨by omega, rfl⟩⟩
      · have i_1 := z_nle c_1
        rw [nI_toInt (by omega)] at i_1
        rw [nI_toInt (by omega)] at i_1
        have hdj := hd j (by omega)
        refine lv_aload_n hx hb dX10_placeOf_12 rfl (lv_at hl 0 rfl) ?_
        refine z_get (own := RX10) (C := RX10) (T := TX10) (N := 21) hx hb hts in_X10_placeOf_10 hown hK hS h_m hM41 rfl 3 (by decide) (List.mem_of_getElem? (i := 2) rfl) rfl rfl dX10_placeOf_13 ?_
        refine lv_bipush (v := 12) hx hb dX10_placeOf_16 (by decide) ?_
        refine lv_iload_n hx hb dX10_placeOf_18 rfl (lv_at hl 1 rfl) ?_
        refine lv_imul hx hb dX10_placeOf_19 ?_
        refine lv_iload_n hx hb dX10_placeOf_20 rfl (lv_at hl 3 rfl) ?_
        refine lv_iadd hx hb dX10_placeOf_21 ?_
        rw [show (12 * (nI s1)) + (nI j) = nI (12 * s1 + j) from zm_ix (by omega) (by omega)]
        refine z_iald hx hb hK hS h_g hM45 (vp_in_nI (by omega) (by omega)) dX10_placeOf_22 ?_
        rw [show fd (nI (12 * s1 + j)).toNatClampNeg = fd (12 * s1 + j) from by rw [nI_clamp (by omega)]]
        refine lv_iload_n hx hb dX10_placeOf_23 rfl (lv_at hl 2 rfl) ?_
        refine lv_icmp_ne (tgt := 29) hx hb dX10_placeOf_24 (by decide) (fun c_2 => ?_) (fun c_2 => ?_)
        · have i_2 := z_ne c_2
          have hne : ¬ (sg s1).2.2.2 j = x.toInt := by rw [← hdj]; exact i_2
          refine lv_iinc (v := (nI (j + 1))) (lv' := [(3, .int (nI (j + 1))), (0, .ref (Z.2.1 41)), (1, .int (nI s1)), (2, .int x)]) hx hb dX10_placeOf_29 hl (k := 3) rfl (nI_1 _) (by decide) rfl (fun ls hl => ?_)
          refine lv_goto (tgt := 2) hx hb dX10_placeOf_32 (by decide) ?_
          exact ih_2 (j + 1) (by omega) (fun t ht => by
              rcases Nat.lt_or_ge t j with q9 | q9
              · exact hno t q9
              · have : t = j := by omega
                subst this; exact decide_eq_false hne) (by omega) _ _ _ hS (lv_sub hl [1, 2, 3, 0] rfl)
        · have i_2 := z_eq c_2
          have hye : (sg s1).2.2.2 j = x.toInt := by rw [← hdj]; exact i_2
          have hzi : zdi (sg s1) x.toInt = j := zfi_is (by omega) (decide_eq_true hye) hno
          refine lv_iload_n hx hb dX10_placeOf_27 rfl (lv_at hl 3 rfl) ?_
          refine z_iret hx hb hr hlocks hS ?_ dX10_placeOf_28
          exact ⟨rfl, Or.inl ⟨by omega, by rw [hzi]⟩⟩
  exact hcut_2 ((sg s1).2.2.1 - 0 + 1) 0 (by omega) (fun t ht => absurd ht (Nat.not_lt_zero t)) (Nat.lt_succ_self _) _ _ _ hS (lv_sub hl [1, 2, 3, 0] rfl)

theorem in_X10_fits_10 : ∀ w ∈ wsX100, w ∈ wsX10_fits := by decide +kernel
set_option maxHeartbeats 4000000 in
set_option maxRecDepth 100000 in
theorem m_fits (Z : zT) (g : Nat → va_E) (sg : Nat → zb) (hM : z_mr Z g sg) (s1 : Nat) (hs1 : s1 < 2) (x : Int32) (hx5 : -200000 ≤ x.toInt ∧ x.toInt ≤ 200000) (j : Nat) (hj : j < (sg s1).2.2.1) : z_Mi Z yX10_fits wsX10_fits 0 0 [.ref (Z.2.1 41), .int (nI s1), .int x, .int (nI j)] g (fun r g1 => g = g1 ∧ zbo r ((sg s1).1 ∣ ((sg s1).2.1 * x.toInt - (sg s1).2.2.2 j))) := by
  intro l sz
  obtain ⟨v4, v5, v6, v15, v16, v17, fu, fq, fm, fd, h_m, h_u, h_q, h_n9, h_g, hMN, hSg⟩ := id hM
  have hM41 : 41 < Z.1 := by omega
  have hM42 : 42 < Z.1 := by omega
  have hM43 : 43 < Z.1 := by omega
  have hM44 : 44 < Z.1 := by omega
  have hM45 : 45 < Z.1 := by omega
  obtain ⟨hok, hp, hq, hm, hd⟩ := hSg s1 hs1
  have hPb := zP_bd hok
  have hn12 := hok.2.2.2.1
  have hq1 := hok.2.1
  have hqx := z_mul_bd (x := (sg s1).2.1) (y := x.toInt) (a := 9) (b := 200000) (by omega) (by omega) (by omega) (by omega)
  have hqx2 : ((fq s1) * x).toInt = (sg s1).2.1 * x.toInt := by rw [fb_mulI (by rw [hq]; omega) (by rw [hq]; omega), hq]
  have hdj := hd j hj
  have hdb := hok.2.2.2.2 j hj
  have hE : (((fq s1) * x) - (fd (12 * s1 + j))).toInt = (sg s1).2.1 * x.toInt - (sg s1).2.2.2 j := by rw [fb_subI (by rw [hqx2, hdj]; omega) (by rw [hqx2, hdj]; omega), hqx2, hdj]
  refine z_enter (maxL := 4) (ret := (some .boolean)) (lv := [(0, .ref (Z.2.1 41)), (1, .int (nI s1)), (2, .int x), (3, .int (nI j))]) (plainFor_of_name (by decide +kernel)) rfl (fun ls h => by subst h; exact lv_entry [.ref (Z.2.1 41), .int (nI s1), .int x, .int (nI j)] (n := 4) (Nat.le_of_ble_eq_true rfl)) ?_
  intro p e s m args below meth c hx hb hml hr hlocks hown hts hK hS hsz ls hl
  refine lv_aload_n hx hb dX10_fits_0 rfl (lv_at hl 0 rfl) ?_
  refine z_get (own := RX10) (C := RX10) (T := TX10) (N := 21) hx hb hts in_X10_fits_10 hown hK hS h_m hM41 rfl 1 (by decide) (List.mem_of_getElem? (i := 1) rfl) rfl rfl dX10_fits_1 ?_
  refine lv_iload_n hx hb dX10_fits_4 rfl (lv_at hl 1 rfl) ?_
  refine z_iald hx hb hK hS h_q hM43 (vp_in_nI (by omega) (by omega)) dX10_fits_5 ?_
  rw [show fq (nI s1).toNatClampNeg = fq s1 from by rw [nI_clamp (by omega)]]
  refine lv_iload_n hx hb dX10_fits_6 rfl (lv_at hl 2 rfl) ?_
  refine lv_imul hx hb dX10_fits_7 ?_
  refine lv_aload_n hx hb dX10_fits_8 rfl (lv_at hl 0 rfl) ?_
  refine z_get (own := RX10) (C := RX10) (T := TX10) (N := 21) hx hb hts in_X10_fits_10 hown hK hS h_m hM41 rfl 3 (by decide) (List.mem_of_getElem? (i := 2) rfl) rfl rfl dX10_fits_9 ?_
  refine lv_bipush (v := 12) hx hb dX10_fits_12 (by decide) ?_
  refine lv_iload_n hx hb dX10_fits_14 rfl (lv_at hl 1 rfl) ?_
  refine lv_imul hx hb dX10_fits_15 ?_
  refine lv_iload_n hx hb dX10_fits_16 rfl (lv_at hl 3 rfl) ?_
  refine lv_iadd hx hb dX10_fits_17 ?_
  rw [show (12 * (nI s1)) + (nI j) = nI (12 * s1 + j) from zm_ix (by omega) (by omega)]
  refine z_iald hx hb hK hS h_g hM45 (vp_in_nI (by omega) (by omega)) dX10_fits_18 ?_
  rw [show fd (nI (12 * s1 + j)).toNatClampNeg = fd (12 * s1 + j) from by rw [nI_clamp (by omega)]]
  refine lv_isub hx hb dX10_fits_19 ?_
  refine lv_aload_n hx hb dX10_fits_20 rfl (lv_at hl 0 rfl) ?_
  refine z_get (own := RX10) (C := RX10) (T := TX10) (N := 21) hx hb hts in_X10_fits_10 hown hK hS h_m hM41 rfl 0 (by decide) (List.mem_of_getElem? (i := 3) rfl) rfl rfl dX10_fits_21 ?_
  refine lv_iload_n hx hb dX10_fits_24 rfl (lv_at hl 1 rfl) ?_
  refine z_iald hx hb hK hS h_u hM42 (vp_in_nI (by omega) (by omega)) dX10_fits_25 ?_
  rw [show fu (nI s1).toNatClampNeg = fu s1 from by rw [nI_clamp (by omega)]]
  refine lv_irem hx hb dX10_fits_26 (fun h => by rw [h] at hp; have : (0 : Int32).toInt = 0 := rfl; omega) ?_
  refine lv_if_ne (tgt := 34) hx hb dX10_fits_27 (by decide) (fun c_1 => ?_) (fun c_1 => ?_)
  · have i_1 := z_ne c_1
    rw [tI_0] at i_1
    rw [z_rem (by omega), hE, hp] at i_1
    have hnd := fun h9 => i_1 (z_tmod0.mpr h9)
    refine lv_iconst (v := 0) hx hb dX10_fits_34 (by decide) ?_
    refine z_zret hx hb hr hlocks hS (by decide) ?_ dX10_fits_35
    exact ⟨rfl, zbo_0 hnd⟩
  · have i_1 := z_eq c_1
    rw [tI_0] at i_1
    rw [z_rem (by omega), hE, hp] at i_1
    have hnd := z_tmod0.mp i_1
    refine lv_iconst (v := 1) hx hb dX10_fits_30 (by decide) ?_
    refine lv_goto (tgt := 35) hx hb dX10_fits_31 (by decide) ?_
    refine z_zret hx hb hr hlocks hS (by decide) ?_ dX10_fits_35
    exact ⟨rfl, zbo_1 hnd⟩

theorem in_X10_rest_10 : ∀ w ∈ wsX100, w ∈ wsX10_rest := by decide +kernel
set_option maxHeartbeats 4000000 in
set_option maxRecDepth 100000 in
theorem m_rest (Z : zT) (g : Nat → va_E) (sg : Nat → zb) (hM : z_mr Z g sg) (s1 : Nat) (hs1 : s1 < 2) (x : Int32) (hx5 : -200000 ≤ x.toInt ∧ x.toInt ≤ 200000) (j : Nat) (hj : j < (sg s1).2.2.1) : z_Mi Z yX10_rest wsX10_rest 0 0 [.ref (Z.2.1 41), .int (nI s1), .int x, .int (nI j)] g (fun r g1 => g = g1 ∧ r.toInt = ((sg s1).2.1 * x.toInt - (sg s1).2.2.2 j).tdiv (sg s1).1) := by
  intro l sz
  obtain ⟨v4, v5, v6, v15, v16, v17, fu, fq, fm, fd, h_m, h_u, h_q, h_n9, h_g, hMN, hSg⟩ := id hM
  have hM41 : 41 < Z.1 := by omega
  have hM42 : 42 < Z.1 := by omega
  have hM43 : 43 < Z.1 := by omega
  have hM44 : 44 < Z.1 := by omega
  have hM45 : 45 < Z.1 := by omega
  obtain ⟨hok, hp, hq, hm, hd⟩ := hSg s1 hs1
  have hPb := zP_bd hok
  have hn12 := hok.2.2.2.1
  have hq1 := hok.2.1
  have hqx := z_mul_bd (x := (sg s1).2.1) (y := x.toInt) (a := 9) (b := 200000) (by omega) (by omega) (by omega) (by omega)
  have hqx2 : ((fq s1) * x).toInt = (sg s1).2.1 * x.toInt := by rw [fb_mulI (by rw [hq]; omega) (by rw [hq]; omega), hq]
  have hdj := hd j hj
  have hdb := hok.2.2.2.2 j hj
  have hE : (((fq s1) * x) - (fd (12 * s1 + j))).toInt = (sg s1).2.1 * x.toInt - (sg s1).2.2.2 j := by rw [fb_subI (by rw [hqx2, hdj]; omega) (by rw [hqx2, hdj]; omega), hqx2, hdj]
  refine z_enter (maxL := 4) (ret := (some .int)) (lv := [(0, .ref (Z.2.1 41)), (1, .int (nI s1)), (2, .int x), (3, .int (nI j))]) (plainFor_of_name (by decide +kernel)) rfl (fun ls h => by subst h; exact lv_entry [.ref (Z.2.1 41), .int (nI s1), .int x, .int (nI j)] (n := 4) (Nat.le_of_ble_eq_true rfl)) ?_
  intro p e s m args below meth c hx hb hml hr hlocks hown hts hK hS hsz ls hl
  refine lv_aload_n hx hb dX10_rest_0 rfl (lv_at hl 0 rfl) ?_
  refine z_get (own := RX10) (C := RX10) (T := TX10) (N := 21) hx hb hts in_X10_rest_10 hown hK hS h_m hM41 rfl 1 (by decide) (List.mem_of_getElem? (i := 1) rfl) rfl rfl dX10_rest_1 ?_
  refine lv_iload_n hx hb dX10_rest_4 rfl (lv_at hl 1 rfl) ?_
  refine z_iald hx hb hK hS h_q hM43 (vp_in_nI (by omega) (by omega)) dX10_rest_5 ?_
  rw [show fq (nI s1).toNatClampNeg = fq s1 from by rw [nI_clamp (by omega)]]
  refine lv_iload_n hx hb dX10_rest_6 rfl (lv_at hl 2 rfl) ?_
  refine lv_imul hx hb dX10_rest_7 ?_
  refine lv_aload_n hx hb dX10_rest_8 rfl (lv_at hl 0 rfl) ?_
  refine z_get (own := RX10) (C := RX10) (T := TX10) (N := 21) hx hb hts in_X10_rest_10 hown hK hS h_m hM41 rfl 3 (by decide) (List.mem_of_getElem? (i := 2) rfl) rfl rfl dX10_rest_9 ?_
  refine lv_bipush (v := 12) hx hb dX10_rest_12 (by decide) ?_
  refine lv_iload_n hx hb dX10_rest_14 rfl (lv_at hl 1 rfl) ?_
  refine lv_imul hx hb dX10_rest_15 ?_
  refine lv_iload_n hx hb dX10_rest_16 rfl (lv_at hl 3 rfl) ?_
  refine lv_iadd hx hb dX10_rest_17 ?_
  rw [show (12 * (nI s1)) + (nI j) = nI (12 * s1 + j) from zm_ix (by omega) (by omega)]
  refine z_iald hx hb hK hS h_g hM45 (vp_in_nI (by omega) (by omega)) dX10_rest_18 ?_
  rw [show fd (nI (12 * s1 + j)).toNatClampNeg = fd (12 * s1 + j) from by rw [nI_clamp (by omega)]]
  refine lv_isub hx hb dX10_rest_19 ?_
  refine lv_aload_n hx hb dX10_rest_20 rfl (lv_at hl 0 rfl) ?_
  refine z_get (own := RX10) (C := RX10) (T := TX10) (N := 21) hx hb hts in_X10_rest_10 hown hK hS h_m hM41 rfl 0 (by decide) (List.mem_of_getElem? (i := 3) rfl) rfl rfl dX10_rest_21 ?_
  refine lv_iload_n hx hb dX10_rest_24 rfl (lv_at hl 1 rfl) ?_
  refine z_iald hx hb hK hS h_u hM42 (vp_in_nI (by omega) (by omega)) dX10_rest_25 ?_
  rw [show fu (nI s1).toNatClampNeg = fu s1 from by rw [nI_clamp (by omega)]]
  refine lv_idiv hx hb dX10_rest_26 (fun h => by rw [h] at hp; have : (0 : Int32).toInt = 0 := rfl; omega) ?_
  refine z_iret hx hb hr hlocks hS ?_ dX10_rest_27
  exact ⟨rfl, by rw [z_div (by omega), hE, hp]⟩

set_option maxHeartbeats 4000000 in
set_option maxRecDepth 100000 in
theorem m_common (Z : zT) (g : Nat → va_E) (x y : Int64) (hx9 : -4611686018427387904 < x.toInt ∧ x.toInt < 4611686018427387904) (hy9 : 0 ≤ y.toInt ∧ y.toInt < 4611686018427387904) : z_Ml Z yX10_common wsX10_common 0 0 [.long x, .long y] g (fun r g1 => g = g1 ∧ r.toInt = (Nat.gcd x.toInt.natAbs y.toInt.natAbs : Int)) := by
  intro l sz
  refine z_enter (maxL := 10) (ret := (some .long)) (lv := [(0, .long x), (2, .long y)]) (plainFor_of_name (by decide +kernel)) rfl (fun ls h => by subst h; exact lv_entry [.long x, .long y] (n := 10) (Nat.le_of_ble_eq_true rfl)) ?_
  intro p e s m args below meth c hx hb hml hr hlocks hown hts hK hS hsz ls hl
  refine lv_lload_n hx hb dX10_common_0 rfl (lv_at hl 0 rfl) ?_
  refine lv_lconst (v := 0) hx hb dX10_common_1 rfl ?_
  refine W.lcmp hx hb dX10_common_2 ?_
  have hc1 := z_cmpL (x := x) (y := 0)
  rw [show (0 : Int64).toInt = 0 from rfl] at hc1
  refine lv_if_ge (tgt := 11) hx hb dX10_common_3 (by decide) (fun c_1 => ?_) (fun c_1 => ?_)
  · have i_1 := z_le c_1
    rw [tI_0] at i_1
    refine lv_lload_n hx hb dX10_common_11 rfl (lv_at hl 0 rfl) ?_
    refine lv_lstore (lv' := [(4, .long x), (0, .long x), (2, .long y)]) hx hb dX10_common_12 hl (by decide) rfl (fun ls hl => ?_)
    refine lv_lload_n hx hb dX10_common_14 rfl (lv_at hl 2 rfl) ?_
    refine lv_lstore (lv' := [(6, .long y), (4, .long x), (0, .long x), (2, .long y)]) hx hb dX10_common_15 hl (by decide) rfl (fun ls hl => ?_)
    have hcut_17 : ∀ (nn_17 : Nat) (a : Int64) (c9 : Int64) (ha : 0 ≤ a.toInt ∧ 0 ≤ c9.toInt ∧ a.toInt < 4611686018427387904 ∧ c9.toInt < 4611686018427387904) (hg9 : Nat.gcd a.toInt.toNat c9.toInt.toNat = Nat.gcd x.toInt.natAbs y.toInt.natAbs) (hm_17 : c9.toInt.toNat < nn_17) (H : Heap) (locs : List Loc) (ls : Array Slot), z_S Z (z_A Z sz) s.heap g H locs → lv_has ls 10 [(4, .long a), (6, .long c9)] → W p l e (headSpec wsX10_common (z_rm 0 0)).room s m args below meth c H locs 0 0 (MQ below (va_Ql (fun r g1 => g = g1 ∧ r.toInt = (Nat.gcd x.toInt.natAbs y.toInt.natAbs : Int)) (z_B Z) (z_A Z sz)) args s 0 0 (z_A Z sz)) (F0 m 17 ls []) := by
      intro nn_17
      induction nn_17 with
      | zero => intro a c9 ha hg9 hm_17 H locs ls hS hl; exact absurd hm_17 (Nat.not_lt_zero _)
      | succ nn_17 ih_17 =>
        intro a c9 ha hg9 hm_17 H locs ls hS hl
        refine lv_lload hx hb dX10_common_17 (lv_at hl 1 rfl) ?_
        refine lv_lconst (v := 0) hx hb dX10_common_19 rfl ?_
        refine W.lcmp hx hb dX10_common_20 ?_
        refine lv_if_eq (tgt := 42) hx hb dX10_common_21 (by decide) (fun c_2 => ?_) (fun c_2 => ?_)
        · have i_2 := z_eq c_2
          rw [tI_0] at i_2
          have hz := z_cmp0.mp c_2
          rw [show (0 : Int64).toInt = 0 from rfl] at hz
          refine lv_lload hx hb dX10_common_42 (lv_at hl 0 rfl) ?_
          refine z_lret hx hb hr hlocks hS ?_ dX10_common_44
          exact ⟨rfl, by rw [← hg9, hz, show (0 : Int).toNat = 0 from rfl, Nat.gcd_zero_right]; omega⟩
        · have i_2 := z_ne c_2
          rw [tI_0] at i_2
          have hz : ¬ c9.toInt = 0 := fun h9 => c_2 (z_cmp0.mpr (by rw [h9]; rfl))
          obtain ⟨a0, ea0, ha0⟩ := z_lN_of ha.1
          obtain ⟨b0, eb0, hb0⟩ := z_lN_of ha.2.1
          have hml9 := Nat.mod_lt a0 (show 0 < b0 by omega)
          subst ea0
          subst eb0
          refine lv_lload hx hb dX10_common_24 (lv_at hl 0 rfl) ?_
          refine lv_lload hx hb dX10_common_26 (lv_at hl 1 rfl) ?_
          refine lv_lrem hx hb dX10_common_28 (fun h => by rw [h] at hz; exact hz rfl) ?_
          rw [show (lN a0) - (lN a0) / (lN b0) * (lN b0) = lN (a0 % b0) from pk_lRem (by omega) (by omega) (by omega)]
          refine lv_lstore (lv' := [(8, .long (lN (a0 % b0))), (4, .long (lN a0)), (6, .long (lN b0))]) hx hb dX10_common_29 hl (by decide) rfl (fun ls hl => ?_)
          refine lv_lload hx hb dX10_common_31 (lv_at hl 2 rfl) ?_
          refine lv_lstore (lv' := [(4, .long (lN b0)), (8, .long (lN (a0 % b0))), (6, .long (lN b0))]) hx hb dX10_common_33 hl (by decide) rfl (fun ls hl => ?_)
          refine lv_lload hx hb dX10_common_35 (lv_at hl 1 rfl) ?_
          refine lv_lstore (lv' := [(6, .long (lN (a0 % b0))), (4, .long (lN b0)), (8, .long (lN (a0 % b0)))]) hx hb dX10_common_37 hl (by decide) rfl (fun ls hl => ?_)
          refine lv_goto (tgt := 17) hx hb dX10_common_39 (by decide) ?_
          exact ih_17 (lN b0) (lN (a0 % b0)) (by rw [pk_lT (by omega), pk_lT (by omega)]; omega) (by rw [pk_lT (by omega), pk_lT (by omega), Int.toNat_natCast, Int.toNat_natCast, ← hg9, pk_lT (by omega), pk_lT (by omega), Int.toNat_natCast, Int.toNat_natCast, Nat.gcd_comm a0 b0, Nat.gcd_rec b0 a0, Nat.gcd_comm]) (by rw [pk_lT (by omega), Int.toNat_natCast]; rw [pk_lT (by omega), Int.toNat_natCast] at hm_17; omega) _ _ _ hS (lv_sub hl [1, 0] rfl)
    exact hcut_17 (y.toInt.toNat + 1) x y (by omega) (by congr 1 <;> omega) (Nat.lt_succ_self _) _ _ _ hS (lv_sub hl [1, 0] rfl)
  · have i_1 := z_nle c_1
    rw [tI_0] at i_1
    refine lv_lload_n hx hb dX10_common_6 rfl (lv_at hl 0 rfl) ?_
    refine lv_lneg hx hb dX10_common_7 ?_
    refine lv_goto (tgt := 12) hx hb dX10_common_8 (by decide) ?_
    refine lv_topl (fun na ena => ?_)
    have hna : na.toInt = -x.toInt := by rw [ena, Int64.toInt_neg, fb_bmodL (by omega) (by omega)]
    refine lv_lstore (lv' := [(4, .long na), (0, .long x), (2, .long y)]) hx hb dX10_common_12 hl (by decide) rfl (fun ls hl => ?_)
    refine lv_lload_n hx hb dX10_common_14 rfl (lv_at hl 2 rfl) ?_
    refine lv_lstore (lv' := [(6, .long y), (4, .long na), (0, .long x), (2, .long y)]) hx hb dX10_common_15 hl (by decide) rfl (fun ls hl => ?_)
    have hcut_17_2 : ∀ (nn_17 : Nat) (a : Int64) (c9 : Int64) (ha : 0 ≤ a.toInt ∧ 0 ≤ c9.toInt ∧ a.toInt < 4611686018427387904 ∧ c9.toInt < 4611686018427387904) (hg9 : Nat.gcd a.toInt.toNat c9.toInt.toNat = Nat.gcd x.toInt.natAbs y.toInt.natAbs) (hm_17 : c9.toInt.toNat < nn_17) (H : Heap) (locs : List Loc) (ls : Array Slot), z_S Z (z_A Z sz) s.heap g H locs → lv_has ls 10 [(4, .long a), (6, .long c9)] → W p l e (headSpec wsX10_common (z_rm 0 0)).room s m args below meth c H locs 0 0 (MQ below (va_Ql (fun r g1 => g = g1 ∧ r.toInt = (Nat.gcd x.toInt.natAbs y.toInt.natAbs : Int)) (z_B Z) (z_A Z sz)) args s 0 0 (z_A Z sz)) (F0 m 17 ls []) := by
      intro nn_17
      induction nn_17 with
      | zero => intro a c9 ha hg9 hm_17 H locs ls hS hl; exact absurd hm_17 (Nat.not_lt_zero _)
      | succ nn_17 ih_17 =>
        intro a c9 ha hg9 hm_17 H locs ls hS hl
        refine lv_lload hx hb dX10_common_17 (lv_at hl 1 rfl) ?_
        refine lv_lconst (v := 0) hx hb dX10_common_19 rfl ?_
        refine W.lcmp hx hb dX10_common_20 ?_
        refine lv_if_eq (tgt := 42) hx hb dX10_common_21 (by decide) (fun c_3 => ?_) (fun c_3 => ?_)
        · have i_3 := z_eq c_3
          rw [tI_0] at i_3
          have hz := z_cmp0.mp c_3
          rw [show (0 : Int64).toInt = 0 from rfl] at hz
          refine lv_lload hx hb dX10_common_42 (lv_at hl 0 rfl) ?_
          refine z_lret hx hb hr hlocks hS ?_ dX10_common_44
          exact ⟨rfl, by rw [← hg9, hz, show (0 : Int).toNat = 0 from rfl, Nat.gcd_zero_right]; omega⟩
        · have i_3 := z_ne c_3
          rw [tI_0] at i_3
          have hz : ¬ c9.toInt = 0 := fun h9 => c_3 (z_cmp0.mpr (by rw [h9]; rfl))
          obtain ⟨a0, ea0, ha0⟩ := z_lN_of ha.1
          obtain ⟨b0, eb0, hb0⟩ := z_lN_of ha.2.1
          have hml9 := Nat.mod_lt a0 (show 0 < b0 by omega)
          subst ea0
          subst eb0
          refine lv_lload hx hb dX10_common_24 (lv_at hl 0 rfl) ?_
          refine lv_lload hx hb dX10_common_26 (lv_at hl 1 rfl) ?_
          refine lv_lrem hx hb dX10_common_28 (fun h => by rw [h] at hz; exact hz rfl) ?_
          rw [show (lN a0) - (lN a0) / (lN b0) * (lN b0) = lN (a0 % b0) from pk_lRem (by omega) (by omega) (by omega)]
          refine lv_lstore (lv' := [(8, .long (lN (a0 % b0))), (4, .long (lN a0)), (6, .long (lN b0))]) hx hb dX10_common_29 hl (by decide) rfl (fun ls hl => ?_)
          refine lv_lload hx hb dX10_common_31 (lv_at hl 2 rfl) ?_
          refine lv_lstore (lv' := [(4, .long (lN b0)), (8, .long (lN (a0 % b0))), (6, .long (lN b0))]) hx hb dX10_common_33 hl (by decide) rfl (fun ls hl => ?_)
          refine lv_lload hx hb dX10_common_35 (lv_at hl 1 rfl) ?_
          refine lv_lstore (lv' := [(6, .long (lN (a0 % b0))), (4, .long (lN b0)), (8, .long (lN (a0 % b0)))]) hx hb dX10_common_37 hl (by decide) rfl (fun ls hl => ?_)
          refine lv_goto (tgt := 17) hx hb dX10_common_39 (by decide) ?_
          exact ih_17 (lN b0) (lN (a0 % b0)) (by rw [pk_lT (by omega), pk_lT (by omega)]; omega) (by rw [pk_lT (by omega), pk_lT (by omega), Int.toNat_natCast, Int.toNat_natCast, ← hg9, pk_lT (by omega), pk_lT (by omega), Int.toNat_natCast, Int.toNat_natCast, Nat.gcd_comm a0 b0, Nat.gcd_rec b0 a0, Nat.gcd_comm]) (by rw [pk_lT (by omega), Int.toNat_natCast]; rw [pk_lT (by omega), Int.toNat_natCast] at hm_17; omega) _ _ _ hS (lv_sub hl [1, 0] rfl)
    exact hcut_17_2 (y.toInt.toNat + 1) na y (by omega) (by congr 1 <;> omega) (Nat.lt_succ_self _) _ _ _ hS (lv_sub hl [1, 0] rfl)

theorem in_X10_fractionBarred_10 : ∀ w ∈ wsX100, w ∈ wsX10_fractionBarred := by decide +kernel
set_option maxHeartbeats 4000000 in
set_option maxRecDepth 100000 in
theorem m_fractionBarred (Z : zT) (g : Nat → va_E) (sg : Nat → zb) (rw9 : Nat → zr) (hM : z_mr Z g sg) (x y z u : Int32) : z_Mi Z yX10_fractionBarred wsX10_fractionBarred 4 89 [.ref (Z.2.1 41), .int x, .int y, .int z, .int u] g (fun r g1 => g = g1 ∧ r.toInt = z_fb (sg, rw9) x.toInt y.toInt z.toInt u.toInt) := by
  intro l sz
  obtain ⟨v4, v5, v6, v15, v16, v17, fu, fq, fm, fd, h_m, h_u, h_q, h_n9, h_g, hMN, hSg⟩ := id hM
  have hM41 : 41 < Z.1 := by omega
  have hM42 : 42 < Z.1 := by omega
  have hM43 : 43 < Z.1 := by omega
  have hM44 : 44 < Z.1 := by omega
  have hM45 : 45 < Z.1 := by omega
  
  refine z_enter (maxL := 5) (ret := (some .int)) (lv := [(0, .ref (Z.2.1 41)), (1, .int x), (2, .int y), (3, .int z), (4, .int u)]) (plainFor_of_name (by decide +kernel)) rfl (fun ls h => by subst h; exact lv_entry [.ref (Z.2.1 41), .int x, .int y, .int z, .int u] (n := 5) (Nat.le_of_ble_eq_true rfl)) ?_
  intro p e s m args below meth c hx hb hml hr hlocks hown hts hK hS hsz ls hl
  refine lv_iload_n hx hb dX10_fractionBarred_0 rfl (lv_at hl 1 rfl) ?_
  refine z_calli (z_runS (As := [.int x]) (rest := []) ⟨hx, hb, hml, hown, hts⟩ hK hS ((m_noSystem Z g x) l _) gX10_fractionBarred_X10_noSystem rfl 1 (by decide +kernel) ⟨Nat.le_of_ble_eq_true rfl, Nat.le_of_ble_eq_true rfl⟩ rfl hl.1 rfl (Nat.le_of_ble_eq_true rfl) dX10_fractionBarred_1 ⟨Nat.le_of_ble_eq_true rfl, Nat.le_of_ble_eq_true rfl⟩) hS (fun rn g_1 H locs hp_2 hS => ?_)
  obtain ⟨rfl, hp_2⟩ := hp_2
  have hrn := hp_2
  refine lv_if_eq (tgt := 10) hx hb dX10_fractionBarred_4 (by decide) (fun c_3 => ?_) (fun c_3 => ?_)
  · have i_3 := z_eq c_3
    rw [tI_0] at i_3
    have hzs : zsy x.toInt := Classical.byContradiction (zbo_f hrn c_3)
    have htn : x.toInt.toNat < 2 := by have := hzs.1; have := hzs.2; omega
    obtain ⟨s1, es1, hs1x, -⟩ := z_nI_of (x := x) hzs.1
    subst es1
    have hs1 : s1 < 2 := by omega
    have htn1 : (nI s1).toInt.toNat = s1 := by omega
    obtain ⟨hok, hp, hq, hm, hd⟩ := hSg s1 hs1
    have hPb := zP_bd hok
    have hn12 := hok.2.2.2.1
    have hq1 := hok.2.1
    refine lv_iload_n hx hb dX10_fractionBarred_10 rfl (lv_at hl 2 rfl) ?_
    refine lv_ldc (v := (-100000)) hx hb hown (hts _ (List.mem_of_getElem? (i := 2) rfl)) dX10_fractionBarred_11 ?_
    refine lv_ldc (v := 100000) hx hb hown (hts _ (List.mem_of_getElem? (i := 3) rfl)) dX10_fractionBarred_13 ?_
    refine z_calli (z_runS (As := [.int y, .int (-100000), .int 100000]) (rest := []) ⟨hx, hb, hml, hown, hts⟩ hK hS ((m_in Z g y (-100000) 100000) l _) gX10_fractionBarred_X10_in rfl 3 (by decide +kernel) ⟨Nat.le_of_ble_eq_true rfl, Nat.le_of_ble_eq_true rfl⟩ rfl hl.1 rfl (Nat.le_of_ble_eq_true rfl) dX10_fractionBarred_15 ⟨Nat.le_of_ble_eq_true rfl, Nat.le_of_ble_eq_true rfl⟩) hS (fun r1 g_4 H locs hp_5 hS => ?_)
    obtain ⟨rfl, hp_5⟩ := hp_5
    have hr1 := hp_5
    rw [tI_m100000, tI_100000] at hr1
    refine lv_if_eq (tgt := 42) hx hb dX10_fractionBarred_18 (by decide) (fun c_6 => ?_) (fun c_6 => ?_)
    · have i_6 := z_eq c_6
      rw [tI_0] at i_6
      have hbad : ¬ ((-100000 ≤ y.toInt ∧ y.toInt ≤ 100000) ∧ (1 ≤ z.toInt ∧ z.toInt ≤ 60) ∧ (0 ≤ u.toInt ∧ u.toInt ≤ 1000000000)) := fun h9 => zbo_f hr1 c_6 h9.1
      refine lv_ldc (v := (-1000002)) hx hb hown (hts _ (List.mem_of_getElem? (i := 5) rfl)) dX10_fractionBarred_42 ?_
      refine z_iret hx hb hr hlocks hS ?_ dX10_fractionBarred_44
      exact ⟨rfl, by show _ = z_fb (sg, rw9) (nI s1).toInt y.toInt z.toInt u.toInt; unfold z_fb; rw [zite_t hzs, zite_f hbad]; rfl⟩
    · have i_6 := z_ne c_6
      rw [tI_0] at i_6
      have hym := zbo_t hr1 c_6
      refine lv_iload_n hx hb dX10_fractionBarred_21 rfl (lv_at hl 3 rfl) ?_
      refine lv_iconst (v := 1) hx hb dX10_fractionBarred_22 (by decide) ?_
      refine lv_bipush (v := 60) hx hb dX10_fractionBarred_23 (by decide) ?_
      refine z_calli (z_runS (As := [.int z, .int 1, .int 60]) (rest := []) ⟨hx, hb, hml, hown, hts⟩ hK hS ((m_in Z g z 1 60) l _) gX10_fractionBarred_X10_in rfl 3 (by decide +kernel) ⟨Nat.le_of_ble_eq_true rfl, Nat.le_of_ble_eq_true rfl⟩ rfl hl.1 rfl (Nat.le_of_ble_eq_true rfl) dX10_fractionBarred_25 ⟨Nat.le_of_ble_eq_true rfl, Nat.le_of_ble_eq_true rfl⟩) hS (fun r2 g_7 H locs hp_8 hS => ?_)
      obtain ⟨rfl, hp_8⟩ := hp_8
      have hr2 := hp_8
      rw [tI_1, tI_60] at hr2
      refine lv_if_eq (tgt := 42) hx hb dX10_fractionBarred_28 (by decide) (fun c_9 => ?_) (fun c_9 => ?_)
      · have i_9 := z_eq c_9
        rw [tI_0] at i_9
        have hbad : ¬ ((-100000 ≤ y.toInt ∧ y.toInt ≤ 100000) ∧ (1 ≤ z.toInt ∧ z.toInt ≤ 60) ∧ (0 ≤ u.toInt ∧ u.toInt ≤ 1000000000)) := fun h9 => zbo_f hr2 c_9 h9.2.1
        refine lv_ldc (v := (-1000002)) hx hb hown (hts _ (List.mem_of_getElem? (i := 5) rfl)) dX10_fractionBarred_42 ?_
        refine z_iret hx hb hr hlocks hS ?_ dX10_fractionBarred_44
        exact ⟨rfl, by show _ = z_fb (sg, rw9) (nI s1).toInt y.toInt z.toInt u.toInt; unfold z_fb; rw [zite_t hzs, zite_f hbad]; rfl⟩
      · have i_9 := z_ne c_9
        rw [tI_0] at i_9
        have hzn := zbo_t hr2 c_9
        refine lv_iload hx hb dX10_fractionBarred_31 (lv_at hl 4 rfl) ?_
        refine lv_iconst (v := 0) hx hb dX10_fractionBarred_33 (by decide) ?_
        refine lv_ldc (v := 1000000000) hx hb hown (hts _ (List.mem_of_getElem? (i := 4) rfl)) dX10_fractionBarred_34 ?_
        refine z_calli (z_runS (As := [.int u, .int 0, .int 1000000000]) (rest := []) ⟨hx, hb, hml, hown, hts⟩ hK hS ((m_in Z g u 0 1000000000) l _) gX10_fractionBarred_X10_in rfl 3 (by decide +kernel) ⟨Nat.le_of_ble_eq_true rfl, Nat.le_of_ble_eq_true rfl⟩ rfl hl.1 rfl (Nat.le_of_ble_eq_true rfl) dX10_fractionBarred_36 ⟨Nat.le_of_ble_eq_true rfl, Nat.le_of_ble_eq_true rfl⟩) hS (fun r3 g_10 H locs hp_11 hS => ?_)
        obtain ⟨rfl, hp_11⟩ := hp_11
        have hr3 := hp_11
        rw [tI_0, tI_1000000000] at hr3
        refine lv_if_ne (tgt := 45) hx hb dX10_fractionBarred_39 (by decide) (fun c_12 => ?_) (fun c_12 => ?_)
        · have i_12 := z_ne c_12
          rw [tI_0] at i_12
          have hpl := zbo_t hr3 c_12
          refine lv_aload_n hx hb dX10_fractionBarred_45 rfl (lv_at hl 0 rfl) ?_
          refine lv_iload_n hx hb dX10_fractionBarred_46 rfl (lv_at hl 1 rfl) ?_
          refine z_calli (z_runV (As := [.int (nI s1)]) (rest := []) ⟨hx, hb, hml, hown, hts⟩ hK hS ((m_isComplete Z g sg hM s1 hs1) l _) gX10_fractionBarred_X10_isComplete rfl 1 (by decide +kernel) ⟨Nat.le_of_ble_eq_true rfl, Nat.le_of_ble_eq_true rfl⟩ h_m hM41 rfl rfl hl.1 rfl (Nat.le_of_ble_eq_true rfl) dX10_fractionBarred_47 ⟨Nat.le_of_ble_eq_true rfl, Nat.le_of_ble_eq_true rfl⟩) hS (fun rc g_13 H locs hp_14 hS => ?_)
          obtain ⟨rfl, hp_14⟩ := hp_14
          have hrc := hp_14
          refine lv_if_ne (tgt := 56) hx hb dX10_fractionBarred_50 (by decide) (fun c_15 => ?_) (fun c_15 => ?_)
          · have i_15 := z_ne c_15
            rw [tI_0] at i_15
            have hcm := zbo_t hrc c_15
            refine lv_iload_n hx hb dX10_fractionBarred_56 rfl (lv_at hl 3 rfl) ?_
            refine lv_i2l hx hb dX10_fractionBarred_57 rfl ?_
            refine lv_aload_n hx hb dX10_fractionBarred_58 rfl (lv_at hl 0 rfl) ?_
            refine z_get (own := RX10) (C := RX10) (T := TX10) (N := 21) hx hb hts in_X10_fractionBarred_10 hown hK hS h_m hM41 rfl 0 (by decide) (List.mem_of_getElem? (i := 7) rfl) rfl rfl dX10_fractionBarred_59 ?_
            refine lv_iload_n hx hb dX10_fractionBarred_62 rfl (lv_at hl 1 rfl) ?_
            refine z_iald hx hb hK hS h_u hM42 (vp_in_nI (by omega) (by omega)) dX10_fractionBarred_63 ?_
            rw [show fu (nI s1).toNatClampNeg = fu s1 from by rw [nI_clamp (by omega)]]
            refine z_calli (z_runS (As := [.int (fu s1)]) (rest := [.long (Int32.toInt64 z)]) ⟨hx, hb, hml, hown, hts⟩ hK hS ((m_absolute Z g (fu s1)) l _) gX10_fractionBarred_X10_absolute rfl 1 (by decide +kernel) ⟨Nat.le_of_ble_eq_true rfl, Nat.le_of_ble_eq_true rfl⟩ rfl hl.1 rfl (Nat.le_of_ble_eq_true rfl) dX10_fractionBarred_64 ⟨Nat.le_of_ble_eq_true rfl, Nat.le_of_ble_eq_true rfl⟩) hS (fun ab g_16 H locs hp_17 hS => ?_)
            obtain ⟨rfl, hp_17⟩ := hp_17
            have hab : ab.toInt = zP (sg s1) := by rw [hp_17.1 (by omega), hp]; rfl
            refine lv_i2l hx hb dX10_fractionBarred_67 rfl ?_
            refine z_calll (z_runS (As := [.long (Int32.toInt64 z), .long (Int32.toInt64 ab)]) (rest := []) ⟨hx, hb, hml, hown, hts⟩ hK hS ((m_common Z g (Int32.toInt64 z) (Int32.toInt64 ab) (by rw [Int32.toInt_toInt64]; omega) (by rw [Int32.toInt_toInt64]; omega)) l _) gX10_fractionBarred_X10_common rfl 2 (by decide +kernel) ⟨Nat.le_of_ble_eq_true rfl, Nat.le_of_ble_eq_true rfl⟩ rfl hl.1 rfl (Nat.le_of_ble_eq_true rfl) dX10_fractionBarred_68 ⟨Nat.le_of_ble_eq_true rfl, Nat.le_of_ble_eq_true rfl⟩) hS (fun gd g_18 H locs hp_19 hS => ?_)
            obtain ⟨rfl, hp_19⟩ := hp_19
            have hgd := hp_19
            rw [Int32.toInt_toInt64, Int32.toInt_toInt64, hab, show z.toInt.natAbs = z.toInt.toNat from by omega, show (zP (sg s1)).natAbs = (zP (sg s1)).toNat from by omega] at hgd
            have hc0 := z_cmp0 (x := gd) (y := 1)
            rw [show (1 : Int64).toInt = 1 from rfl, hgd] at hc0
            refine lv_lconst (v := 1) hx hb dX10_fractionBarred_71 rfl ?_
            refine W.lcmp hx hb dX10_fractionBarred_72 ?_
            refine lv_if_ne (tgt := 80) hx hb dX10_fractionBarred_73 (by decide) (fun c_20 => ?_) (fun c_20 => ?_)
            · have i_20 := z_ne c_20
              rw [tI_0] at i_20
              have hngc : ¬ Nat.gcd z.toInt.toNat (zP (sg s1)).toNat = 1 := fun h9 => c_20 (hc0.mpr (by omega))
              refine lv_ldc (v := (-1000004)) hx hb hown (hts _ (List.mem_of_getElem? (i := 8) rfl)) dX10_fractionBarred_80 ?_
              refine z_iret hx hb hr hlocks hS ?_ dX10_fractionBarred_82
              exact ⟨rfl, by show _ = z_fb (sg, rw9) (nI s1).toInt y.toInt z.toInt u.toInt; unfold z_fb; rw [zite_t hzs, zite_t ⟨hym, hzn, hpl⟩, htn1, zite_t hcm, zite_f hngc]; rfl⟩
            · have i_20 := z_eq c_20
              rw [tI_0] at i_20
              have hgc : Nat.gcd z.toInt.toNat (zP (sg s1)).toNat = 1 := by have := hc0.mp c_20; omega
              refine lv_iconst (v := 0) hx hb dX10_fractionBarred_76 (by decide) ?_
              refine lv_goto (tgt := 82) hx hb dX10_fractionBarred_77 (by decide) ?_
              refine z_iret hx hb hr hlocks hS ?_ dX10_fractionBarred_82
              exact ⟨rfl, by show _ = z_fb (sg, rw9) (nI s1).toInt y.toInt z.toInt u.toInt; unfold z_fb; rw [zite_t hzs, zite_t ⟨hym, hzn, hpl⟩, htn1, zite_t hcm, zite_t hgc]; rfl⟩
          · have i_15 := z_eq c_15
            rw [tI_0] at i_15
            have hncm := zbo_f hrc c_15
            refine lv_ldc (v := (-1000003)) hx hb hown (hts _ (List.mem_of_getElem? (i := 6) rfl)) dX10_fractionBarred_53 ?_
            refine z_iret hx hb hr hlocks hS ?_ dX10_fractionBarred_55
            exact ⟨rfl, by show _ = z_fb (sg, rw9) (nI s1).toInt y.toInt z.toInt u.toInt; unfold z_fb; rw [zite_t hzs, zite_t ⟨hym, hzn, hpl⟩, htn1, zite_f hncm]; rfl⟩
        · have i_12 := z_eq c_12
          rw [tI_0] at i_12
          have hbad : ¬ ((-100000 ≤ y.toInt ∧ y.toInt ≤ 100000) ∧ (1 ≤ z.toInt ∧ z.toInt ≤ 60) ∧ (0 ≤ u.toInt ∧ u.toInt ≤ 1000000000)) := fun h9 => zbo_f hr3 c_12 h9.2.2
          refine lv_ldc (v := (-1000002)) hx hb hown (hts _ (List.mem_of_getElem? (i := 5) rfl)) dX10_fractionBarred_42 ?_
          refine z_iret hx hb hr hlocks hS ?_ dX10_fractionBarred_44
          exact ⟨rfl, by show _ = z_fb (sg, rw9) (nI s1).toInt y.toInt z.toInt u.toInt; unfold z_fb; rw [zite_t hzs, zite_f hbad]; rfl⟩
  · have i_3 := z_ne c_3
    rw [tI_0] at i_3
    have hnv := zbo_t hrn c_3
    refine lv_ldc (v := (-1000001)) hx hb hown (hts _ (List.mem_of_getElem? (i := 1) rfl)) dX10_fractionBarred_7 ?_
    refine z_iret hx hb hr hlocks hS ?_ dX10_fractionBarred_9
    exact ⟨rfl, by show _ = z_fb (sg, rw9) x.toInt y.toInt z.toInt u.toInt; unfold z_fb; rw [zite_f hnv]; rfl⟩

