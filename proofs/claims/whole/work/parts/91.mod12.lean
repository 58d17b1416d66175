/-! the reference: a row becomes an expansion -/
theorem in_X10_expand_10 : ∀ w ∈ wsX100, w ∈ wsX10_expand := by decide +kernel
set_option maxHeartbeats 4000000 in
set_option maxRecDepth 100000 in
theorem m_expand (Z : zT) (g : Nat → va_E) (sg : Nat → zb) (rw9 : Nat → zr) (hW : z_mw Z g sg rw9) (s1 r1 : Nat) (hs1 : s1 < 2) (hr1 : r1 < 3) (y : Int32) (hym : -100000 ≤ y.toInt ∧ y.toInt ≤ 100000) (hcm : zcm (sg s1)) : z_Mi Z yX10_expand wsX10_expand 5 118 [.ref (Z.2.1 41), .int (nI s1), .int y, .int (nI r1)] g (fun r g1 => z_pm Z g (sp_exp (sg, rw9) s1 y.toInt r1) r g1) := by
  intro l sz
  obtain ⟨v4, v5, v6, v15, v16, v17, hM9⟩ := hW.1.mp
  have hM := hM9.mr
  obtain ⟨fu, fq, fm, fd, h_m, h_u, h_q, h_n9, h_g, hMN, hSg⟩ := id hM9
  have hM41 : 41 < Z.1 := by omega
  have hM42 : 42 < Z.1 := by omega
  have hM43 : 43 < Z.1 := by omega
  have hM44 : 44 < Z.1 := by omega
  have hM45 : 45 < Z.1 := by omega
  obtain ⟨-, -, -, -, -, -, ⟨fl, h_l, hfl⟩, ⟨fe, h_e, hfe⟩, -, -, -⟩ := id hW.2
  have hM52 : 52 < Z.1 := by omega
  have hM53 : 53 < Z.1 := by omega
  obtain ⟨hok, hp, hq, hm, hd⟩ := hSg s1 hs1
  have hPb := zP_bd hok
  have hn12 := hok.2.2.2.1
  have hq1 := hok.2.1
  have hbz := zor_bd hok (nn := 1) (by omega) hym
  refine z_enter (maxL := 7) (ret := (some .int)) (lv := [(0, .ref (Z.2.1 41)), (1, .int (nI s1)), (2, .int y), (3, .int (nI r1))]) (plainFor_of_name (by decide +kernel)) rfl (fun ls h => by subst h; exact lv_entry [.ref (Z.2.1 41), .int (nI s1), .int y, .int (nI r1)] (n := 7) (Nat.le_of_ble_eq_true rfl)) ?_
  intro p e s m args below meth c hx hb hml hr hlocks hown hts hK hS hsz ls hl
  refine lv_aload_n hx hb dX10_expand_0 rfl (lv_at hl 0 rfl) ?_
  refine lv_iload_n hx hb dX10_expand_1 rfl (lv_at hl 1 rfl) ?_
  refine lv_iload_n hx hb dX10_expand_2 rfl (lv_at hl 2 rfl) ?_
  refine lv_iconst (v := 1) hx hb dX10_expand_3 (by decide) ?_
  refine z_calli (z_runV (As := [.int (nI s1), .int y, .int 1]) (rest := []) ⟨hx, hb, hml, hown, hts⟩ hK hS ((m_finite Z g sg v4 v5 v6 v15 v16 v17 hM9 s1 hs1 y 1 hym (by rw [tI_1]; omega) hcm (by rw [tI_1]; exact Nat.gcd_one_left _)) l _) gX10_expand_X10_finite rfl 3 (by decide +kernel) ⟨Nat.le_of_ble_eq_true rfl, Nat.le_of_ble_eq_true rfl⟩ h_m hM41 rfl rfl hl.1 rfl (Nat.le_of_ble_eq_true rfl) dX10_expand_4 ⟨Nat.le_of_ble_eq_true rfl, Nat.le_of_ble_eq_true rfl⟩) hS (fun rf g_1 H locs hp_2 hS => ?_)
  obtain ⟨hrf, ⟨b4, b5, b6, b15, b16, b17, _, _, _, _, h_m, -, -, -, -, -, -⟩, hfr_3⟩ := hp_2
  have h_u := (hfr_3 _ (by omega)).trans h_u
  have h_q := (hfr_3 _ (by omega)).trans h_q
  have h_n9 := (hfr_3 _ (by omega)).trans h_n9
  have h_g := (hfr_3 _ (by omega)).trans h_g
  have h_l := (hfr_3 _ (by omega)).trans h_l
  have h_e := (hfr_3 _ (by omega)).trans h_e
  have hfa : z_fr 41 1 g g_1 := hfr_3
  rw [tI_1] at hrf
  have hml9 := (zmula hok (nn := 1) (x := y.toInt) (by omega) hym).2
  refine lv_istore (lv' := [(4, .int rf), (0, .ref (Z.2.1 41)), (1, .int (nI s1)), (2, .int y), (3, .int (nI r1))]) hx hb dX10_expand_7 hl (by decide) rfl (fun ls hl => ?_)
  refine lv_iload hx hb dX10_expand_9 (lv_at hl 0 rfl) ?_
  refine lv_if_ge (tgt := 17) hx hb dX10_expand_11 (by decide) (fun c_4 => ?_) (fun c_4 => ?_)
  · have i_4 := z_le c_4
    rw [tI_0] at i_4
    have hyf : zor (zst (sg s1) 1) y.toInt (zmu (sg s1) 1 y.toInt) = 0 ∧ zla (sg s1) 1 y.toInt = 1 := Classical.byContradiction (fun h9 => by rw [zite_f (show ¬ zmfin (sg s1) 1 y.toInt from h9)] at hrf; omega)
    rw [zite_t (show zmfin (sg s1) 1 y.toInt from hyf)] at hrf
    have erf : rf = nI (zmu (sg s1) 1 y.toInt) := z_nI_is hrf
    subst erf
    refine lv_iload hx hb dX10_expand_17 (lv_at hl 0 rfl) ?_
    refine lv_bipush (v := 12) hx hb dX10_expand_19 (by decide) ?_
    refine lv_icmp_le (tgt := 27) hx hb dX10_expand_21 (by decide) (fun c_5 => ?_) (fun c_5 => ?_)
    · have i_5 := z_le c_5
      rw [nI_toInt (by omega)] at i_5
      rw [tI_12] at i_5
      have h12 : zmu (sg s1) 1 y.toInt ≤ 12 := by omega
      refine lv_iload_n hx hb dX10_expand_27 rfl (lv_at hl 3 rfl) ?_
      refine lv_istore (lv' := [(5, .int y), (4, .int (nI (zmu (sg s1) 1 y.toInt))), (0, .ref (Z.2.1 41)), (1, .int (nI s1)), (2, .int y), (3, .int (nI r1))]) hx hb dX10_expand_28 hl (by decide) rfl (fun ls hl => ?_)
      refine lv_iconst (v := 0) hx hb dX10_expand_30 (by decide) ?_
      refine lv_istore (lv' := [(6, .int 0), (5, .int y), (4, .int (nI (zmu (sg s1) 1 y.toInt))), (0, .ref (Z.2.1 41)), (1, .int (nI s1)), (2, .int y), (3, .int (nI r1))]) hx hb dX10_expand_31 hl (by decide) rfl (fun ls hl => ?_)
      have hcut_33 : ∀ (nn_33 : Nat) (j : Nat) (x5 : Int32) (fe1 : Nat → Int32) (ga : Nat → va_E) (h_u : ga 42 = .inl (Z.2.2.2 0, 2, .inl fu)) (h_q : ga 43 = .inl (Z.2.2.2 0, 2, .inl fq)) (h_n9 : ga 44 = .inl (Z.2.2.2 0, 2, .inl fm)) (h_g : ga 45 = .inl (Z.2.2.2 0, 24, .inl fd)) (h_l : ga 52 = .inl (Z.2.2.2 0, 3, .inl fl)) (h_e : ga 53 = .inl (Z.2.2.2 0, 36, .inl fe1)) (h_m : ga 41 = .inr (10, [.ref (Z.2.1 42), .ref (Z.2.1 43), .ref (Z.2.1 44), .ref (Z.2.1 45), .int b4, .int b5, .int b6, .ref (Z.2.1 46), .ref (Z.2.1 47), .ref (Z.2.1 48), .ref (Z.2.1 49), .ref (Z.2.1 50), .ref (Z.2.1 51), .ref (Z.2.1 52), .ref (Z.2.1 53), .long b15, .long b16, .int b17, .ref (Z.2.1 54), .ref (Z.2.1 55), .ref (Z.2.1 56)])) (hfr_ga : z_fr 52 2 g_1 ga) (hj : j ≤ zmu (sg s1) 1 y.toInt) (hx5 : x5.toInt = zor (zst (sg s1) 1) y.toInt j) (hfi : (∀ i, i < j → (fe1 (12 * r1 + i)).toInt = zsd (sg s1) 1 (zor (zst (sg s1) 1) y.toInt i)) ∧ ∀ k, (k < 12 * r1 ∨ 12 * r1 + j ≤ k) → fe1 k = fe k) (hm_33 : zmu (sg s1) 1 y.toInt - j < nn_33) (H : Heap) (locs : List Loc) (ls : Array Slot), z_S Z (z_A Z sz) s.heap ga H locs → lv_has ls 7 [(0, .ref (Z.2.1 41)), (1, .int (nI s1)), (2, .int y), (3, .int (nI r1)), (4, .int (nI (zmu (sg s1) 1 y.toInt))), (5, .int x5), (6, .int (nI j))] → W p l e (headSpec wsX10_expand (z_rm 5 118)).room s m args below meth c H locs 0 0 (MQ below (va_Qi (fun r g1 => z_pm Z g (sp_exp (sg, rw9) s1 y.toInt r1) r g1) (z_B Z) (z_A Z sz)) args s 0 0 (z_A Z sz)) (F0 m 33 ls []) := by
        intro nn_33
        induction nn_33 with
        | zero => intro j x5 fe1 ga h_u h_q h_n9 h_g h_l h_e h_m hfr_ga hj hx5 hfi hm_33 H locs ls hS hl; exact absurd hm_33 (Nat.not_lt_zero _)
        | succ nn_33 ih_33 =>
          intro j x5 fe1 ga h_u h_q h_n9 h_g h_l h_e h_m hfr_ga hj hx5 hfi hm_33 H locs ls hS hl
          refine lv_iload hx hb dX10_expand_33 (lv_at hl 6 rfl) ?_
          refine lv_iload hx hb dX10_expand_35 (lv_at hl 4 rfl) ?_
          refine lv_icmp_ge (tgt := 76) hx hb dX10_expand_37 (by decide) (fun c_6 => ?_) (fun c_6 => ?_)
          · have i_6 := z_le c_6
            rw [nI_toInt (by omega)] at i_6
            rw [nI_toInt (by omega)] at i_6
            have hjm : j = zmu (sg s1) 1 y.toInt := by omega
            refine lv_aload_n hx hb dX10_expand_76 rfl (lv_at hl 0 rfl) ?_
            refine z_get (own := RX10) (C := RX10) (T := TX10) (N := 21) hx hb hts in_X10_expand_10 hown hK hS h_m hM41 rfl 13 (by decide) (List.mem_of_getElem? (i := 4) rfl) rfl rfl dX10_expand_77 ?_
            refine lv_iload_n hx hb dX10_expand_80 rfl (lv_at hl 3 rfl) ?_
            refine lv_iload hx hb dX10_expand_81 (lv_at hl 4 rfl) ?_
            refine z_iast hx hb hK hS h_l hM52 (vp_in_nI (by omega) (by omega)) dX10_expand_83 (fun g_7 H locs hg_7 hS => ?_)
            have h_l : g_7 52 = .inl (Z.2.2.2 0, 3, .inl (upd fl (nI r1).toNatClampNeg (nI (zmu (sg s1) 1 y.toInt)))) := z_up_s hg_7
            have h_u := z_up_n hg_7 h_u (by omega)
            have h_q := z_up_n hg_7 h_q (by omega)
            have h_n9 := z_up_n hg_7 h_n9 (by omega)
            have h_g := z_up_n hg_7 h_g (by omega)
            have h_e := z_up_n hg_7 h_e (by omega)
            have h_m := z_up_n hg_7 h_m (by omega)
            refine lv_iload hx hb dX10_expand_84 (lv_at hl 4 rfl) ?_
            refine z_iret hx hb hr hlocks hS ?_ dX10_expand_86
            show z_pm Z g (sp_exp (sg, rw9) s1 y.toInt r1) _ _
            unfold sp_exp
            rw [zite_t hyf, zite_t h12]
            have hfz : z_fr 52 2 g_1 g_7 := (hfr_ga.up hg_7 (by omega))
            rw [nI_clamp (by omega)] at h_l
            rw [hjm] at hfi
            exact ⟨nI_toInt (by omega), ⟨⟨_, _, _, _, _, _, fu, fq, fm, fd, h_m, h_u, h_q, h_n9, h_g, hMN, hSg⟩, hW.2.row (r := r1) (w := (zmu (sg s1) 1 y.toInt, fun i => zsd (sg s1) 1 (zor (zst (sg s1) 1) y.toInt i))) (by show zmu (sg s1) 1 y.toInt ≤ 12; omega) hfl hfe h_l h_e (fun k h1 h2 h3 h4 => (hfz k (by omega)).trans (hfa k (by omega))) (fun k => by
              by_cases h9 : k = r1
              · rw [if_pos h9, h9, pk_us]
              · rw [if_neg h9, pk_un h9]) (fun k hk => hfi.2 k (by omega)) (fun i hi => ⟨hfi.1 i hi, zsd_bd hok 1 _⟩)⟩, (hfa.wide (by omega) (by omega)).tr (hfz.wide (by omega) (by omega))⟩
          · have i_6 := z_nle c_6
            rw [nI_toInt (by omega)] at i_6
            rw [nI_toInt (by omega)] at i_6
            have hxb : -100000 ≤ x5.toInt ∧ x5.toInt ≤ 100000 := by rw [hx5]; exact hbz j
            refine lv_aload_n hx hb dX10_expand_40 rfl (lv_at hl 0 rfl) ?_
            refine z_get (own := RX10) (C := RX10) (T := TX10) (N := 21) hx hb hts in_X10_expand_10 hown hK hS h_m hM41 rfl 14 (by decide) (List.mem_of_getElem? (i := 3) rfl) rfl rfl dX10_expand_41 ?_
            refine lv_bipush (v := 12) hx hb dX10_expand_44 (by decide) ?_
            refine lv_iload_n hx hb dX10_expand_46 rfl (lv_at hl 3 rfl) ?_
            refine lv_imul hx hb dX10_expand_47 ?_
            refine lv_iload hx hb dX10_expand_48 (lv_at hl 6 rfl) ?_
            refine lv_iadd hx hb dX10_expand_50 ?_
            rw [show (12 * (nI r1)) + (nI j) = nI (12 * r1 + j) from zm_ix (by omega) (by omega)]
            refine lv_aload_n hx hb dX10_expand_51 rfl (lv_at hl 0 rfl) ?_
            refine lv_iload_n hx hb dX10_expand_52 rfl (lv_at hl 1 rfl) ?_
            refine lv_iload hx hb dX10_expand_53 (lv_at hl 5 rfl) ?_
            refine lv_iconst (v := 1) hx hb dX10_expand_55 (by decide) ?_
            refine z_calli (z_runV (As := [.int (nI s1), .int x5, .int 1]) (rest := [.int (nI (12 * r1 + j)), .ref (Z.2.1 53)]) ⟨hx, hb, hml, hown, hts⟩ hK hS ((m_stepDigit Z ga sg ⟨_, _, _, _, _, _, fu, fq, fm, fd, h_m, h_u, h_q, h_n9, h_g, hMN, hSg⟩ s1 hs1 x5 1 hxb (by rw [tI_1]; omega)) l _) gX10_expand_X10_stepDigit rfl 3 (by decide +kernel) ⟨Nat.le_of_ble_eq_true rfl, Nat.le_of_ble_eq_true rfl⟩ h_m hM41 rfl rfl hl.1 rfl (Nat.le_of_ble_eq_true rfl) dX10_expand_56 ⟨Nat.le_of_ble_eq_true rfl, Nat.le_of_ble_eq_true rfl⟩) hS (fun dd g_8 H locs hp_9 hS => ?_)
            obtain ⟨rfl, hp_9⟩ := hp_9
            have hdd : dd.toInt = zsd (sg s1) 1 (zor (zst (sg s1) 1) y.toInt j) := by rw [hp_9, tI_1, hx5]
            refine z_iast hx hb hK hS h_e hM53 (vp_in_nI (by omega) (by omega)) dX10_expand_59 (fun g_10 H locs hg_10 hS => ?_)
            have h_e : g_10 53 = .inl (Z.2.2.2 0, 36, .inl (upd fe1 (nI (12 * r1 + j)).toNatClampNeg dd)) := z_up_s hg_10
            have h_u := z_up_n hg_10 h_u (by omega)
            have h_q := z_up_n hg_10 h_q (by omega)
            have h_n9 := z_up_n hg_10 h_n9 (by omega)
            have h_g := z_up_n hg_10 h_g (by omega)
            have h_l := z_up_n hg_10 h_l (by omega)
            have h_m := z_up_n hg_10 h_m (by omega)
            refine lv_aload_n hx hb dX10_expand_60 rfl (lv_at hl 0 rfl) ?_
            refine lv_iload_n hx hb dX10_expand_61 rfl (lv_at hl 1 rfl) ?_
            refine lv_iload hx hb dX10_expand_62 (lv_at hl 5 rfl) ?_
            refine lv_iconst (v := 1) hx hb dX10_expand_64 (by decide) ?_
            refine z_calli (z_runV (As := [.int (nI s1), .int x5, .int 1]) (rest := []) ⟨hx, hb, hml, hown, hts⟩ hK hS ((m_step Z g_10 sg ⟨_, _, _, _, _, _, fu, fq, fm, fd, h_m, h_u, h_q, h_n9, h_g, hMN, hSg⟩ s1 hs1 x5 1 hxb (by rw [tI_1]; omega)) l _) gX10_expand_X10_step rfl 3 (by decide +kernel) ⟨Nat.le_of_ble_eq_true rfl, Nat.le_of_ble_eq_true rfl⟩ h_m hM41 rfl rfl hl.1 rfl (Nat.le_of_ble_eq_true rfl) dX10_expand_65 ⟨Nat.le_of_ble_eq_true rfl, Nat.le_of_ble_eq_true rfl⟩) hS (fun xn g_11 H locs hp_12 hS => ?_)
            obtain ⟨rfl, hp_12⟩ := hp_12
            have hxn : xn.toInt = zor (zst (sg s1) 1) y.toInt (j + 1) := by rw [hp_12, tI_1, hx5]; rfl
            refine lv_istore (lv' := [(5, .int xn), (0, .ref (Z.2.1 41)), (1, .int (nI s1)), (2, .int y), (3, .int (nI r1)), (4, .int (nI (zmu (sg s1) 1 y.toInt))), (6, .int (nI j))]) hx hb dX10_expand_68 hl (by decide) rfl (fun ls hl => ?_)
            refine lv_iinc (v := (nI (j + 1))) (lv' := [(6, .int (nI (j + 1))), (5, .int xn), (0, .ref (Z.2.1 41)), (1, .int (nI s1)), (2, .int y), (3, .int (nI r1)), (4, .int (nI (zmu (sg s1) 1 y.toInt)))]) hx hb dX10_expand_70 hl (k := 6) rfl (nI_1 _) (by decide) rfl (fun ls hl => ?_)
            refine lv_goto (tgt := 33) hx hb dX10_expand_73 (by decide) ?_
            exact ih_33 (j + 1) xn (upd fe1 (nI (12 * r1 + j)).toNatClampNeg dd) g_10 h_u h_q h_n9 h_g h_l h_e h_m (hfr_ga.up hg_10 (by omega)) (by omega) hxn ⟨fun i hi => by
              rw [nI_clamp (by omega)]
              by_cases h9 : i = j
              · rw [h9, pk_us]; exact hdd
              · rw [pk_un (by omega)]; exact hfi.1 i (by omega), fun k hk => by
              rw [nI_clamp (by omega), pk_un (by omega)]; exact hfi.2 k (by omega)⟩ (by omega) _ _ _ hS (lv_sub hl [2, 3, 4, 5, 6, 1, 0] rfl)
      exact hcut_33 (zmu (sg s1) 1 y.toInt - 0 + 1) 0 y fe g_1 h_u h_q h_n9 h_g h_l h_e h_m z_fr.rf (by omega) rfl ⟨fun i hi => absurd hi (Nat.not_lt_zero i), fun k hk => rfl⟩ (Nat.lt_succ_self _) _ _ _ hS (lv_sub hl [3, 4, 5, 6, 2, 1, 0] rfl)
    · have i_5 := z_nle c_5
      rw [nI_toInt (by omega)] at i_5
      rw [tI_12] at i_5
      refine lv_ldc (v := (-1000005)) hx hb hown (hts _ (List.mem_of_getElem? (i := 2) rfl)) dX10_expand_24 ?_
      refine z_iret hx hb hr hlocks hS ?_ dX10_expand_26
      show z_pm Z g (sp_exp (sg, rw9) s1 y.toInt r1) _ _
      unfold sp_exp
      rw [zite_t hyf, zite_f (show ¬ zmu (sg s1) 1 y.toInt ≤ 12 by omega)]
      exact ⟨rfl, ⟨⟨_, _, _, _, _, _, fu, fq, fm, fd, h_m, h_u, h_q, h_n9, h_g, hMN, hSg⟩, hW.2.congr (fun j h1 h2 => hfa j (by omega))⟩, hfa.wide (by omega) (by omega)⟩
  · have i_4 := z_nle c_4
    rw [tI_0] at i_4
    have hnf : ¬ (zor (zst (sg s1) 1) y.toInt (zmu (sg s1) 1 y.toInt) = 0 ∧ zla (sg s1) 1 y.toInt = 1) := fun h9 => by rw [zite_t (show zmfin (sg s1) 1 y.toInt from h9)] at hrf; omega
    refine lv_ldc (v := (-1000004)) hx hb hown (hts _ (List.mem_of_getElem? (i := 1) rfl)) dX10_expand_14 ?_
    refine z_iret hx hb hr hlocks hS ?_ dX10_expand_16
    show z_pm Z g (sp_exp (sg, rw9) s1 y.toInt r1) _ _
    unfold sp_exp
    rw [zite_f hnf]
    exact ⟨rfl, ⟨⟨_, _, _, _, _, _, fu, fq, fm, fd, h_m, h_u, h_q, h_n9, h_g, hMN, hSg⟩, hW.2.congr (fun j h1 h2 => hfa j (by omega))⟩, hfa.wide (by omega) (by omega)⟩

