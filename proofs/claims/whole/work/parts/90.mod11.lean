/-! the reference: one cycle, where a number leads -/
theorem in_X10_cycle_10 : ∀ w ∈ wsX100, w ∈ wsX10_cycle := by decide +kernel
set_option maxHeartbeats 4000000 in
set_option maxRecDepth 100000 in
theorem m_cycle (Z : zT) (g : Nat → va_E) (sg : Nat → zb) (rw9 : Nat → zr) (hW : z_mw Z g sg rw9) (x y z : Int32) : z_Mi Z yX10_cycle wsX10_cycle 5 119 [.ref (Z.2.1 41), .int x, .int y, .int z] g (fun r g1 => z_pm Z g (sp_cycle (sg, rw9) x.toInt y.toInt z.toInt) r g1) := by
  intro l sz
  obtain ⟨v4, v5, v6, v15, v16, v17, hM9⟩ := hW.1.mp
  have hM := hM9.mr
  obtain ⟨fu, fq, fm, fd, h_m, h_u, h_q, h_n9, h_g, hMN, hSg⟩ := id hM9
  have hM41 : 41 < Z.1 := by omega
  have hM42 : 42 < Z.1 := by omega
  have hM43 : 43 < Z.1 := by omega
  have hM44 : 44 < Z.1 := by omega
  have hM45 : 45 < Z.1 := by omega
  obtain ⟨⟨cl, h_c1⟩, ⟨cm, h_c2⟩, ⟨cn, h_c3⟩, -, -, -, -, -, -, -, -⟩ := id hW.2
  have hM46 : 46 < Z.1 := by omega
  have hM47 : 47 < Z.1 := by omega
  have hM48 : 48 < Z.1 := by omega
  refine z_enter (maxL := 4) (ret := (some .int)) (lv := [(0, .ref (Z.2.1 41)), (1, .int x), (2, .int y), (3, .int z)]) (plainFor_of_name (by decide +kernel)) rfl (fun ls h => by subst h; exact lv_entry [.ref (Z.2.1 41), .int x, .int y, .int z] (n := 4) (Nat.le_of_ble_eq_true rfl)) ?_
  intro p e s m args below meth c hx hb hml hr hlocks hown hts hK hS hsz ls hl
  refine lv_iload_n hx hb dX10_cycle_0 rfl (lv_at hl 1 rfl) ?_
  refine z_calli (z_runS (As := [.int x]) (rest := []) ⟨hx, hb, hml, hown, hts⟩ hK hS ((m_noSystem Z g x) l _) gX10_cycle_X10_noSystem rfl 1 (by decide +kernel) ⟨Nat.le_of_ble_eq_true rfl, Nat.le_of_ble_eq_true rfl⟩ rfl hl.1 rfl (Nat.le_of_ble_eq_true rfl) dX10_cycle_1 ⟨Nat.le_of_ble_eq_true rfl, Nat.le_of_ble_eq_true rfl⟩) hS (fun rn g_1 H locs hp_2 hS => ?_)
  obtain ⟨rfl, hp_2⟩ := hp_2
  have hrn := hp_2
  refine lv_if_eq (tgt := 10) hx hb dX10_cycle_4 (by decide) (fun c_3 => ?_) (fun c_3 => ?_)
  · have i_3 := z_eq c_3
    rw [tI_0] at i_3
    have hzs : zsy x.toInt := Classical.byContradiction (zbo_f hrn c_3)
    obtain ⟨s1, es1, hs1x, -⟩ := z_nI_of (x := x) hzs.1
    subst es1
    have hs1 : s1 < 2 := by have := hzs.2; omega
    have htn1 : (nI s1).toInt.toNat = s1 := by omega
    obtain ⟨hok, hp, hq, hm, hd⟩ := hSg s1 hs1
    have hPb := zP_bd hok
    have hn12 := hok.2.2.2.1
    have hq1 := hok.2.1
    refine lv_iload_n hx hb dX10_cycle_10 rfl (lv_at hl 2 rfl) ?_
    refine lv_if_lt (tgt := 23) hx hb dX10_cycle_11 (by decide) (fun c_4 => ?_) (fun c_4 => ?_)
    · have i_4 := z_lt c_4
      rw [tI_0] at i_4
      have hbad : ¬ (0 ≤ y.toInt ∧ 0 ≤ z.toInt ∧ z.toInt ≤ 2) := fun h9 => by have := h9.1; omega
      refine lv_ldc (v := (-1000002)) hx hb hown (hts _ (List.mem_of_getElem? (i := 2) rfl)) dX10_cycle_23 ?_
      refine z_iret hx hb hr hlocks hS ?_ dX10_cycle_25
      show z_pm Z g (sp_cycle (sg, rw9) (nI s1).toInt y.toInt z.toInt) _ _
      unfold sp_cycle
      rw [zite_t hzs, zite_f hbad]
      exact ⟨rfl, hW, z_fr.rf⟩
    · have i_4 := z_nlt c_4
      rw [tI_0] at i_4
      refine lv_iload_n hx hb dX10_cycle_14 rfl (lv_at hl 3 rfl) ?_
      refine lv_iconst (v := 0) hx hb dX10_cycle_15 (by decide) ?_
      refine lv_iconst (v := 2) hx hb dX10_cycle_16 (by decide) ?_
      refine z_calli (z_runS (As := [.int z, .int 0, .int 2]) (rest := []) ⟨hx, hb, hml, hown, hts⟩ hK hS ((m_in Z g z 0 2) l _) gX10_cycle_X10_in rfl 3 (by decide +kernel) ⟨Nat.le_of_ble_eq_true rfl, Nat.le_of_ble_eq_true rfl⟩ rfl hl.1 rfl (Nat.le_of_ble_eq_true rfl) dX10_cycle_17 ⟨Nat.le_of_ble_eq_true rfl, Nat.le_of_ble_eq_true rfl⟩) hS (fun r1h g_5 H locs hp_6 hS => ?_)
      obtain ⟨rfl, hp_6⟩ := hp_6
      have hr1h := hp_6
      rw [tI_0, tI_2] at hr1h
      refine lv_if_ne (tgt := 26) hx hb dX10_cycle_20 (by decide) (fun c_7 => ?_) (fun c_7 => ?_)
      · have i_7 := z_ne c_7
        rw [tI_0] at i_7
        have hz02 := zbo_t hr1h c_7
        have hok3 : 0 ≤ y.toInt ∧ 0 ≤ z.toInt ∧ z.toInt ≤ 2 := by omega
        refine lv_aload_n hx hb dX10_cycle_26 rfl (lv_at hl 0 rfl) ?_
        refine lv_iload_n hx hb dX10_cycle_27 rfl (lv_at hl 1 rfl) ?_
        refine z_calli (z_runV (As := [.int (nI s1)]) (rest := []) ⟨hx, hb, hml, hown, hts⟩ hK hS ((m_isComplete Z g sg hM s1 hs1) l _) gX10_cycle_X10_isComplete rfl 1 (by decide +kernel) ⟨Nat.le_of_ble_eq_true rfl, Nat.le_of_ble_eq_true rfl⟩ h_m hM41 rfl rfl hl.1 rfl (Nat.le_of_ble_eq_true rfl) dX10_cycle_28 ⟨Nat.le_of_ble_eq_true rfl, Nat.le_of_ble_eq_true rfl⟩) hS (fun rc g_8 H locs hp_9 hS => ?_)
        obtain ⟨rfl, hp_9⟩ := hp_9
        have hrc := hp_9
        refine lv_if_ne (tgt := 37) hx hb dX10_cycle_31 (by decide) (fun c_10 => ?_) (fun c_10 => ?_)
        · have i_10 := z_ne c_10
          rw [tI_0] at i_10
          have hcm := zbo_t hrc c_10
          refine lv_aload_n hx hb dX10_cycle_37 rfl (lv_at hl 0 rfl) ?_
          refine lv_iload_n hx hb dX10_cycle_38 rfl (lv_at hl 1 rfl) ?_
          refine z_callv (z_runV (As := [.int (nI s1)]) (rest := []) ⟨hx, hb, hml, hown, hts⟩ hK hS ((m_findCycles Z g sg _ _ _ _ _ _ ⟨fu, fq, fm, fd, h_m, h_u, h_q, h_n9, h_g, hMN, hSg⟩ s1 hs1 cl cm cn h_c1 h_c2 h_c3 hcm) l _) gX10_cycle_X10_findCycles rfl 1 (by decide +kernel) ⟨Nat.le_of_ble_eq_true rfl, Nat.le_of_ble_eq_true rfl⟩ h_m hM41 rfl rfl hl.1 rfl (Nat.le_of_ble_eq_true rfl) dX10_cycle_39 ⟨Nat.le_of_ble_eq_true rfl, Nat.le_of_ble_eq_true rfl⟩) hS (fun g_12 H locs hp_13 hS => ?_)
          obtain ⟨va, vb, cl1, cm1, cn1, ⟨fu, fq, fm, fd, h_m, h_u, h_q, h_n9, h_g, -, hSg2⟩, h_c1, h_c2, h_c3, hcyT, hfr_14⟩ := hp_13
          have hSg := hSg2
          have hzb51 : zcyc (sg s1) ≤ 51 := zct_le _ 51
          refine lv_iload_n hx hb dX10_cycle_42 rfl (lv_at hl 2 rfl) ?_
          refine lv_aload_n hx hb dX10_cycle_43 rfl (lv_at hl 0 rfl) ?_
          refine z_get (own := RX10) (C := RX10) (T := TX10) (N := 21) hx hb hts in_X10_cycle_10 hown hK hS h_m hM41 rfl 6 (by decide) (List.mem_of_getElem? (i := 4) rfl) rfl rfl dX10_cycle_44 ?_
          refine lv_icmp_lt (tgt := 55) hx hb dX10_cycle_47 (by decide) (fun c_15 => ?_) (fun c_15 => ?_)
          · have i_15 := z_lt c_15
            rw [nI_toInt (by omega)] at i_15
            obtain ⟨y9, ey9, hy9, hy31⟩ := z_nI_of (x := y) hok3.1
            subst ey9
            have hy51 : y9 < zcyc (sg s1) := by omega
            obtain ⟨hca, hcb, hcc⟩ := zcyT_at hcyT hy51
            obtain ⟨hxb, hper⟩ := zper_lc hok (zcyl_lc hy51)
            have hlab := (zmula hok (nn := 1) (x := zcyl (sg s1) y9) (by omega) (by omega)).2
            refine lv_iload_n hx hb dX10_cycle_55 rfl (lv_at hl 3 rfl) ?_
            refine lv_if_ne (tgt := 68) hx hb dX10_cycle_56 (by decide) (fun c_16 => ?_) (fun c_16 => ?_)
            · have i_16 := z_ne c_16
              rw [tI_0] at i_16
              have hz0 : ¬ z.toInt = 0 := by omega
              refine lv_iload_n hx hb dX10_cycle_68 rfl (lv_at hl 3 rfl) ?_
              refine lv_iconst (v := 1) hx hb dX10_cycle_69 (by decide) ?_
              refine lv_icmp_ne (tgt := 82) hx hb dX10_cycle_70 (by decide) (fun c_17 => ?_) (fun c_17 => ?_)
              · have i_17 := z_ne c_17
                rw [tI_1] at i_17
                have hz1 : ¬ z.toInt = 1 := by omega
                refine lv_aload_n hx hb dX10_cycle_82 rfl (lv_at hl 0 rfl) ?_
                refine z_get (own := RX10) (C := RX10) (T := TX10) (N := 21) hx hb hts in_X10_cycle_10 hown hK hS h_m hM41 rfl 8 (by decide) (List.mem_of_getElem? (i := 8) rfl) rfl rfl dX10_cycle_83 ?_
                refine lv_iload_n hx hb dX10_cycle_86 rfl (lv_at hl 2 rfl) ?_
                refine z_iald hx hb hK hS h_c2 hM47 (vp_in_nI (by omega) (by omega)) dX10_cycle_87 ?_
                rw [show cm1 (nI y9).toNatClampNeg = cm1 y9 from by rw [nI_clamp (by omega)]]
                refine z_iret hx hb hr hlocks hS ?_ dX10_cycle_88
                show z_pm Z g (sp_cycle (sg, rw9) (nI s1).toInt (nI y9).toInt z.toInt) _ _
                unfold sp_cycle
                rw [zite_t hzs, zite_t hok3, htn1, zite_t hcm, zite_t (show (nI y9).toInt < (zcyc (sg s1) : Int) by omega), show (nI y9).toInt.toNat = y9 from by omega]
                unfold zcyv
                have hfz : z_fr 41 8 g g_12 := (z_fr.rf.tr (hfr_14.wide (by omega) (by omega)))
                rw [zite_f hz0, zite_f hz1]
                exact ⟨hcb, ⟨⟨_, _, _, _, _, _, fu, fq, fm, fd, h_m, h_u, h_q, h_n9, h_g, hMN, hSg⟩, hW.2.cyc h_c1 h_c2 h_c3 (fun j h1 h2 => hfz j (by omega))⟩, hfz.wide (by omega) (by omega)⟩
              · have i_17 := z_eq c_17
                rw [tI_1] at i_17
                have hz1 : z.toInt = 1 := by omega
                refine lv_aload_n hx hb dX10_cycle_73 rfl (lv_at hl 0 rfl) ?_
                refine z_get (own := RX10) (C := RX10) (T := TX10) (N := 21) hx hb hts in_X10_cycle_10 hown hK hS h_m hM41 rfl 9 (by decide) (List.mem_of_getElem? (i := 7) rfl) rfl rfl dX10_cycle_74 ?_
                refine lv_iload_n hx hb dX10_cycle_77 rfl (lv_at hl 2 rfl) ?_
                refine z_iald hx hb hK hS h_c3 hM48 (vp_in_nI (by omega) (by omega)) dX10_cycle_78 ?_
                rw [show cn1 (nI y9).toNatClampNeg = cn1 y9 from by rw [nI_clamp (by omega)]]
                refine lv_goto (tgt := 88) hx hb dX10_cycle_79 (by decide) ?_
                refine z_iret hx hb hr hlocks hS ?_ dX10_cycle_88
                show z_pm Z g (sp_cycle (sg, rw9) (nI s1).toInt (nI y9).toInt z.toInt) _ _
                unfold sp_cycle
                rw [zite_t hzs, zite_t hok3, htn1, zite_t hcm, zite_t (show (nI y9).toInt < (zcyc (sg s1) : Int) by omega), show (nI y9).toInt.toNat = y9 from by omega]
                unfold zcyv
                have hfz : z_fr 41 8 g g_12 := (z_fr.rf.tr (hfr_14.wide (by omega) (by omega)))
                rw [zite_f hz0, zite_t hz1]
                exact ⟨by rw [hcc]; exact nI_toInt (by omega), ⟨⟨_, _, _, _, _, _, fu, fq, fm, fd, h_m, h_u, h_q, h_n9, h_g, hMN, hSg⟩, hW.2.cyc h_c1 h_c2 h_c3 (fun j h1 h2 => hfz j (by omega))⟩, hfz.wide (by omega) (by omega)⟩
            · have i_16 := z_eq c_16
              rw [tI_0] at i_16
              have hz0 : z.toInt = 0 := by omega
              refine lv_aload_n hx hb dX10_cycle_59 rfl (lv_at hl 0 rfl) ?_
              refine z_get (own := RX10) (C := RX10) (T := TX10) (N := 21) hx hb hts in_X10_cycle_10 hown hK hS h_m hM41 rfl 7 (by decide) (List.mem_of_getElem? (i := 6) rfl) rfl rfl dX10_cycle_60 ?_
              refine lv_iload_n hx hb dX10_cycle_63 rfl (lv_at hl 2 rfl) ?_
              refine z_iald hx hb hK hS h_c1 hM46 (vp_in_nI (by omega) (by omega)) dX10_cycle_64 ?_
              rw [show cl1 (nI y9).toNatClampNeg = cl1 y9 from by rw [nI_clamp (by omega)]]
              refine lv_goto (tgt := 88) hx hb dX10_cycle_65 (by decide) ?_
              refine z_iret hx hb hr hlocks hS ?_ dX10_cycle_88
              show z_pm Z g (sp_cycle (sg, rw9) (nI s1).toInt (nI y9).toInt z.toInt) _ _
              unfold sp_cycle
              rw [zite_t hzs, zite_t hok3, htn1, zite_t hcm, zite_t (show (nI y9).toInt < (zcyc (sg s1) : Int) by omega), show (nI y9).toInt.toNat = y9 from by omega]
              unfold zcyv
              have hfz : z_fr 41 8 g g_12 := (z_fr.rf.tr (hfr_14.wide (by omega) (by omega)))
              rw [zite_t hz0]
              exact ⟨hca, ⟨⟨_, _, _, _, _, _, fu, fq, fm, fd, h_m, h_u, h_q, h_n9, h_g, hMN, hSg⟩, hW.2.cyc h_c1 h_c2 h_c3 (fun j h1 h2 => hfz j (by omega))⟩, hfz.wide (by omega) (by omega)⟩
          · have i_15 := z_nlt c_15
            rw [nI_toInt (by omega)] at i_15
            refine lv_ldc (v := (-1000006)) hx hb hown (hts _ (List.mem_of_getElem? (i := 5) rfl)) dX10_cycle_50 ?_
            refine lv_goto (tgt := 88) hx hb dX10_cycle_52 (by decide) ?_
            refine z_iret hx hb hr hlocks hS ?_ dX10_cycle_88
            show z_pm Z g (sp_cycle (sg, rw9) (nI s1).toInt y.toInt z.toInt) _ _
            unfold sp_cycle
            rw [zite_t hzs, zite_t hok3, htn1, zite_t hcm, zite_f (show ¬ y.toInt < (zcyc (sg s1) : Int) by omega)]
            have hfz : z_fr 41 8 g g_12 := (z_fr.rf.tr (hfr_14.wide (by omega) (by omega)))
            exact ⟨rfl, ⟨⟨_, _, _, _, _, _, fu, fq, fm, fd, h_m, h_u, h_q, h_n9, h_g, hMN, hSg⟩, hW.2.cyc h_c1 h_c2 h_c3 (fun j h1 h2 => hfz j (by omega))⟩, hfz.wide (by omega) (by omega)⟩
        · have i_10 := z_eq c_10
          rw [tI_0] at i_10
          have hncm := zbo_f hrc c_10
          refine lv_ldc (v := (-1000003)) hx hb hown (hts _ (List.mem_of_getElem? (i := 3) rfl)) dX10_cycle_34 ?_
          refine z_iret hx hb hr hlocks hS ?_ dX10_cycle_36
          show z_pm Z g (sp_cycle (sg, rw9) (nI s1).toInt y.toInt z.toInt) _ _
          unfold sp_cycle
          rw [zite_t hzs, zite_t hok3, htn1, zite_f hncm]
          exact ⟨rfl, hW, z_fr.rf⟩
      · have i_7 := z_eq c_7
        rw [tI_0] at i_7
        have hbad : ¬ (0 ≤ y.toInt ∧ 0 ≤ z.toInt ∧ z.toInt ≤ 2) := fun h9 => zbo_f hr1h c_7 ⟨h9.2.1, h9.2.2⟩
        refine lv_ldc (v := (-1000002)) hx hb hown (hts _ (List.mem_of_getElem? (i := 2) rfl)) dX10_cycle_23 ?_
        refine z_iret hx hb hr hlocks hS ?_ dX10_cycle_25
        show z_pm Z g (sp_cycle (sg, rw9) (nI s1).toInt y.toInt z.toInt) _ _
        unfold sp_cycle
        rw [zite_t hzs, zite_f hbad]
        exact ⟨rfl, hW, z_fr.rf⟩
  · have i_3 := z_ne c_3
    rw [tI_0] at i_3
    have hnv := zbo_t hrn c_3
    refine lv_ldc (v := (-1000001)) hx hb hown (hts _ (List.mem_of_getElem? (i := 1) rfl)) dX10_cycle_7 ?_
    refine z_iret hx hb hr hlocks hS ?_ dX10_cycle_9
    show z_pm Z g (sp_cycle (sg, rw9) x.toInt y.toInt z.toInt) _ _
    unfold sp_cycle
    rw [zite_f hnv]
    exact ⟨rfl, hW, z_fr.rf⟩

theorem in_X10_leadsTo_10 : ∀ w ∈ wsX100, w ∈ wsX10_leadsTo := by decide +kernel
set_option maxHeartbeats 4000000 in
set_option maxRecDepth 100000 in
theorem m_leadsTo (Z : zT) (g : Nat → va_E) (sg : Nat → zb) (rw9 : Nat → zr) (hW : z_mw Z g sg rw9) (x y : Int32) : z_Mi Z yX10_leadsTo wsX10_leadsTo 5 120 [.ref (Z.2.1 41), .int x, .int y] g (fun r g1 => z_pm Z g (sp_leadsTo (sg, rw9) x.toInt y.toInt) r g1) := by
  intro l sz
  obtain ⟨v4, v5, v6, v15, v16, v17, hM9⟩ := hW.1.mp
  have hM := hM9.mr
  obtain ⟨fu, fq, fm, fd, h_m, h_u, h_q, h_n9, h_g, hMN, hSg⟩ := id hM9
  have hM41 : 41 < Z.1 := by omega
  have hM42 : 42 < Z.1 := by omega
  have hM43 : 43 < Z.1 := by omega
  have hM44 : 44 < Z.1 := by omega
  have hM45 : 45 < Z.1 := by omega
  obtain ⟨⟨cl, h_c1⟩, ⟨cm, h_c2⟩, ⟨cn, h_c3⟩, -, -, -, -, -, -, -, -⟩ := id hW.2
  have hM46 : 46 < Z.1 := by omega
  have hM47 : 47 < Z.1 := by omega
  have hM48 : 48 < Z.1 := by omega
  refine z_enter (maxL := 6) (ret := (some .int)) (lv := [(0, .ref (Z.2.1 41)), (1, .int x), (2, .int y)]) (plainFor_of_name (by decide +kernel)) rfl (fun ls h => by subst h; exact lv_entry [.ref (Z.2.1 41), .int x, .int y] (n := 6) (Nat.le_of_ble_eq_true rfl)) ?_
  intro p e s m args below meth c hx hb hml hr hlocks hown hts hK hS hsz ls hl
  refine lv_iload_n hx hb dX10_leadsTo_0 rfl (lv_at hl 1 rfl) ?_
  refine z_calli (z_runS (As := [.int x]) (rest := []) ⟨hx, hb, hml, hown, hts⟩ hK hS ((m_noSystem Z g x) l _) gX10_leadsTo_X10_noSystem rfl 1 (by decide +kernel) ⟨Nat.le_of_ble_eq_true rfl, Nat.le_of_ble_eq_true rfl⟩ rfl hl.1 rfl (Nat.le_of_ble_eq_true rfl) dX10_leadsTo_1 ⟨Nat.le_of_ble_eq_true rfl, Nat.le_of_ble_eq_true rfl⟩) hS (fun rn g_1 H locs hp_2 hS => ?_)
  obtain ⟨rfl, hp_2⟩ := hp_2
  have hrn := hp_2
  refine lv_if_eq (tgt := 10) hx hb dX10_leadsTo_4 (by decide) (fun c_3 => ?_) (fun c_3 => ?_)
  · have i_3 := z_eq c_3
    rw [tI_0] at i_3
    have hzs : zsy x.toInt := Classical.byContradiction (zbo_f hrn c_3)
    obtain ⟨s1, es1, hs1x, -⟩ := z_nI_of (x := x) hzs.1
    have hs1 : s1 < 2 := by have := hzs.2; omega
    have htn1 : x.toInt.toNat = s1 := by omega
    obtain ⟨hok, hp, hq, hm, hd⟩ := hSg s1 hs1
    have hPb := zP_bd hok
    have hn12 := hok.2.2.2.1
    have hq1 := hok.2.1
    rw [es1] at hl
    refine lv_iload_n hx hb dX10_leadsTo_10 rfl (lv_at hl 2 rfl) ?_
    refine lv_ldc (v := (-100000)) hx hb hown (hts _ (List.mem_of_getElem? (i := 2) rfl)) dX10_leadsTo_11 ?_
    refine lv_ldc (v := 100000) hx hb hown (hts _ (List.mem_of_getElem? (i := 3) rfl)) dX10_leadsTo_13 ?_
    refine z_calli (z_runS (As := [.int y, .int (-100000), .int 100000]) (rest := []) ⟨hx, hb, hml, hown, hts⟩ hK hS ((m_in Z g y (-100000) 100000) l _) gX10_leadsTo_X10_in rfl 3 (by decide +kernel) ⟨Nat.le_of_ble_eq_true rfl, Nat.le_of_ble_eq_true rfl⟩ rfl hl.1 rfl (Nat.le_of_ble_eq_true rfl) dX10_leadsTo_15 ⟨Nat.le_of_ble_eq_true rfl, Nat.le_of_ble_eq_true rfl⟩) hS (fun r1h g_4 H locs hp_5 hS => ?_)
    obtain ⟨rfl, hp_5⟩ := hp_5
    have hr1h := hp_5
    rw [tI_m100000, tI_100000] at hr1h
    refine lv_if_ne (tgt := 24) hx hb dX10_leadsTo_18 (by decide) (fun c_6 => ?_) (fun c_6 => ?_)
    · have i_6 := z_ne c_6
      rw [tI_0] at i_6
      have hym := zbo_t hr1h c_6
      refine lv_aload_n hx hb dX10_leadsTo_24 rfl (lv_at hl 0 rfl) ?_
      refine lv_iload_n hx hb dX10_leadsTo_25 rfl (lv_at hl 1 rfl) ?_
      refine z_calli (z_runV (As := [.int (nI s1)]) (rest := []) ⟨hx, hb, hml, hown, hts⟩ hK hS ((m_isComplete Z g sg hM s1 hs1) l _) gX10_leadsTo_X10_isComplete rfl 1 (by decide +kernel) ⟨Nat.le_of_ble_eq_true rfl, Nat.le_of_ble_eq_true rfl⟩ h_m hM41 rfl rfl hl.1 rfl (Nat.le_of_ble_eq_true rfl) dX10_leadsTo_26 ⟨Nat.le_of_ble_eq_true rfl, Nat.le_of_ble_eq_true rfl⟩) hS (fun rc g_7 H locs hp_8 hS => ?_)
      obtain ⟨rfl, hp_8⟩ := hp_8
      have hrc := hp_8
      refine lv_if_ne (tgt := 35) hx hb dX10_leadsTo_29 (by decide) (fun c_9 => ?_) (fun c_9 => ?_)
      · have i_9 := z_ne c_9
        rw [tI_0] at i_9
        have hcm := zbo_t hrc c_9
        refine lv_aload_n hx hb dX10_leadsTo_35 rfl (lv_at hl 0 rfl) ?_
        refine lv_iload_n hx hb dX10_leadsTo_36 rfl (lv_at hl 1 rfl) ?_
        refine lv_iload_n hx hb dX10_leadsTo_37 rfl (lv_at hl 2 rfl) ?_
        refine lv_iconst (v := 1) hx hb dX10_leadsTo_38 (by decide) ?_
        refine z_callv (z_runV (As := [.int (nI s1), .int y, .int 1]) (rest := []) ⟨hx, hb, hml, hown, hts⟩ hK hS ((m_findPeriod Z g sg _ _ _ _ _ _ ⟨fu, fq, fm, fd, h_m, h_u, h_q, h_n9, h_g, hMN, hSg⟩ s1 hs1 y 1 hym (by rw [tI_1]; omega) (zmu (sg s1) 1 y.toInt) (zla (sg s1) 1 y.toInt) (by rw [tI_1]; exact (zmula hok (by omega) hym).1) (zmula hok (by omega) hym).2) l _) gX10_leadsTo_X10_findPeriod rfl 3 (by decide +kernel) ⟨Nat.le_of_ble_eq_true rfl, Nat.le_of_ble_eq_true rfl⟩ h_m hM41 rfl rfl hl.1 rfl (Nat.le_of_ble_eq_true rfl) dX10_leadsTo_39 ⟨Nat.le_of_ble_eq_true rfl, Nat.le_of_ble_eq_true rfl⟩) hS (fun g_11 H locs hp_12 hS => ?_)
        obtain ⟨⟨_, _, _, _, h_m, -, -, -, -, -, -⟩, hfr_13⟩ := hp_12
        have h_u := (hfr_13 _ (by omega)).trans h_u
        have h_q := (hfr_13 _ (by omega)).trans h_q
        have h_n9 := (hfr_13 _ (by omega)).trans h_n9
        have h_g := (hfr_13 _ (by omega)).trans h_g
        have h_c1 := (hfr_13 _ (by omega)).trans h_c1
        have h_c2 := (hfr_13 _ (by omega)).trans h_c2
        have h_c3 := (hfr_13 _ (by omega)).trans h_c3
        have hper := (zmula hok (nn := 1) (x := y.toInt) (by omega) hym).1
        have hml9 := (zmula hok (nn := 1) (x := y.toInt) (by omega) hym).2
        refine lv_aload_n hx hb dX10_leadsTo_42 rfl (lv_at hl 0 rfl) ?_
        refine lv_iload_n hx hb dX10_leadsTo_43 rfl (lv_at hl 1 rfl) ?_
        refine lv_iload_n hx hb dX10_leadsTo_44 rfl (lv_at hl 2 rfl) ?_
        refine lv_iconst (v := 1) hx hb dX10_leadsTo_45 (by decide) ?_
        refine lv_aload_n hx hb dX10_leadsTo_46 rfl (lv_at hl 0 rfl) ?_
        refine z_get (own := RX10) (C := RX10) (T := TX10) (N := 21) hx hb hts in_X10_leadsTo_10 hown hK hS h_m hM41 rfl 4 (by decide) (List.mem_of_getElem? (i := 6) rfl) rfl rfl dX10_leadsTo_47 ?_
        refine z_calli (z_runV (As := [.int (nI s1), .int y, .int 1, .int (nI (zmu (sg s1) 1 y.toInt))]) (rest := []) ⟨hx, hb, hml, hown, hts⟩ hK hS ((m_numeratorAt Z g_11 sg _ _ _ _ _ _ ⟨fu, fq, fm, fd, h_m, h_u, h_q, h_n9, h_g, hMN, hSg⟩ s1 hs1 y 1 hym (by rw [tI_1]; omega) (zmu (sg s1) 1 y.toInt) (zla (sg s1) 1 y.toInt) (by rw [tI_1]; exact (zmula hok (by omega) hym).1) (zmula hok (by omega) hym).2 (zmu (sg s1) 1 y.toInt) (by omega)) l _) gX10_leadsTo_X10_numeratorAt rfl 4 (by decide +kernel) ⟨Nat.le_of_ble_eq_true rfl, Nat.le_of_ble_eq_true rfl⟩ h_m hM41 rfl rfl hl.1 rfl (Nat.le_of_ble_eq_true rfl) dX10_leadsTo_50 ⟨Nat.le_of_ble_eq_true rfl, Nat.le_of_ble_eq_true rfl⟩) hS (fun en g_14 H locs hp_15 hS => ?_)
        obtain ⟨hen, ⟨_, _, _, _, h_m, -, -, -, -, -, -⟩, hfr_16⟩ := hp_15
        have h_u := (hfr_16 _ (by omega)).trans h_u
        have h_q := (hfr_16 _ (by omega)).trans h_q
        have h_n9 := (hfr_16 _ (by omega)).trans h_n9
        have h_g := (hfr_16 _ (by omega)).trans h_g
        have h_c1 := (hfr_16 _ (by omega)).trans h_c1
        have h_c2 := (hfr_16 _ (by omega)).trans h_c2
        have h_c3 := (hfr_16 _ (by omega)).trans h_c3
        rw [tI_1] at hen
        have hpe := zper_sub hper
        have hla1 := hper.1
        have hbz := zor_bd hok (nn := 1) (by omega) (show -100000 ≤ zor (zst (sg s1) 1) y.toInt (zmu (sg s1) 1 y.toInt) ∧ zor (zst (sg s1) 1) y.toInt (zmu (sg s1) 1 y.toInt) ≤ 100000 from zor_bd hok (by omega) hym _)
        refine lv_istore_n (lv' := [(3, .int en), (0, .ref (Z.2.1 41)), (1, .int (nI s1)), (2, .int y)]) hx hb dX10_leadsTo_53 rfl hl (by decide) rfl (fun ls hl => ?_)
        refine lv_iload_n hx hb dX10_leadsTo_54 rfl (lv_at hl 0 rfl) ?_
        refine lv_istore (lv' := [(4, .int en), (3, .int en), (0, .ref (Z.2.1 41)), (1, .int (nI s1)), (2, .int y)]) hx hb dX10_leadsTo_55 hl (by decide) rfl (fun ls hl => ?_)
        refine lv_iconst (v := 1) hx hb dX10_leadsTo_57 (by decide) ?_
        refine lv_istore (lv' := [(5, .int 1), (4, .int en), (3, .int en), (0, .ref (Z.2.1 41)), (1, .int (nI s1)), (2, .int y)]) hx hb dX10_leadsTo_58 hl (by decide) rfl (fun ls hl => ?_)
        have hcut_60 : ∀ (nn_60 : Nat) (j : Nat) (le : Int32) (its : Int32) (hj : 1 ≤ j ∧ j ≤ zla (sg s1) 1 y.toInt) (hits : its.toInt = (zor (zst (sg s1) 1) (zor (zst (sg s1) 1) y.toInt (zmu (sg s1) 1 y.toInt))) (j - 1)) (hle : zmnP (zor (zst (sg s1) 1) (zor (zst (sg s1) 1) y.toInt (zmu (sg s1) 1 y.toInt))) j le.toInt) (hm_60 : zla (sg s1) 1 y.toInt - j < nn_60) (H : Heap) (locs : List Loc) (ls : Array Slot), z_S Z (z_A Z sz) s.heap g_14 H locs → lv_has ls 6 [(0, .ref (Z.2.1 41)), (1, .int (nI s1)), (2, .int y), (3, .int its), (4, .int le), (5, .int (nI j))] → W p l e (headSpec wsX10_leadsTo (z_rm 5 120)).room s m args below meth c H locs 0 0 (MQ below (va_Qi (fun r g1 => z_pm Z g (sp_leadsTo (sg, rw9) x.toInt y.toInt) r g1) (z_B Z) (z_A Z sz)) args s 0 0 (z_A Z sz)) (F0 m 60 ls []) := by
          intro nn_60
          induction nn_60 with
          | zero => intro j le its hj hits hle hm_60 H locs ls hS hl; exact absurd hm_60 (Nat.not_lt_zero _)
          | succ nn_60 ih_60 =>
            intro j le its hj hits hle hm_60 H locs ls hS hl
            refine lv_iload hx hb dX10_leadsTo_60 (lv_at hl 5 rfl) ?_
            refine lv_aload_n hx hb dX10_leadsTo_62 rfl (lv_at hl 0 rfl) ?_
            refine z_get (own := RX10) (C := RX10) (T := TX10) (N := 21) hx hb hts in_X10_leadsTo_10 hown hK hS h_m hM41 rfl 5 (by decide) (List.mem_of_getElem? (i := 7) rfl) rfl rfl dX10_leadsTo_63 ?_
            refine lv_icmp_ge (tgt := 97) hx hb dX10_leadsTo_66 (by decide) (fun c_17 => ?_) (fun c_17 => ?_)
            · have i_17 := z_le c_17
              rw [nI_toInt (by omega)] at i_17
              rw [nI_toInt (by omega)] at i_17
              have hjl : j = zla (sg s1) 1 y.toInt := by omega
              rw [hjl] at hle
              have hol := hle.ol hpe
              have hlc := zlc_of hpe hol
              have hlv := zle_is hol
              refine lv_aload_n hx hb dX10_leadsTo_97 rfl (lv_at hl 0 rfl) ?_
              refine lv_iload_n hx hb dX10_leadsTo_98 rfl (lv_at hl 1 rfl) ?_
              refine z_callv (z_runV (As := [.int (nI s1)]) (rest := []) ⟨hx, hb, hml, hown, hts⟩ hK hS ((m_findCycles Z g_14 sg _ _ _ _ _ _ ⟨fu, fq, fm, fd, h_m, h_u, h_q, h_n9, h_g, hMN, hSg⟩ s1 hs1 cl cm cn h_c1 h_c2 h_c3 hcm) l _) gX10_leadsTo_X10_findCycles rfl 1 (by decide +kernel) ⟨Nat.le_of_ble_eq_true rfl, Nat.le_of_ble_eq_true rfl⟩ h_m hM41 rfl rfl hl.1 rfl (Nat.le_of_ble_eq_true rfl) dX10_leadsTo_99 ⟨Nat.le_of_ble_eq_true rfl, Nat.le_of_ble_eq_true rfl⟩) hS (fun g_19 H locs hp_20 hS => ?_)
              obtain ⟨va, vb, cl1, cm1, cn1, ⟨fu, fq, fm, fd, h_m, h_u, h_q, h_n9, h_g, -, hSg2⟩, h_c1, h_c2, h_c3, hcyT, hfr_21⟩ := hp_20
              have hSg := hSg2
              have hzb51 : zcyc (sg s1) ≤ 51 := zct_le _ 51
              obtain ⟨⟨dd, hd1, hd2⟩, -⟩ := id hlc
              have hl20 := zcyc_bd hok hd1 hd2
              obtain ⟨u9, hu9⟩ : ∃ u9 : Nat, (u9 : Int) - 25 = le.toInt := ⟨(le.toInt + 25).toNat, by omega⟩
              have hul : zlB (zst (sg s1) 1) u9 = true := zlB_iff.mpr (by rw [hu9]; exact hlc)
              obtain ⟨K9, eK9⟩ : ∃ K9 : Nat, K9 = zct (zlB (zst (sg s1) 1)) u9 := ⟨_, rfl⟩
              have hK9 : K9 < zcyc (sg s1) := by rw [eK9]; exact zct_lt hul (by omega)
              have hcK : (cl1 K9).toInt = le.toInt := by rw [eK9, ← hu9]; exact (hcyT u9 (by omega) hul).1
              refine lv_iconst (v := 0) hx hb dX10_leadsTo_102 (by decide) ?_
              refine lv_istore (lv' := [(5, .int 0), (0, .ref (Z.2.1 41)), (1, .int (nI s1)), (2, .int y), (3, .int its), (4, .int le)]) hx hb dX10_leadsTo_103 hl (by decide) rfl (fun ls hl => ?_)
              have hcut_105 : ∀ (nn_105 : Nat) (k9 : Nat) (hk9 : k9 ≤ K9) (hm_105 : K9 - k9 < nn_105) (H : Heap) (locs : List Loc) (ls : Array Slot), z_S Z (z_A Z sz) s.heap g_19 H locs → lv_has ls 6 [(0, .ref (Z.2.1 41)), (1, .int (nI s1)), (2, .int y), (3, .int its), (4, .int le), (5, .int (nI k9))] → W p l e (headSpec wsX10_leadsTo (z_rm 5 120)).room s m args below meth c H locs 0 0 (MQ below (va_Qi (fun r g1 => z_pm Z g (sp_leadsTo (sg, rw9) x.toInt y.toInt) r g1) (z_B Z) (z_A Z sz)) args s 0 0 (z_A Z sz)) (F0 m 105 ls []) := by
                intro nn_105
                induction nn_105 with
                | zero => intro k9 hk9 hm_105 H locs ls hS hl; exact absurd hm_105 (Nat.not_lt_zero _)
                | succ nn_105 ih_105 =>
                  intro k9 hk9 hm_105 H locs ls hS hl
                  refine lv_aload_n hx hb dX10_leadsTo_105 rfl (lv_at hl 0 rfl) ?_
                  refine z_get (own := RX10) (C := RX10) (T := TX10) (N := 21) hx hb hts in_X10_leadsTo_10 hown hK hS h_m hM41 rfl 7 (by decide) (List.mem_of_getElem? (i := 8) rfl) rfl rfl dX10_leadsTo_106 ?_
                  refine lv_iload hx hb dX10_leadsTo_109 (lv_at hl 5 rfl) ?_
                  refine z_iald hx hb hK hS h_c1 hM46 (vp_in_nI (by omega) (by omega)) dX10_leadsTo_111 ?_
                  rw [show cl1 (nI k9).toNatClampNeg = cl1 k9 from by rw [nI_clamp (by omega)]]
                  refine lv_iload hx hb dX10_leadsTo_112 (lv_at hl 4 rfl) ?_
                  refine lv_icmp_eq (tgt := 123) hx hb dX10_leadsTo_114 (by decide) (fun c_22 => ?_) (fun c_22 => ?_)
                  · have i_22 := z_eq c_22
                    have hkK : k9 = K9 := by
                      rcases Nat.lt_or_ge k9 K9 with q | q
                      · exfalso
                        obtain ⟨u, h1, h2, h3⟩ := zct_ex (show k9 < zct (zlB (zst (sg s1) 1)) 51 from (show k9 < zcyc (sg s1) by omega))
                        have h4 := (hcyT u h1 h2).1
                        rw [h3] at h4
                        have h5 : u = u9 := by omega
                        rw [h5] at h3; omega
                      · omega
                    refine lv_iload hx hb dX10_leadsTo_123 (lv_at hl 5 rfl) ?_
                    refine z_iret hx hb hr hlocks hS ?_ dX10_leadsTo_125
                    show z_pm Z g (sp_leadsTo (sg, rw9) x.toInt y.toInt) _ _
                    unfold sp_leadsTo
                    rw [zite_t hzs, zite_t hym, htn1, zite_t hcm]
                    have hfz : z_fr 41 8 g g_19 := (((z_fr.rf.tr (hfr_13.wide (by omega) (by omega))).tr (hfr_16.wide (by omega) (by omega))).tr (hfr_21.wide (by omega) (by omega)))
                    have hfin : zlead (sg s1) y.toInt = K9 := by unfold zlead; rw [← hlv, eK9, ← hu9]; congr 1; omega
                    exact ⟨(nI_toInt (by omega)).trans (by rw [hkK, ← hfin]), ⟨⟨_, _, _, _, _, _, fu, fq, fm, fd, h_m, h_u, h_q, h_n9, h_g, hMN, hSg⟩, hW.2.cyc h_c1 h_c2 h_c3 (fun j h1 h2 => hfz j (by omega))⟩, hfz.wide (by omega) (by omega)⟩
                  · have i_22 := z_ne c_22
                    have hkK : k9 ≠ K9 := fun h9 => by rw [h9] at i_22; exact i_22 hcK
                    refine lv_iinc (v := (nI (k9 + 1))) (lv' := [(5, .int (nI (k9 + 1))), (0, .ref (Z.2.1 41)), (1, .int (nI s1)), (2, .int y), (3, .int its), (4, .int le)]) hx hb dX10_leadsTo_117 hl (k := 5) rfl (nI_1 _) (by decide) rfl (fun ls hl => ?_)
                    refine lv_goto (tgt := 105) hx hb dX10_leadsTo_120 (by decide) ?_
                    exact ih_105 (k9 + 1) (by omega) (by omega) _ _ _ hS (lv_sub hl [1, 2, 3, 4, 5, 0] rfl)
              exact hcut_105 (K9 - 0 + 1) 0 (by omega) (Nat.lt_succ_self _) _ _ _ hS (lv_sub hl [1, 2, 3, 4, 5, 0] rfl)
            · have i_17 := z_nle c_17
              rw [nI_toInt (by omega)] at i_17
              rw [nI_toInt (by omega)] at i_17
              refine lv_aload_n hx hb dX10_leadsTo_69 rfl (lv_at hl 0 rfl) ?_
              refine lv_iload_n hx hb dX10_leadsTo_70 rfl (lv_at hl 1 rfl) ?_
              refine lv_iload_n hx hb dX10_leadsTo_71 rfl (lv_at hl 3 rfl) ?_
              refine lv_iconst (v := 1) hx hb dX10_leadsTo_72 (by decide) ?_
              refine z_calli (z_runV (As := [.int (nI s1), .int its, .int 1]) (rest := []) ⟨hx, hb, hml, hown, hts⟩ hK hS ((m_step Z g_14 sg ⟨_, _, _, _, _, _, fu, fq, fm, fd, h_m, h_u, h_q, h_n9, h_g, hMN, hSg⟩ s1 hs1 its 1 (by rw [hits]; exact hbz _) (by rw [tI_1]; omega)) l _) gX10_leadsTo_X10_step rfl 3 (by decide +kernel) ⟨Nat.le_of_ble_eq_true rfl, Nat.le_of_ble_eq_true rfl⟩ h_m hM41 rfl rfl hl.1 rfl (Nat.le_of_ble_eq_true rfl) dX10_leadsTo_73 ⟨Nat.le_of_ble_eq_true rfl, Nat.le_of_ble_eq_true rfl⟩) hS (fun r1 g_23 H locs hp_24 hS => ?_)
              obtain ⟨rfl, hp_24⟩ := hp_24
              have hr1 : r1.toInt = (zor (zst (sg s1) 1) (zor (zst (sg s1) 1) y.toInt (zmu (sg s1) 1 y.toInt))) j := by
                rw [hp_24, tI_1, hits]
                show zst (sg s1) 1 ((zor (zst (sg s1) 1) (zor (zst (sg s1) 1) y.toInt (zmu (sg s1) 1 y.toInt))) (j - 1)) = _
                have e9 : j = (j - 1) + 1 := by omega
                conv => rhs; rw [e9]
                rfl
              refine lv_istore_n (lv' := [(3, .int r1), (0, .ref (Z.2.1 41)), (1, .int (nI s1)), (2, .int y), (4, .int le), (5, .int (nI j))]) hx hb dX10_leadsTo_76 rfl hl (by decide) rfl (fun ls hl => ?_)
              refine lv_iload_n hx hb dX10_leadsTo_77 rfl (lv_at hl 0 rfl) ?_
              refine lv_iload hx hb dX10_leadsTo_78 (lv_at hl 4 rfl) ?_
              refine lv_icmp_ge (tgt := 87) hx hb dX10_leadsTo_80 (by decide) (fun c_25 => ?_) (fun c_25 => ?_)
              · have i_25 := z_le c_25
                have hle2 : zmnP (zor (zst (sg s1) 1) (zor (zst (sg s1) 1) y.toInt (zmu (sg s1) 1 y.toInt))) (j + 1) le.toInt := hle.keep (by omega)
                refine lv_iload hx hb dX10_leadsTo_87 (lv_at hl 4 rfl) ?_
                refine lv_istore (lv' := [(4, .int le), (3, .int r1), (0, .ref (Z.2.1 41)), (1, .int (nI s1)), (2, .int y), (5, .int (nI j))]) hx hb dX10_leadsTo_89 hl (by decide) rfl (fun ls hl => ?_)
                refine lv_iinc (v := (nI (j + 1))) (lv' := [(5, .int (nI (j + 1))), (4, .int le), (3, .int r1), (0, .ref (Z.2.1 41)), (1, .int (nI s1)), (2, .int y)]) hx hb dX10_leadsTo_91 hl (k := 5) rfl (nI_1 _) (by decide) rfl (fun ls hl => ?_)
                refine lv_goto (tgt := 60) hx hb dX10_leadsTo_94 (by decide) ?_
                exact ih_60 (j + 1) le r1 (by omega) hr1 hle2 (by omega) _ _ _ hS (lv_sub hl [3, 4, 5, 2, 1, 0] rfl)
              · have i_25 := z_nle c_25
                have hle2 : zmnP (zor (zst (sg s1) 1) (zor (zst (sg s1) 1) y.toInt (zmu (sg s1) 1 y.toInt))) (j + 1) r1.toInt := by rw [hr1]; exact hle.new (by omega)
                refine lv_iload_n hx hb dX10_leadsTo_83 rfl (lv_at hl 0 rfl) ?_
                refine lv_goto (tgt := 89) hx hb dX10_leadsTo_84 (by decide) ?_
                refine lv_istore (lv' := [(4, .int r1), (3, .int r1), (0, .ref (Z.2.1 41)), (1, .int (nI s1)), (2, .int y), (5, .int (nI j))]) hx hb dX10_leadsTo_89 hl (by decide) rfl (fun ls hl => ?_)
                refine lv_iinc (v := (nI (j + 1))) (lv' := [(5, .int (nI (j + 1))), (4, .int r1), (3, .int r1), (0, .ref (Z.2.1 41)), (1, .int (nI s1)), (2, .int y)]) hx hb dX10_leadsTo_91 hl (k := 5) rfl (nI_1 _) (by decide) rfl (fun ls hl => ?_)
                refine lv_goto (tgt := 60) hx hb dX10_leadsTo_94 (by decide) ?_
                exact ih_60 (j + 1) r1 r1 (by omega) hr1 hle2 (by omega) _ _ _ hS (lv_sub hl [3, 4, 5, 2, 1, 0] rfl)
        exact hcut_60 (zla (sg s1) 1 y.toInt - 1 + 1) 1 en en (by omega) (by rw [hen]; rfl) (by rw [hen]; exact zmnP.one _) (Nat.lt_succ_self _) _ _ _ hS (lv_sub hl [3, 4, 5, 2, 1, 0] rfl)
      · have i_9 := z_eq c_9
        rw [tI_0] at i_9
        have hncm := zbo_f hrc c_9
        refine lv_ldc (v := (-1000003)) hx hb hown (hts _ (List.mem_of_getElem? (i := 5) rfl)) dX10_leadsTo_32 ?_
        refine z_iret hx hb hr hlocks hS ?_ dX10_leadsTo_34
        show z_pm Z g (sp_leadsTo (sg, rw9) x.toInt y.toInt) _ _
        unfold sp_leadsTo
        rw [zite_t hzs, zite_t hym, htn1, zite_f hncm]
        exact ⟨rfl, hW, z_fr.rf⟩
    · have i_6 := z_eq c_6
      rw [tI_0] at i_6
      have hbad := zbo_f hr1h c_6
      refine lv_ldc (v := (-1000002)) hx hb hown (hts _ (List.mem_of_getElem? (i := 4) rfl)) dX10_leadsTo_21 ?_
      refine z_iret hx hb hr hlocks hS ?_ dX10_leadsTo_23
      show z_pm Z g (sp_leadsTo (sg, rw9) x.toInt y.toInt) _ _
      unfold sp_leadsTo
      rw [zite_t hzs, zite_f hbad]
      exact ⟨rfl, hW, z_fr.rf⟩
  · have i_3 := z_ne c_3
    rw [tI_0] at i_3
    have hnv := zbo_t hrn c_3
    refine lv_ldc (v := (-1000001)) hx hb hown (hts _ (List.mem_of_getElem? (i := 1) rfl)) dX10_leadsTo_7 ?_
    refine z_iret hx hb hr hlocks hS ?_ dX10_leadsTo_9
    show z_pm Z g (sp_leadsTo (sg, rw9) x.toInt y.toInt) _ _
    unfold sp_leadsTo
    rw [zite_f hnv]
    exact ⟨rfl, hW, z_fr.rf⟩

