/-! the reference: load -/
set_option maxHeartbeats 4000000 in
set_option maxRecDepth 100000 in
theorem m_load (Z : zT) (g : Nat → va_E) (sg : Nat → zb) (rw9 : Nat → zr) (hW : z_mw Z g sg rw9) (x y z : Int32) : z_Mi Z yX10_load wsX10_load 6 144 [.ref (Z.2.1 41), .int x, .int y, .int z] g (fun r g1 => z_pm Z g (sp_load (sg, rw9) x.toInt y.toInt z.toInt) r g1) := by
  intro l sz
  obtain ⟨v4, v5, v6, v15, v16, v17, hM9⟩ := hW.1.mp
  have hM := hM9.mr
  obtain ⟨fu, fq, fm, fd, h_m, h_u, h_q, h_n9, h_g, hMN, hSg⟩ := id hM9
  have hM41 : 41 < Z.1 := by omega
  have hM42 : 42 < Z.1 := by omega
  have hM43 : 43 < Z.1 := by omega
  have hM44 : 44 < Z.1 := by omega
  have hM45 : 45 < Z.1 := by omega
  refine z_enter (maxL := 4) (ret := (some .int)) (lv := [(0, .ref (Z.2.1 41)), (1, .int x), (2, .int y), (3, .int z)]) (plainFor_of_name (by decide +kernel)) rfl (fun ls h => by subst h; exact lv_entry [.ref (Z.2.1 41), .int x, .int y, .int z] (n := 4) (Nat.le_of_ble_eq_true rfl)) ?_
  intro p e s m args below meth c hx hb hml hr hlocks hown hts hK hS hsz ls hl
  refine lv_iload_n hx hb dX10_load_0 rfl (lv_at hl 1 rfl) ?_
  refine z_calli (z_runS (As := [.int x]) (rest := []) ⟨hx, hb, hml, hown, hts⟩ hK hS ((m_noSystem Z g x) l _) gX10_load_X10_noSystem rfl 1 (by decide +kernel) ⟨Nat.le_of_ble_eq_true rfl, Nat.le_of_ble_eq_true rfl⟩ rfl hl.1 rfl (Nat.le_of_ble_eq_true rfl) dX10_load_1 ⟨Nat.le_of_ble_eq_true rfl, Nat.le_of_ble_eq_true rfl⟩) hS (fun rn g_1 H locs hp_2 hS => ?_)
  obtain ⟨rfl, hp_2⟩ := hp_2
  have hrn := hp_2
  refine lv_if_ne (tgt := 14) hx hb dX10_load_4 (by decide) (fun c_3 => ?_) (fun c_3 => ?_)
  · have i_3 := z_ne c_3
    rw [tI_0] at i_3
    have hnv := zbo_t hrn c_3
    refine lv_ldc (v := (-1000001)) hx hb hown (hts _ (List.mem_of_getElem? (i := 1) rfl)) dX10_load_14 ?_
    refine z_iret hx hb hr hlocks hS ?_ dX10_load_16
    show z_pm Z g (sp_load (sg, rw9) x.toInt y.toInt z.toInt) _ _
    unfold sp_load
    rw [zite_f (fun h9 => hnv h9.1)]
    exact ⟨rfl, hW, z_fr.rf⟩
  · have i_3 := z_eq c_3
    rw [tI_0] at i_3
    have hzs : zsy x.toInt := Classical.byContradiction (zbo_f hrn c_3)
    obtain ⟨s1, es1, hs1x, -⟩ := z_nI_of (x := x) hzs.1
    subst es1
    have hs1 : s1 < 2 := by have := hzs.2; omega
    have htn1 : (nI s1).toInt.toNat = s1 := by omega
    obtain ⟨hok, hp, hq, hm, hd⟩ := hSg s1 hs1
    have hPb := zP_bd hok
    have hn12 := hok.2.2.2.1
    have hq1 := hok.2.1
    refine lv_iload_n hx hb dX10_load_7 rfl (lv_at hl 3 rfl) ?_
    refine z_calli (z_runS (As := [.int z]) (rest := []) ⟨hx, hb, hml, hown, hts⟩ hK hS ((m_noRow Z g z) l _) gX10_load_X10_noRow rfl 1 (by decide +kernel) ⟨Nat.le_of_ble_eq_true rfl, Nat.le_of_ble_eq_true rfl⟩ rfl hl.1 rfl (Nat.le_of_ble_eq_true rfl) dX10_load_8 ⟨Nat.le_of_ble_eq_true rfl, Nat.le_of_ble_eq_true rfl⟩) hS (fun rq g_4 H locs hp_5 hS => ?_)
    obtain ⟨rfl, hp_5⟩ := hp_5
    have hrq := hp_5
    refine lv_if_eq (tgt := 17) hx hb dX10_load_11 (by decide) (fun c_6 => ?_) (fun c_6 => ?_)
    · have i_6 := z_eq c_6
      rw [tI_0] at i_6
      have hzr1 : zro z.toInt := Classical.byContradiction (zbo_f hrq c_6)
      obtain ⟨r1, er1, hr1x, -⟩ := z_nI_of (x := z) hzr1.1
      subst er1
      have hr1 : r1 < 3 := by have := hzr1.2; omega
      have htr1 : (nI r1).toInt.toNat = r1 := by omega
      refine lv_iload_n hx hb dX10_load_17 rfl (lv_at hl 2 rfl) ?_
      refine lv_ldc (v := (-100000)) hx hb hown (hts _ (List.mem_of_getElem? (i := 2) rfl)) dX10_load_18 ?_
      refine lv_ldc (v := 100000) hx hb hown (hts _ (List.mem_of_getElem? (i := 3) rfl)) dX10_load_20 ?_
      refine z_calli (z_runS (As := [.int y, .int (-100000), .int 100000]) (rest := []) ⟨hx, hb, hml, hown, hts⟩ hK hS ((m_in Z g y (-100000) 100000) l _) gX10_load_X10_in rfl 3 (by decide +kernel) ⟨Nat.le_of_ble_eq_true rfl, Nat.le_of_ble_eq_true rfl⟩ rfl hl.1 rfl (Nat.le_of_ble_eq_true rfl) dX10_load_22 ⟨Nat.le_of_ble_eq_true rfl, Nat.le_of_ble_eq_true rfl⟩) hS (fun r1h g_7 H locs hp_8 hS => ?_)
      obtain ⟨rfl, hp_8⟩ := hp_8
      have hr1h := hp_8
      rw [tI_m100000, tI_100000] at hr1h
      refine lv_if_ne (tgt := 31) hx hb dX10_load_25 (by decide) (fun c_9 => ?_) (fun c_9 => ?_)
      · have i_9 := z_ne c_9
        rw [tI_0] at i_9
        have hym := zbo_t hr1h c_9
        refine lv_aload_n hx hb dX10_load_31 rfl (lv_at hl 0 rfl) ?_
        refine lv_iload_n hx hb dX10_load_32 rfl (lv_at hl 1 rfl) ?_
        refine z_calli (z_runV (As := [.int (nI s1)]) (rest := []) ⟨hx, hb, hml, hown, hts⟩ hK hS ((m_isComplete Z g sg hM s1 hs1) l _) gX10_load_X10_isComplete rfl 1 (by decide +kernel) ⟨Nat.le_of_ble_eq_true rfl, Nat.le_of_ble_eq_true rfl⟩ h_m hM41 rfl rfl hl.1 rfl (Nat.le_of_ble_eq_true rfl) dX10_load_33 ⟨Nat.le_of_ble_eq_true rfl, Nat.le_of_ble_eq_true rfl⟩) hS (fun rc g_10 H locs hp_11 hS => ?_)
        obtain ⟨rfl, hp_11⟩ := hp_11
        have hrc := hp_11
        refine lv_if_eq (tgt := 49) hx hb dX10_load_36 (by decide) (fun c_12 => ?_) (fun c_12 => ?_)
        · have i_12 := z_eq c_12
          rw [tI_0] at i_12
          have hncm := zbo_f hrc c_12
          refine lv_ldc (v := (-1000003)) hx hb hown (hts _ (List.mem_of_getElem? (i := 5) rfl)) dX10_load_49 ?_
          refine z_iret hx hb hr hlocks hS ?_ dX10_load_51
          show z_pm Z g (sp_load (sg, rw9) (nI s1).toInt y.toInt (nI r1).toInt) _ _
          unfold sp_load
          rw [zite_t ⟨hzs, hzr1⟩, zite_t hym, htn1, zite_f hncm]
          exact ⟨rfl, hW, z_fr.rf⟩
        · have i_12 := z_ne c_12
          rw [tI_0] at i_12
          have hcm := zbo_t hrc c_12
          refine lv_aload_n hx hb dX10_load_39 rfl (lv_at hl 0 rfl) ?_
          refine lv_iload_n hx hb dX10_load_40 rfl (lv_at hl 1 rfl) ?_
          refine lv_iload_n hx hb dX10_load_41 rfl (lv_at hl 2 rfl) ?_
          refine lv_iload_n hx hb dX10_load_42 rfl (lv_at hl 3 rfl) ?_
          refine z_calli (z_runV (As := [.int (nI s1), .int y, .int (nI r1)]) (rest := []) ⟨hx, hb, hml, hown, hts⟩ hK hS ((m_expand Z g sg rw9 hW s1 r1 hs1 hr1 y hym hcm) l _) gX10_load_X10_expand rfl 3 (by decide +kernel) ⟨Nat.le_of_ble_eq_true rfl, Nat.le_of_ble_eq_true rfl⟩ h_m hM41 rfl rfl hl.1 rfl (Nat.le_of_ble_eq_true rfl) dX10_load_43 ⟨Nat.le_of_ble_eq_true rfl, Nat.le_of_ble_eq_true rfl⟩) hS (fun re g_13 H locs hp_14 hS => ?_)
          have hpo := hp_14
          refine lv_goto (tgt := 51) hx hb dX10_load_46 (by decide) ?_
          refine z_iret hx hb hr hlocks hS ?_ dX10_load_51
          show z_pm Z g (sp_load (sg, rw9) (nI s1).toInt y.toInt (nI r1).toInt) _ _
          unfold sp_load
          rw [zite_t ⟨hzs, hzr1⟩, zite_t hym, htn1, htr1, zite_t hcm]
          exact hpo
      · have i_9 := z_eq c_9
        rw [tI_0] at i_9
        have hbad := zbo_f hr1h c_9
        refine lv_ldc (v := (-1000002)) hx hb hown (hts _ (List.mem_of_getElem? (i := 4) rfl)) dX10_load_28 ?_
        refine z_iret hx hb hr hlocks hS ?_ dX10_load_30
        show z_pm Z g (sp_load (sg, rw9) (nI s1).toInt y.toInt (nI r1).toInt) _ _
        unfold sp_load
        rw [zite_t ⟨hzs, hzr1⟩, zite_f hbad]
        exact ⟨rfl, hW, z_fr.rf⟩
    · have i_6 := z_ne c_6
      rw [tI_0] at i_6
      have hnr := zbo_t hrq c_6
      refine lv_ldc (v := (-1000001)) hx hb hown (hts _ (List.mem_of_getElem? (i := 1) rfl)) dX10_load_14 ?_
      refine z_iret hx hb hr hlocks hS ?_ dX10_load_16
      show z_pm Z g (sp_load (sg, rw9) (nI s1).toInt y.toInt z.toInt) _ _
      unfold sp_load
      rw [zite_f (fun h9 => hnr h9.2)]
      exact ⟨rfl, hW, z_fr.rf⟩

