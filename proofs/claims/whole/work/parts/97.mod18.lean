/-! the reference: all expansions of a length -/
theorem Int32_sub0 (x : Int32) : x - 0 = x := by
  have h := fb_rng x
  exact z_inj (by rw [fb_subI (by rw [show (0 : Int32).toInt = 0 from rfl]; omega) (by rw [show (0 : Int32).toInt = 0 from rfl]; omega), show (0 : Int32).toInt = 0 from rfl]; omega)
theorem Int32_add0 (x : Int32) : x + 0 = x := by
  have h := fb_rng x
  exact z_inj (by rw [fb_addI (by rw [show (0 : Int32).toInt = 0 from rfl]; omega) (by rw [show (0 : Int32).toInt = 0 from rfl]; omega), show (0 : Int32).toInt = 0 from rfl]; omega)
theorem zsh_t {b : zb} {m : Int} {l : Nat} (hl : l ≤ 12) (h2 : zrb b m l 0) (h3 : ∀ t, t < l → ¬ zrb b m t 0) : zsh b m = l := zsh_yes hl h2 h3
theorem in_X10_expansions_10 : ∀ w ∈ wsX100, w ∈ wsX10_expansions := by decide +kernel
set_option maxHeartbeats 4000000 in
set_option maxRecDepth 100000 in
theorem m_expansions (Z : zT) (g : Nat → va_E) (sg : Nat → zb) (rw9 : Nat → zr) (hW : z_mw Z g sg rw9) (x y z : Int32) : z_Mi Z yX10_expansions wsX10_expansions 2 50 [.ref (Z.2.1 41), .int x, .int y, .int z] g (fun r g1 => z_pm Z g (sp_expansions (sg, rw9) x.toInt y.toInt z.toInt) r g1) := by
  intro l sz
  obtain ⟨v4, v5, v6, v15, v16, v17, hM9⟩ := hW.1.mp
  have hM := hM9.mr
  obtain ⟨fu, fq, fm, fd, h_m, h_u, h_q, h_n9, h_g, hMN, hSg⟩ := id hM9
  have hM41 : 41 < Z.1 := by omega
  have hM42 : 42 < Z.1 := by omega
  have hM43 : 43 < Z.1 := by omega
  have hM44 : 44 < Z.1 := by omega
  have hM45 : 45 < Z.1 := by omega
  obtain ⟨-, -, -, ⟨ln, h_lm⟩, ⟨la, h_la⟩, ⟨wa, h_wa⟩, -, -, -, -, -⟩ := id hW.2
  have hM49 : 49 < Z.1 := by omega
  have hM50 : 50 < Z.1 := by omega
  have hM51 : 51 < Z.1 := by omega
  refine z_enter (maxL := 4) (ret := (some .int)) (lv := [(0, .ref (Z.2.1 41)), (1, .int x), (2, .int y), (3, .int z)]) (plainFor_of_name (by decide +kernel)) rfl (fun ls h => by subst h; exact lv_entry [.ref (Z.2.1 41), .int x, .int y, .int z] (n := 4) (Nat.le_of_ble_eq_true rfl)) ?_
  intro p e s m args below meth c hx hb hml hr hlocks hown hts hK hS hsz ls hl
  refine lv_iload_n hx hb dX10_expansions_0 rfl (lv_at hl 1 rfl) ?_
  refine z_calli (z_runS (As := [.int x]) (rest := []) ⟨hx, hb, hml, hown, hts⟩ hK hS ((m_noSystem Z g x) l _) gX10_expansions_X10_noSystem rfl 1 (by decide +kernel) ⟨Nat.le_of_ble_eq_true rfl, Nat.le_of_ble_eq_true rfl⟩ rfl hl.1 rfl (Nat.le_of_ble_eq_true rfl) dX10_expansions_1 ⟨Nat.le_of_ble_eq_true rfl, Nat.le_of_ble_eq_true rfl⟩) hS (fun rn g_1 H locs hp_2 hS => ?_)
  obtain ⟨rfl, hp_2⟩ := hp_2
  have hrn := hp_2
  refine lv_if_eq (tgt := 10) hx hb dX10_expansions_4 (by decide) (fun c_3 => ?_) (fun c_3 => ?_)
  · have i_3 := z_eq c_3
    rw [tI_0] at i_3
    have hzs : zsy x.toInt := Classical.byContradiction (zbo_f hrn c_3)
    obtain ⟨s1, es1, hs1x, -⟩ := z_nI_of (x := x) hzs.1
    subst es1
    have hs1 : s1 < 2 := by have := hzs.2; omega
    have htn1 : (nI s1).toInt.toNat = s1 := by omega
    obtain ⟨hok, hp, hq, hm, hd⟩ := hSg s1 hs1
    have hPb := zP_bd hok
    have hn12 := hok.2.2.2.1
    have hq1 := hok.2.1
    refine lv_iload_n hx hb dX10_expansions_10 rfl (lv_at hl 2 rfl) ?_
    refine lv_ldc (v := (-100000)) hx hb hown (hts _ (List.mem_of_getElem? (i := 2) rfl)) dX10_expansions_11 ?_
    refine lv_ldc (v := 100000) hx hb hown (hts _ (List.mem_of_getElem? (i := 3) rfl)) dX10_expansions_13 ?_
    refine z_calli (z_runS (As := [.int y, .int (-100000), .int 100000]) (rest := []) ⟨hx, hb, hml, hown, hts⟩ hK hS ((m_in Z g y (-100000) 100000) l _) gX10_expansions_X10_in rfl 3 (by decide +kernel) ⟨Nat.le_of_ble_eq_true rfl, Nat.le_of_ble_eq_true rfl⟩ rfl hl.1 rfl (Nat.le_of_ble_eq_true rfl) dX10_expansions_15 ⟨Nat.le_of_ble_eq_true rfl, Nat.le_of_ble_eq_true rfl⟩) hS (fun r1h g_4 H locs hp_5 hS => ?_)
    obtain ⟨rfl, hp_5⟩ := hp_5
    have hr1h := hp_5
    rw [tI_m100000, tI_100000] at hr1h
    refine lv_if_eq (tgt := 31) hx hb dX10_expansions_18 (by decide) (fun c_6 => ?_) (fun c_6 => ?_)
    · have i_6 := z_eq c_6
      rw [tI_0] at i_6
      have hbad : ¬ ((-100000 ≤ y.toInt ∧ y.toInt ≤ 100000) ∧ (0 ≤ z.toInt ∧ z.toInt ≤ 12)) := fun h9 => zbo_f hr1h c_6 h9.1
      refine lv_ldc (v := (-1000002)) hx hb hown (hts _ (List.mem_of_getElem? (i := 4) rfl)) dX10_expansions_31 ?_
      refine z_iret hx hb hr hlocks hS ?_ dX10_expansions_33
      show z_pm Z g (sp_expansions (sg, rw9) (nI s1).toInt y.toInt z.toInt) _ _
      unfold sp_expansions
      rw [zite_t hzs, zite_f hbad]
      exact ⟨rfl, hW, z_fr.rf⟩
    · have i_6 := z_ne c_6
      rw [tI_0] at i_6
      have hym := zbo_t hr1h c_6
      refine lv_iload_n hx hb dX10_expansions_21 rfl (lv_at hl 3 rfl) ?_
      refine lv_iconst (v := 0) hx hb dX10_expansions_22 (by decide) ?_
      refine lv_bipush (v := 12) hx hb dX10_expansions_23 (by decide) ?_
      refine z_calli (z_runS (As := [.int z, .int 0, .int 12]) (rest := []) ⟨hx, hb, hml, hown, hts⟩ hK hS ((m_in Z g z 0 12) l _) gX10_expansions_X10_in rfl 3 (by decide +kernel) ⟨Nat.le_of_ble_eq_true rfl, Nat.le_of_ble_eq_true rfl⟩ rfl hl.1 rfl (Nat.le_of_ble_eq_true rfl) dX10_expansions_25 ⟨Nat.le_of_ble_eq_true rfl, Nat.le_of_ble_eq_true rfl⟩) hS (fun rl_7 g_8 H locs hp_9 hS => ?_)
      obtain ⟨rfl, hp_9⟩ := hp_9
      have hrl := hp_9
      rw [tI_0, tI_12] at hrl
      refine lv_if_ne (tgt := 34) hx hb dX10_expansions_28 (by decide) (fun c_10 => ?_) (fun c_10 => ?_)
      · have i_10 := z_ne c_10
        rw [tI_0] at i_10
        have hlen := zbo_t hrl c_10
        obtain ⟨L9, eL9, hL9, -⟩ := z_nI_of (x := z) hlen.1
        subst eL9
        have htL : (nI L9).toInt.toNat = L9 := by omega
        have hL12 : L9 ≤ 12 := by omega
        refine lv_aload_n hx hb dX10_expansions_34 rfl (lv_at hl 0 rfl) ?_
        refine lv_iload_n hx hb dX10_expansions_35 rfl (lv_at hl 1 rfl) ?_
        refine lv_iload_n hx hb dX10_expansions_36 rfl (lv_at hl 2 rfl) ?_
        refine lv_iload_n hx hb dX10_expansions_37 rfl (lv_at hl 3 rfl) ?_
        refine z_callv (z_runV (As := [.int (nI s1), .int y, .int (nI L9)]) (rest := []) ⟨hx, hb, hml, hown, hts⟩ hK hS ((m_layLevels Z g sg ⟨_, _, _, _, _, _, fu, fq, fm, fd, h_m, h_u, h_q, h_n9, h_g, hMN, hSg⟩ s1 hs1 ln la wa h_lm h_la h_wa y hym L9 hL12) l _) gX10_expansions_X10_layLevels rfl 3 (by decide +kernel) ⟨Nat.le_of_ble_eq_true rfl, Nat.le_of_ble_eq_true rfl⟩ h_m hM41 rfl rfl hl.1 rfl (Nat.le_of_ble_eq_true rfl) dX10_expansions_38 ⟨Nat.le_of_ble_eq_true rfl, Nat.le_of_ble_eq_true rfl⟩) hS (fun g_12 H locs hp_13 hS => ?_)
        obtain ⟨ln1, la1, wa1, h_lm, h_la, h_wa, hly, hfr_14⟩ := hp_13
        have h_m := (hfr_14 _ (by omega)).trans h_m
        have h_u := (hfr_14 _ (by omega)).trans h_u
        have h_q := (hfr_14 _ (by omega)).trans h_q
        have h_n9 := (hfr_14 _ (by omega)).trans h_n9
        have h_g := (hfr_14 _ (by omega)).trans h_g
        have hw0 := zly_0 hly
        refine lv_aload_n hx hb dX10_expansions_41 rfl (lv_at hl 0 rfl) ?_
        refine z_get (own := RX10) (C := RX10) (T := TX10) (N := 21) hx hb hts in_X10_expansions_10 hown hK hS h_m hM41 rfl 12 (by decide) (List.mem_of_getElem? (i := 5) rfl) rfl rfl dX10_expansions_42 ?_
        refine lv_iconst (v := 0) hx hb dX10_expansions_45 (by decide) ?_
        refine z_iald hx hb hK hS h_wa hM51 (vp_in_iff.mpr (by rw [tI_0]; omega)) dX10_expansions_46 ?_
        rw [show wa1 (0 : Int32).toNatClampNeg = wa1 0 from rfl]
        refine z_iret hx hb hr hlocks hS ?_ dX10_expansions_47
        show z_pm Z g (sp_expansions (sg, rw9) (nI s1).toInt y.toInt (nI L9).toInt) _ _
        unfold sp_expansions
        rw [zite_t hzs, zite_t ⟨hym, hlen⟩, htn1, htL]
        have hfz : z_fr 49 3 g g_12 := (z_fr.rf.tr (hfr_14.wide (by omega) (by omega)))
        exact ⟨hw0.trans (zcap_zite _), ⟨⟨_, _, _, _, _, _, fu, fq, fm, fd, h_m, h_u, h_q, h_n9, h_g, hMN, hSg⟩, hW.2.lay h_lm h_la h_wa (fun j h1 h2 h3 => hfz j (by omega))⟩, hfz.wide (by omega) (by omega)⟩
      · have i_10 := z_eq c_10
        rw [tI_0] at i_10
        have hbad : ¬ ((-100000 ≤ y.toInt ∧ y.toInt ≤ 100000) ∧ (0 ≤ z.toInt ∧ z.toInt ≤ 12)) := fun h9 => zbo_f hrl c_10 h9.2
        refine lv_ldc (v := (-1000002)) hx hb hown (hts _ (List.mem_of_getElem? (i := 4) rfl)) dX10_expansions_31 ?_
        refine z_iret hx hb hr hlocks hS ?_ dX10_expansions_33
        show z_pm Z g (sp_expansions (sg, rw9) (nI s1).toInt y.toInt z.toInt) _ _
        unfold sp_expansions
        rw [zite_t hzs, zite_f hbad]
        exact ⟨rfl, hW, z_fr.rf⟩
  · have i_3 := z_ne c_3
    rw [tI_0] at i_3
    have hnv := zbo_t hrn c_3
    refine lv_ldc (v := (-1000001)) hx hb hown (hts _ (List.mem_of_getElem? (i := 1) rfl)) dX10_expansions_7 ?_
    refine z_iret hx hb hr hlocks hS ?_ dX10_expansions_9
    show z_pm Z g (sp_expansions (sg, rw9) x.toInt y.toInt z.toInt) _ _
    unfold sp_expansions
    rw [zite_f hnv]
    exact ⟨rfl, hW, z_fr.rf⟩

theorem in_X10_shortest_10 : ∀ w ∈ wsX100, w ∈ wsX10_shortest := by decide +kernel
set_option maxHeartbeats 4000000 in
set_option maxRecDepth 100000 in
theorem m_shortest (Z : zT) (g : Nat → va_E) (sg : Nat → zb) (rw9 : Nat → zr) (hW : z_mw Z g sg rw9) (x y : Int32) : z_Mi Z yX10_shortest wsX10_shortest 2 50 [.ref (Z.2.1 41), .int x, .int y] g (fun r g1 => z_pm Z g (sp_shortest (sg, rw9) x.toInt y.toInt) r g1) := by
  intro l sz
  obtain ⟨v4, v5, v6, v15, v16, v17, hM9⟩ := hW.1.mp
  have hM := hM9.mr
  obtain ⟨fu, fq, fm, fd, h_m, h_u, h_q, h_n9, h_g, hMN, hSg⟩ := id hM9
  have hM41 : 41 < Z.1 := by omega
  have hM42 : 42 < Z.1 := by omega
  have hM43 : 43 < Z.1 := by omega
  have hM44 : 44 < Z.1 := by omega
  have hM45 : 45 < Z.1 := by omega
  obtain ⟨-, -, -, ⟨ln, h_lm⟩, ⟨la, h_la⟩, ⟨wa, h_wa⟩, -, -, -, -, -⟩ := id hW.2
  have hM49 : 49 < Z.1 := by omega
  have hM50 : 50 < Z.1 := by omega
  have hM51 : 51 < Z.1 := by omega
  refine z_enter (maxL := 4) (ret := (some .int)) (lv := [(0, .ref (Z.2.1 41)), (1, .int x), (2, .int y)]) (plainFor_of_name (by decide +kernel)) rfl (fun ls h => by subst h; exact lv_entry [.ref (Z.2.1 41), .int x, .int y] (n := 4) (Nat.le_of_ble_eq_true rfl)) ?_
  intro p e s m args below meth c hx hb hml hr hlocks hown hts hK hS hsz ls hl
  refine lv_iload_n hx hb dX10_shortest_0 rfl (lv_at hl 1 rfl) ?_
  refine z_calli (z_runS (As := [.int x]) (rest := []) ⟨hx, hb, hml, hown, hts⟩ hK hS ((m_noSystem Z g x) l _) gX10_shortest_X10_noSystem rfl 1 (by decide +kernel) ⟨Nat.le_of_ble_eq_true rfl, Nat.le_of_ble_eq_true rfl⟩ rfl hl.1 rfl (Nat.le_of_ble_eq_true rfl) dX10_shortest_1 ⟨Nat.le_of_ble_eq_true rfl, Nat.le_of_ble_eq_true rfl⟩) hS (fun rn g_1 H locs hp_2 hS => ?_)
  obtain ⟨rfl, hp_2⟩ := hp_2
  have hrn := hp_2
  refine lv_if_eq (tgt := 10) hx hb dX10_shortest_4 (by decide) (fun c_3 => ?_) (fun c_3 => ?_)
  · have i_3 := z_eq c_3
    rw [tI_0] at i_3
    have hzs : zsy x.toInt := Classical.byContradiction (zbo_f hrn c_3)
    obtain ⟨s1, es1, hs1x, -⟩ := z_nI_of (x := x) hzs.1
    subst es1
    have hs1 : s1 < 2 := by have := hzs.2; omega
    have htn1 : (nI s1).toInt.toNat = s1 := by omega
    obtain ⟨hok, hp, hq, hm, hd⟩ := hSg s1 hs1
    have hPb := zP_bd hok
    have hn12 := hok.2.2.2.1
    have hq1 := hok.2.1
    refine lv_iload_n hx hb dX10_shortest_10 rfl (lv_at hl 2 rfl) ?_
    refine lv_ldc (v := (-100000)) hx hb hown (hts _ (List.mem_of_getElem? (i := 2) rfl)) dX10_shortest_11 ?_
    refine lv_ldc (v := 100000) hx hb hown (hts _ (List.mem_of_getElem? (i := 3) rfl)) dX10_shortest_13 ?_
    refine z_calli (z_runS (As := [.int y, .int (-100000), .int 100000]) (rest := []) ⟨hx, hb, hml, hown, hts⟩ hK hS ((m_in Z g y (-100000) 100000) l _) gX10_shortest_X10_in rfl 3 (by decide +kernel) ⟨Nat.le_of_ble_eq_true rfl, Nat.le_of_ble_eq_true rfl⟩ rfl hl.1 rfl (Nat.le_of_ble_eq_true rfl) dX10_shortest_15 ⟨Nat.le_of_ble_eq_true rfl, Nat.le_of_ble_eq_true rfl⟩) hS (fun r1h g_4 H locs hp_5 hS => ?_)
    obtain ⟨rfl, hp_5⟩ := hp_5
    have hr1h := hp_5
    rw [tI_m100000, tI_100000] at hr1h
    refine lv_if_ne (tgt := 24) hx hb dX10_shortest_18 (by decide) (fun c_6 => ?_) (fun c_6 => ?_)
    · have i_6 := z_ne c_6
      rw [tI_0] at i_6
      have hym := zbo_t hr1h c_6
      refine lv_iconst (v := 0) hx hb dX10_shortest_24 (by decide) ?_
      refine lv_istore_n (lv' := [(3, .int 0), (0, .ref (Z.2.1 41)), (1, .int (nI s1)), (2, .int y)]) hx hb dX10_shortest_25 rfl hl (by decide) rfl (fun ls hl => ?_)
      have hcut_26 : ∀ (nn_26 : Nat) (lw : Nat) (lnv : Nat → Int32) (lav : Nat → Int32) (wav : Nat → Int32) (ga : Nat → va_E) (h_m : ga 41 = .inr (10, [.ref (Z.2.1 42), .ref (Z.2.1 43), .ref (Z.2.1 44), .ref (Z.2.1 45), .int v4, .int v5, .int v6, .ref (Z.2.1 46), .ref (Z.2.1 47), .ref (Z.2.1 48), .ref (Z.2.1 49), .ref (Z.2.1 50), .ref (Z.2.1 51), .ref (Z.2.1 52), .ref (Z.2.1 53), .long v15, .long v16, .int v17, .ref (Z.2.1 54), .ref (Z.2.1 55), .ref (Z.2.1 56)])) (h_u : ga 42 = .inl (Z.2.2.2 0, 2, .inl fu)) (h_q : ga 43 = .inl (Z.2.2.2 0, 2, .inl fq)) (h_n9 : ga 44 = .inl (Z.2.2.2 0, 2, .inl fm)) (h_g : ga 45 = .inl (Z.2.2.2 0, 24, .inl fd)) (h_lm : ga 49 = .inl (Z.2.2.2 0, 13, .inl lnv)) (h_la : ga 50 = .inl (Z.2.2.2 0, 1664, .inl lav)) (h_wa : ga 51 = .inl (Z.2.2.2 0, 1664, .inl wav)) (hfr_ga : z_fr 49 3 g ga) (hl9 : lw ≤ 13) (hno : ∀ t, t < lw → ¬ zrb (sg s1) y.toInt t 0) (hm_26 : 13 - lw < nn_26) (H : Heap) (locs : List Loc) (ls : Array Slot), z_S Z (z_A Z sz) s.heap ga H locs → lv_has ls 4 [(0, .ref (Z.2.1 41)), (1, .int (nI s1)), (2, .int y), (3, .int (nI lw))] → W p l e (headSpec wsX10_shortest (z_rm 2 50)).room s m args below meth c H locs 0 0 (MQ below (va_Qi (fun r g1 => z_pm Z g (sp_shortest (sg, rw9) (nI s1).toInt y.toInt) r g1) (z_B Z) (z_A Z sz)) args s 0 0 (z_A Z sz)) (F0 m 26 ls []) := by
        intro nn_26
        induction nn_26 with
        | zero => intro lw lnv lav wav ga h_m h_u h_q h_n9 h_g h_lm h_la h_wa hfr_ga hl9 hno hm_26 H locs ls hS hl; exact absurd hm_26 (Nat.not_lt_zero _)
        | succ nn_26 ih_26 =>
          intro lw lnv lav wav ga h_m h_u h_q h_n9 h_g h_lm h_la h_wa hfr_ga hl9 hno hm_26 H locs ls hS hl
          refine lv_iload_n hx hb dX10_shortest_26 rfl (lv_at hl 3 rfl) ?_
          refine lv_bipush (v := 12) hx hb dX10_shortest_27 (by decide) ?_
          refine lv_icmp_gt (tgt := 56) hx hb dX10_shortest_29 (by decide) (fun c_7 => ?_) (fun c_7 => ?_)
          · have i_7 := z_lt c_7
            rw [nI_toInt (by omega)] at i_7
            rw [tI_12] at i_7
            have hl13 : lw = 13 := by omega
            refine lv_ldc (v := (-1000006)) hx hb hown (hts _ (List.mem_of_getElem? (i := 6) rfl)) dX10_shortest_56 ?_
            refine z_iret hx hb hr hlocks hS ?_ dX10_shortest_58
            show z_pm Z g (sp_shortest (sg, rw9) (nI s1).toInt y.toInt) _ _
            unfold sp_shortest
            rw [zite_t hzs, zite_t hym, htn1]
            have hfz : z_fr 49 3 g ga := hfr_ga
            exact ⟨(zsh_no (fun t ht => hno t (by omega))).symm, ⟨⟨_, _, _, _, _, _, fu, fq, fm, fd, h_m, h_u, h_q, h_n9, h_g, hMN, hSg⟩, hW.2.lay h_lm h_la h_wa (fun j h1 h2 h3 => hfz j (by omega))⟩, hfz.wide (by omega) (by omega)⟩
          · have i_7 := z_nlt c_7
            rw [nI_toInt (by omega)] at i_7
            rw [tI_12] at i_7
            have hl12 : lw ≤ 12 := by omega
            refine lv_aload_n hx hb dX10_shortest_32 rfl (lv_at hl 0 rfl) ?_
            refine lv_iload_n hx hb dX10_shortest_33 rfl (lv_at hl 1 rfl) ?_
            refine lv_iload_n hx hb dX10_shortest_34 rfl (lv_at hl 2 rfl) ?_
            refine lv_iload_n hx hb dX10_shortest_35 rfl (lv_at hl 3 rfl) ?_
            refine z_callv (z_runV (As := [.int (nI s1), .int y, .int (nI lw)]) (rest := []) ⟨hx, hb, hml, hown, hts⟩ hK hS ((m_layLevels Z ga sg ⟨_, _, _, _, _, _, fu, fq, fm, fd, h_m, h_u, h_q, h_n9, h_g, hMN, hSg⟩ s1 hs1 lnv lav wav h_lm h_la h_wa y hym lw hl12) l _) gX10_shortest_X10_layLevels rfl 3 (by decide +kernel) ⟨Nat.le_of_ble_eq_true rfl, Nat.le_of_ble_eq_true rfl⟩ h_m hM41 rfl rfl hl.1 rfl (Nat.le_of_ble_eq_true rfl) dX10_shortest_36 ⟨Nat.le_of_ble_eq_true rfl, Nat.le_of_ble_eq_true rfl⟩) hS (fun g_9 H locs hp_10 hS => ?_)
            obtain ⟨ln1, la1, wa1, h_lm, h_la, h_wa, hly, hfr_11⟩ := hp_10
            have h_m := (hfr_11 _ (by omega)).trans h_m
            have h_u := (hfr_11 _ (by omega)).trans h_u
            have h_q := (hfr_11 _ (by omega)).trans h_q
            have h_n9 := (hfr_11 _ (by omega)).trans h_n9
            have h_g := (hfr_11 _ (by omega)).trans h_g
            have hw0 := zly_0 hly
            refine lv_aload_n hx hb dX10_shortest_39 rfl (lv_at hl 0 rfl) ?_
            refine z_get (own := RX10) (C := RX10) (T := TX10) (N := 21) hx hb hts in_X10_shortest_10 hown hK hS h_m hM41 rfl 12 (by decide) (List.mem_of_getElem? (i := 5) rfl) rfl rfl dX10_shortest_40 ?_
            refine lv_iconst (v := 0) hx hb dX10_shortest_43 (by decide) ?_
            refine z_iald hx hb hK hS h_wa hM51 (vp_in_iff.mpr (by rw [tI_0]; omega)) dX10_shortest_44 ?_
            rw [show wa1 (0 : Int32).toNatClampNeg = wa1 0 from rfl]
            refine lv_if_le (tgt := 50) hx hb dX10_shortest_45 (by decide) (fun c_12 => ?_) (fun c_12 => ?_)
            · have i_12 := z_le c_12
              rw [tI_0] at i_12
              have hnz : ¬ zrb (sg s1) y.toInt lw 0 := fun h9 => by
                have h8 := zcap_pos.mpr ((zwy_rb hok lw y.toInt).mpr h9)
                omega
              refine lv_iinc (v := (nI (lw + 1))) (lv' := [(3, .int (nI (lw + 1))), (0, .ref (Z.2.1 41)), (1, .int (nI s1)), (2, .int y)]) hx hb dX10_shortest_50 hl (k := 3) rfl (nI_1 _) (by decide) rfl (fun ls hl => ?_)
              refine lv_goto (tgt := 26) hx hb dX10_shortest_53 (by decide) ?_
              exact ih_26 (lw + 1) ln1 la1 wa1 g_9 h_m h_u h_q h_n9 h_g h_lm h_la h_wa (hfr_ga.tr (hfr_11.wide (by omega) (by omega))) (by omega) (fun t ht => by
                  rcases Nat.lt_or_ge t lw with q9 | q9
                  · exact hno t q9
                  · have : t = lw := by omega
                    subst this; exact hnz) (by omega) _ _ _ hS (lv_sub hl [1, 2, 3, 0] rfl)
            · have i_12 := z_nle c_12
              rw [tI_0] at i_12
              have hyz : zrb (sg s1) y.toInt lw 0 := (zwy_rb hok lw y.toInt).mp (zcap_pos.mp (by omega))
              refine lv_iload_n hx hb dX10_shortest_48 rfl (lv_at hl 3 rfl) ?_
              refine z_iret hx hb hr hlocks hS ?_ dX10_shortest_49
              show z_pm Z g (sp_shortest (sg, rw9) (nI s1).toInt y.toInt) _ _
              unfold sp_shortest
              rw [zite_t hzs, zite_t hym, htn1]
              have hfz : z_fr 49 3 g g_9 := (hfr_ga.tr (hfr_11.wide (by omega) (by omega)))
              exact ⟨(nI_toInt (by omega)).trans (zsh_t hl12 hyz hno).symm, ⟨⟨_, _, _, _, _, _, fu, fq, fm, fd, h_m, h_u, h_q, h_n9, h_g, hMN, hSg⟩, hW.2.lay h_lm h_la h_wa (fun j h1 h2 h3 => hfz j (by omega))⟩, hfz.wide (by omega) (by omega)⟩
      exact hcut_26 (13 - 0 + 1) 0 ln la wa g h_m h_u h_q h_n9 h_g h_lm h_la h_wa z_fr.rf (by omega) (fun t ht => absurd ht (Nat.not_lt_zero t)) (Nat.lt_succ_self _) _ _ _ hS (lv_sub hl [1, 2, 3, 0] rfl)
    · have i_6 := z_eq c_6
      rw [tI_0] at i_6
      have hbad := zbo_f hr1h c_6
      refine lv_ldc (v := (-1000002)) hx hb hown (hts _ (List.mem_of_getElem? (i := 4) rfl)) dX10_shortest_21 ?_
      refine z_iret hx hb hr hlocks hS ?_ dX10_shortest_23
      show z_pm Z g (sp_shortest (sg, rw9) (nI s1).toInt y.toInt) _ _
      unfold sp_shortest
      rw [zite_t hzs, zite_f hbad]
      exact ⟨rfl, hW, z_fr.rf⟩
  · have i_3 := z_ne c_3
    rw [tI_0] at i_3
    have hnv := zbo_t hrn c_3
    refine lv_ldc (v := (-1000001)) hx hb hown (hts _ (List.mem_of_getElem? (i := 1) rfl)) dX10_shortest_7 ?_
    refine z_iret hx hb hr hlocks hS ?_ dX10_shortest_9
    show z_pm Z g (sp_shortest (sg, rw9) x.toInt y.toInt) _ _
    unfold sp_shortest
    rw [zite_f hnv]
    exact ⟨rfl, hW, z_fr.rf⟩

theorem in_X10_expansionDigit_10 : ∀ w ∈ wsX100, w ∈ wsX10_expansionDigit := by decide +kernel
set_option maxHeartbeats 4000000 in
set_option maxRecDepth 100000 in
theorem m_expansionDigit (Z : zT) (g : Nat → va_E) (sg : Nat → zb) (rw9 : Nat → zr) (hW : z_mw Z g sg rw9) (x y z u v : Int32) : z_Mi Z yX10_expansionDigit wsX10_expansionDigit 2 50 [.ref (Z.2.1 41), .int x, .int y, .int z, .int u, .int v] g (fun r g1 => z_pm Z g (sp_expansionDigit (sg, rw9) x.toInt y.toInt z.toInt u.toInt v.toInt) r g1) := by
  intro l sz
  obtain ⟨v4, v5, v6, v15, v16, v17, hM9⟩ := hW.1.mp
  have hM := hM9.mr
  obtain ⟨fu, fq, fm, fd, h_m, h_u, h_q, h_n9, h_g, hMN, hSg⟩ := id hM9
  have hM41 : 41 < Z.1 := by omega
  have hM42 : 42 < Z.1 := by omega
  have hM43 : 43 < Z.1 := by omega
  have hM44 : 44 < Z.1 := by omega
  have hM45 : 45 < Z.1 := by omega
  obtain ⟨-, -, -, ⟨ln, h_lm⟩, ⟨la, h_la⟩, ⟨wa, h_wa⟩, -, -, -, -, -⟩ := id hW.2
  have hM49 : 49 < Z.1 := by omega
  have hM50 : 50 < Z.1 := by omega
  have hM51 : 51 < Z.1 := by omega
  refine z_enter (maxL := 13) (ret := (some .int)) (lv := [(0, .ref (Z.2.1 41)), (1, .int x), (2, .int y), (3, .int z), (4, .int u), (5, .int v)]) (plainFor_of_name (by decide +kernel)) rfl (fun ls h => by subst h; exact lv_entry [.ref (Z.2.1 41), .int x, .int y, .int z, .int u, .int v] (n := 13) (Nat.le_of_ble_eq_true rfl)) ?_
  intro p e s m args below meth c hx hb hml hr hlocks hown hts hK hS hsz ls hl
  refine lv_iload_n hx hb dX10_expansionDigit_0 rfl (lv_at hl 1 rfl) ?_
  refine z_calli (z_runS (As := [.int x]) (rest := []) ⟨hx, hb, hml, hown, hts⟩ hK hS ((m_noSystem Z g x) l _) gX10_expansionDigit_X10_noSystem rfl 1 (by decide +kernel) ⟨Nat.le_of_ble_eq_true rfl, Nat.le_of_ble_eq_true rfl⟩ rfl hl.1 rfl (Nat.le_of_ble_eq_true rfl) dX10_expansionDigit_1 ⟨Nat.le_of_ble_eq_true rfl, Nat.le_of_ble_eq_true rfl⟩) hS (fun rn g_1 H locs hp_2 hS => ?_)
  obtain ⟨rfl, hp_2⟩ := hp_2
  have hrn := hp_2
  refine lv_if_ne (tgt := 29) hx hb dX10_expansionDigit_4 (by decide) (fun c_3 => ?_) (fun c_3 => ?_)
  · have i_3 := z_ne c_3
    rw [tI_0] at i_3
    have hnv := zbo_t hrn c_3
    refine lv_ldc (v := (-1000001)) hx hb hown (hts _ (List.mem_of_getElem? (i := 1) rfl)) dX10_expansionDigit_29 ?_
    refine z_iret hx hb hr hlocks hS ?_ dX10_expansionDigit_31
    show z_pm Z g (sp_expansionDigit (sg, rw9) x.toInt y.toInt z.toInt u.toInt v.toInt) _ _
    unfold sp_expansionDigit
    rw [zite_f hnv]
    exact ⟨rfl, hW, z_fr.rf⟩
  · have i_3 := z_eq c_3
    rw [tI_0] at i_3
    have hzs : zsy x.toInt := Classical.byContradiction (zbo_f hrn c_3)
    obtain ⟨s1, es1, hs1x, -⟩ := z_nI_of (x := x) hzs.1
    subst es1
    have hs1 : s1 < 2 := by have := hzs.2; omega
    have htn1 : (nI s1).toInt.toNat = s1 := by omega
    obtain ⟨hok, hp, hq, hm, hd⟩ := hSg s1 hs1
    have hPb := zP_bd hok
    have hn12 := hok.2.2.2.1
    have hq1 := hok.2.1
    refine lv_iload_n hx hb dX10_expansionDigit_7 rfl (lv_at hl 3 rfl) ?_
    refine lv_iconst (v := 0) hx hb dX10_expansionDigit_8 (by decide) ?_
    refine lv_bipush (v := 12) hx hb dX10_expansionDigit_9 (by decide) ?_
    refine z_calli (z_runS (As := [.int z, .int 0, .int 12]) (rest := []) ⟨hx, hb, hml, hown, hts⟩ hK hS ((m_in Z g z 0 12) l _) gX10_expansionDigit_X10_in rfl 3 (by decide +kernel) ⟨Nat.le_of_ble_eq_true rfl, Nat.le_of_ble_eq_true rfl⟩ rfl hl.1 rfl (Nat.le_of_ble_eq_true rfl) dX10_expansionDigit_11 ⟨Nat.le_of_ble_eq_true rfl, Nat.le_of_ble_eq_true rfl⟩) hS (fun rl_4 g_5 H locs hp_6 hS => ?_)
    obtain ⟨rfl, hp_6⟩ := hp_6
    have hrl := hp_6
    rw [tI_0, tI_12] at hrl
    refine lv_if_eq (tgt := 32) hx hb dX10_expansionDigit_14 (by decide) (fun c_7 => ?_) (fun c_7 => ?_)
    · have i_7 := z_eq c_7
      rw [tI_0] at i_7
      have hnl := zbo_f hrl c_7
      have hent : ¬ ((0 ≤ z.toInt ∧ z.toInt ≤ 12) ∧ ¬ (0 ≤ v.toInt ∧ v.toInt < z.toInt)) := fun h9 => hnl h9.1
      refine lv_iload_n hx hb dX10_expansionDigit_32 rfl (lv_at hl 2 rfl) ?_
      refine lv_ldc (v := (-100000)) hx hb hown (hts _ (List.mem_of_getElem? (i := 2) rfl)) dX10_expansionDigit_33 ?_
      refine lv_ldc (v := 100000) hx hb hown (hts _ (List.mem_of_getElem? (i := 3) rfl)) dX10_expansionDigit_35 ?_
      refine z_calli (z_runS (As := [.int y, .int (-100000), .int 100000]) (rest := []) ⟨hx, hb, hml, hown, hts⟩ hK hS ((m_in Z g y (-100000) 100000) l _) gX10_expansionDigit_X10_in rfl 3 (by decide +kernel) ⟨Nat.le_of_ble_eq_true rfl, Nat.le_of_ble_eq_true rfl⟩ rfl hl.1 rfl (Nat.le_of_ble_eq_true rfl) dX10_expansionDigit_37 ⟨Nat.le_of_ble_eq_true rfl, Nat.le_of_ble_eq_true rfl⟩) hS (fun r1h g_8 H locs hp_9 hS => ?_)
      obtain ⟨rfl, hp_9⟩ := hp_9
      have hr1h := hp_9
      rw [tI_m100000, tI_100000] at hr1h
      refine lv_if_eq (tgt := 64) hx hb dX10_expansionDigit_40 (by decide) (fun c_10 => ?_) (fun c_10 => ?_)
      · have i_10 := z_eq c_10
        rw [tI_0] at i_10
        have hbad : ¬ ((-100000 ≤ y.toInt ∧ y.toInt ≤ 100000) ∧ (0 ≤ z.toInt ∧ z.toInt ≤ 12) ∧ (0 ≤ u.toInt ∧ u.toInt ≤ 999999)) := fun h9 => zbo_f hr1h c_10 h9.1
        refine lv_ldc (v := (-1000002)) hx hb hown (hts _ (List.mem_of_getElem? (i := 5) rfl)) dX10_expansionDigit_64 ?_
        refine z_iret hx hb hr hlocks hS ?_ dX10_expansionDigit_66
        show z_pm Z g (sp_expansionDigit (sg, rw9) (nI s1).toInt y.toInt z.toInt u.toInt v.toInt) _ _
        unfold sp_expansionDigit
        rw [zite_t hzs, zite_f hent, zite_f hbad]
        exact ⟨rfl, hW, z_fr.rf⟩
      · have i_10 := z_ne c_10
        rw [tI_0] at i_10
        have hym := zbo_t hr1h c_10
        refine lv_iload_n hx hb dX10_expansionDigit_43 rfl (lv_at hl 3 rfl) ?_
        refine lv_iconst (v := 0) hx hb dX10_expansionDigit_44 (by decide) ?_
        refine lv_bipush (v := 12) hx hb dX10_expansionDigit_45 (by decide) ?_
        refine z_calli (z_runS (As := [.int z, .int 0, .int 12]) (rest := []) ⟨hx, hb, hml, hown, hts⟩ hK hS ((m_in Z g z 0 12) l _) gX10_expansionDigit_X10_in rfl 3 (by decide +kernel) ⟨Nat.le_of_ble_eq_true rfl, Nat.le_of_ble_eq_true rfl⟩ rfl hl.1 rfl (Nat.le_of_ble_eq_true rfl) dX10_expansionDigit_47 ⟨Nat.le_of_ble_eq_true rfl, Nat.le_of_ble_eq_true rfl⟩) hS (fun rl2 g_11 H locs hp_12 hS => ?_)
        obtain ⟨rfl, hp_12⟩ := hp_12
        have hrl2 := hp_12
        rw [tI_0, tI_12] at hrl2
        refine lv_if_eq (tgt := 64) hx hb dX10_expansionDigit_50 (by decide) (fun c_13 => ?_) (fun c_13 => ?_)
        · have i_13 := z_eq c_13
          rw [tI_0] at i_13
          have hbad : ¬ ((-100000 ≤ y.toInt ∧ y.toInt ≤ 100000) ∧ (0 ≤ z.toInt ∧ z.toInt ≤ 12) ∧ (0 ≤ u.toInt ∧ u.toInt ≤ 999999)) := fun h9 => hnl h9.2.1
          refine lv_ldc (v := (-1000002)) hx hb hown (hts _ (List.mem_of_getElem? (i := 5) rfl)) dX10_expansionDigit_64 ?_
          refine z_iret hx hb hr hlocks hS ?_ dX10_expansionDigit_66
          show z_pm Z g (sp_expansionDigit (sg, rw9) (nI s1).toInt y.toInt z.toInt u.toInt v.toInt) _ _
          unfold sp_expansionDigit
          rw [zite_t hzs, zite_f hent, zite_f hbad]
          exact ⟨rfl, hW, z_fr.rf⟩
        · have i_13 := z_ne c_13
          rw [tI_0] at i_13
          exact absurd (zbo_t hrl2 c_13) hnl
    · have i_7 := z_ne c_7
      rw [tI_0] at i_7
      have hlen := zbo_t hrl c_7
      obtain ⟨L9, eL9, hL9, -⟩ := z_nI_of (x := z) hlen.1
      subst eL9
      have htL : (nI L9).toInt.toNat = L9 := by omega
      have hL12 : L9 ≤ 12 := by omega
      refine lv_iload hx hb dX10_expansionDigit_17 (lv_at hl 5 rfl) ?_
      refine lv_iconst (v := 0) hx hb dX10_expansionDigit_19 (by decide) ?_
      refine lv_iload_n hx hb dX10_expansionDigit_20 rfl (lv_at hl 3 rfl) ?_
      refine lv_iconst (v := 1) hx hb dX10_expansionDigit_21 (by decide) ?_
      refine lv_isub hx hb dX10_expansionDigit_22 ?_
      refine z_calli (z_runS (As := [.int v, .int 0, .int ((nI L9) - 1)]) (rest := []) ⟨hx, hb, hml, hown, hts⟩ hK hS ((m_in Z g v 0 (nI L9 - 1)) l _) gX10_expansionDigit_X10_in rfl 3 (by decide +kernel) ⟨Nat.le_of_ble_eq_true rfl, Nat.le_of_ble_eq_true rfl⟩ rfl hl.1 rfl (Nat.le_of_ble_eq_true rfl) dX10_expansionDigit_23 ⟨Nat.le_of_ble_eq_true rfl, Nat.le_of_ble_eq_true rfl⟩) hS (fun re g_14 H locs hp_15 hS => ?_)
      obtain ⟨rfl, hp_15⟩ := hp_15
      have hre := hp_15
      rw [tI_0, zm_pred (by omega)] at hre
      refine lv_if_ne (tgt := 32) hx hb dX10_expansionDigit_26 (by decide) (fun c_16 => ?_) (fun c_16 => ?_)
      · have i_16 := z_ne c_16
        rw [tI_0] at i_16
        have hin5 := zbo_t hre c_16
        obtain ⟨e9, ee9, he9, -⟩ := z_nI_of (x := v) hin5.1
        subst ee9
        have he9L : e9 < L9 := by omega
        have hte : (nI e9).toInt.toNat = e9 := by omega
        have hent : ¬ ((0 ≤ (nI L9).toInt ∧ (nI L9).toInt ≤ 12) ∧ ¬ (0 ≤ (nI e9).toInt ∧ (nI e9).toInt < (nI L9).toInt)) := fun h9 => h9.2 ⟨by omega, by omega⟩
        refine lv_iload_n hx hb dX10_expansionDigit_32 rfl (lv_at hl 2 rfl) ?_
        refine lv_ldc (v := (-100000)) hx hb hown (hts _ (List.mem_of_getElem? (i := 2) rfl)) dX10_expansionDigit_33 ?_
        refine lv_ldc (v := 100000) hx hb hown (hts _ (List.mem_of_getElem? (i := 3) rfl)) dX10_expansionDigit_35 ?_
        refine z_calli (z_runS (As := [.int y, .int (-100000), .int 100000]) (rest := []) ⟨hx, hb, hml, hown, hts⟩ hK hS ((m_in Z g y (-100000) 100000) l _) gX10_expansionDigit_X10_in rfl 3 (by decide +kernel) ⟨Nat.le_of_ble_eq_true rfl, Nat.le_of_ble_eq_true rfl⟩ rfl hl.1 rfl (Nat.le_of_ble_eq_true rfl) dX10_expansionDigit_37 ⟨Nat.le_of_ble_eq_true rfl, Nat.le_of_ble_eq_true rfl⟩) hS (fun r1h g_17 H locs hp_18 hS => ?_)
        obtain ⟨rfl, hp_18⟩ := hp_18
        have hr1h := hp_18
        rw [tI_m100000, tI_100000] at hr1h
        refine lv_if_eq (tgt := 64) hx hb dX10_expansionDigit_40 (by decide) (fun c_19 => ?_) (fun c_19 => ?_)
        · have i_19 := z_eq c_19
          rw [tI_0] at i_19
          have hbad : ¬ ((-100000 ≤ y.toInt ∧ y.toInt ≤ 100000) ∧ (0 ≤ (nI L9).toInt ∧ (nI L9).toInt ≤ 12) ∧ (0 ≤ u.toInt ∧ u.toInt ≤ 999999)) := fun h9 => zbo_f hr1h c_19 h9.1
          refine lv_ldc (v := (-1000002)) hx hb hown (hts _ (List.mem_of_getElem? (i := 5) rfl)) dX10_expansionDigit_64 ?_
          refine z_iret hx hb hr hlocks hS ?_ dX10_expansionDigit_66
          show z_pm Z g (sp_expansionDigit (sg, rw9) (nI s1).toInt y.toInt (nI L9).toInt u.toInt (nI e9).toInt) _ _
          unfold sp_expansionDigit
          rw [zite_t hzs, zite_f hent, zite_f hbad]
          exact ⟨rfl, hW, z_fr.rf⟩
        · have i_19 := z_ne c_19
          rw [tI_0] at i_19
          have hym := zbo_t hr1h c_19
          refine lv_iload_n hx hb dX10_expansionDigit_43 rfl (lv_at hl 3 rfl) ?_
          refine lv_iconst (v := 0) hx hb dX10_expansionDigit_44 (by decide) ?_
          refine lv_bipush (v := 12) hx hb dX10_expansionDigit_45 (by decide) ?_
          refine z_calli (z_runS (As := [.int (nI L9), .int 0, .int 12]) (rest := []) ⟨hx, hb, hml, hown, hts⟩ hK hS ((m_in Z g (nI L9) 0 12) l _) gX10_expansionDigit_X10_in rfl 3 (by decide +kernel) ⟨Nat.le_of_ble_eq_true rfl, Nat.le_of_ble_eq_true rfl⟩ rfl hl.1 rfl (Nat.le_of_ble_eq_true rfl) dX10_expansionDigit_47 ⟨Nat.le_of_ble_eq_true rfl, Nat.le_of_ble_eq_true rfl⟩) hS (fun rl2 g_20 H locs hp_21 hS => ?_)
          obtain ⟨rfl, hp_21⟩ := hp_21
          have hrl2 := hp_21
          rw [tI_0, tI_12] at hrl2
          refine lv_if_eq (tgt := 64) hx hb dX10_expansionDigit_50 (by decide) (fun c_22 => ?_) (fun c_22 => ?_)
          · have i_22 := z_eq c_22
            rw [tI_0] at i_22
            exact absurd hlen (zbo_f hrl2 c_22)
          · have i_22 := z_ne c_22
            rw [tI_0] at i_22
            have hlen2 := zbo_t hrl2 c_22
            refine lv_iload hx hb dX10_expansionDigit_53 (lv_at hl 4 rfl) ?_
            refine lv_iconst (v := 0) hx hb dX10_expansionDigit_55 (by decide) ?_
            refine lv_ldc (v := 999999) hx hb hown (hts _ (List.mem_of_getElem? (i := 4) rfl)) dX10_expansionDigit_56 ?_
            refine z_calli (z_runS (As := [.int u, .int 0, .int 999999]) (rest := []) ⟨hx, hb, hml, hown, hts⟩ hK hS ((m_in Z g u 0 999999) l _) gX10_expansionDigit_X10_in rfl 3 (by decide +kernel) ⟨Nat.le_of_ble_eq_true rfl, Nat.le_of_ble_eq_true rfl⟩ rfl hl.1 rfl (Nat.le_of_ble_eq_true rfl) dX10_expansionDigit_58 ⟨Nat.le_of_ble_eq_true rfl, Nat.le_of_ble_eq_true rfl⟩) hS (fun r3h g_23 H locs hp_24 hS => ?_)
            obtain ⟨rfl, hp_24⟩ := hp_24
            have hr3h := hp_24
            rw [tI_0, tI_999999] at hr3h
            refine lv_if_ne (tgt := 67) hx hb dX10_expansionDigit_61 (by decide) (fun c_25 => ?_) (fun c_25 => ?_)
            · have i_25 := z_ne c_25
              rw [tI_0] at i_25
              have hum := zbo_t hr3h c_25
              refine lv_aload_n hx hb dX10_expansionDigit_67 rfl (lv_at hl 0 rfl) ?_
              refine lv_iload_n hx hb dX10_expansionDigit_68 rfl (lv_at hl 1 rfl) ?_
              refine lv_iload_n hx hb dX10_expansionDigit_69 rfl (lv_at hl 2 rfl) ?_
              refine lv_iload_n hx hb dX10_expansionDigit_70 rfl (lv_at hl 3 rfl) ?_
              refine z_callv (z_runV (As := [.int (nI s1), .int y, .int (nI L9)]) (rest := []) ⟨hx, hb, hml, hown, hts⟩ hK hS ((m_layLevels Z g sg ⟨_, _, _, _, _, _, fu, fq, fm, fd, h_m, h_u, h_q, h_n9, h_g, hMN, hSg⟩ s1 hs1 ln la wa h_lm h_la h_wa y hym L9 hL12) l _) gX10_expansionDigit_X10_layLevels rfl 3 (by decide +kernel) ⟨Nat.le_of_ble_eq_true rfl, Nat.le_of_ble_eq_true rfl⟩ h_m hM41 rfl rfl hl.1 rfl (Nat.le_of_ble_eq_true rfl) dX10_expansionDigit_71 ⟨Nat.le_of_ble_eq_true rfl, Nat.le_of_ble_eq_true rfl⟩) hS (fun g_27 H locs hp_28 hS => ?_)
              obtain ⟨ln1, la1, wa1, h_lm, h_la, h_wa, hly, hfr_29⟩ := hp_28
              have h_m := (hfr_29 _ (by omega)).trans h_m
              have h_u := (hfr_29 _ (by omega)).trans h_u
              have h_q := (hfr_29 _ (by omega)).trans h_q
              have h_n9 := (hfr_29 _ (by omega)).trans h_n9
              have h_g := (hfr_29 _ (by omega)).trans h_g
              have hw0 := zly_0 hly
              refine lv_iload hx hb dX10_expansionDigit_74 (lv_at hl 4 rfl) ?_
              refine lv_aload_n hx hb dX10_expansionDigit_76 rfl (lv_at hl 0 rfl) ?_
              refine z_get (own := RX10) (C := RX10) (T := TX10) (N := 21) hx hb hts in_X10_expansionDigit_10 hown hK hS h_m hM41 rfl 12 (by decide) (List.mem_of_getElem? (i := 6) rfl) rfl rfl dX10_expansionDigit_77 ?_
              refine lv_iconst (v := 0) hx hb dX10_expansionDigit_80 (by decide) ?_
              refine z_iald hx hb hK hS h_wa hM51 (vp_in_iff.mpr (by rw [tI_0]; omega)) dX10_expansionDigit_81 ?_
              rw [show wa1 (0 : Int32).toNatClampNeg = wa1 0 from rfl]
              refine lv_icmp_lt (tgt := 88) hx hb dX10_expansionDigit_82 (by decide) (fun c_30 => ?_) (fun c_30 => ?_)
              · have i_30 := z_lt c_30
                have huk : u.toInt < zwy (sg s1) L9 y.toInt := (zcap_lt hum.2).mp (by omega)
                obtain ⟨lo, hlo⟩ := zbd_is hok hym
                refine lv_iload hx hb dX10_expansionDigit_88 (lv_at hl 4 rfl) ?_
                refine lv_istore (lv' := [(6, .int u), (0, .ref (Z.2.1 41)), (1, .int (nI s1)), (2, .int y), (3, .int (nI L9)), (4, .int u), (5, .int (nI e9))]) hx hb dX10_expansionDigit_90 hl (by decide) rfl (fun ls hl => ?_)
                refine lv_iload_n hx hb dX10_expansionDigit_92 rfl (lv_at hl 3 rfl) ?_
                refine lv_istore (lv' := [(7, .int y), (6, .int u), (0, .ref (Z.2.1 41)), (1, .int (nI s1)), (2, .int y), (3, .int (nI L9)), (4, .int u), (5, .int (nI e9))]) hx hb dX10_expansionDigit_93 hl (by decide) rfl (fun ls hl => ?_)
                refine lv_iconst (v := 0) hx hb dX10_expansionDigit_95 (by decide) ?_
                refine lv_istore (lv' := [(8, .int 0), (7, .int y), (6, .int u), (0, .ref (Z.2.1 41)), (1, .int (nI s1)), (2, .int y), (3, .int (nI L9)), (4, .int u), (5, .int (nI e9))]) hx hb dX10_expansionDigit_96 hl (by decide) rfl (fun ls hl => ?_)
                refine lv_iconst (v := 0) hx hb dX10_expansionDigit_98 (by decide) ?_
                refine lv_istore (lv' := [(9, .int 0), (8, .int 0), (7, .int y), (6, .int u), (0, .ref (Z.2.1 41)), (1, .int (nI s1)), (2, .int y), (3, .int (nI L9)), (4, .int u), (5, .int (nI e9))]) hx hb dX10_expansionDigit_99 hl (by decide) rfl (fun ls hl => ?_)
                have hcut_101 : ∀ (nn_101 : Nat) (lw : Nat) (lf : Int32) (vv : Int32) (dg : Int32) (hst : ((lw ≤ e9 ∧ (0 ≤ lf.toInt ∧ lf.toInt ≤ 999999) ∧ lf.toInt < zwy (sg s1) (L9 - lw) vv.toInt ∧ zrb (sg s1) y.toInt lw vv.toInt ∧ zexd (sg s1) L9 y.toInt u.toInt e9 = zexd (sg s1) (L9 - lw) vv.toInt lf.toInt (e9 - lw)) ∨ (lw = e9 + 1 ∧ dg.toInt = zexd (sg s1) L9 y.toInt u.toInt e9))) (hm_101 : e9 + 1 - lw < nn_101) (H : Heap) (locs : List Loc) (ls : Array Slot), z_S Z (z_A Z sz) s.heap g_27 H locs → lv_has ls 13 [(0, .ref (Z.2.1 41)), (1, .int (nI s1)), (2, .int y), (3, .int (nI L9)), (4, .int u), (5, .int (nI e9)), (6, .int lf), (7, .int vv), (8, .int dg), (9, .int (nI lw))] → W p l e (headSpec wsX10_expansionDigit (z_rm 2 50)).room s m args below meth c H locs 0 0 (MQ below (va_Qi (fun r g1 => z_pm Z g (sp_expansionDigit (sg, rw9) (nI s1).toInt y.toInt (nI L9).toInt u.toInt (nI e9).toInt) r g1) (z_B Z) (z_A Z sz)) args s 0 0 (z_A Z sz)) (F0 m 101 ls []) := by
                  intro nn_101
                  induction nn_101 with
                  | zero => intro lw lf vv dg hst hm_101 H locs ls hS hl; exact absurd hm_101 (Nat.not_lt_zero _)
                  | succ nn_101 ih_101 =>
                    intro lw lf vv dg hst hm_101 H locs ls hS hl
                    refine lv_iload hx hb dX10_expansionDigit_101 (lv_at hl 9 rfl) ?_
                    refine lv_iload hx hb dX10_expansionDigit_103 (lv_at hl 5 rfl) ?_
                    refine lv_icmp_gt (tgt := 238) hx hb dX10_expansionDigit_105 (by decide) (fun c_31 => ?_) (fun c_31 => ?_)
                    · have i_31 := z_lt c_31
                      rw [nI_toInt (by omega)] at i_31
                      rw [nI_toInt (by omega)] at i_31
                      have hret : dg.toInt = zexd (sg s1) L9 y.toInt u.toInt e9 := by
                        rcases hst with h9 | h9
                        · exfalso; omega
                        · exact h9.2
                      refine lv_iload hx hb dX10_expansionDigit_238 (lv_at hl 8 rfl) ?_
                      refine z_iret hx hb hr hlocks hS ?_ dX10_expansionDigit_240
                      show z_pm Z g (sp_expansionDigit (sg, rw9) (nI s1).toInt y.toInt (nI L9).toInt u.toInt (nI e9).toInt) _ _
                      unfold sp_expansionDigit
                      rw [zite_t hzs, zite_f hent, zite_t ⟨hym, hlen, hum⟩, htn1, htL, hte, zite_t huk]
                      have hfz : z_fr 49 3 g g_27 := (z_fr.rf.tr (hfr_29.wide (by omega) (by omega)))
                      exact ⟨hret, ⟨⟨_, _, _, _, _, _, fu, fq, fm, fd, h_m, h_u, h_q, h_n9, h_g, hMN, hSg⟩, hW.2.lay h_lm h_la h_wa (fun j h1 h2 h3 => hfz j (by omega))⟩, hfz.wide (by omega) (by omega)⟩
                    · have i_31 := z_nlt c_31
                      rw [nI_toInt (by omega)] at i_31
                      rw [nI_toInt (by omega)] at i_31
                      obtain ⟨hle, hlf, hlz, hrv, hex⟩ := hst.resolve_right (fun h9 => by omega)
                      have hvr := (hlo lw (by omega)).2 _ hrv
                      obtain ⟨d, hd9L⟩ : ∃ d, L9 - lw = d + 1 := ⟨L9 - lw - 1, by omega⟩
                      rw [hd9L] at hlz hex
                      rw [zwy_succ] at hlz
                      refine lv_iconst (v := 0) hx hb dX10_expansionDigit_108 (by decide) ?_
                      refine lv_istore (lv' := [(10, .int 0), (0, .ref (Z.2.1 41)), (1, .int (nI s1)), (2, .int y), (3, .int (nI L9)), (4, .int u), (5, .int (nI e9)), (6, .int lf), (7, .int vv), (8, .int dg), (9, .int (nI lw))]) hx hb dX10_expansionDigit_109 hl (by decide) rfl (fun ls hl => ?_)
                      refine lv_iconst (v := 1) hx hb dX10_expansionDigit_111 (by decide) ?_
                      refine lv_istore (lv' := [(11, .int 1), (10, .int 0), (0, .ref (Z.2.1 41)), (1, .int (nI s1)), (2, .int y), (3, .int (nI L9)), (4, .int u), (5, .int (nI e9)), (6, .int lf), (7, .int vv), (8, .int dg), (9, .int (nI lw))]) hx hb dX10_expansionDigit_112 hl (by decide) rfl (fun ls hl => ?_)
                      have hcut_114 : ∀ (nn_114 : Nat) (a9 : Nat) (lf2 : Int32) (mo : Int32) (hmo : ((mo.toInt = 1 ∧ a9 ≤ (sg s1).2.2.1 ∧ (0 ≤ lf2.toInt ∧ lf2.toInt ≤ 999999) ∧ zsel (zwb (sg s1) d vv.toInt) ((sg s1).2.2.1 - a9) a9 lf2.toInt = zsel (zwb (sg s1) d vv.toInt) (sg s1).2.2.1 0 lf.toInt ∧ lf2.toInt < zsum (zwb (sg s1) d vv.toInt) (sg s1).2.2.1 - zsum (zwb (sg s1) d vv.toInt) a9) ∨ (mo.toInt = 0 ∧ a9 < (sg s1).2.2.1 ∧ (0 ≤ lf2.toInt ∧ lf2.toInt ≤ 999999) ∧ lf2.toInt < (zwb (sg s1) d vv.toInt a9) ∧ zsel (zwb (sg s1) d vv.toInt) (sg s1).2.2.1 0 lf.toInt = (a9, lf2.toInt)))) (hm_114 : (sg s1).2.2.1 - a9 + mo.toInt.toNat < nn_114) (H : Heap) (locs : List Loc) (ls : Array Slot), z_S Z (z_A Z sz) s.heap g_27 H locs → lv_has ls 13 [(0, .ref (Z.2.1 41)), (1, .int (nI s1)), (2, .int y), (3, .int (nI L9)), (4, .int u), (5, .int (nI e9)), (6, .int lf2), (7, .int vv), (8, .int dg), (9, .int (nI lw)), (10, .int (nI a9)), (11, .int mo)] → W p l e (headSpec wsX10_expansionDigit (z_rm 2 50)).room s m args below meth c H locs 0 0 (MQ below (va_Qi (fun r g1 => z_pm Z g (sp_expansionDigit (sg, rw9) (nI s1).toInt y.toInt (nI L9).toInt u.toInt (nI e9).toInt) r g1) (z_B Z) (z_A Z sz)) args s 0 0 (z_A Z sz)) (F0 m 114 ls []) := by
                        intro nn_114
                        induction nn_114 with
                        | zero => intro a9 lf2 mo hmo hm_114 H locs ls hS hl; exact absurd hm_114 (Nat.not_lt_zero _)
                        | succ nn_114 ih_114 =>
                          intro a9 lf2 mo hmo hm_114 H locs ls hS hl
                          refine lv_iload hx hb dX10_expansionDigit_114 (lv_at hl 11 rfl) ?_
                          refine lv_if_eq (tgt := 207) hx hb dX10_expansionDigit_116 (by decide) (fun c_32 => ?_) (fun c_32 => ?_)
                          · have i_32 := z_eq c_32
                            rw [tI_0] at i_32
                            obtain ⟨-, hac, hl2, hlt2, hsel⟩ := hmo.resolve_left (fun h9 => by omega)
                            have hd9 : (sg s1).1 ∣ ((sg s1).2.1 * vv.toInt - (sg s1).2.2.2 a9) := Classical.byContradiction (fun h9 => by rw [zwb_no h9] at hlt2; omega)
                            rw [zwb_pos hd9] at hlt2
                            have hda := hd a9 hac
                            refine lv_aload_n hx hb dX10_expansionDigit_207 rfl (lv_at hl 0 rfl) ?_
                            refine z_get (own := RX10) (C := RX10) (T := TX10) (N := 21) hx hb hts in_X10_expansionDigit_10 hown hK hS h_m hM41 rfl 3 (by decide) (List.mem_of_getElem? (i := 8) rfl) rfl rfl dX10_expansionDigit_208 ?_
                            refine lv_bipush (v := 12) hx hb dX10_expansionDigit_211 (by decide) ?_
                            refine lv_iload_n hx hb dX10_expansionDigit_213 rfl (lv_at hl 1 rfl) ?_
                            refine lv_imul hx hb dX10_expansionDigit_214 ?_
                            refine lv_iload hx hb dX10_expansionDigit_215 (lv_at hl 10 rfl) ?_
                            refine lv_iadd hx hb dX10_expansionDigit_217 ?_
                            rw [show (12 * (nI s1)) + (nI a9) = nI (12 * s1 + a9) from zm_ix (by omega) (by omega)]
                            refine z_iald hx hb hK hS h_g hM45 (vp_in_nI (by omega) (by omega)) dX10_expansionDigit_218 ?_
                            rw [show fd (nI (12 * s1 + a9)).toNatClampNeg = fd (12 * s1 + a9) from by rw [nI_clamp (by omega)]]
                            refine lv_topi (fun dg2 edg2 => ?_)
                            have hdg2 : dg2.toInt = (sg s1).2.2.2 a9 := by rw [edg2]; exact hda
                            refine lv_istore (lv' := [(8, .int dg2), (0, .ref (Z.2.1 41)), (1, .int (nI s1)), (2, .int y), (3, .int (nI L9)), (4, .int u), (5, .int (nI e9)), (6, .int lf2), (7, .int vv), (9, .int (nI lw)), (10, .int (nI a9)), (11, .int mo)]) hx hb dX10_expansionDigit_219 hl (by decide) rfl (fun ls hl => ?_)
                            refine lv_aload_n hx hb dX10_expansionDigit_221 rfl (lv_at hl 1 rfl) ?_
                            refine lv_iload_n hx hb dX10_expansionDigit_222 rfl (lv_at hl 2 rfl) ?_
                            refine lv_iload hx hb dX10_expansionDigit_223 (lv_at hl 8 rfl) ?_
                            refine lv_iload hx hb dX10_expansionDigit_225 (lv_at hl 10 rfl) ?_
                            refine z_calli (z_runV (As := [.int (nI s1), .int vv, .int (nI a9)]) (rest := []) ⟨hx, hb, hml, hown, hts⟩ hK hS ((m_rest Z g_27 sg ⟨_, _, _, _, _, _, fu, fq, fm, fd, h_m, h_u, h_q, h_n9, h_g, hMN, hSg⟩ s1 hs1 (vv) (by omega) a9 (by omega)) l _) gX10_expansionDigit_X10_rest rfl 3 (by decide +kernel) ⟨Nat.le_of_ble_eq_true rfl, Nat.le_of_ble_eq_true rfl⟩ h_m hM41 rfl rfl hl.1 rfl (Nat.le_of_ble_eq_true rfl) dX10_expansionDigit_227 ⟨Nat.le_of_ble_eq_true rfl, Nat.le_of_ble_eq_true rfl⟩) hS (fun rs g_33 H locs hp_34 hS => ?_)
                            obtain ⟨rfl, hp_34⟩ := hp_34
                            have hrs := hp_34
                            have hst2 : ((lw + 1 ≤ e9 ∧ (0 ≤ lf2.toInt ∧ lf2.toInt ≤ 999999) ∧ lf2.toInt < zwy (sg s1) (L9 - (lw + 1)) rs.toInt ∧ zrb (sg s1) y.toInt (lw + 1) rs.toInt ∧ zexd (sg s1) L9 y.toInt u.toInt e9 = zexd (sg s1) (L9 - (lw + 1)) rs.toInt lf2.toInt (e9 - (lw + 1))) ∨ (lw + 1 = e9 + 1 ∧ dg2.toInt = zexd (sg s1) L9 y.toInt u.toInt e9)) := by
                              by_cases h9 : lw = e9
                              · refine Or.inr ⟨by omega, ?_⟩
                                rw [hdg2, hex, show e9 - lw = 0 by omega, zexd_0 hsel]
                              · refine Or.inl ⟨by omega, hl2, ?_, ?_, ?_⟩
                                · rw [hrs, show L9 - (lw + 1) = d by omega]; exact hlt2
                                · rw [hrs]; exact zrb_next hrv hac hd9
                                · rw [hex, show e9 - lw = (e9 - (lw + 1)) + 1 by omega, zexd_s hsel, hrs, show L9 - (lw + 1) = d by omega]
                            refine lv_istore (lv' := [(7, .int rs), (8, .int dg2), (0, .ref (Z.2.1 41)), (1, .int (nI s1)), (2, .int y), (3, .int (nI L9)), (4, .int u), (5, .int (nI e9)), (6, .int lf2), (9, .int (nI lw)), (10, .int (nI a9)), (11, .int mo)]) hx hb dX10_expansionDigit_230 hl (by decide) rfl (fun ls hl => ?_)
                            refine lv_iinc (v := (nI (lw + 1))) (lv' := [(9, .int (nI (lw + 1))), (7, .int rs), (8, .int dg2), (0, .ref (Z.2.1 41)), (1, .int (nI s1)), (2, .int y), (3, .int (nI L9)), (4, .int u), (5, .int (nI e9)), (6, .int lf2), (10, .int (nI a9)), (11, .int mo)]) hx hb dX10_expansionDigit_232 hl (k := 9) rfl (nI_1 _) (by decide) rfl (fun ls hl => ?_)
                            refine lv_goto (tgt := 101) hx hb dX10_expansionDigit_235 (by decide) ?_
                            exact ih_101 (lw + 1) lf2 rs dg2 hst2 (by omega) _ _ _ hS (lv_sub hl [3, 4, 5, 6, 7, 8, 9, 1, 2, 0] rfl)
                          · have i_32 := z_ne c_32
                            rw [tI_0] at i_32
                            obtain ⟨hmo1, hacl, hl2, hsel, hlz2⟩ := hmo.resolve_right (fun h9 => by omega)
                            have hac : a9 < (sg s1).2.2.1 := by
                              rcases Nat.lt_or_ge a9 (sg s1).2.2.1 with h9 | h9
                              · exact h9
                              · exfalso
                                have h8 : a9 = (sg s1).2.2.1 := by omega
                                rw [h8] at hlz2; omega
                            refine lv_aload_n hx hb dX10_expansionDigit_119 rfl (lv_at hl 0 rfl) ?_
                            refine lv_iload_n hx hb dX10_expansionDigit_120 rfl (lv_at hl 1 rfl) ?_
                            refine lv_iload hx hb dX10_expansionDigit_121 (lv_at hl 7 rfl) ?_
                            refine lv_iload hx hb dX10_expansionDigit_123 (lv_at hl 10 rfl) ?_
                            refine z_calli (z_runV (As := [.int (nI s1), .int vv, .int (nI a9)]) (rest := []) ⟨hx, hb, hml, hown, hts⟩ hK hS ((m_fits Z g_27 sg ⟨_, _, _, _, _, _, fu, fq, fm, fd, h_m, h_u, h_q, h_n9, h_g, hMN, hSg⟩ s1 hs1 (vv) (by omega) a9 (by omega)) l _) gX10_expansionDigit_X10_fits rfl 3 (by decide +kernel) ⟨Nat.le_of_ble_eq_true rfl, Nat.le_of_ble_eq_true rfl⟩ h_m hM41 rfl rfl hl.1 rfl (Nat.le_of_ble_eq_true rfl) dX10_expansionDigit_125 ⟨Nat.le_of_ble_eq_true rfl, Nat.le_of_ble_eq_true rfl⟩) hS (fun ft g_35 H locs hp_36 hS => ?_)
                            obtain ⟨rfl, hp_36⟩ := hp_36
                            have hft := hp_36
                            refine lv_if_eq (tgt := 156) hx hb dX10_expansionDigit_128 (by decide) (fun c_37 => ?_) (fun c_37 => ?_)
                            · have i_37 := z_eq c_37
                              rw [tI_0] at i_37
                              have hnd := zbo_f hft c_37
                              have hwv : (0 : Int32).toInt = zcap (zwb (sg s1) d vv.toInt a9) := by rw [zwb_no hnd]; rfl
                              have h0z := tI_0
                              refine lv_iconst (v := 0) hx hb dX10_expansionDigit_156 (by decide) ?_
                              refine lv_istore (lv' := [(12, .int 0), (0, .ref (Z.2.1 41)), (1, .int (nI s1)), (2, .int y), (3, .int (nI L9)), (4, .int u), (5, .int (nI e9)), (6, .int lf2), (7, .int vv), (8, .int dg), (9, .int (nI lw)), (10, .int (nI a9)), (11, .int mo)]) hx hb dX10_expansionDigit_157 hl (by decide) rfl (fun ls hl => ?_)
                              have hwb := zcap_bd (zwb_pos2 hok d vv.toInt a9)
                              rw [← hwv] at hwb
                              refine lv_iload hx hb dX10_expansionDigit_159 (lv_at hl 7 rfl) ?_
                              refine lv_iload hx hb dX10_expansionDigit_161 (lv_at hl 0 rfl) ?_
                              refine lv_icmp_lt (tgt := 170) hx hb dX10_expansionDigit_163 (by decide) (fun c_38 => ?_) (fun c_38 => ?_)
                              · have i_38 := z_lt c_38
                                rw [tI_0] at i_38
                                have hcap : lf2.toInt < (zwb (sg s1) d vv.toInt a9) := (zcap_lt hl2.2).mp (by rw [← hwv]; omega)
                                have hzs2 : zsel (zwb (sg s1) d vv.toInt) (sg s1).2.2.1 0 lf.toInt = (a9, lf2.toInt) := by rw [← hsel]; exact zsel_yes hac hcap
                                refine lv_iconst (v := 0) hx hb dX10_expansionDigit_170 (by decide) ?_
                                refine lv_istore (lv' := [(11, .int 0), (12, .int 0), (0, .ref (Z.2.1 41)), (1, .int (nI s1)), (2, .int y), (3, .int (nI L9)), (4, .int u), (5, .int (nI e9)), (6, .int lf2), (7, .int vv), (8, .int dg), (9, .int (nI lw)), (10, .int (nI a9))]) hx hb dX10_expansionDigit_171 hl (by decide) rfl (fun ls hl => ?_)
                                refine lv_iload hx hb dX10_expansionDigit_173 (lv_at hl 8 rfl) ?_
                                refine lv_iload hx hb dX10_expansionDigit_175 (lv_at hl 0 rfl) ?_
                                refine lv_if_eq (tgt := 185) hx hb dX10_expansionDigit_177 (by decide) (fun c_39 => ?_) (fun c_39 => ?_)
                                · have i_39 := z_eq c_39
                                  rw [tI_0] at i_39
                                  
                                  refine lv_iconst (v := 0) hx hb dX10_expansionDigit_185 (by decide) ?_
                                  refine lv_isub hx hb dX10_expansionDigit_186 ?_
                                  refine lv_topi (fun lf3 elf3 => ?_)
                                  rw [Int32_sub0] at elf3
                                  have hlf3 : lf3.toInt = lf2.toInt := congrArg _ elf3
                                  rw [← hlf3] at hzs2 hcap
                                  refine lv_istore (lv' := [(6, .int lf3), (11, .int 0), (12, .int 0), (0, .ref (Z.2.1 41)), (1, .int (nI s1)), (2, .int y), (3, .int (nI L9)), (4, .int u), (5, .int (nI e9)), (7, .int vv), (8, .int dg), (9, .int (nI lw)), (10, .int (nI a9))]) hx hb dX10_expansionDigit_187 hl (by decide) rfl (fun ls hl => ?_)
                                  refine lv_iload hx hb dX10_expansionDigit_189 (lv_at hl 12 rfl) ?_
                                  refine lv_iload hx hb dX10_expansionDigit_191 (lv_at hl 1 rfl) ?_
                                  refine lv_if_eq (tgt := 200) hx hb dX10_expansionDigit_193 (by decide) (fun c_40 => ?_) (fun c_40 => ?_)
                                  · have i_40 := z_eq c_40
                                    rw [tI_0] at i_40
                                    
                                    refine lv_iconst (v := 0) hx hb dX10_expansionDigit_200 (by decide) ?_
                                    refine lv_iadd hx hb dX10_expansionDigit_201 ?_
                                    rw [show (nI a9) + 0 = nI a9 from Int32_add0 _]
                                    refine lv_istore (lv' := [(10, .int (nI a9)), (6, .int lf3), (11, .int 0), (12, .int 0), (0, .ref (Z.2.1 41)), (1, .int (nI s1)), (2, .int y), (3, .int (nI L9)), (4, .int u), (5, .int (nI e9)), (7, .int vv), (8, .int dg), (9, .int (nI lw))]) hx hb dX10_expansionDigit_202 hl (by decide) rfl (fun ls hl => ?_)
                                    refine lv_goto (tgt := 114) hx hb dX10_expansionDigit_204 (by decide) ?_
                                    exact ih_114 a9 lf3 0 (Or.inr ⟨rfl, hac, by omega, by omega, hzs2⟩) (by rw [tI_0]; omega) _ _ _ hS (lv_sub hl [4, 5, 6, 7, 8, 9, 1, 10, 11, 12, 0, 2] rfl)
                                  · have i_40 := z_ne c_40
                                    rw [tI_0] at i_40
                                    exfalso; omega
                                · have i_39 := z_ne c_39
                                  rw [tI_0] at i_39
                                  exfalso; omega
                              · have i_38 := z_nlt c_38
                                rw [tI_0] at i_38
                                have hcap := zcap_eq (x := (zwb (sg s1) d vv.toInt a9)) hl2.2 (by rw [← hwv]; omega)
                                rw [hcap] at hwv
                                have hsa : zsum (zwb (sg s1) d vv.toInt) (a9 + 1) = zsum (zwb (sg s1) d vv.toInt) a9 + (zwb (sg s1) d vv.toInt a9) := rfl
                                refine lv_iconst (v := 1) hx hb dX10_expansionDigit_166 (by decide) ?_
                                refine lv_goto (tgt := 171) hx hb dX10_expansionDigit_167 (by decide) ?_
                                refine lv_istore (lv' := [(11, .int 1), (12, .int 0), (0, .ref (Z.2.1 41)), (1, .int (nI s1)), (2, .int y), (3, .int (nI L9)), (4, .int u), (5, .int (nI e9)), (6, .int lf2), (7, .int vv), (8, .int dg), (9, .int (nI lw)), (10, .int (nI a9))]) hx hb dX10_expansionDigit_171 hl (by decide) rfl (fun ls hl => ?_)
                                refine lv_iload hx hb dX10_expansionDigit_173 (lv_at hl 8 rfl) ?_
                                refine lv_iload hx hb dX10_expansionDigit_175 (lv_at hl 0 rfl) ?_
                                refine lv_if_eq (tgt := 185) hx hb dX10_expansionDigit_177 (by decide) (fun c_41 => ?_) (fun c_41 => ?_)
                                · have i_41 := z_eq c_41
                                  rw [tI_1] at i_41
                                  rw [tI_0] at i_41
                                  exfalso; omega
                                · have i_41 := z_ne c_41
                                  rw [tI_1] at i_41
                                  rw [tI_0] at i_41
                                  
                                  refine lv_iload hx hb dX10_expansionDigit_180 (lv_at hl 1 rfl) ?_
                                  refine lv_goto (tgt := 186) hx hb dX10_expansionDigit_182 (by decide) ?_
                                  refine lv_isub hx hb dX10_expansionDigit_186 ?_
                                  refine lv_topi (fun lf3 elf3 => ?_)
                                  have hlf3 : lf3.toInt = lf2.toInt - (0 : Int32).toInt := by rw [elf3, fb_subI (by omega) (by omega)]
                                  have hzs2 : zsel (zwb (sg s1) d vv.toInt) ((sg s1).2.2.1 - (a9 + 1)) (a9 + 1) lf3.toInt = zsel (zwb (sg s1) d vv.toInt) (sg s1).2.2.1 0 lf.toInt := by rw [hlf3, hwv, ← hsel]; exact zsel_no hac (by omega)
                                  refine lv_istore (lv' := [(6, .int lf3), (11, .int 1), (12, .int 0), (0, .ref (Z.2.1 41)), (1, .int (nI s1)), (2, .int y), (3, .int (nI L9)), (4, .int u), (5, .int (nI e9)), (7, .int vv), (8, .int dg), (9, .int (nI lw)), (10, .int (nI a9))]) hx hb dX10_expansionDigit_187 hl (by decide) rfl (fun ls hl => ?_)
                                  refine lv_iload hx hb dX10_expansionDigit_189 (lv_at hl 12 rfl) ?_
                                  refine lv_iload hx hb dX10_expansionDigit_191 (lv_at hl 1 rfl) ?_
                                  refine lv_if_eq (tgt := 200) hx hb dX10_expansionDigit_193 (by decide) (fun c_42 => ?_) (fun c_42 => ?_)
                                  · have i_42 := z_eq c_42
                                    rw [tI_1] at i_42
                                    rw [tI_0] at i_42
                                    exfalso; omega
                                  · have i_42 := z_ne c_42
                                    rw [tI_1] at i_42
                                    rw [tI_0] at i_42
                                    
                                    refine lv_iconst (v := 1) hx hb dX10_expansionDigit_196 (by decide) ?_
                                    refine lv_goto (tgt := 201) hx hb dX10_expansionDigit_197 (by decide) ?_
                                    refine lv_iadd hx hb dX10_expansionDigit_201 ?_
                                    rw [show (nI a9) + 1 = nI (a9 + 1) from nI_1 _]
                                    refine lv_istore (lv' := [(10, .int (nI (a9 + 1))), (6, .int lf3), (11, .int 1), (12, .int 0), (0, .ref (Z.2.1 41)), (1, .int (nI s1)), (2, .int y), (3, .int (nI L9)), (4, .int u), (5, .int (nI e9)), (7, .int vv), (8, .int dg), (9, .int (nI lw))]) hx hb dX10_expansionDigit_202 hl (by decide) rfl (fun ls hl => ?_)
                                    refine lv_goto (tgt := 114) hx hb dX10_expansionDigit_204 (by decide) ?_
                                    exact ih_114 (a9 + 1) lf3 1 (Or.inl ⟨rfl, hac, by omega, hzs2, by omega⟩) (by rw [tI_1]; omega) _ _ _ hS (lv_sub hl [4, 5, 6, 7, 8, 9, 1, 10, 11, 12, 0, 2] rfl)
                            · have i_37 := z_ne c_37
                              rw [tI_0] at i_37
                              have hd9 := zbo_t hft c_37
                              refine lv_aload_n hx hb dX10_expansionDigit_131 rfl (lv_at hl 0 rfl) ?_
                              refine z_get (own := RX10) (C := RX10) (T := TX10) (N := 21) hx hb hts in_X10_expansionDigit_10 hown hK hS h_m hM41 rfl 12 (by decide) (List.mem_of_getElem? (i := 6) rfl) rfl rfl dX10_expansionDigit_132 ?_
                              refine lv_aload_n hx hb dX10_expansionDigit_135 rfl (lv_at hl 0 rfl) ?_
                              refine lv_iload hx hb dX10_expansionDigit_136 (lv_at hl 9 rfl) ?_
                              refine lv_iconst (v := 1) hx hb dX10_expansionDigit_138 (by decide) ?_
                              refine lv_iadd hx hb dX10_expansionDigit_139 ?_
                              rw [show (nI lw) + 1 = nI (lw + 1) from nI_1 _]
                              refine lv_aload_n hx hb dX10_expansionDigit_140 rfl (lv_at hl 0 rfl) ?_
                              refine lv_iload_n hx hb dX10_expansionDigit_141 rfl (lv_at hl 1 rfl) ?_
                              refine lv_iload hx hb dX10_expansionDigit_142 (lv_at hl 7 rfl) ?_
                              refine lv_iload hx hb dX10_expansionDigit_144 (lv_at hl 10 rfl) ?_
                              refine z_calli (z_runV (As := [.int (nI s1), .int vv, .int (nI a9)]) (rest := [.int (nI (lw + 1)), .ref (Z.2.1 41), .ref (Z.2.1 51)]) ⟨hx, hb, hml, hown, hts⟩ hK hS ((m_rest Z g_27 sg ⟨_, _, _, _, _, _, fu, fq, fm, fd, h_m, h_u, h_q, h_n9, h_g, hMN, hSg⟩ s1 hs1 (vv) (by omega) a9 (by omega)) l _) gX10_expansionDigit_X10_rest rfl 3 (by decide +kernel) ⟨Nat.le_of_ble_eq_true rfl, Nat.le_of_ble_eq_true rfl⟩ h_m hM41 rfl rfl hl.1 rfl (Nat.le_of_ble_eq_true rfl) dX10_expansionDigit_146 ⟨Nat.le_of_ble_eq_true rfl, Nat.le_of_ble_eq_true rfl⟩) hS (fun rs g_43 H locs hp_44 hS => ?_)
                              obtain ⟨rfl, hp_44⟩ := hp_44
                              have hrs := hp_44
                              have hrb : zrb (sg s1) y.toInt (lw + 1) rs.toInt := by rw [hrs]; exact zrb_next hrv hac hd9
                              obtain ⟨n8, hln8, hn841, hlm8⟩ := hly.1 (lw + 1) (by omega)
                              refine z_calli (z_runV (As := [.int (nI (lw + 1)), .int rs]) (rest := [.ref (Z.2.1 51)]) ⟨hx, hb, hml, hown, hts⟩ hK hS ((m_placeIn Z g_27 sg ⟨_, _, _, _, _, _, fu, fq, fm, fd, h_m, h_u, h_q, h_n9, h_g, hMN, hSg⟩ ln1 la1 h_lm h_la (lw + 1) n8 (by omega) hn841 hln8 rs) l _) gX10_expansionDigit_X10_placeIn rfl 2 (by decide +kernel) ⟨Nat.le_of_ble_eq_true rfl, Nat.le_of_ble_eq_true rfl⟩ h_m hM41 rfl rfl hl.1 rfl (Nat.le_of_ble_eq_true rfl) dX10_expansionDigit_149 ⟨Nat.le_of_ble_eq_true rfl, Nat.le_of_ble_eq_true rfl⟩) hS (fun pl g_45 H locs hp_46 hS => ?_)
                              obtain ⟨rfl, hp_46⟩ := hp_46
                              obtain ⟨k8, hk8, hke, epl⟩ : ∃ k8, k8 < n8 ∧ (la1 (128 * (lw + 1) + k8)).toInt = rs.toInt ∧ pl = nI (128 * (lw + 1) + k8) := by
                                rcases hp_46 with h9 | ⟨h9, -⟩
                                · exact h9
                                · exfalso
                                  obtain ⟨k7, hk7, e7⟩ := (hlm8 _).mpr hrb
                                  exact h9 k7 hk7 e7
                              subst epl
                              clear hp_46
                              have hwk8 := hly.2 (lw + 1) (by omega) n8 hln8 hn841 k8 hk8
                              rw [show L9 - (lw + 1) = d by omega] at hwk8
                              refine z_iald hx hb hK hS h_wa hM51 (vp_in_nI (by omega) (by omega)) dX10_expansionDigit_152 ?_
                              rw [show wa1 (nI (128 * (lw + 1) + k8)).toNatClampNeg = wa1 (128 * (lw + 1) + k8) from by rw [nI_clamp (by omega)]]
                              refine lv_goto (tgt := 157) hx hb dX10_expansionDigit_153 (by decide) ?_
                              refine lv_topi (fun wv ewv => ?_)
                              have hwv : wv.toInt = zcap (zwb (sg s1) d vv.toInt a9) := by rw [ewv, hwk8, hke, zwb_pos hd9, hrs]
                              refine lv_istore (lv' := [(12, .int wv), (0, .ref (Z.2.1 41)), (1, .int (nI s1)), (2, .int y), (3, .int (nI L9)), (4, .int u), (5, .int (nI e9)), (6, .int lf2), (7, .int vv), (8, .int dg), (9, .int (nI lw)), (10, .int (nI a9)), (11, .int mo)]) hx hb dX10_expansionDigit_157 hl (by decide) rfl (fun ls hl => ?_)
                              have hwb := zcap_bd (zwb_pos2 hok d vv.toInt a9)
                              rw [← hwv] at hwb
                              refine lv_iload hx hb dX10_expansionDigit_159 (lv_at hl 7 rfl) ?_
                              refine lv_iload hx hb dX10_expansionDigit_161 (lv_at hl 0 rfl) ?_
                              refine lv_icmp_lt (tgt := 170) hx hb dX10_expansionDigit_163 (by decide) (fun c_47 => ?_) (fun c_47 => ?_)
                              · have i_47 := z_lt c_47
                                have hcap : lf2.toInt < (zwb (sg s1) d vv.toInt a9) := (zcap_lt hl2.2).mp (by rw [← hwv]; omega)
                                have hzs2 : zsel (zwb (sg s1) d vv.toInt) (sg s1).2.2.1 0 lf.toInt = (a9, lf2.toInt) := by rw [← hsel]; exact zsel_yes hac hcap
                                refine lv_iconst (v := 0) hx hb dX10_expansionDigit_170 (by decide) ?_
                                refine lv_istore (lv' := [(11, .int 0), (12, .int wv), (0, .ref (Z.2.1 41)), (1, .int (nI s1)), (2, .int y), (3, .int (nI L9)), (4, .int u), (5, .int (nI e9)), (6, .int lf2), (7, .int vv), (8, .int dg), (9, .int (nI lw)), (10, .int (nI a9))]) hx hb dX10_expansionDigit_171 hl (by decide) rfl (fun ls hl => ?_)
                                refine lv_iload hx hb dX10_expansionDigit_173 (lv_at hl 8 rfl) ?_
                                refine lv_iload hx hb dX10_expansionDigit_175 (lv_at hl 0 rfl) ?_
                                refine lv_if_eq (tgt := 185) hx hb dX10_expansionDigit_177 (by decide) (fun c_48 => ?_) (fun c_48 => ?_)
                                · have i_48 := z_eq c_48
                                  rw [tI_0] at i_48
                                  
                                  refine lv_iconst (v := 0) hx hb dX10_expansionDigit_185 (by decide) ?_
                                  refine lv_isub hx hb dX10_expansionDigit_186 ?_
                                  refine lv_topi (fun lf3 elf3 => ?_)
                                  rw [Int32_sub0] at elf3
                                  have hlf3 : lf3.toInt = lf2.toInt := congrArg _ elf3
                                  rw [← hlf3] at hzs2 hcap
                                  refine lv_istore (lv' := [(6, .int lf3), (11, .int 0), (12, .int wv), (0, .ref (Z.2.1 41)), (1, .int (nI s1)), (2, .int y), (3, .int (nI L9)), (4, .int u), (5, .int (nI e9)), (7, .int vv), (8, .int dg), (9, .int (nI lw)), (10, .int (nI a9))]) hx hb dX10_expansionDigit_187 hl (by decide) rfl (fun ls hl => ?_)
                                  refine lv_iload hx hb dX10_expansionDigit_189 (lv_at hl 12 rfl) ?_
                                  refine lv_iload hx hb dX10_expansionDigit_191 (lv_at hl 1 rfl) ?_
                                  refine lv_if_eq (tgt := 200) hx hb dX10_expansionDigit_193 (by decide) (fun c_49 => ?_) (fun c_49 => ?_)
                                  · have i_49 := z_eq c_49
                                    rw [tI_0] at i_49
                                    
                                    refine lv_iconst (v := 0) hx hb dX10_expansionDigit_200 (by decide) ?_
                                    refine lv_iadd hx hb dX10_expansionDigit_201 ?_
                                    rw [show (nI a9) + 0 = nI a9 from Int32_add0 _]
                                    refine lv_istore (lv' := [(10, .int (nI a9)), (6, .int lf3), (11, .int 0), (12, .int wv), (0, .ref (Z.2.1 41)), (1, .int (nI s1)), (2, .int y), (3, .int (nI L9)), (4, .int u), (5, .int (nI e9)), (7, .int vv), (8, .int dg), (9, .int (nI lw))]) hx hb dX10_expansionDigit_202 hl (by decide) rfl (fun ls hl => ?_)
                                    refine lv_goto (tgt := 114) hx hb dX10_expansionDigit_204 (by decide) ?_
                                    exact ih_114 a9 lf3 0 (Or.inr ⟨rfl, hac, by omega, by omega, hzs2⟩) (by rw [tI_0]; omega) _ _ _ hS (lv_sub hl [4, 5, 6, 7, 8, 9, 1, 10, 11, 12, 0, 2] rfl)
                                  · have i_49 := z_ne c_49
                                    rw [tI_0] at i_49
                                    exfalso; omega
                                · have i_48 := z_ne c_48
                                  rw [tI_0] at i_48
                                  exfalso; omega
                              · have i_47 := z_nlt c_47
                                have hcap := zcap_eq (x := (zwb (sg s1) d vv.toInt a9)) hl2.2 (by rw [← hwv]; omega)
                                rw [hcap] at hwv
                                have hsa : zsum (zwb (sg s1) d vv.toInt) (a9 + 1) = zsum (zwb (sg s1) d vv.toInt) a9 + (zwb (sg s1) d vv.toInt a9) := rfl
                                refine lv_iconst (v := 1) hx hb dX10_expansionDigit_166 (by decide) ?_
                                refine lv_goto (tgt := 171) hx hb dX10_expansionDigit_167 (by decide) ?_
                                refine lv_istore (lv' := [(11, .int 1), (12, .int wv), (0, .ref (Z.2.1 41)), (1, .int (nI s1)), (2, .int y), (3, .int (nI L9)), (4, .int u), (5, .int (nI e9)), (6, .int lf2), (7, .int vv), (8, .int dg), (9, .int (nI lw)), (10, .int (nI a9))]) hx hb dX10_expansionDigit_171 hl (by decide) rfl (fun ls hl => ?_)
                                refine lv_iload hx hb dX10_expansionDigit_173 (lv_at hl 8 rfl) ?_
                                refine lv_iload hx hb dX10_expansionDigit_175 (lv_at hl 0 rfl) ?_
                                refine lv_if_eq (tgt := 185) hx hb dX10_expansionDigit_177 (by decide) (fun c_50 => ?_) (fun c_50 => ?_)
                                · have i_50 := z_eq c_50
                                  rw [tI_1] at i_50
                                  rw [tI_0] at i_50
                                  exfalso; omega
                                · have i_50 := z_ne c_50
                                  rw [tI_1] at i_50
                                  rw [tI_0] at i_50
                                  
                                  refine lv_iload hx hb dX10_expansionDigit_180 (lv_at hl 1 rfl) ?_
                                  refine lv_goto (tgt := 186) hx hb dX10_expansionDigit_182 (by decide) ?_
                                  refine lv_isub hx hb dX10_expansionDigit_186 ?_
                                  refine lv_topi (fun lf3 elf3 => ?_)
                                  have hlf3 : lf3.toInt = lf2.toInt - wv.toInt := by rw [elf3, fb_subI (by omega) (by omega)]
                                  have hzs2 : zsel (zwb (sg s1) d vv.toInt) ((sg s1).2.2.1 - (a9 + 1)) (a9 + 1) lf3.toInt = zsel (zwb (sg s1) d vv.toInt) (sg s1).2.2.1 0 lf.toInt := by rw [hlf3, hwv, ← hsel]; exact zsel_no hac (by omega)
                                  refine lv_istore (lv' := [(6, .int lf3), (11, .int 1), (12, .int wv), (0, .ref (Z.2.1 41)), (1, .int (nI s1)), (2, .int y), (3, .int (nI L9)), (4, .int u), (5, .int (nI e9)), (7, .int vv), (8, .int dg), (9, .int (nI lw)), (10, .int (nI a9))]) hx hb dX10_expansionDigit_187 hl (by decide) rfl (fun ls hl => ?_)
                                  refine lv_iload hx hb dX10_expansionDigit_189 (lv_at hl 12 rfl) ?_
                                  refine lv_iload hx hb dX10_expansionDigit_191 (lv_at hl 1 rfl) ?_
                                  refine lv_if_eq (tgt := 200) hx hb dX10_expansionDigit_193 (by decide) (fun c_51 => ?_) (fun c_51 => ?_)
                                  · have i_51 := z_eq c_51
                                    rw [tI_1] at i_51
                                    rw [tI_0] at i_51
                                    exfalso; omega
                                  · have i_51 := z_ne c_51
                                    rw [tI_1] at i_51
                                    rw [tI_0] at i_51
                                    
                                    refine lv_iconst (v := 1) hx hb dX10_expansionDigit_196 (by decide) ?_
                                    refine lv_goto (tgt := 201) hx hb dX10_expansionDigit_197 (by decide) ?_
                                    refine lv_iadd hx hb dX10_expansionDigit_201 ?_
                                    rw [show (nI a9) + 1 = nI (a9 + 1) from nI_1 _]
                                    refine lv_istore (lv' := [(10, .int (nI (a9 + 1))), (6, .int lf3), (11, .int 1), (12, .int wv), (0, .ref (Z.2.1 41)), (1, .int (nI s1)), (2, .int y), (3, .int (nI L9)), (4, .int u), (5, .int (nI e9)), (7, .int vv), (8, .int dg), (9, .int (nI lw))]) hx hb dX10_expansionDigit_202 hl (by decide) rfl (fun ls hl => ?_)
                                    refine lv_goto (tgt := 114) hx hb dX10_expansionDigit_204 (by decide) ?_
                                    exact ih_114 (a9 + 1) lf3 1 (Or.inl ⟨rfl, hac, by omega, hzs2, by omega⟩) (by rw [tI_1]; omega) _ _ _ hS (lv_sub hl [4, 5, 6, 7, 8, 9, 1, 10, 11, 12, 0, 2] rfl)
                      exact hcut_114 ((sg s1).2.2.1 - 0 + (1 : Int32).toInt.toNat + 1) 0 lf (1 : Int32) (Or.inl ⟨rfl, Nat.zero_le _, hlf, rfl, by show _ < _ - (0 : Int); omega⟩) (Nat.lt_succ_self _) _ _ _ hS (lv_sub hl [2, 3, 4, 5, 6, 7, 8, 9, 10, 11, 1, 0] rfl)
                exact hcut_101 (e9 + 1 - 0 + 1) 0 u y 0 (Or.inl ⟨by omega, hum, huk, rfl, rfl⟩) (Nat.lt_succ_self _) _ _ _ hS (lv_sub hl [4, 5, 6, 7, 8, 9, 3, 2, 1, 0] rfl)
              · have i_30 := z_nlt c_30
                have hnk : ¬ u.toInt < zwy (sg s1) L9 y.toInt := fun h9 => by
                  have := (zcap_lt hum.2).mpr h9
                  omega
                refine lv_ldc (v := (-1000006)) hx hb hown (hts _ (List.mem_of_getElem? (i := 7) rfl)) dX10_expansionDigit_85 ?_
                refine z_iret hx hb hr hlocks hS ?_ dX10_expansionDigit_87
                show z_pm Z g (sp_expansionDigit (sg, rw9) (nI s1).toInt y.toInt (nI L9).toInt u.toInt (nI e9).toInt) _ _
                unfold sp_expansionDigit
                rw [zite_t hzs, zite_f hent, zite_t ⟨hym, hlen, hum⟩, htn1, htL, zite_f hnk]
                have hfz : z_fr 49 3 g g_27 := (z_fr.rf.tr (hfr_29.wide (by omega) (by omega)))
                exact ⟨rfl, ⟨⟨_, _, _, _, _, _, fu, fq, fm, fd, h_m, h_u, h_q, h_n9, h_g, hMN, hSg⟩, hW.2.lay h_lm h_la h_wa (fun j h1 h2 h3 => hfz j (by omega))⟩, hfz.wide (by omega) (by omega)⟩
            · have i_25 := z_eq c_25
              rw [tI_0] at i_25
              have hbad : ¬ ((-100000 ≤ y.toInt ∧ y.toInt ≤ 100000) ∧ (0 ≤ (nI L9).toInt ∧ (nI L9).toInt ≤ 12) ∧ (0 ≤ u.toInt ∧ u.toInt ≤ 999999)) := fun h9 => zbo_f hr3h c_25 h9.2.2
              refine lv_ldc (v := (-1000002)) hx hb hown (hts _ (List.mem_of_getElem? (i := 5) rfl)) dX10_expansionDigit_64 ?_
              refine z_iret hx hb hr hlocks hS ?_ dX10_expansionDigit_66
              show z_pm Z g (sp_expansionDigit (sg, rw9) (nI s1).toInt y.toInt (nI L9).toInt u.toInt (nI e9).toInt) _ _
              unfold sp_expansionDigit
              rw [zite_t hzs, zite_f hent, zite_f hbad]
              exact ⟨rfl, hW, z_fr.rf⟩
      · have i_16 := z_eq c_16
        rw [tI_0] at i_16
        have hne9 : ¬ (0 ≤ v.toInt ∧ v.toInt < ((nI L9).toInt)) := fun h9 => zbo_f hre c_16 ⟨h9.1, by have := h9.2; omega⟩
        refine lv_ldc (v := (-1000001)) hx hb hown (hts _ (List.mem_of_getElem? (i := 1) rfl)) dX10_expansionDigit_29 ?_
        refine z_iret hx hb hr hlocks hS ?_ dX10_expansionDigit_31
        show z_pm Z g (sp_expansionDigit (sg, rw9) (nI s1).toInt y.toInt (nI L9).toInt u.toInt v.toInt) _ _
        unfold sp_expansionDigit
        rw [zite_t hzs, zite_t ⟨hlen, hne9⟩]
        exact ⟨rfl, hW, z_fr.rf⟩

