/-! the reference: sums of rows -/
theorem z_mx.sums {Z : zT} {g g1 : Nat → va_E} {rw9 : Nat → zr} (h : z_mx Z g rw9) {f : Nat → Int32} (h54 : g1 54 = .inl (Z.2.2.2 0, 12, .inl f)) (hf : ∀ j, 46 ≤ j → j < 57 → j ≠ 54 → g1 j = g j) : z_mx Z g1 rw9 := by
  obtain ⟨⟨f1, a1⟩, ⟨f2, a2⟩, ⟨f3, a3⟩, ⟨f4, a4⟩, ⟨f5, a5⟩, ⟨f6, a6⟩, ⟨f7, a7, b7⟩, ⟨f8, a8, b8⟩, -, ⟨f9, a9⟩, f11, a11⟩ := h
  exact ⟨⟨f1, (hf _ (by omega) (by omega) (by omega)).trans a1⟩, ⟨f2, (hf _ (by omega) (by omega) (by omega)).trans a2⟩, ⟨f3, (hf _ (by omega) (by omega) (by omega)).trans a3⟩, ⟨f4, (hf _ (by omega) (by omega) (by omega)).trans a4⟩, ⟨f5, (hf _ (by omega) (by omega) (by omega)).trans a5⟩, ⟨f6, (hf _ (by omega) (by omega) (by omega)).trans a6⟩, ⟨f7, (hf _ (by omega) (by omega) (by omega)).trans a7, b7⟩, ⟨f8, (hf _ (by omega) (by omega) (by omega)).trans a8, b8⟩, ⟨f, h54⟩, ⟨f9, (hf _ (by omega) (by omega) (by omega)).trans a9⟩, f11, (hf _ (by omega) (by omega) (by omega)).trans a11⟩
theorem zeg_in {fe : Nat → Int32} {r : Nat} {w : zr} (h : ∀ i, i < w.1 → (fe (12 * r + i)).toInt = w.2 i ∧ -20 ≤ w.2 i ∧ w.2 i ≤ 20) (t : Nat) : -20 ≤ zeg w t ∧ zeg w t ≤ 20 := by
  unfold zeg
  split
  · exact (h t ‹_›).2
  · omega
theorem in_X10_add_10 : ∀ w ∈ wsX100, w ∈ wsX10_add := by decide +kernel
set_option maxHeartbeats 4000000 in
set_option maxRecDepth 100000 in
theorem m_add (Z : zT) (g : Nat → va_E) (sg : Nat → zb) (rw9 : Nat → zr) (hW : z_mw Z g sg rw9) (x y z u : Int32) : z_Mi Z yX10_add wsX10_add 7 160 [.ref (Z.2.1 41), .int x, .int y, .int z, .int u] g (fun r g1 => z_pm Z g (sp_add (sg, rw9) x.toInt y.toInt z.toInt u.toInt) r g1) := by
  intro l sz
  obtain ⟨v4, v5, v6, v15, v16, v17, hM9⟩ := hW.1.mp
  have hM := hM9.mr
  obtain ⟨fu, fq, fm, fd, h_m, h_u, h_q, h_n9, h_g, hMN, hSg⟩ := id hM9
  have hM41 : 41 < Z.1 := by omega
  have hM42 : 42 < Z.1 := by omega
  have hM43 : 43 < Z.1 := by omega
  have hM44 : 44 < Z.1 := by omega
  have hM45 : 45 < Z.1 := by omega
  obtain ⟨-, -, -, -, -, -, ⟨fl, h_l, hfl⟩, ⟨fe, h_e, hfe⟩, ⟨su, h_su⟩, -, -⟩ := id hW.2
  have hM52 : 52 < Z.1 := by omega
  have hM53 : 53 < Z.1 := by omega
  have hM54 : 54 < Z.1 := by omega
  refine z_enter (maxL := 6) (ret := (some .int)) (lv := [(0, .ref (Z.2.1 41)), (1, .int x), (2, .int y), (3, .int z), (4, .int u)]) (plainFor_of_name (by decide +kernel)) rfl (fun ls h => by subst h; exact lv_entry [.ref (Z.2.1 41), .int x, .int y, .int z, .int u] (n := 6) (Nat.le_of_ble_eq_true rfl)) ?_
  intro p e s m args below meth c hx hb hml hr hlocks hown hts hK hS hsz ls hl
  refine lv_iload_n hx hb dX10_add_0 rfl (lv_at hl 1 rfl) ?_
  refine z_calli (z_runS (As := [.int x]) (rest := []) ⟨hx, hb, hml, hown, hts⟩ hK hS ((m_noSystem Z g x) l _) gX10_add_X10_noSystem rfl 1 (by decide +kernel) ⟨Nat.le_of_ble_eq_true rfl, Nat.le_of_ble_eq_true rfl⟩ rfl hl.1 rfl (Nat.le_of_ble_eq_true rfl) dX10_add_1 ⟨Nat.le_of_ble_eq_true rfl, Nat.le_of_ble_eq_true rfl⟩) hS (fun rn g_1 H locs hp_2 hS => ?_)
  obtain ⟨rfl, hp_2⟩ := hp_2
  have hrn := hp_2
  refine lv_if_ne (tgt := 29) hx hb dX10_add_4 (by decide) (fun c_3 => ?_) (fun c_3 => ?_)
  · have i_3 := z_ne c_3
    rw [tI_0] at i_3
    have hnv := zbo_t hrn c_3
    refine lv_ldc (v := (-1000001)) hx hb hown (hts _ (List.mem_of_getElem? (i := 1) rfl)) dX10_add_29 ?_
    refine z_iret hx hb hr hlocks hS ?_ dX10_add_31
    show z_pm Z g (sp_add (sg, rw9) x.toInt y.toInt z.toInt u.toInt) _ _
    unfold sp_add
    rw [zite_f (fun h9 => hnv h9.1)]
    exact ⟨rfl, hW, z_fr.rf⟩
  · have i_3 := z_eq c_3
    rw [tI_0] at i_3
    have hzs : zsy x.toInt := Classical.byContradiction (zbo_f hrn c_3)
    obtain ⟨s1, es1, hs1x, -⟩ := z_nI_of (x := x) hzs.1
    subst es1
    have hs1 : s1 < 2 := by have := hzs.2; omega
    have htn1 : (nI s1).toInt.toNat = s1 := by omega
    obtain ⟨hok, hp, hq, hm, hd⟩ := hSg s1 hs1
    have hPb := zP_bd hok
    have hn12 := hok.2.2.2.1
    have hq1 := hok.2.1
    refine lv_iload_n hx hb dX10_add_7 rfl (lv_at hl 2 rfl) ?_
    refine z_calli (z_runS (As := [.int y]) (rest := []) ⟨hx, hb, hml, hown, hts⟩ hK hS ((m_noRow Z g y) l _) gX10_add_X10_noRow rfl 1 (by decide +kernel) ⟨Nat.le_of_ble_eq_true rfl, Nat.le_of_ble_eq_true rfl⟩ rfl hl.1 rfl (Nat.le_of_ble_eq_true rfl) dX10_add_8 ⟨Nat.le_of_ble_eq_true rfl, Nat.le_of_ble_eq_true rfl⟩) hS (fun rqa g_4 H locs hp_5 hS => ?_)
    obtain ⟨rfl, hp_5⟩ := hp_5
    have hrqa := hp_5
    refine lv_if_ne (tgt := 29) hx hb dX10_add_11 (by decide) (fun c_6 => ?_) (fun c_6 => ?_)
    · have i_6 := z_ne c_6
      rw [tI_0] at i_6
      have hnr := zbo_t hrqa c_6
      refine lv_ldc (v := (-1000001)) hx hb hown (hts _ (List.mem_of_getElem? (i := 1) rfl)) dX10_add_29 ?_
      refine z_iret hx hb hr hlocks hS ?_ dX10_add_31
      show z_pm Z g (sp_add (sg, rw9) (nI s1).toInt y.toInt z.toInt u.toInt) _ _
      unfold sp_add
      rw [zite_f (fun h9 => hnr h9.2.1)]
      exact ⟨rfl, hW, z_fr.rf⟩
    · have i_6 := z_eq c_6
      rw [tI_0] at i_6
      have hzr1 : zro y.toInt := Classical.byContradiction (zbo_f hrqa c_6)
      obtain ⟨r1, er1, hr1x, -⟩ := z_nI_of (x := y) hzr1.1
      subst er1
      have hr1 : r1 < 3 := by have := hzr1.2; omega
      have htr1 : (nI r1).toInt.toNat = r1 := by omega
      obtain ⟨hlr1, hlr1b⟩ := hfl r1 hr1
      have hev1 := hfe r1 hr1
      have hzb1 := zeg_in (hfe r1 hr1)
      refine lv_iload_n hx hb dX10_add_14 rfl (lv_at hl 3 rfl) ?_
      refine z_calli (z_runS (As := [.int z]) (rest := []) ⟨hx, hb, hml, hown, hts⟩ hK hS ((m_noRow Z g z) l _) gX10_add_X10_noRow rfl 1 (by decide +kernel) ⟨Nat.le_of_ble_eq_true rfl, Nat.le_of_ble_eq_true rfl⟩ rfl hl.1 rfl (Nat.le_of_ble_eq_true rfl) dX10_add_15 ⟨Nat.le_of_ble_eq_true rfl, Nat.le_of_ble_eq_true rfl⟩) hS (fun rqb g_7 H locs hp_8 hS => ?_)
      obtain ⟨rfl, hp_8⟩ := hp_8
      have hrqb := hp_8
      refine lv_if_ne (tgt := 29) hx hb dX10_add_18 (by decide) (fun c_9 => ?_) (fun c_9 => ?_)
      · have i_9 := z_ne c_9
        rw [tI_0] at i_9
        have hnr := zbo_t hrqb c_9
        refine lv_ldc (v := (-1000001)) hx hb hown (hts _ (List.mem_of_getElem? (i := 1) rfl)) dX10_add_29 ?_
        refine z_iret hx hb hr hlocks hS ?_ dX10_add_31
        show z_pm Z g (sp_add (sg, rw9) (nI s1).toInt (nI r1).toInt z.toInt u.toInt) _ _
        unfold sp_add
        rw [zite_f (fun h9 => hnr h9.2.2.1)]
        exact ⟨rfl, hW, z_fr.rf⟩
      · have i_9 := z_eq c_9
        rw [tI_0] at i_9
        have hzr2 : zro z.toInt := Classical.byContradiction (zbo_f hrqb c_9)
        obtain ⟨r2, er2, hr2x, -⟩ := z_nI_of (x := z) hzr2.1
        subst er2
        have hr2 : r2 < 3 := by have := hzr2.2; omega
        have htr2 : (nI r2).toInt.toNat = r2 := by omega
        obtain ⟨hlr2, hlr2b⟩ := hfl r2 hr2
        have hev2 := hfe r2 hr2
        have hzb2 := zeg_in (hfe r2 hr2)
        refine lv_iload hx hb dX10_add_21 (lv_at hl 4 rfl) ?_
        refine z_calli (z_runS (As := [.int u]) (rest := []) ⟨hx, hb, hml, hown, hts⟩ hK hS ((m_noRow Z g u) l _) gX10_add_X10_noRow rfl 1 (by decide +kernel) ⟨Nat.le_of_ble_eq_true rfl, Nat.le_of_ble_eq_true rfl⟩ rfl hl.1 rfl (Nat.le_of_ble_eq_true rfl) dX10_add_23 ⟨Nat.le_of_ble_eq_true rfl, Nat.le_of_ble_eq_true rfl⟩) hS (fun rqc g_10 H locs hp_11 hS => ?_)
        obtain ⟨rfl, hp_11⟩ := hp_11
        have hrqc := hp_11
        refine lv_if_eq (tgt := 32) hx hb dX10_add_26 (by decide) (fun c_12 => ?_) (fun c_12 => ?_)
        · have i_12 := z_eq c_12
          rw [tI_0] at i_12
          have hzr3 : zro u.toInt := Classical.byContradiction (zbo_f hrqc c_12)
          obtain ⟨r3, er3, hr3x, -⟩ := z_nI_of (x := u) hzr3.1
          subst er3
          have hr3 : r3 < 3 := by have := hzr3.2; omega
          have htr3 : (nI r3).toInt.toNat = r3 := by omega
          obtain ⟨hlr3, hlr3b⟩ := hfl r3 hr3
          have hev3 := hfe r3 hr3
          have hzb3 := zeg_in (hfe r3 hr3)
          refine lv_aload_n hx hb dX10_add_32 rfl (lv_at hl 0 rfl) ?_
          refine lv_iload_n hx hb dX10_add_33 rfl (lv_at hl 1 rfl) ?_
          refine z_calli (z_runV (As := [.int (nI s1)]) (rest := []) ⟨hx, hb, hml, hown, hts⟩ hK hS ((m_isComplete Z g sg hM s1 hs1) l _) gX10_add_X10_isComplete rfl 1 (by decide +kernel) ⟨Nat.le_of_ble_eq_true rfl, Nat.le_of_ble_eq_true rfl⟩ h_m hM41 rfl rfl hl.1 rfl (Nat.le_of_ble_eq_true rfl) dX10_add_34 ⟨Nat.le_of_ble_eq_true rfl, Nat.le_of_ble_eq_true rfl⟩) hS (fun rc g_13 H locs hp_14 hS => ?_)
          obtain ⟨rfl, hp_14⟩ := hp_14
          have hrc := hp_14
          refine lv_if_ne (tgt := 43) hx hb dX10_add_37 (by decide) (fun c_15 => ?_) (fun c_15 => ?_)
          · have i_15 := z_ne c_15
            rw [tI_0] at i_15
            have hcm := zbo_t hrc c_15
            refine lv_aload_n hx hb dX10_add_43 rfl (lv_at hl 0 rfl) ?_
            refine lv_aload_n hx hb dX10_add_44 rfl (lv_at hl 0 rfl) ?_
            refine z_get (own := RX10) (C := RX10) (T := TX10) (N := 21) hx hb hts in_X10_add_10 hown hK hS h_m hM41 rfl 13 (by decide) (List.mem_of_getElem? (i := 3) rfl) rfl rfl dX10_add_45 ?_
            refine lv_iload_n hx hb dX10_add_48 rfl (lv_at hl 2 rfl) ?_
            refine z_iald hx hb hK hS h_l hM52 (vp_in_nI (by omega) (by omega)) dX10_add_49 ?_
            rw [show fl (nI r1).toNatClampNeg = nI (rw9 r1).1 from by rw [nI_clamp (by omega)]; exact hlr1]
            refine lv_aload_n hx hb dX10_add_50 rfl (lv_at hl 0 rfl) ?_
            refine z_get (own := RX10) (C := RX10) (T := TX10) (N := 21) hx hb hts in_X10_add_10 hown hK hS h_m hM41 rfl 13 (by decide) (List.mem_of_getElem? (i := 3) rfl) rfl rfl dX10_add_51 ?_
            refine lv_iload_n hx hb dX10_add_54 rfl (lv_at hl 3 rfl) ?_
            refine z_iald hx hb hK hS h_l hM52 (vp_in_nI (by omega) (by omega)) dX10_add_55 ?_
            rw [show fl (nI r2).toNatClampNeg = nI (rw9 r2).1 from by rw [nI_clamp (by omega)]; exact hlr2]
            refine lv_icmp_le (tgt := 68) hx hb dX10_add_56 (by decide) (fun c_16 => ?_) (fun c_16 => ?_)
            · have i_16 := z_le c_16
              rw [nI_toInt (by omega)] at i_16
              rw [nI_toInt (by omega)] at i_16
              obtain ⟨n9, en9⟩ : ∃ n9 : Nat, n9 = (rw9 r2).1 := ⟨_, rfl⟩
              have hmx : max (rw9 r1).1 (rw9 r2).1 = n9 := by omega
              have hn9b : n9 ≤ 12 := by omega
              refine lv_aload_n hx hb dX10_add_68 rfl (lv_at hl 0 rfl) ?_
              refine z_get (own := RX10) (C := RX10) (T := TX10) (N := 21) hx hb hts in_X10_add_10 hown hK hS h_m hM41 rfl 13 (by decide) (List.mem_of_getElem? (i := 3) rfl) rfl rfl dX10_add_69 ?_
              refine lv_iload_n hx hb dX10_add_72 rfl (lv_at hl 3 rfl) ?_
              refine z_iald hx hb hK hS h_l hM52 (vp_in_nI (by omega) (by omega)) dX10_add_73 ?_
              rw [show fl (nI r2).toNatClampNeg = nI n9 from by rw [nI_clamp (by omega), hlr2, en9]]
              refine z_put (fs' := [.ref (Z.2.1 42), .ref (Z.2.1 43), .ref (Z.2.1 44), .ref (Z.2.1 45), .int v4, .int v5, .int v6, .ref (Z.2.1 46), .ref (Z.2.1 47), .ref (Z.2.1 48), .ref (Z.2.1 49), .ref (Z.2.1 50), .ref (Z.2.1 51), .ref (Z.2.1 52), .ref (Z.2.1 53), .long v15, .long v16, .int (nI n9), .ref (Z.2.1 54), .ref (Z.2.1 55), .ref (Z.2.1 56)]) (own := RX10) (C := RX10) (T := TX10) (N := 21) hx hb hts in_X10_add_10 tyX10 tyX10_ok nmX10 hown hK hS h_m hM41 rfl 17 (by decide) (List.mem_of_getElem? (i := 4) rfl) rfl rfl rfl rfl (Nat.le_of_ble_eq_true rfl) rfl dX10_add_74 (fun g_17 H locs hg_17 hS => ?_)
              have h_m : g_17 41 = .inr (10, [.ref (Z.2.1 42), .ref (Z.2.1 43), .ref (Z.2.1 44), .ref (Z.2.1 45), .int v4, .int v5, .int v6, .ref (Z.2.1 46), .ref (Z.2.1 47), .ref (Z.2.1 48), .ref (Z.2.1 49), .ref (Z.2.1 50), .ref (Z.2.1 51), .ref (Z.2.1 52), .ref (Z.2.1 53), .long v15, .long v16, .int (nI n9), .ref (Z.2.1 54), .ref (Z.2.1 55), .ref (Z.2.1 56)]) := z_up_s hg_17
              have h_u := z_up_n hg_17 h_u (by omega)
              have h_q := z_up_n hg_17 h_q (by omega)
              have h_n9 := z_up_n hg_17 h_n9 (by omega)
              have h_g := z_up_n hg_17 h_g (by omega)
              have h_l := z_up_n hg_17 h_l (by omega)
              have h_e := z_up_n hg_17 h_e (by omega)
              have h_su := z_up_n hg_17 h_su (by omega)
              have hfa : z_fr 41 1 g g_17 := (z_fr.rf.up hg_17 (by omega))
              refine lv_iconst (v := 0) hx hb dX10_add_77 (by decide) ?_
              refine lv_istore (lv' := [(5, .int 0), (0, .ref (Z.2.1 41)), (1, .int (nI s1)), (2, .int (nI r1)), (3, .int (nI r2)), (4, .int (nI r3))]) hx hb dX10_add_78 hl (by decide) rfl (fun ls hl => ?_)
              have hcut_80 : ∀ (nn_80 : Nat) (j : Nat) (fs1 : Nat → Int32) (ga : Nat → va_E) (h_m : ga 41 = .inr (10, [.ref (Z.2.1 42), .ref (Z.2.1 43), .ref (Z.2.1 44), .ref (Z.2.1 45), .int v4, .int v5, .int v6, .ref (Z.2.1 46), .ref (Z.2.1 47), .ref (Z.2.1 48), .ref (Z.2.1 49), .ref (Z.2.1 50), .ref (Z.2.1 51), .ref (Z.2.1 52), .ref (Z.2.1 53), .long v15, .long v16, .int (nI n9), .ref (Z.2.1 54), .ref (Z.2.1 55), .ref (Z.2.1 56)])) (h_u : ga 42 = .inl (Z.2.2.2 0, 2, .inl fu)) (h_q : ga 43 = .inl (Z.2.2.2 0, 2, .inl fq)) (h_n9 : ga 44 = .inl (Z.2.2.2 0, 2, .inl fm)) (h_g : ga 45 = .inl (Z.2.2.2 0, 24, .inl fd)) (h_l : ga 52 = .inl (Z.2.2.2 0, 3, .inl fl)) (h_e : ga 53 = .inl (Z.2.2.2 0, 36, .inl fe)) (h_su : ga 54 = .inl (Z.2.2.2 0, 12, .inl fs1)) (hfr_ga : z_fr 54 1 g_17 ga) (hj : j ≤ n9) (hfs : ∀ i, i < j → (fs1 i).toInt = zeg (rw9 r1) i + zeg (rw9 r2) i) (hm_80 : n9 - j < nn_80) (H : Heap) (locs : List Loc) (ls : Array Slot), z_S Z (z_A Z sz) s.heap ga H locs → lv_has ls 6 [(0, .ref (Z.2.1 41)), (1, .int (nI s1)), (2, .int (nI r1)), (3, .int (nI r2)), (4, .int (nI r3)), (5, .int (nI j))] → W p l e (headSpec wsX10_add (z_rm 7 160)).room s m args below meth c H locs 0 0 (MQ below (va_Qi (fun r g1 => z_pm Z g (sp_add (sg, rw9) (nI s1).toInt (nI r1).toInt (nI r2).toInt (nI r3).toInt) r g1) (z_B Z) (z_A Z sz)) args s 0 0 (z_A Z sz)) (F0 m 80 ls []) := by
                intro nn_80
                induction nn_80 with
                | zero => intro j fs1 ga h_m h_u h_q h_n9 h_g h_l h_e h_su hfr_ga hj hfs hm_80 H locs ls hS hl; exact absurd hm_80 (Nat.not_lt_zero _)
                | succ nn_80 ih_80 =>
                  intro j fs1 ga h_m h_u h_q h_n9 h_g h_l h_e h_su hfr_ga hj hfs hm_80 H locs ls hS hl
                  refine lv_iload hx hb dX10_add_80 (lv_at hl 5 rfl) ?_
                  refine lv_aload_n hx hb dX10_add_82 rfl (lv_at hl 0 rfl) ?_
                  refine z_get (own := RX10) (C := RX10) (T := TX10) (N := 21) hx hb hts in_X10_add_10 hown hK hS h_m hM41 rfl 17 (by decide) (List.mem_of_getElem? (i := 4) rfl) rfl rfl dX10_add_83 ?_
                  refine lv_icmp_ge (tgt := 157) hx hb dX10_add_86 (by decide) (fun c_18 => ?_) (fun c_18 => ?_)
                  · have i_18 := z_le c_18
                    rw [nI_toInt (by omega)] at i_18
                    rw [nI_toInt (by omega)] at i_18
                    have hjn : j = n9 := by omega
                    rw [hjn] at hfs
                    have hfz : z_fr 54 1 g_17 ga := hfr_ga
                    refine lv_aload_n hx hb dX10_add_157 rfl (lv_at hl 0 rfl) ?_
                    refine lv_iload_n hx hb dX10_add_158 rfl (lv_at hl 1 rfl) ?_
                    refine lv_iload hx hb dX10_add_159 (lv_at hl 4 rfl) ?_
                    refine z_calli (z_runV (As := [.int (nI s1), .int (nI r3)]) (rest := []) ⟨hx, hb, hml, hown, hts⟩ hK hS ((m_compute Z ga sg rw9 _ _ _ _ _ n9 ⟨fu, fq, fm, fd, h_m, h_u, h_q, h_n9, h_g, hMN, hSg⟩ (hW.2.sums h_su (fun k h1 h2 h3 => (hfz k (by omega)).trans (hfa k (by omega)))) fs1 h_su (fun i => zeg (rw9 r1) i + zeg (rw9 r2) i) (by omega) hfs (fun i hi => by
                      have h1 := hzb1 i
                      unfold zeg
                      rw [if_neg (by omega), if_neg (by omega)]; rfl) (fun i => by
                      have h1 := hzb1 i
                      have h2 := hzb2 i
                      try dsimp only
                      omega) s1 r3 hs1 hr3 hcm) l _) gX10_add_X10_compute rfl 2 (by decide +kernel) ⟨Nat.le_of_ble_eq_true rfl, Nat.le_of_ble_eq_true rfl⟩ h_m hM41 rfl rfl hl.1 rfl (Nat.le_of_ble_eq_true rfl) dX10_add_161 ⟨Nat.le_of_ble_eq_true rfl, Nat.le_of_ble_eq_true rfl⟩) hS (fun re g_19 H locs hp_20 hS => ?_)
                    have hpo := hp_20
                    refine z_iret hx hb hr hlocks hS ?_ dX10_add_164
                    show z_pm Z g (sp_add (sg, rw9) (nI s1).toInt (nI r1).toInt (nI r2).toInt (nI r3).toInt) _ _
                    unfold sp_add
                    rw [zite_t ⟨hzs, hzr1, hzr2, hzr3⟩, htn1, htr1, htr2, htr3, zite_t hcm, hmx]
                    try dsimp only
                    exact ⟨hpo.1, hpo.2.1, (hfa.wide (by omega) (by omega)).tr ((hfz.wide (by omega) (by omega)).tr hpo.2.2)⟩
                  · have i_18 := z_nle c_18
                    rw [nI_toInt (by omega)] at i_18
                    rw [nI_toInt (by omega)] at i_18
                    refine lv_aload_n hx hb dX10_add_89 rfl (lv_at hl 0 rfl) ?_
                    refine z_get (own := RX10) (C := RX10) (T := TX10) (N := 21) hx hb hts in_X10_add_10 hown hK hS h_m hM41 rfl 18 (by decide) (List.mem_of_getElem? (i := 5) rfl) rfl rfl dX10_add_90 ?_
                    refine lv_iload hx hb dX10_add_93 (lv_at hl 5 rfl) ?_
                    refine lv_iload hx hb dX10_add_95 (lv_at hl 5 rfl) ?_
                    refine lv_aload_n hx hb dX10_add_97 rfl (lv_at hl 0 rfl) ?_
                    refine z_get (own := RX10) (C := RX10) (T := TX10) (N := 21) hx hb hts in_X10_add_10 hown hK hS h_m hM41 rfl 13 (by decide) (List.mem_of_getElem? (i := 3) rfl) rfl rfl dX10_add_98 ?_
                    refine lv_iload_n hx hb dX10_add_101 rfl (lv_at hl 2 rfl) ?_
                    refine z_iald hx hb hK hS h_l hM52 (vp_in_nI (by omega) (by omega)) dX10_add_102 ?_
                    rw [show fl (nI r1).toNatClampNeg = nI (rw9 r1).1 from by rw [nI_clamp (by omega)]; exact hlr1]
                    refine lv_icmp_ge (tgt := 121) hx hb dX10_add_103 (by decide) (fun c_21 => ?_) (fun c_21 => ?_)
                    · have i_21 := z_le c_21
                      rw [nI_toInt (by omega)] at i_21
                      rw [nI_toInt (by omega)] at i_21
                      have hA : (0 : Int32).toInt = zeg (rw9 r1) j := by unfold zeg; rw [if_neg (by omega)]; rfl
                      refine lv_iconst (v := 0) hx hb dX10_add_121 (by decide) ?_
                      refine lv_iload hx hb dX10_add_122 (lv_at hl 5 rfl) ?_
                      refine lv_aload_n hx hb dX10_add_124 rfl (lv_at hl 0 rfl) ?_
                      refine z_get (own := RX10) (C := RX10) (T := TX10) (N := 21) hx hb hts in_X10_add_10 hown hK hS h_m hM41 rfl 13 (by decide) (List.mem_of_getElem? (i := 3) rfl) rfl rfl dX10_add_125 ?_
                      refine lv_iload_n hx hb dX10_add_128 rfl (lv_at hl 3 rfl) ?_
                      refine z_iald hx hb hK hS h_l hM52 (vp_in_nI (by omega) (by omega)) dX10_add_129 ?_
                      rw [show fl (nI r2).toNatClampNeg = nI (rw9 r2).1 from by rw [nI_clamp (by omega)]; exact hlr2]
                      refine lv_icmp_ge (tgt := 148) hx hb dX10_add_130 (by decide) (fun c_22 => ?_) (fun c_22 => ?_)
                      · have i_22 := z_le c_22
                        rw [nI_toInt (by omega)] at i_22
                        rw [nI_toInt (by omega)] at i_22
                        have hB : (0 : Int32).toInt = zeg (rw9 r2) j := by unfold zeg; rw [if_neg (by omega)]; rfl
                        refine lv_iconst (v := 0) hx hb dX10_add_148 (by decide) ?_
                        refine lv_iadd hx hb dX10_add_149 ?_
                        have hAb := hzb1 j
                        have hBb := hzb2 j
                        have hAB : (0 + 0 : Int32).toInt = zeg (rw9 r1) j + zeg (rw9 r2) j := by rw [fb_addI (by omega) (by omega)]; omega
                        refine z_iast hx hb hK hS h_su hM54 (vp_in_nI (by omega) (by omega)) dX10_add_150 (fun g_23 H locs hg_23 hS => ?_)
                        have h_su : g_23 54 = .inl (Z.2.2.2 0, 12, .inl (upd fs1 (nI j).toNatClampNeg (0 + 0))) := z_up_s hg_23
                        have h_m := z_up_n hg_23 h_m (by omega)
                        have h_u := z_up_n hg_23 h_u (by omega)
                        have h_q := z_up_n hg_23 h_q (by omega)
                        have h_n9 := z_up_n hg_23 h_n9 (by omega)
                        have h_g := z_up_n hg_23 h_g (by omega)
                        have h_l := z_up_n hg_23 h_l (by omega)
                        have h_e := z_up_n hg_23 h_e (by omega)
                        refine lv_iinc (v := (nI (j + 1))) (lv' := [(5, .int (nI (j + 1))), (0, .ref (Z.2.1 41)), (1, .int (nI s1)), (2, .int (nI r1)), (3, .int (nI r2)), (4, .int (nI r3))]) hx hb dX10_add_151 hl (k := 5) rfl (nI_1 _) (by decide) rfl (fun ls hl => ?_)
                        refine lv_goto (tgt := 80) hx hb dX10_add_154 (by decide) ?_
                        exact ih_80 (j + 1) (upd fs1 (nI j).toNatClampNeg (0 + 0)) g_23 h_m h_u h_q h_n9 h_g h_l h_e h_su (hfr_ga.up hg_23 (by omega)) (by omega) (fun i hi => by
                            rw [nI_clamp (by omega)]
                            by_cases q9 : i = j
                            · rw [q9, pk_us]; exact hAB
                            · rw [pk_un q9]; exact hfs i (by omega)) (by omega) _ _ _ hS (lv_sub hl [1, 2, 3, 4, 5, 0] rfl)
                      · have i_22 := z_nle c_22
                        rw [nI_toInt (by omega)] at i_22
                        rw [nI_toInt (by omega)] at i_22
                        have hB : (fe (12 * r2 + j)).toInt = zeg (rw9 r2) j := by unfold zeg; rw [if_pos (by omega)]; exact (hev2 j (by omega)).1
                        refine lv_aload_n hx hb dX10_add_133 rfl (lv_at hl 0 rfl) ?_
                        refine z_get (own := RX10) (C := RX10) (T := TX10) (N := 21) hx hb hts in_X10_add_10 hown hK hS h_m hM41 rfl 14 (by decide) (List.mem_of_getElem? (i := 6) rfl) rfl rfl dX10_add_134 ?_
                        refine lv_bipush (v := 12) hx hb dX10_add_137 (by decide) ?_
                        refine lv_iload_n hx hb dX10_add_139 rfl (lv_at hl 3 rfl) ?_
                        refine lv_imul hx hb dX10_add_140 ?_
                        refine lv_iload hx hb dX10_add_141 (lv_at hl 5 rfl) ?_
                        refine lv_iadd hx hb dX10_add_143 ?_
                        rw [show (12 * (nI r2)) + (nI j) = nI (12 * r2 + j) from zm_ix (by omega) (by omega)]
                        refine z_iald hx hb hK hS h_e hM53 (vp_in_nI (by omega) (by omega)) dX10_add_144 ?_
                        rw [show fe (nI (12 * r2 + j)).toNatClampNeg = fe (12 * r2 + j) from by rw [nI_clamp (by omega)]]
                        refine lv_goto (tgt := 149) hx hb dX10_add_145 (by decide) ?_
                        refine lv_iadd hx hb dX10_add_149 ?_
                        have hAb := hzb1 j
                        have hBb := hzb2 j
                        have hAB : (0 + (fe (12 * r2 + j)) : Int32).toInt = zeg (rw9 r1) j + zeg (rw9 r2) j := by rw [fb_addI (by omega) (by omega)]; omega
                        refine z_iast hx hb hK hS h_su hM54 (vp_in_nI (by omega) (by omega)) dX10_add_150 (fun g_24 H locs hg_24 hS => ?_)
                        have h_su : g_24 54 = .inl (Z.2.2.2 0, 12, .inl (upd fs1 (nI j).toNatClampNeg (0 + (fe (12 * r2 + j))))) := z_up_s hg_24
                        have h_m := z_up_n hg_24 h_m (by omega)
                        have h_u := z_up_n hg_24 h_u (by omega)
                        have h_q := z_up_n hg_24 h_q (by omega)
                        have h_n9 := z_up_n hg_24 h_n9 (by omega)
                        have h_g := z_up_n hg_24 h_g (by omega)
                        have h_l := z_up_n hg_24 h_l (by omega)
                        have h_e := z_up_n hg_24 h_e (by omega)
                        refine lv_iinc (v := (nI (j + 1))) (lv' := [(5, .int (nI (j + 1))), (0, .ref (Z.2.1 41)), (1, .int (nI s1)), (2, .int (nI r1)), (3, .int (nI r2)), (4, .int (nI r3))]) hx hb dX10_add_151 hl (k := 5) rfl (nI_1 _) (by decide) rfl (fun ls hl => ?_)
                        refine lv_goto (tgt := 80) hx hb dX10_add_154 (by decide) ?_
                        exact ih_80 (j + 1) (upd fs1 (nI j).toNatClampNeg (0 + (fe (12 * r2 + j)))) g_24 h_m h_u h_q h_n9 h_g h_l h_e h_su (hfr_ga.up hg_24 (by omega)) (by omega) (fun i hi => by
                            rw [nI_clamp (by omega)]
                            by_cases q9 : i = j
                            · rw [q9, pk_us]; exact hAB
                            · rw [pk_un q9]; exact hfs i (by omega)) (by omega) _ _ _ hS (lv_sub hl [1, 2, 3, 4, 5, 0] rfl)
                    · have i_21 := z_nle c_21
                      rw [nI_toInt (by omega)] at i_21
                      rw [nI_toInt (by omega)] at i_21
                      have hA : (fe (12 * r1 + j)).toInt = zeg (rw9 r1) j := by unfold zeg; rw [if_pos (by omega)]; exact (hev1 j (by omega)).1
                      refine lv_aload_n hx hb dX10_add_106 rfl (lv_at hl 0 rfl) ?_
                      refine z_get (own := RX10) (C := RX10) (T := TX10) (N := 21) hx hb hts in_X10_add_10 hown hK hS h_m hM41 rfl 14 (by decide) (List.mem_of_getElem? (i := 6) rfl) rfl rfl dX10_add_107 ?_
                      refine lv_bipush (v := 12) hx hb dX10_add_110 (by decide) ?_
                      refine lv_iload_n hx hb dX10_add_112 rfl (lv_at hl 2 rfl) ?_
                      refine lv_imul hx hb dX10_add_113 ?_
                      refine lv_iload hx hb dX10_add_114 (lv_at hl 5 rfl) ?_
                      refine lv_iadd hx hb dX10_add_116 ?_
                      rw [show (12 * (nI r1)) + (nI j) = nI (12 * r1 + j) from zm_ix (by omega) (by omega)]
                      refine z_iald hx hb hK hS h_e hM53 (vp_in_nI (by omega) (by omega)) dX10_add_117 ?_
                      rw [show fe (nI (12 * r1 + j)).toNatClampNeg = fe (12 * r1 + j) from by rw [nI_clamp (by omega)]]
                      refine lv_goto (tgt := 122) hx hb dX10_add_118 (by decide) ?_
                      refine lv_iload hx hb dX10_add_122 (lv_at hl 5 rfl) ?_
                      refine lv_aload_n hx hb dX10_add_124 rfl (lv_at hl 0 rfl) ?_
                      refine z_get (own := RX10) (C := RX10) (T := TX10) (N := 21) hx hb hts in_X10_add_10 hown hK hS h_m hM41 rfl 13 (by decide) (List.mem_of_getElem? (i := 3) rfl) rfl rfl dX10_add_125 ?_
                      refine lv_iload_n hx hb dX10_add_128 rfl (lv_at hl 3 rfl) ?_
                      refine z_iald hx hb hK hS h_l hM52 (vp_in_nI (by omega) (by omega)) dX10_add_129 ?_
                      rw [show fl (nI r2).toNatClampNeg = nI (rw9 r2).1 from by rw [nI_clamp (by omega)]; exact hlr2]
                      refine lv_icmp_ge (tgt := 148) hx hb dX10_add_130 (by decide) (fun c_25 => ?_) (fun c_25 => ?_)
                      · have i_25 := z_le c_25
                        rw [nI_toInt (by omega)] at i_25
                        rw [nI_toInt (by omega)] at i_25
                        have hB : (0 : Int32).toInt = zeg (rw9 r2) j := by unfold zeg; rw [if_neg (by omega)]; rfl
                        refine lv_iconst (v := 0) hx hb dX10_add_148 (by decide) ?_
                        refine lv_iadd hx hb dX10_add_149 ?_
                        have hAb := hzb1 j
                        have hBb := hzb2 j
                        have hAB : ((fe (12 * r1 + j)) + 0 : Int32).toInt = zeg (rw9 r1) j + zeg (rw9 r2) j := by rw [fb_addI (by omega) (by omega)]; omega
                        refine z_iast hx hb hK hS h_su hM54 (vp_in_nI (by omega) (by omega)) dX10_add_150 (fun g_26 H locs hg_26 hS => ?_)
                        have h_su : g_26 54 = .inl (Z.2.2.2 0, 12, .inl (upd fs1 (nI j).toNatClampNeg ((fe (12 * r1 + j)) + 0))) := z_up_s hg_26
                        have h_m := z_up_n hg_26 h_m (by omega)
                        have h_u := z_up_n hg_26 h_u (by omega)
                        have h_q := z_up_n hg_26 h_q (by omega)
                        have h_n9 := z_up_n hg_26 h_n9 (by omega)
                        have h_g := z_up_n hg_26 h_g (by omega)
                        have h_l := z_up_n hg_26 h_l (by omega)
                        have h_e := z_up_n hg_26 h_e (by omega)
                        refine lv_iinc (v := (nI (j + 1))) (lv' := [(5, .int (nI (j + 1))), (0, .ref (Z.2.1 41)), (1, .int (nI s1)), (2, .int (nI r1)), (3, .int (nI r2)), (4, .int (nI r3))]) hx hb dX10_add_151 hl (k := 5) rfl (nI_1 _) (by decide) rfl (fun ls hl => ?_)
                        refine lv_goto (tgt := 80) hx hb dX10_add_154 (by decide) ?_
                        exact ih_80 (j + 1) (upd fs1 (nI j).toNatClampNeg ((fe (12 * r1 + j)) + 0)) g_26 h_m h_u h_q h_n9 h_g h_l h_e h_su (hfr_ga.up hg_26 (by omega)) (by omega) (fun i hi => by
                            rw [nI_clamp (by omega)]
                            by_cases q9 : i = j
                            · rw [q9, pk_us]; exact hAB
                            · rw [pk_un q9]; exact hfs i (by omega)) (by omega) _ _ _ hS (lv_sub hl [1, 2, 3, 4, 5, 0] rfl)
                      · have i_25 := z_nle c_25
                        rw [nI_toInt (by omega)] at i_25
                        rw [nI_toInt (by omega)] at i_25
                        have hB : (fe (12 * r2 + j)).toInt = zeg (rw9 r2) j := by unfold zeg; rw [if_pos (by omega)]; exact (hev2 j (by omega)).1
                        refine lv_aload_n hx hb dX10_add_133 rfl (lv_at hl 0 rfl) ?_
                        refine z_get (own := RX10) (C := RX10) (T := TX10) (N := 21) hx hb hts in_X10_add_10 hown hK hS h_m hM41 rfl 14 (by decide) (List.mem_of_getElem? (i := 6) rfl) rfl rfl dX10_add_134 ?_
                        refine lv_bipush (v := 12) hx hb dX10_add_137 (by decide) ?_
                        refine lv_iload_n hx hb dX10_add_139 rfl (lv_at hl 3 rfl) ?_
                        refine lv_imul hx hb dX10_add_140 ?_
                        refine lv_iload hx hb dX10_add_141 (lv_at hl 5 rfl) ?_
                        refine lv_iadd hx hb dX10_add_143 ?_
                        rw [show (12 * (nI r2)) + (nI j) = nI (12 * r2 + j) from zm_ix (by omega) (by omega)]
                        refine z_iald hx hb hK hS h_e hM53 (vp_in_nI (by omega) (by omega)) dX10_add_144 ?_
                        rw [show fe (nI (12 * r2 + j)).toNatClampNeg = fe (12 * r2 + j) from by rw [nI_clamp (by omega)]]
                        refine lv_goto (tgt := 149) hx hb dX10_add_145 (by decide) ?_
                        refine lv_iadd hx hb dX10_add_149 ?_
                        have hAb := hzb1 j
                        have hBb := hzb2 j
                        have hAB : ((fe (12 * r1 + j)) + (fe (12 * r2 + j)) : Int32).toInt = zeg (rw9 r1) j + zeg (rw9 r2) j := by rw [fb_addI (by omega) (by omega)]; omega
                        refine z_iast hx hb hK hS h_su hM54 (vp_in_nI (by omega) (by omega)) dX10_add_150 (fun g_27 H locs hg_27 hS => ?_)
                        have h_su : g_27 54 = .inl (Z.2.2.2 0, 12, .inl (upd fs1 (nI j).toNatClampNeg ((fe (12 * r1 + j)) + (fe (12 * r2 + j))))) := z_up_s hg_27
                        have h_m := z_up_n hg_27 h_m (by omega)
                        have h_u := z_up_n hg_27 h_u (by omega)
                        have h_q := z_up_n hg_27 h_q (by omega)
                        have h_n9 := z_up_n hg_27 h_n9 (by omega)
                        have h_g := z_up_n hg_27 h_g (by omega)
                        have h_l := z_up_n hg_27 h_l (by omega)
                        have h_e := z_up_n hg_27 h_e (by omega)
                        refine lv_iinc (v := (nI (j + 1))) (lv' := [(5, .int (nI (j + 1))), (0, .ref (Z.2.1 41)), (1, .int (nI s1)), (2, .int (nI r1)), (3, .int (nI r2)), (4, .int (nI r3))]) hx hb dX10_add_151 hl (k := 5) rfl (nI_1 _) (by decide) rfl (fun ls hl => ?_)
                        refine lv_goto (tgt := 80) hx hb dX10_add_154 (by decide) ?_
                        exact ih_80 (j + 1) (upd fs1 (nI j).toNatClampNeg ((fe (12 * r1 + j)) + (fe (12 * r2 + j)))) g_27 h_m h_u h_q h_n9 h_g h_l h_e h_su (hfr_ga.up hg_27 (by omega)) (by omega) (fun i hi => by
                            rw [nI_clamp (by omega)]
                            by_cases q9 : i = j
                            · rw [q9, pk_us]; exact hAB
                            · rw [pk_un q9]; exact hfs i (by omega)) (by omega) _ _ _ hS (lv_sub hl [1, 2, 3, 4, 5, 0] rfl)
              exact hcut_80 (n9 - 0 + 1) 0 su g_17 h_m h_u h_q h_n9 h_g h_l h_e h_su z_fr.rf (by omega) (fun i hi => absurd hi (Nat.not_lt_zero i)) (Nat.lt_succ_self _) _ _ _ hS (lv_sub hl [1, 2, 3, 4, 5, 0] rfl)
            · have i_16 := z_nle c_16
              rw [nI_toInt (by omega)] at i_16
              rw [nI_toInt (by omega)] at i_16
              obtain ⟨n9, en9⟩ : ∃ n9 : Nat, n9 = (rw9 r1).1 := ⟨_, rfl⟩
              have hmx : max (rw9 r1).1 (rw9 r2).1 = n9 := by omega
              have hn9b : n9 ≤ 12 := by omega
              refine lv_aload_n hx hb dX10_add_59 rfl (lv_at hl 0 rfl) ?_
              refine z_get (own := RX10) (C := RX10) (T := TX10) (N := 21) hx hb hts in_X10_add_10 hown hK hS h_m hM41 rfl 13 (by decide) (List.mem_of_getElem? (i := 3) rfl) rfl rfl dX10_add_60 ?_
              refine lv_iload_n hx hb dX10_add_63 rfl (lv_at hl 2 rfl) ?_
              refine z_iald hx hb hK hS h_l hM52 (vp_in_nI (by omega) (by omega)) dX10_add_64 ?_
              rw [show fl (nI r1).toNatClampNeg = nI n9 from by rw [nI_clamp (by omega), hlr1, en9]]
              refine lv_goto (tgt := 74) hx hb dX10_add_65 (by decide) ?_
              refine z_put (fs' := [.ref (Z.2.1 42), .ref (Z.2.1 43), .ref (Z.2.1 44), .ref (Z.2.1 45), .int v4, .int v5, .int v6, .ref (Z.2.1 46), .ref (Z.2.1 47), .ref (Z.2.1 48), .ref (Z.2.1 49), .ref (Z.2.1 50), .ref (Z.2.1 51), .ref (Z.2.1 52), .ref (Z.2.1 53), .long v15, .long v16, .int (nI n9), .ref (Z.2.1 54), .ref (Z.2.1 55), .ref (Z.2.1 56)]) (own := RX10) (C := RX10) (T := TX10) (N := 21) hx hb hts in_X10_add_10 tyX10 tyX10_ok nmX10 hown hK hS h_m hM41 rfl 17 (by decide) (List.mem_of_getElem? (i := 4) rfl) rfl rfl rfl rfl (Nat.le_of_ble_eq_true rfl) rfl dX10_add_74 (fun g_28 H locs hg_28 hS => ?_)
              have h_m : g_28 41 = .inr (10, [.ref (Z.2.1 42), .ref (Z.2.1 43), .ref (Z.2.1 44), .ref (Z.2.1 45), .int v4, .int v5, .int v6, .ref (Z.2.1 46), .ref (Z.2.1 47), .ref (Z.2.1 48), .ref (Z.2.1 49), .ref (Z.2.1 50), .ref (Z.2.1 51), .ref (Z.2.1 52), .ref (Z.2.1 53), .long v15, .long v16, .int (nI n9), .ref (Z.2.1 54), .ref (Z.2.1 55), .ref (Z.2.1 56)]) := z_up_s hg_28
              have h_u := z_up_n hg_28 h_u (by omega)
              have h_q := z_up_n hg_28 h_q (by omega)
              have h_n9 := z_up_n hg_28 h_n9 (by omega)
              have h_g := z_up_n hg_28 h_g (by omega)
              have h_l := z_up_n hg_28 h_l (by omega)
              have h_e := z_up_n hg_28 h_e (by omega)
              have h_su := z_up_n hg_28 h_su (by omega)
              have hfa : z_fr 41 1 g g_28 := (z_fr.rf.up hg_28 (by omega))
              refine lv_iconst (v := 0) hx hb dX10_add_77 (by decide) ?_
              refine lv_istore (lv' := [(5, .int 0), (0, .ref (Z.2.1 41)), (1, .int (nI s1)), (2, .int (nI r1)), (3, .int (nI r2)), (4, .int (nI r3))]) hx hb dX10_add_78 hl (by decide) rfl (fun ls hl => ?_)
              have hcut_80_2 : ∀ (nn_80 : Nat) (j : Nat) (fs1 : Nat → Int32) (ga : Nat → va_E) (h_m : ga 41 = .inr (10, [.ref (Z.2.1 42), .ref (Z.2.1 43), .ref (Z.2.1 44), .ref (Z.2.1 45), .int v4, .int v5, .int v6, .ref (Z.2.1 46), .ref (Z.2.1 47), .ref (Z.2.1 48), .ref (Z.2.1 49), .ref (Z.2.1 50), .ref (Z.2.1 51), .ref (Z.2.1 52), .ref (Z.2.1 53), .long v15, .long v16, .int (nI n9), .ref (Z.2.1 54), .ref (Z.2.1 55), .ref (Z.2.1 56)])) (h_u : ga 42 = .inl (Z.2.2.2 0, 2, .inl fu)) (h_q : ga 43 = .inl (Z.2.2.2 0, 2, .inl fq)) (h_n9 : ga 44 = .inl (Z.2.2.2 0, 2, .inl fm)) (h_g : ga 45 = .inl (Z.2.2.2 0, 24, .inl fd)) (h_l : ga 52 = .inl (Z.2.2.2 0, 3, .inl fl)) (h_e : ga 53 = .inl (Z.2.2.2 0, 36, .inl fe)) (h_su : ga 54 = .inl (Z.2.2.2 0, 12, .inl fs1)) (hfr_ga : z_fr 54 1 g_28 ga) (hj : j ≤ n9) (hfs : ∀ i, i < j → (fs1 i).toInt = zeg (rw9 r1) i + zeg (rw9 r2) i) (hm_80 : n9 - j < nn_80) (H : Heap) (locs : List Loc) (ls : Array Slot), z_S Z (z_A Z sz) s.heap ga H locs → lv_has ls 6 [(0, .ref (Z.2.1 41)), (1, .int (nI s1)), (2, .int (nI r1)), (3, .int (nI r2)), (4, .int (nI r3)), (5, .int (nI j))] → W p l e (headSpec wsX10_add (z_rm 7 160)).room s m args below meth c H locs 0 0 (MQ below (va_Qi (fun r g1 => z_pm Z g (sp_add (sg, rw9) (nI s1).toInt (nI r1).toInt (nI r2).toInt (nI r3).toInt) r g1) (z_B Z) (z_A Z sz)) args s 0 0 (z_A Z sz)) (F0 m 80 ls []) := by
                intro nn_80
                induction nn_80 with
                | zero => intro j fs1 ga h_m h_u h_q h_n9 h_g h_l h_e h_su hfr_ga hj hfs hm_80 H locs ls hS hl; exact absurd hm_80 (Nat.not_lt_zero _)
                | succ nn_80 ih_80 =>
                  intro j fs1 ga h_m h_u h_q h_n9 h_g h_l h_e h_su hfr_ga hj hfs hm_80 H locs ls hS hl
                  refine lv_iload hx hb dX10_add_80 (lv_at hl 5 rfl) ?_
                  refine lv_aload_n hx hb dX10_add_82 rfl (lv_at hl 0 rfl) ?_
                  refine z_get (own := RX10) (C := RX10) (T := TX10) (N := 21) hx hb hts in_X10_add_10 hown hK hS h_m hM41 rfl 17 (by decide) (List.mem_of_getElem? (i := 4) rfl) rfl rfl dX10_add_83 ?_
                  refine lv_icmp_ge (tgt := 157) hx hb dX10_add_86 (by decide) (fun c_29 => ?_) (fun c_29 => ?_)
                  · have i_29 := z_le c_29
                    rw [nI_toInt (by omega)] at i_29
                    rw [nI_toInt (by omega)] at i_29
                    have hjn : j = n9 := by omega
                    rw [hjn] at hfs
                    have hfz : z_fr 54 1 g_28 ga := hfr_ga
                    refine lv_aload_n hx hb dX10_add_157 rfl (lv_at hl 0 rfl) ?_
                    refine lv_iload_n hx hb dX10_add_158 rfl (lv_at hl 1 rfl) ?_
                    refine lv_iload hx hb dX10_add_159 (lv_at hl 4 rfl) ?_
                    refine z_calli (z_runV (As := [.int (nI s1), .int (nI r3)]) (rest := []) ⟨hx, hb, hml, hown, hts⟩ hK hS ((m_compute Z ga sg rw9 _ _ _ _ _ n9 ⟨fu, fq, fm, fd, h_m, h_u, h_q, h_n9, h_g, hMN, hSg⟩ (hW.2.sums h_su (fun k h1 h2 h3 => (hfz k (by omega)).trans (hfa k (by omega)))) fs1 h_su (fun i => zeg (rw9 r1) i + zeg (rw9 r2) i) (by omega) hfs (fun i hi => by
                      have h1 := hzb1 i
                      unfold zeg
                      rw [if_neg (by omega), if_neg (by omega)]; rfl) (fun i => by
                      have h1 := hzb1 i
                      have h2 := hzb2 i
                      try dsimp only
                      omega) s1 r3 hs1 hr3 hcm) l _) gX10_add_X10_compute rfl 2 (by decide +kernel) ⟨Nat.le_of_ble_eq_true rfl, Nat.le_of_ble_eq_true rfl⟩ h_m hM41 rfl rfl hl.1 rfl (Nat.le_of_ble_eq_true rfl) dX10_add_161 ⟨Nat.le_of_ble_eq_true rfl, Nat.le_of_ble_eq_true rfl⟩) hS (fun re g_30 H locs hp_31 hS => ?_)
                    have hpo := hp_31
                    refine z_iret hx hb hr hlocks hS ?_ dX10_add_164
                    show z_pm Z g (sp_add (sg, rw9) (nI s1).toInt (nI r1).toInt (nI r2).toInt (nI r3).toInt) _ _
                    unfold sp_add
                    rw [zite_t ⟨hzs, hzr1, hzr2, hzr3⟩, htn1, htr1, htr2, htr3, zite_t hcm, hmx]
                    try dsimp only
                    exact ⟨hpo.1, hpo.2.1, (hfa.wide (by omega) (by omega)).tr ((hfz.wide (by omega) (by omega)).tr hpo.2.2)⟩
                  · have i_29 := z_nle c_29
                    rw [nI_toInt (by omega)] at i_29
                    rw [nI_toInt (by omega)] at i_29
                    refine lv_aload_n hx hb dX10_add_89 rfl (lv_at hl 0 rfl) ?_
                    refine z_get (own := RX10) (C := RX10) (T := TX10) (N := 21) hx hb hts in_X10_add_10 hown hK hS h_m hM41 rfl 18 (by decide) (List.mem_of_getElem? (i := 5) rfl) rfl rfl dX10_add_90 ?_
                    refine lv_iload hx hb dX10_add_93 (lv_at hl 5 rfl) ?_
                    refine lv_iload hx hb dX10_add_95 (lv_at hl 5 rfl) ?_
                    refine lv_aload_n hx hb dX10_add_97 rfl (lv_at hl 0 rfl) ?_
                    refine z_get (own := RX10) (C := RX10) (T := TX10) (N := 21) hx hb hts in_X10_add_10 hown hK hS h_m hM41 rfl 13 (by decide) (List.mem_of_getElem? (i := 3) rfl) rfl rfl dX10_add_98 ?_
                    refine lv_iload_n hx hb dX10_add_101 rfl (lv_at hl 2 rfl) ?_
                    refine z_iald hx hb hK hS h_l hM52 (vp_in_nI (by omega) (by omega)) dX10_add_102 ?_
                    rw [show fl (nI r1).toNatClampNeg = nI (rw9 r1).1 from by rw [nI_clamp (by omega)]; exact hlr1]
                    refine lv_icmp_ge (tgt := 121) hx hb dX10_add_103 (by decide) (fun c_32 => ?_) (fun c_32 => ?_)
                    · have i_32 := z_le c_32
                      rw [nI_toInt (by omega)] at i_32
                      rw [nI_toInt (by omega)] at i_32
                      have hA : (0 : Int32).toInt = zeg (rw9 r1) j := by unfold zeg; rw [if_neg (by omega)]; rfl
                      refine lv_iconst (v := 0) hx hb dX10_add_121 (by decide) ?_
                      refine lv_iload hx hb dX10_add_122 (lv_at hl 5 rfl) ?_
                      refine lv_aload_n hx hb dX10_add_124 rfl (lv_at hl 0 rfl) ?_
                      refine z_get (own := RX10) (C := RX10) (T := TX10) (N := 21) hx hb hts in_X10_add_10 hown hK hS h_m hM41 rfl 13 (by decide) (List.mem_of_getElem? (i := 3) rfl) rfl rfl dX10_add_125 ?_
                      refine lv_iload_n hx hb dX10_add_128 rfl (lv_at hl 3 rfl) ?_
                      refine z_iald hx hb hK hS h_l hM52 (vp_in_nI (by omega) (by omega)) dX10_add_129 ?_
                      rw [show fl (nI r2).toNatClampNeg = nI (rw9 r2).1 from by rw [nI_clamp (by omega)]; exact hlr2]
                      refine lv_icmp_ge (tgt := 148) hx hb dX10_add_130 (by decide) (fun c_33 => ?_) (fun c_33 => ?_)
                      · have i_33 := z_le c_33
                        rw [nI_toInt (by omega)] at i_33
                        rw [nI_toInt (by omega)] at i_33
                        have hB : (0 : Int32).toInt = zeg (rw9 r2) j := by unfold zeg; rw [if_neg (by omega)]; rfl
                        refine lv_iconst (v := 0) hx hb dX10_add_148 (by decide) ?_
                        refine lv_iadd hx hb dX10_add_149 ?_
                        have hAb := hzb1 j
                        have hBb := hzb2 j
                        have hAB : (0 + 0 : Int32).toInt = zeg (rw9 r1) j + zeg (rw9 r2) j := by rw [fb_addI (by omega) (by omega)]; omega
                        refine z_iast hx hb hK hS h_su hM54 (vp_in_nI (by omega) (by omega)) dX10_add_150 (fun g_34 H locs hg_34 hS => ?_)
                        have h_su : g_34 54 = .inl (Z.2.2.2 0, 12, .inl (upd fs1 (nI j).toNatClampNeg (0 + 0))) := z_up_s hg_34
                        have h_m := z_up_n hg_34 h_m (by omega)
                        have h_u := z_up_n hg_34 h_u (by omega)
                        have h_q := z_up_n hg_34 h_q (by omega)
                        have h_n9 := z_up_n hg_34 h_n9 (by omega)
                        have h_g := z_up_n hg_34 h_g (by omega)
                        have h_l := z_up_n hg_34 h_l (by omega)
                        have h_e := z_up_n hg_34 h_e (by omega)
                        refine lv_iinc (v := (nI (j + 1))) (lv' := [(5, .int (nI (j + 1))), (0, .ref (Z.2.1 41)), (1, .int (nI s1)), (2, .int (nI r1)), (3, .int (nI r2)), (4, .int (nI r3))]) hx hb dX10_add_151 hl (k := 5) rfl (nI_1 _) (by decide) rfl (fun ls hl => ?_)
                        refine lv_goto (tgt := 80) hx hb dX10_add_154 (by decide) ?_
                        exact ih_80 (j + 1) (upd fs1 (nI j).toNatClampNeg (0 + 0)) g_34 h_m h_u h_q h_n9 h_g h_l h_e h_su (hfr_ga.up hg_34 (by omega)) (by omega) (fun i hi => by
                            rw [nI_clamp (by omega)]
                            by_cases q9 : i = j
                            · rw [q9, pk_us]; exact hAB
                            · rw [pk_un q9]; exact hfs i (by omega)) (by omega) _ _ _ hS (lv_sub hl [1, 2, 3, 4, 5, 0] rfl)
                      · have i_33 := z_nle c_33
                        rw [nI_toInt (by omega)] at i_33
                        rw [nI_toInt (by omega)] at i_33
                        have hB : (fe (12 * r2 + j)).toInt = zeg (rw9 r2) j := by unfold zeg; rw [if_pos (by omega)]; exact (hev2 j (by omega)).1
                        refine lv_aload_n hx hb dX10_add_133 rfl (lv_at hl 0 rfl) ?_
                        refine z_get (own := RX10) (C := RX10) (T := TX10) (N := 21) hx hb hts in_X10_add_10 hown hK hS h_m hM41 rfl 14 (by decide) (List.mem_of_getElem? (i := 6) rfl) rfl rfl dX10_add_134 ?_
                        refine lv_bipush (v := 12) hx hb dX10_add_137 (by decide) ?_
                        refine lv_iload_n hx hb dX10_add_139 rfl (lv_at hl 3 rfl) ?_
                        refine lv_imul hx hb dX10_add_140 ?_
                        refine lv_iload hx hb dX10_add_141 (lv_at hl 5 rfl) ?_
                        refine lv_iadd hx hb dX10_add_143 ?_
                        rw [show (12 * (nI r2)) + (nI j) = nI (12 * r2 + j) from zm_ix (by omega) (by omega)]
                        refine z_iald hx hb hK hS h_e hM53 (vp_in_nI (by omega) (by omega)) dX10_add_144 ?_
                        rw [show fe (nI (12 * r2 + j)).toNatClampNeg = fe (12 * r2 + j) from by rw [nI_clamp (by omega)]]
                        refine lv_goto (tgt := 149) hx hb dX10_add_145 (by decide) ?_
                        refine lv_iadd hx hb dX10_add_149 ?_
                        have hAb := hzb1 j
                        have hBb := hzb2 j
                        have hAB : (0 + (fe (12 * r2 + j)) : Int32).toInt = zeg (rw9 r1) j + zeg (rw9 r2) j := by rw [fb_addI (by omega) (by omega)]; omega
                        refine z_iast hx hb hK hS h_su hM54 (vp_in_nI (by omega) (by omega)) dX10_add_150 (fun g_35 H locs hg_35 hS => ?_)
                        have h_su : g_35 54 = .inl (Z.2.2.2 0, 12, .inl (upd fs1 (nI j).toNatClampNeg (0 + (fe (12 * r2 + j))))) := z_up_s hg_35
                        have h_m := z_up_n hg_35 h_m (by omega)
                        have h_u := z_up_n hg_35 h_u (by omega)
                        have h_q := z_up_n hg_35 h_q (by omega)
                        have h_n9 := z_up_n hg_35 h_n9 (by omega)
                        have h_g := z_up_n hg_35 h_g (by omega)
                        have h_l := z_up_n hg_35 h_l (by omega)
                        have h_e := z_up_n hg_35 h_e (by omega)
                        refine lv_iinc (v := (nI (j + 1))) (lv' := [(5, .int (nI (j + 1))), (0, .ref (Z.2.1 41)), (1, .int (nI s1)), (2, .int (nI r1)), (3, .int (nI r2)), (4, .int (nI r3))]) hx hb dX10_add_151 hl (k := 5) rfl (nI_1 _) (by decide) rfl (fun ls hl => ?_)
                        refine lv_goto (tgt := 80) hx hb dX10_add_154 (by decide) ?_
                        exact ih_80 (j + 1) (upd fs1 (nI j).toNatClampNeg (0 + (fe (12 * r2 + j)))) g_35 h_m h_u h_q h_n9 h_g h_l h_e h_su (hfr_ga.up hg_35 (by omega)) (by omega) (fun i hi => by
                            rw [nI_clamp (by omega)]
                            by_cases q9 : i = j
                            · rw [q9, pk_us]; exact hAB
                            · rw [pk_un q9]; exact hfs i (by omega)) (by omega) _ _ _ hS (lv_sub hl [1, 2, 3, 4, 5, 0] rfl)
                    · have i_32 := z_nle c_32
                      rw [nI_toInt (by omega)] at i_32
                      rw [nI_toInt (by omega)] at i_32
                      have hA : (fe (12 * r1 + j)).toInt = zeg (rw9 r1) j := by unfold zeg; rw [if_pos (by omega)]; exact (hev1 j (by omega)).1
                      refine lv_aload_n hx hb dX10_add_106 rfl (lv_at hl 0 rfl) ?_
                      refine z_get (own := RX10) (C := RX10) (T := TX10) (N := 21) hx hb hts in_X10_add_10 hown hK hS h_m hM41 rfl 14 (by decide) (List.mem_of_getElem? (i := 6) rfl) rfl rfl dX10_add_107 ?_
                      refine lv_bipush (v := 12) hx hb dX10_add_110 (by decide) ?_
                      refine lv_iload_n hx hb dX10_add_112 rfl (lv_at hl 2 rfl) ?_
                      refine lv_imul hx hb dX10_add_113 ?_
                      refine lv_iload hx hb dX10_add_114 (lv_at hl 5 rfl) ?_
                      refine lv_iadd hx hb dX10_add_116 ?_
                      rw [show (12 * (nI r1)) + (nI j) = nI (12 * r1 + j) from zm_ix (by omega) (by omega)]
                      refine z_iald hx hb hK hS h_e hM53 (vp_in_nI (by omega) (by omega)) dX10_add_117 ?_
                      rw [show fe (nI (12 * r1 + j)).toNatClampNeg = fe (12 * r1 + j) from by rw [nI_clamp (by omega)]]
                      refine lv_goto (tgt := 122) hx hb dX10_add_118 (by decide) ?_
                      refine lv_iload hx hb dX10_add_122 (lv_at hl 5 rfl) ?_
                      refine lv_aload_n hx hb dX10_add_124 rfl (lv_at hl 0 rfl) ?_
                      refine z_get (own := RX10) (C := RX10) (T := TX10) (N := 21) hx hb hts in_X10_add_10 hown hK hS h_m hM41 rfl 13 (by decide) (List.mem_of_getElem? (i := 3) rfl) rfl rfl dX10_add_125 ?_
                      refine lv_iload_n hx hb dX10_add_128 rfl (lv_at hl 3 rfl) ?_
                      refine z_iald hx hb hK hS h_l hM52 (vp_in_nI (by omega) (by omega)) dX10_add_129 ?_
                      rw [show fl (nI r2).toNatClampNeg = nI (rw9 r2).1 from by rw [nI_clamp (by omega)]; exact hlr2]
                      refine lv_icmp_ge (tgt := 148) hx hb dX10_add_130 (by decide) (fun c_36 => ?_) (fun c_36 => ?_)
                      · have i_36 := z_le c_36
                        rw [nI_toInt (by omega)] at i_36
                        rw [nI_toInt (by omega)] at i_36
                        have hB : (0 : Int32).toInt = zeg (rw9 r2) j := by unfold zeg; rw [if_neg (by omega)]; rfl
                        refine lv_iconst (v := 0) hx hb dX10_add_148 (by decide) ?_
                        refine lv_iadd hx hb dX10_add_149 ?_
                        have hAb := hzb1 j
                        have hBb := hzb2 j
                        have hAB : ((fe (12 * r1 + j)) + 0 : Int32).toInt = zeg (rw9 r1) j + zeg (rw9 r2) j := by rw [fb_addI (by omega) (by omega)]; omega
                        refine z_iast hx hb hK hS h_su hM54 (vp_in_nI (by omega) (by omega)) dX10_add_150 (fun g_37 H locs hg_37 hS => ?_)
                        have h_su : g_37 54 = .inl (Z.2.2.2 0, 12, .inl (upd fs1 (nI j).toNatClampNeg ((fe (12 * r1 + j)) + 0))) := z_up_s hg_37
                        have h_m := z_up_n hg_37 h_m (by omega)
                        have h_u := z_up_n hg_37 h_u (by omega)
                        have h_q := z_up_n hg_37 h_q (by omega)
                        have h_n9 := z_up_n hg_37 h_n9 (by omega)
                        have h_g := z_up_n hg_37 h_g (by omega)
                        have h_l := z_up_n hg_37 h_l (by omega)
                        have h_e := z_up_n hg_37 h_e (by omega)
                        refine lv_iinc (v := (nI (j + 1))) (lv' := [(5, .int (nI (j + 1))), (0, .ref (Z.2.1 41)), (1, .int (nI s1)), (2, .int (nI r1)), (3, .int (nI r2)), (4, .int (nI r3))]) hx hb dX10_add_151 hl (k := 5) rfl (nI_1 _) (by decide) rfl (fun ls hl => ?_)
                        refine lv_goto (tgt := 80) hx hb dX10_add_154 (by decide) ?_
                        exact ih_80 (j + 1) (upd fs1 (nI j).toNatClampNeg ((fe (12 * r1 + j)) + 0)) g_37 h_m h_u h_q h_n9 h_g h_l h_e h_su (hfr_ga.up hg_37 (by omega)) (by omega) (fun i hi => by
                            rw [nI_clamp (by omega)]
                            by_cases q9 : i = j
                            · rw [q9, pk_us]; exact hAB
                            · rw [pk_un q9]; exact hfs i (by omega)) (by omega) _ _ _ hS (lv_sub hl [1, 2, 3, 4, 5, 0] rfl)
                      · have i_36 := z_nle c_36
                        rw [nI_toInt (by omega)] at i_36
                        rw [nI_toInt (by omega)] at i_36
                        have hB : (fe (12 * r2 + j)).toInt = zeg (rw9 r2) j := by unfold zeg; rw [if_pos (by omega)]; exact (hev2 j (by omega)).1
                        refine lv_aload_n hx hb dX10_add_133 rfl (lv_at hl 0 rfl) ?_
                        refine z_get (own := RX10) (C := RX10) (T := TX10) (N := 21) hx hb hts in_X10_add_10 hown hK hS h_m hM41 rfl 14 (by decide) (List.mem_of_getElem? (i := 6) rfl) rfl rfl dX10_add_134 ?_
                        refine lv_bipush (v := 12) hx hb dX10_add_137 (by decide) ?_
                        refine lv_iload_n hx hb dX10_add_139 rfl (lv_at hl 3 rfl) ?_
                        refine lv_imul hx hb dX10_add_140 ?_
                        refine lv_iload hx hb dX10_add_141 (lv_at hl 5 rfl) ?_
                        refine lv_iadd hx hb dX10_add_143 ?_
                        rw [show (12 * (nI r2)) + (nI j) = nI (12 * r2 + j) from zm_ix (by omega) (by omega)]
                        refine z_iald hx hb hK hS h_e hM53 (vp_in_nI (by omega) (by omega)) dX10_add_144 ?_
                        rw [show fe (nI (12 * r2 + j)).toNatClampNeg = fe (12 * r2 + j) from by rw [nI_clamp (by omega)]]
                        refine lv_goto (tgt := 149) hx hb dX10_add_145 (by decide) ?_
                        refine lv_iadd hx hb dX10_add_149 ?_
                        have hAb := hzb1 j
                        have hBb := hzb2 j
                        have hAB : ((fe (12 * r1 + j)) + (fe (12 * r2 + j)) : Int32).toInt = zeg (rw9 r1) j + zeg (rw9 r2) j := by rw [fb_addI (by omega) (by omega)]; omega
                        refine z_iast hx hb hK hS h_su hM54 (vp_in_nI (by omega) (by omega)) dX10_add_150 (fun g_38 H locs hg_38 hS => ?_)
                        have h_su : g_38 54 = .inl (Z.2.2.2 0, 12, .inl (upd fs1 (nI j).toNatClampNeg ((fe (12 * r1 + j)) + (fe (12 * r2 + j))))) := z_up_s hg_38
                        have h_m := z_up_n hg_38 h_m (by omega)
                        have h_u := z_up_n hg_38 h_u (by omega)
                        have h_q := z_up_n hg_38 h_q (by omega)
                        have h_n9 := z_up_n hg_38 h_n9 (by omega)
                        have h_g := z_up_n hg_38 h_g (by omega)
                        have h_l := z_up_n hg_38 h_l (by omega)
                        have h_e := z_up_n hg_38 h_e (by omega)
                        refine lv_iinc (v := (nI (j + 1))) (lv' := [(5, .int (nI (j + 1))), (0, .ref (Z.2.1 41)), (1, .int (nI s1)), (2, .int (nI r1)), (3, .int (nI r2)), (4, .int (nI r3))]) hx hb dX10_add_151 hl (k := 5) rfl (nI_1 _) (by decide) rfl (fun ls hl => ?_)
                        refine lv_goto (tgt := 80) hx hb dX10_add_154 (by decide) ?_
                        exact ih_80 (j + 1) (upd fs1 (nI j).toNatClampNeg ((fe (12 * r1 + j)) + (fe (12 * r2 + j)))) g_38 h_m h_u h_q h_n9 h_g h_l h_e h_su (hfr_ga.up hg_38 (by omega)) (by omega) (fun i hi => by
                            rw [nI_clamp (by omega)]
                            by_cases q9 : i = j
                            · rw [q9, pk_us]; exact hAB
                            · rw [pk_un q9]; exact hfs i (by omega)) (by omega) _ _ _ hS (lv_sub hl [1, 2, 3, 4, 5, 0] rfl)
              exact hcut_80_2 (n9 - 0 + 1) 0 su g_28 h_m h_u h_q h_n9 h_g h_l h_e h_su z_fr.rf (by omega) (fun i hi => absurd hi (Nat.not_lt_zero i)) (Nat.lt_succ_self _) _ _ _ hS (lv_sub hl [1, 2, 3, 4, 5, 0] rfl)
          · have i_15 := z_eq c_15
            rw [tI_0] at i_15
            have hncm := zbo_f hrc c_15
            refine lv_ldc (v := (-1000003)) hx hb hown (hts _ (List.mem_of_getElem? (i := 2) rfl)) dX10_add_40 ?_
            refine z_iret hx hb hr hlocks hS ?_ dX10_add_42
            show z_pm Z g (sp_add (sg, rw9) (nI s1).toInt (nI r1).toInt (nI r2).toInt (nI r3).toInt) _ _
            unfold sp_add
            rw [zite_t ⟨hzs, hzr1, hzr2, hzr3⟩, htn1, zite_f hncm]
            exact ⟨rfl, hW, z_fr.rf⟩
        · have i_12 := z_ne c_12
          rw [tI_0] at i_12
          have hnr := zbo_t hrqc c_12
          refine lv_ldc (v := (-1000001)) hx hb hown (hts _ (List.mem_of_getElem? (i := 1) rfl)) dX10_add_29 ?_
          refine z_iret hx hb hr hlocks hS ?_ dX10_add_31
          show z_pm Z g (sp_add (sg, rw9) (nI s1).toInt (nI r1).toInt (nI r2).toInt u.toInt) _ _
          unfold sp_add
          rw [zite_f (fun h9 => hnr h9.2.2.2)]
          exact ⟨rfl, hW, z_fr.rf⟩

theorem in_X10_multiply_10 : ∀ w ∈ wsX100, w ∈ wsX10_multiply := by decide +kernel
set_option maxHeartbeats 4000000 in
set_option maxRecDepth 100000 in
theorem m_multiply (Z : zT) (g : Nat → va_E) (sg : Nat → zb) (rw9 : Nat → zr) (hW : z_mw Z g sg rw9) (x y z u : Int32) : z_Mi Z yX10_multiply wsX10_multiply 7 160 [.ref (Z.2.1 41), .int x, .int y, .int z, .int u] g (fun r g1 => z_pm Z g (sp_multiply (sg, rw9) x.toInt y.toInt z.toInt u.toInt) r g1) := by
  intro l sz
  obtain ⟨v4, v5, v6, v15, v16, v17, hM9⟩ := hW.1.mp
  have hM := hM9.mr
  obtain ⟨fu, fq, fm, fd, h_m, h_u, h_q, h_n9, h_g, hMN, hSg⟩ := id hM9
  have hM41 : 41 < Z.1 := by omega
  have hM42 : 42 < Z.1 := by omega
  have hM43 : 43 < Z.1 := by omega
  have hM44 : 44 < Z.1 := by omega
  have hM45 : 45 < Z.1 := by omega
  obtain ⟨-, -, -, -, -, -, ⟨fl, h_l, hfl⟩, ⟨fe, h_e, hfe⟩, ⟨su, h_su⟩, -, -⟩ := id hW.2
  have hM52 : 52 < Z.1 := by omega
  have hM53 : 53 < Z.1 := by omega
  have hM54 : 54 < Z.1 := by omega
  refine z_enter (maxL := 6) (ret := (some .int)) (lv := [(0, .ref (Z.2.1 41)), (1, .int x), (2, .int y), (3, .int z), (4, .int u)]) (plainFor_of_name (by decide +kernel)) rfl (fun ls h => by subst h; exact lv_entry [.ref (Z.2.1 41), .int x, .int y, .int z, .int u] (n := 6) (Nat.le_of_ble_eq_true rfl)) ?_
  intro p e s m args below meth c hx hb hml hr hlocks hown hts hK hS hsz ls hl
  refine lv_iload_n hx hb dX10_multiply_0 rfl (lv_at hl 1 rfl) ?_
  refine z_calli (z_runS (As := [.int x]) (rest := []) ⟨hx, hb, hml, hown, hts⟩ hK hS ((m_noSystem Z g x) l _) gX10_multiply_X10_noSystem rfl 1 (by decide +kernel) ⟨Nat.le_of_ble_eq_true rfl, Nat.le_of_ble_eq_true rfl⟩ rfl hl.1 rfl (Nat.le_of_ble_eq_true rfl) dX10_multiply_1 ⟨Nat.le_of_ble_eq_true rfl, Nat.le_of_ble_eq_true rfl⟩) hS (fun rn g_1 H locs hp_2 hS => ?_)
  obtain ⟨rfl, hp_2⟩ := hp_2
  have hrn := hp_2
  refine lv_if_ne (tgt := 22) hx hb dX10_multiply_4 (by decide) (fun c_3 => ?_) (fun c_3 => ?_)
  · have i_3 := z_ne c_3
    rw [tI_0] at i_3
    have hnv := zbo_t hrn c_3
    refine lv_ldc (v := (-1000001)) hx hb hown (hts _ (List.mem_of_getElem? (i := 1) rfl)) dX10_multiply_22 ?_
    refine z_iret hx hb hr hlocks hS ?_ dX10_multiply_24
    show z_pm Z g (sp_multiply (sg, rw9) x.toInt y.toInt z.toInt u.toInt) _ _
    unfold sp_multiply
    rw [zite_f (fun h9 => hnv h9.1)]
    exact ⟨rfl, hW, z_fr.rf⟩
  · have i_3 := z_eq c_3
    rw [tI_0] at i_3
    have hzs : zsy x.toInt := Classical.byContradiction (zbo_f hrn c_3)
    obtain ⟨s1, es1, hs1x, -⟩ := z_nI_of (x := x) hzs.1
    subst es1
    have hs1 : s1 < 2 := by have := hzs.2; omega
    have htn1 : (nI s1).toInt.toNat = s1 := by omega
    obtain ⟨hok, hp, hq, hm, hd⟩ := hSg s1 hs1
    have hPb := zP_bd hok
    have hn12 := hok.2.2.2.1
    have hq1 := hok.2.1
    refine lv_iload_n hx hb dX10_multiply_7 rfl (lv_at hl 2 rfl) ?_
    refine z_calli (z_runS (As := [.int y]) (rest := []) ⟨hx, hb, hml, hown, hts⟩ hK hS ((m_noRow Z g y) l _) gX10_multiply_X10_noRow rfl 1 (by decide +kernel) ⟨Nat.le_of_ble_eq_true rfl, Nat.le_of_ble_eq_true rfl⟩ rfl hl.1 rfl (Nat.le_of_ble_eq_true rfl) dX10_multiply_8 ⟨Nat.le_of_ble_eq_true rfl, Nat.le_of_ble_eq_true rfl⟩) hS (fun rqa g_4 H locs hp_5 hS => ?_)
    obtain ⟨rfl, hp_5⟩ := hp_5
    have hrqa := hp_5
    refine lv_if_ne (tgt := 22) hx hb dX10_multiply_11 (by decide) (fun c_6 => ?_) (fun c_6 => ?_)
    · have i_6 := z_ne c_6
      rw [tI_0] at i_6
      have hnr := zbo_t hrqa c_6
      refine lv_ldc (v := (-1000001)) hx hb hown (hts _ (List.mem_of_getElem? (i := 1) rfl)) dX10_multiply_22 ?_
      refine z_iret hx hb hr hlocks hS ?_ dX10_multiply_24
      show z_pm Z g (sp_multiply (sg, rw9) (nI s1).toInt y.toInt z.toInt u.toInt) _ _
      unfold sp_multiply
      rw [zite_f (fun h9 => hnr h9.2.1)]
      exact ⟨rfl, hW, z_fr.rf⟩
    · have i_6 := z_eq c_6
      rw [tI_0] at i_6
      have hzr1 : zro y.toInt := Classical.byContradiction (zbo_f hrqa c_6)
      obtain ⟨r1, er1, hr1x, -⟩ := z_nI_of (x := y) hzr1.1
      subst er1
      have hr1 : r1 < 3 := by have := hzr1.2; omega
      have htr1 : (nI r1).toInt.toNat = r1 := by omega
      obtain ⟨hlr1, hlr1b⟩ := hfl r1 hr1
      have hev1 := hfe r1 hr1
      have hzb1 := zeg_in (hfe r1 hr1)
      refine lv_iload hx hb dX10_multiply_14 (lv_at hl 4 rfl) ?_
      refine z_calli (z_runS (As := [.int u]) (rest := []) ⟨hx, hb, hml, hown, hts⟩ hK hS ((m_noRow Z g u) l _) gX10_multiply_X10_noRow rfl 1 (by decide +kernel) ⟨Nat.le_of_ble_eq_true rfl, Nat.le_of_ble_eq_true rfl⟩ rfl hl.1 rfl (Nat.le_of_ble_eq_true rfl) dX10_multiply_16 ⟨Nat.le_of_ble_eq_true rfl, Nat.le_of_ble_eq_true rfl⟩) hS (fun rqc g_7 H locs hp_8 hS => ?_)
      obtain ⟨rfl, hp_8⟩ := hp_8
      have hrqc := hp_8
      refine lv_if_eq (tgt := 25) hx hb dX10_multiply_19 (by decide) (fun c_9 => ?_) (fun c_9 => ?_)
      · have i_9 := z_eq c_9
        rw [tI_0] at i_9
        have hzr3 : zro u.toInt := Classical.byContradiction (zbo_f hrqc c_9)
        obtain ⟨r3, er3, hr3x, -⟩ := z_nI_of (x := u) hzr3.1
        subst er3
        have hr3 : r3 < 3 := by have := hzr3.2; omega
        have htr3 : (nI r3).toInt.toNat = r3 := by omega
        obtain ⟨hlr3, hlr3b⟩ := hfl r3 hr3
        have hev3 := hfe r3 hr3
        have hzb3 := zeg_in (hfe r3 hr3)
        refine lv_iload_n hx hb dX10_multiply_25 rfl (lv_at hl 3 rfl) ?_
        refine lv_bipush (v := (-100)) hx hb dX10_multiply_26 (by decide) ?_
        refine lv_bipush (v := 100) hx hb dX10_multiply_28 (by decide) ?_
        refine z_calli (z_runS (As := [.int z, .int (-100), .int 100]) (rest := []) ⟨hx, hb, hml, hown, hts⟩ hK hS ((m_in Z g z (-100) 100) l _) gX10_multiply_X10_in rfl 3 (by decide +kernel) ⟨Nat.le_of_ble_eq_true rfl, Nat.le_of_ble_eq_true rfl⟩ rfl hl.1 rfl (Nat.le_of_ble_eq_true rfl) dX10_multiply_30 ⟨Nat.le_of_ble_eq_true rfl, Nat.le_of_ble_eq_true rfl⟩) hS (fun r1h g_10 H locs hp_11 hS => ?_)
        obtain ⟨rfl, hp_11⟩ := hp_11
        have hr1h := hp_11
        rw [tI_m100, tI_100] at hr1h
        refine lv_if_ne (tgt := 39) hx hb dX10_multiply_33 (by decide) (fun c_12 => ?_) (fun c_12 => ?_)
        · have i_12 := z_ne c_12
          rw [tI_0] at i_12
          have hzm := zbo_t hr1h c_12
          refine lv_aload_n hx hb dX10_multiply_39 rfl (lv_at hl 0 rfl) ?_
          refine lv_iload_n hx hb dX10_multiply_40 rfl (lv_at hl 1 rfl) ?_
          refine z_calli (z_runV (As := [.int (nI s1)]) (rest := []) ⟨hx, hb, hml, hown, hts⟩ hK hS ((m_isComplete Z g sg hM s1 hs1) l _) gX10_multiply_X10_isComplete rfl 1 (by decide +kernel) ⟨Nat.le_of_ble_eq_true rfl, Nat.le_of_ble_eq_true rfl⟩ h_m hM41 rfl rfl hl.1 rfl (Nat.le_of_ble_eq_true rfl) dX10_multiply_41 ⟨Nat.le_of_ble_eq_true rfl, Nat.le_of_ble_eq_true rfl⟩) hS (fun rc g_13 H locs hp_14 hS => ?_)
          obtain ⟨rfl, hp_14⟩ := hp_14
          have hrc := hp_14
          refine lv_if_ne (tgt := 50) hx hb dX10_multiply_44 (by decide) (fun c_15 => ?_) (fun c_15 => ?_)
          · have i_15 := z_ne c_15
            rw [tI_0] at i_15
            have hcm := zbo_t hrc c_15
            refine lv_aload_n hx hb dX10_multiply_50 rfl (lv_at hl 0 rfl) ?_
            refine lv_aload_n hx hb dX10_multiply_51 rfl (lv_at hl 0 rfl) ?_
            refine z_get (own := RX10) (C := RX10) (T := TX10) (N := 21) hx hb hts in_X10_multiply_10 hown hK hS h_m hM41 rfl 13 (by decide) (List.mem_of_getElem? (i := 4) rfl) rfl rfl dX10_multiply_52 ?_
            refine lv_iload_n hx hb dX10_multiply_55 rfl (lv_at hl 2 rfl) ?_
            refine z_iald hx hb hK hS h_l hM52 (vp_in_nI (by omega) (by omega)) dX10_multiply_56 ?_
            rw [show fl (nI r1).toNatClampNeg = nI (rw9 r1).1 from by rw [nI_clamp (by omega)]; exact hlr1]
            refine z_put (fs' := [.ref (Z.2.1 42), .ref (Z.2.1 43), .ref (Z.2.1 44), .ref (Z.2.1 45), .int v4, .int v5, .int v6, .ref (Z.2.1 46), .ref (Z.2.1 47), .ref (Z.2.1 48), .ref (Z.2.1 49), .ref (Z.2.1 50), .ref (Z.2.1 51), .ref (Z.2.1 52), .ref (Z.2.1 53), .long v15, .long v16, .int (nI (rw9 r1).1), .ref (Z.2.1 54), .ref (Z.2.1 55), .ref (Z.2.1 56)]) (own := RX10) (C := RX10) (T := TX10) (N := 21) hx hb hts in_X10_multiply_10 tyX10 tyX10_ok nmX10 hown hK hS h_m hM41 rfl 17 (by decide) (List.mem_of_getElem? (i := 5) rfl) rfl rfl rfl rfl (Nat.le_of_ble_eq_true rfl) rfl dX10_multiply_57 (fun g_16 H locs hg_16 hS => ?_)
            have h_m : g_16 41 = .inr (10, [.ref (Z.2.1 42), .ref (Z.2.1 43), .ref (Z.2.1 44), .ref (Z.2.1 45), .int v4, .int v5, .int v6, .ref (Z.2.1 46), .ref (Z.2.1 47), .ref (Z.2.1 48), .ref (Z.2.1 49), .ref (Z.2.1 50), .ref (Z.2.1 51), .ref (Z.2.1 52), .ref (Z.2.1 53), .long v15, .long v16, .int (nI (rw9 r1).1), .ref (Z.2.1 54), .ref (Z.2.1 55), .ref (Z.2.1 56)]) := z_up_s hg_16
            have h_u := z_up_n hg_16 h_u (by omega)
            have h_q := z_up_n hg_16 h_q (by omega)
            have h_n9 := z_up_n hg_16 h_n9 (by omega)
            have h_g := z_up_n hg_16 h_g (by omega)
            have h_l := z_up_n hg_16 h_l (by omega)
            have h_e := z_up_n hg_16 h_e (by omega)
            have h_su := z_up_n hg_16 h_su (by omega)
            have hfa : z_fr 41 1 g g_16 := (z_fr.rf.up hg_16 (by omega))
            refine lv_iconst (v := 0) hx hb dX10_multiply_60 (by decide) ?_
            refine lv_istore (lv' := [(5, .int 0), (0, .ref (Z.2.1 41)), (1, .int (nI s1)), (2, .int (nI r1)), (3, .int z), (4, .int (nI r3))]) hx hb dX10_multiply_61 hl (by decide) rfl (fun ls hl => ?_)
            have hcut_63 : ∀ (nn_63 : Nat) (j : Nat) (fs1 : Nat → Int32) (ga : Nat → va_E) (h_m : ga 41 = .inr (10, [.ref (Z.2.1 42), .ref (Z.2.1 43), .ref (Z.2.1 44), .ref (Z.2.1 45), .int v4, .int v5, .int v6, .ref (Z.2.1 46), .ref (Z.2.1 47), .ref (Z.2.1 48), .ref (Z.2.1 49), .ref (Z.2.1 50), .ref (Z.2.1 51), .ref (Z.2.1 52), .ref (Z.2.1 53), .long v15, .long v16, .int (nI (rw9 r1).1), .ref (Z.2.1 54), .ref (Z.2.1 55), .ref (Z.2.1 56)])) (h_u : ga 42 = .inl (Z.2.2.2 0, 2, .inl fu)) (h_q : ga 43 = .inl (Z.2.2.2 0, 2, .inl fq)) (h_n9 : ga 44 = .inl (Z.2.2.2 0, 2, .inl fm)) (h_g : ga 45 = .inl (Z.2.2.2 0, 24, .inl fd)) (h_l : ga 52 = .inl (Z.2.2.2 0, 3, .inl fl)) (h_e : ga 53 = .inl (Z.2.2.2 0, 36, .inl fe)) (h_su : ga 54 = .inl (Z.2.2.2 0, 12, .inl fs1)) (hfr_ga : z_fr 54 1 g_16 ga) (hj : j ≤ (rw9 r1).1) (hfs : ∀ i, i < j → (fs1 i).toInt = zeg (rw9 r1) i * z.toInt) (hm_63 : (rw9 r1).1 - j < nn_63) (H : Heap) (locs : List Loc) (ls : Array Slot), z_S Z (z_A Z sz) s.heap ga H locs → lv_has ls 6 [(0, .ref (Z.2.1 41)), (1, .int (nI s1)), (2, .int (nI r1)), (3, .int z), (4, .int (nI r3)), (5, .int (nI j))] → W p l e (headSpec wsX10_multiply (z_rm 7 160)).room s m args below meth c H locs 0 0 (MQ below (va_Qi (fun r g1 => z_pm Z g (sp_multiply (sg, rw9) (nI s1).toInt (nI r1).toInt z.toInt (nI r3).toInt) r g1) (z_B Z) (z_A Z sz)) args s 0 0 (z_A Z sz)) (F0 m 63 ls []) := by
              intro nn_63
              induction nn_63 with
              | zero => intro j fs1 ga h_m h_u h_q h_n9 h_g h_l h_e h_su hfr_ga hj hfs hm_63 H locs ls hS hl; exact absurd hm_63 (Nat.not_lt_zero _)
              | succ nn_63 ih_63 =>
                intro j fs1 ga h_m h_u h_q h_n9 h_g h_l h_e h_su hfr_ga hj hfs hm_63 H locs ls hS hl
                refine lv_iload hx hb dX10_multiply_63 (lv_at hl 5 rfl) ?_
                refine lv_aload_n hx hb dX10_multiply_65 rfl (lv_at hl 0 rfl) ?_
                refine z_get (own := RX10) (C := RX10) (T := TX10) (N := 21) hx hb hts in_X10_multiply_10 hown hK hS h_m hM41 rfl 17 (by decide) (List.mem_of_getElem? (i := 5) rfl) rfl rfl dX10_multiply_66 ?_
                refine lv_icmp_ge (tgt := 99) hx hb dX10_multiply_69 (by decide) (fun c_17 => ?_) (fun c_17 => ?_)
                · have i_17 := z_le c_17
                  rw [nI_toInt (by omega)] at i_17
                  rw [nI_toInt (by omega)] at i_17
                  have hjn : j = (rw9 r1).1 := by omega
                  rw [hjn] at hfs
                  have hfz : z_fr 54 1 g_16 ga := hfr_ga
                  refine lv_aload_n hx hb dX10_multiply_99 rfl (lv_at hl 0 rfl) ?_
                  refine lv_iload_n hx hb dX10_multiply_100 rfl (lv_at hl 1 rfl) ?_
                  refine lv_iload hx hb dX10_multiply_101 (lv_at hl 4 rfl) ?_
                  refine z_calli (z_runV (As := [.int (nI s1), .int (nI r3)]) (rest := []) ⟨hx, hb, hml, hown, hts⟩ hK hS ((m_compute Z ga sg rw9 _ _ _ _ _ (rw9 r1).1 ⟨fu, fq, fm, fd, h_m, h_u, h_q, h_n9, h_g, hMN, hSg⟩ (hW.2.sums h_su (fun k h1 h2 h3 => (hfz k (by omega)).trans (hfa k (by omega)))) fs1 h_su (fun i => zeg (rw9 r1) i * z.toInt) (by omega) hfs (fun i hi => by
                    unfold zeg
                    rw [if_neg (by omega), Int.zero_mul]) (fun i => by
                    have h1 := hzb1 i
                    have h2 := z_mul_bd (x := zeg (rw9 r1) i) (y := z.toInt) (a := 20) (b := 100) (by omega) (by omega) (by omega) (by omega)
                    try dsimp only
                    omega) s1 r3 hs1 hr3 hcm) l _) gX10_multiply_X10_compute rfl 2 (by decide +kernel) ⟨Nat.le_of_ble_eq_true rfl, Nat.le_of_ble_eq_true rfl⟩ h_m hM41 rfl rfl hl.1 rfl (Nat.le_of_ble_eq_true rfl) dX10_multiply_103 ⟨Nat.le_of_ble_eq_true rfl, Nat.le_of_ble_eq_true rfl⟩) hS (fun re g_18 H locs hp_19 hS => ?_)
                  have hpo := hp_19
                  refine z_iret hx hb hr hlocks hS ?_ dX10_multiply_106
                  show z_pm Z g (sp_multiply (sg, rw9) (nI s1).toInt (nI r1).toInt z.toInt (nI r3).toInt) _ _
                  unfold sp_multiply
                  rw [zite_t ⟨hzs, hzr1, hzr3⟩, zite_t hzm, htn1, htr1, htr3, zite_t hcm]
                  try dsimp only
                  exact ⟨hpo.1, hpo.2.1, (hfa.wide (by omega) (by omega)).tr ((hfz.wide (by omega) (by omega)).tr hpo.2.2)⟩
                · have i_17 := z_nle c_17
                  rw [nI_toInt (by omega)] at i_17
                  rw [nI_toInt (by omega)] at i_17
                  refine lv_aload_n hx hb dX10_multiply_72 rfl (lv_at hl 0 rfl) ?_
                  refine z_get (own := RX10) (C := RX10) (T := TX10) (N := 21) hx hb hts in_X10_multiply_10 hown hK hS h_m hM41 rfl 18 (by decide) (List.mem_of_getElem? (i := 6) rfl) rfl rfl dX10_multiply_73 ?_
                  refine lv_iload hx hb dX10_multiply_76 (lv_at hl 5 rfl) ?_
                  refine lv_iload_n hx hb dX10_multiply_78 rfl (lv_at hl 3 rfl) ?_
                  refine lv_aload_n hx hb dX10_multiply_79 rfl (lv_at hl 0 rfl) ?_
                  refine z_get (own := RX10) (C := RX10) (T := TX10) (N := 21) hx hb hts in_X10_multiply_10 hown hK hS h_m hM41 rfl 14 (by decide) (List.mem_of_getElem? (i := 7) rfl) rfl rfl dX10_multiply_80 ?_
                  refine lv_bipush (v := 12) hx hb dX10_multiply_83 (by decide) ?_
                  refine lv_iload_n hx hb dX10_multiply_85 rfl (lv_at hl 2 rfl) ?_
                  refine lv_imul hx hb dX10_multiply_86 ?_
                  refine lv_iload hx hb dX10_multiply_87 (lv_at hl 5 rfl) ?_
                  refine lv_iadd hx hb dX10_multiply_89 ?_
                  rw [show (12 * (nI r1)) + (nI j) = nI (12 * r1 + j) from zm_ix (by omega) (by omega)]
                  refine z_iald hx hb hK hS h_e hM53 (vp_in_nI (by omega) (by omega)) dX10_multiply_90 ?_
                  rw [show fe (nI (12 * r1 + j)).toNatClampNeg = fe (12 * r1 + j) from by rw [nI_clamp (by omega)]]
                  refine lv_imul hx hb dX10_multiply_91 ?_
                  have hA : (fe (12 * r1 + j)).toInt = zeg (rw9 r1) j := by unfold zeg; rw [if_pos (by omega)]; exact (hev1 j (by omega)).1
                  have hAb := hzb1 j
                  rw [← hA] at hAb
                  have hm9 := z_mul_bd (x := z.toInt) (y := (fe (12 * r1 + j)).toInt) (a := 100) (b := 20) (by omega) (by omega) (by omega) (by omega)
                  have hAB : (z * (fe (12 * r1 + j)) : Int32).toInt = zeg (rw9 r1) j * z.toInt := by rw [fb_mulI (by omega) (by omega), hA, Int.mul_comm]
                  refine z_iast hx hb hK hS h_su hM54 (vp_in_nI (by omega) (by omega)) dX10_multiply_92 (fun g_20 H locs hg_20 hS => ?_)
                  have h_su : g_20 54 = .inl (Z.2.2.2 0, 12, .inl (upd fs1 (nI j).toNatClampNeg (z * (fe (12 * r1 + j))))) := z_up_s hg_20
                  have h_m := z_up_n hg_20 h_m (by omega)
                  have h_u := z_up_n hg_20 h_u (by omega)
                  have h_q := z_up_n hg_20 h_q (by omega)
                  have h_n9 := z_up_n hg_20 h_n9 (by omega)
                  have h_g := z_up_n hg_20 h_g (by omega)
                  have h_l := z_up_n hg_20 h_l (by omega)
                  have h_e := z_up_n hg_20 h_e (by omega)
                  refine lv_iinc (v := (nI (j + 1))) (lv' := [(5, .int (nI (j + 1))), (0, .ref (Z.2.1 41)), (1, .int (nI s1)), (2, .int (nI r1)), (3, .int z), (4, .int (nI r3))]) hx hb dX10_multiply_93 hl (k := 5) rfl (nI_1 _) (by decide) rfl (fun ls hl => ?_)
                  refine lv_goto (tgt := 63) hx hb dX10_multiply_96 (by decide) ?_
                  exact ih_63 (j + 1) (upd fs1 (nI j).toNatClampNeg (z * (fe (12 * r1 + j)))) g_20 h_m h_u h_q h_n9 h_g h_l h_e h_su (hfr_ga.up hg_20 (by omega)) (by omega) (fun i hi => by
                      rw [nI_clamp (by omega)]
                      by_cases q9 : i = j
                      · rw [q9, pk_us]; exact hAB
                      · rw [pk_un q9]; exact hfs i (by omega)) (by omega) _ _ _ hS (lv_sub hl [1, 2, 3, 4, 5, 0] rfl)
            exact hcut_63 ((rw9 r1).1 - 0 + 1) 0 su g_16 h_m h_u h_q h_n9 h_g h_l h_e h_su z_fr.rf (by omega) (fun i hi => absurd hi (Nat.not_lt_zero i)) (Nat.lt_succ_self _) _ _ _ hS (lv_sub hl [1, 2, 3, 4, 5, 0] rfl)
          · have i_15 := z_eq c_15
            rw [tI_0] at i_15
            have hncm := zbo_f hrc c_15
            refine lv_ldc (v := (-1000003)) hx hb hown (hts _ (List.mem_of_getElem? (i := 3) rfl)) dX10_multiply_47 ?_
            refine z_iret hx hb hr hlocks hS ?_ dX10_multiply_49
            show z_pm Z g (sp_multiply (sg, rw9) (nI s1).toInt (nI r1).toInt z.toInt (nI r3).toInt) _ _
            unfold sp_multiply
            rw [zite_t ⟨hzs, hzr1, hzr3⟩, zite_t hzm, htn1, zite_f hncm]
            exact ⟨rfl, hW, z_fr.rf⟩
        · have i_12 := z_eq c_12
          rw [tI_0] at i_12
          have hbad := zbo_f hr1h c_12
          refine lv_ldc (v := (-1000002)) hx hb hown (hts _ (List.mem_of_getElem? (i := 2) rfl)) dX10_multiply_36 ?_
          refine z_iret hx hb hr hlocks hS ?_ dX10_multiply_38
          show z_pm Z g (sp_multiply (sg, rw9) (nI s1).toInt (nI r1).toInt z.toInt (nI r3).toInt) _ _
          unfold sp_multiply
          rw [zite_t ⟨hzs, hzr1, hzr3⟩, zite_f hbad]
          exact ⟨rfl, hW, z_fr.rf⟩
      · have i_9 := z_ne c_9
        rw [tI_0] at i_9
        have hnr := zbo_t hrqc c_9
        refine lv_ldc (v := (-1000001)) hx hb hown (hts _ (List.mem_of_getElem? (i := 1) rfl)) dX10_multiply_22 ?_
        refine z_iret hx hb hr hlocks hS ?_ dX10_multiply_24
        show z_pm Z g (sp_multiply (sg, rw9) (nI s1).toInt (nI r1).toInt z.toInt u.toInt) _ _
        unfold sp_multiply
        rw [zite_f (fun h9 => hnr h9.2.2)]
        exact ⟨rfl, hW, z_fr.rf⟩

