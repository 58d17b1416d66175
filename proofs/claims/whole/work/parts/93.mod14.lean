/-! the reference: a row computed by sums -/
theorem z_mx.made {Z : zT} {g g1 : Nat → va_E} {rw9 : Nat → zr} (h : z_mx Z g rw9) {f : Nat → Int32} (h55 : g1 55 = .inl (Z.2.2.2 0, 12, .inl f)) (hf : ∀ j, 46 ≤ j → j < 57 → j ≠ 55 → g1 j = g j) : z_mx Z g1 rw9 := by
  obtain ⟨⟨f1, a1⟩, ⟨f2, a2⟩, ⟨f3, a3⟩, ⟨f4, a4⟩, ⟨f5, a5⟩, ⟨f6, a6⟩, ⟨f7, a7, b7⟩, ⟨f8, a8, b8⟩, ⟨f9, a9⟩, -, f11, a11⟩ := h
  exact ⟨⟨f1, (hf _ (by omega) (by omega) (by omega)).trans a1⟩, ⟨f2, (hf _ (by omega) (by omega) (by omega)).trans a2⟩, ⟨f3, (hf _ (by omega) (by omega) (by omega)).trans a3⟩, ⟨f4, (hf _ (by omega) (by omega) (by omega)).trans a4⟩, ⟨f5, (hf _ (by omega) (by omega) (by omega)).trans a5⟩, ⟨f6, (hf _ (by omega) (by omega) (by omega)).trans a6⟩, ⟨f7, (hf _ (by omega) (by omega) (by omega)).trans a7, b7⟩, ⟨f8, (hf _ (by omega) (by omega) (by omega)).trans a8, b8⟩, ⟨f9, (hf _ (by omega) (by omega) (by omega)).trans a9⟩, ⟨f, h55⟩, f11, (hf _ (by omega) (by omega) (by omega)).trans a11⟩
theorem zovB_f {b : zb} {n : Nat} {s : Nat → Int} {i : Nat} (h : ¬ zov b n s i) : zovB b n s i = false := by
  cases e : zovB b n s i
  · rfl
  · exact absurd (zovB_iff.mp e) h
theorem in_X10_compute_10 : ∀ w ∈ wsX100, w ∈ wsX10_compute := by decide +kernel
set_option maxHeartbeats 4000000 in
set_option maxRecDepth 100000 in
theorem m_compute (Z : zT) (g : Nat → va_E) (sg : Nat → zb) (rw9 : Nat → zr) (v4 v5 v6 : Int32) (v15 v16 : Int64) (n : Nat) (hM9 : z_mp Z g sg v4 v5 v6 v15 v16 (nI n)) (hx9 : z_mx Z g rw9) (fs : Nat → Int32) (h_su : g 54 = .inl (Z.2.2.2 0, 12, .inl fs)) (s9 : Nat → Int) (hn12n : n ≤ 12) (hfs : ∀ i, i < n → (fs i).toInt = s9 i) (hsz9 : ∀ i, n ≤ i → s9 i = 0) (hsb : ∀ i, -2000 ≤ s9 i ∧ s9 i ≤ 2000) (s1 r1 : Nat) (hs1 : s1 < 2) (hr1 : r1 < 3) (hcm : zcm (sg s1)) : z_Mi Z yX10_compute wsX10_compute 6 134 [.ref (Z.2.1 41), .int (nI s1), .int (nI r1)] g (fun r g1 => z_pm Z g (sp_comp (sg, rw9) s1 n s9 r1) r g1) := by
  intro l sz
  have hM := hM9.mr
  obtain ⟨fu, fq, fm, fd, h_m, h_u, h_q, h_n9, h_g, hMN, hSg⟩ := id hM9
  have hM41 : 41 < Z.1 := by omega
  have hM42 : 42 < Z.1 := by omega
  have hM43 : 43 < Z.1 := by omega
  have hM44 : 44 < Z.1 := by omega
  have hM45 : 45 < Z.1 := by omega
  obtain ⟨hok, hp, hq, hm, hd⟩ := hSg s1 hs1
  have hPb := zP_bd hok
  have hn12 := hok.2.2.2.1
  have hq1 := hok.2.1
  obtain ⟨-, -, -, -, -, -, ⟨fl, h_l, hfl⟩, ⟨fe, h_e, hfe⟩, -, ⟨md, h_md⟩, -⟩ := id hx9
  have hM52 : 52 < Z.1 := by omega
  have hM53 : 53 < Z.1 := by omega
  have hM54 : 54 < Z.1 := by omega
  have hM55 : 55 < Z.1 := by omega
  have hqb := zcq_bd hok hcm (s := s9) (fun i hi => hsb i)
  have hz0 := hcm 0
  refine z_enter (maxL := 7) (ret := (some .int)) (lv := [(0, .ref (Z.2.1 41)), (1, .int (nI s1)), (2, .int (nI r1))]) (plainFor_of_name (by decide +kernel)) rfl (fun ls h => by subst h; exact lv_entry [.ref (Z.2.1 41), .int (nI s1), .int (nI r1)] (n := 7) (Nat.le_of_ble_eq_true rfl)) ?_
  intro p e s m args below meth c hx hb hml hr hlocks hown hts hK hS hsz ls hl
  refine lv_iconst (v := 0) hx hb dX10_compute_0 (by decide) ?_
  refine lv_istore_n (lv' := [(3, .int 0), (0, .ref (Z.2.1 41)), (1, .int (nI s1)), (2, .int (nI r1))]) hx hb dX10_compute_1 rfl hl (by decide) rfl (fun ls hl => ?_)
  refine lv_iconst (v := 0) hx hb dX10_compute_2 (by decide) ?_
  refine lv_istore (lv' := [(4, .int 0), (3, .int 0), (0, .ref (Z.2.1 41)), (1, .int (nI s1)), (2, .int (nI r1))]) hx hb dX10_compute_3 hl (by decide) rfl (fun ls hl => ?_)
  refine lv_aload_n hx hb dX10_compute_5 rfl (lv_at hl 2 rfl) ?_
  refine lv_iload_n hx hb dX10_compute_6 rfl (lv_at hl 3 rfl) ?_
  refine lv_iconst (v := 0) hx hb dX10_compute_7 (by decide) ?_
  refine z_calli (z_runV (As := [.int (nI s1), .int 0]) (rest := []) ⟨hx, hb, hml, hown, hts⟩ hK hS ((m_chosenDigit Z g sg hM s1 hs1 0 (by rw [tI_0]; omega) (by rw [tI_0]; exact hz0)) l _) gX10_compute_X10_chosenDigit rfl 2 (by decide +kernel) ⟨Nat.le_of_ble_eq_true rfl, Nat.le_of_ble_eq_true rfl⟩ h_m hM41 rfl rfl hl.1 rfl (Nat.le_of_ble_eq_true rfl) dX10_compute_8 ⟨Nat.le_of_ble_eq_true rfl, Nat.le_of_ble_eq_true rfl⟩) hS (fun c0 g_1 H locs hp_2 hS => ?_)
  obtain ⟨rfl, hp_2⟩ := hp_2
  have hc0 := hp_2
  rw [tI_0] at hc0
  refine lv_if_ne (tgt := 18) hx hb dX10_compute_11 (by decide) (fun c_3 => ?_) (fun c_3 => ?_)
  · have i_3 := z_ne c_3
    rw [tI_0] at i_3
    rw [hc0] at i_3
    have hez : ¬ zch (sg s1) 0 = 0 := i_3
    refine lv_iconst (v := 0) hx hb dX10_compute_18 (by decide) ?_
    refine lv_istore (lv' := [(5, .int 0), (4, .int 0), (3, .int 0), (0, .ref (Z.2.1 41)), (1, .int (nI s1)), (2, .int (nI r1))]) hx hb dX10_compute_19 hl (by decide) rfl (fun ls hl => ?_)
    have hcut_21 : ∀ (nn_21 : Nat) (c9 : Int32) (i : Nat) (md1 : Nat → Int32) (ga : Nat → va_E) (h_m : ga 41 = .inr (10, [.ref (Z.2.1 42), .ref (Z.2.1 43), .ref (Z.2.1 44), .ref (Z.2.1 45), .int v4, .int v5, .int v6, .ref (Z.2.1 46), .ref (Z.2.1 47), .ref (Z.2.1 48), .ref (Z.2.1 49), .ref (Z.2.1 50), .ref (Z.2.1 51), .ref (Z.2.1 52), .ref (Z.2.1 53), .long v15, .long v16, .int (nI n), .ref (Z.2.1 54), .ref (Z.2.1 55), .ref (Z.2.1 56)])) (h_u : ga 42 = .inl (Z.2.2.2 0, 2, .inl fu)) (h_q : ga 43 = .inl (Z.2.2.2 0, 2, .inl fq)) (h_n9 : ga 44 = .inl (Z.2.2.2 0, 2, .inl fm)) (h_g : ga 45 = .inl (Z.2.2.2 0, 24, .inl fd)) (h_l : ga 52 = .inl (Z.2.2.2 0, 3, .inl fl)) (h_e : ga 53 = .inl (Z.2.2.2 0, 36, .inl fe)) (h_su : ga 54 = .inl (Z.2.2.2 0, 12, .inl fs)) (h_md : ga 55 = .inl (Z.2.2.2 0, 12, .inl md1)) (hfr_ga : z_fr 55 1 g ga) (hi : i ≤ 12) (hc : c9.toInt = zcq (sg s1) s9 i) (hno : ∀ t, t < i → zovB (sg s1) n s9 t = false) (hmd : ∀ t, t < i → (md1 t).toInt = zdq (sg s1) s9 t) (hm_21 : 13 - i < nn_21) (H : Heap) (locs : List Loc) (ls : Array Slot), z_S Z (z_A Z sz) s.heap ga H locs → lv_has ls 7 [(0, .ref (Z.2.1 41)), (1, .int (nI s1)), (2, .int (nI r1)), (3, .int c9), (4, .int (nI i)), (5, .int 0)] → W p l e (headSpec wsX10_compute (z_rm 6 134)).room s m args below meth c H locs 0 0 (MQ below (va_Qi (fun r g1 => z_pm Z g (sp_comp (sg, rw9) s1 n s9 r1) r g1) (z_B Z) (z_A Z sz)) args s 0 0 (z_A Z sz)) (F0 m 21 ls []) := by
      intro nn_21
      induction nn_21 with
      | zero => intro c9 i md1 ga h_m h_u h_q h_n9 h_g h_l h_e h_su h_md hfr_ga hi hc hno hmd hm_21 H locs ls hS hl; exact absurd hm_21 (Nat.not_lt_zero _)
      | succ nn_21 ih_21 =>
        intro c9 i md1 ga h_m h_u h_q h_n9 h_g h_l h_e h_su h_md hfr_ga hi hc hno hmd hm_21 H locs ls hS hl
        have hqi := hqb i hi
        rw [← hc] at hqi
        have hsi := hsb i
        refine lv_iload hx hb dX10_compute_21 (lv_at hl 4 rfl) ?_
        refine lv_aload_n hx hb dX10_compute_23 rfl (lv_at hl 0 rfl) ?_
        refine z_get (own := RX10) (C := RX10) (T := TX10) (N := 21) hx hb hts in_X10_compute_10 hown hK hS h_m hM41 rfl 17 (by decide) (List.mem_of_getElem? (i := 1) rfl) rfl rfl dX10_compute_24 ?_
        refine lv_icmp_lt (tgt := 39) hx hb dX10_compute_27 (by decide) (fun c_4 => ?_) (fun c_4 => ?_)
        · have i_4 := z_lt c_4
          rw [nI_toInt (by omega)] at i_4
          rw [nI_toInt (by omega)] at i_4
          have hnov : zovB (sg s1) n s9 i = false := zovB_f (fun h9 => by
            obtain ⟨q1, q2, q3⟩ := h9
            omega)
          refine lv_iload hx hb dX10_compute_39 (lv_at hl 4 rfl) ?_
          refine lv_bipush (v := 12) hx hb dX10_compute_41 (by decide) ?_
          refine lv_icmp_ne (tgt := 49) hx hb dX10_compute_43 (by decide) (fun c_5 => ?_) (fun c_5 => ?_)
          · have i_5 := z_ne c_5
            rw [nI_toInt (by omega)] at i_5
            rw [tI_12] at i_5
            have hi12 : i < 12 := by omega
            refine lv_iload hx hb dX10_compute_49 (lv_at hl 4 rfl) ?_
            refine lv_aload_n hx hb dX10_compute_51 rfl (lv_at hl 0 rfl) ?_
            refine z_get (own := RX10) (C := RX10) (T := TX10) (N := 21) hx hb hts in_X10_compute_10 hown hK hS h_m hM41 rfl 17 (by decide) (List.mem_of_getElem? (i := 1) rfl) rfl rfl dX10_compute_52 ?_
            refine lv_icmp_ge (tgt := 68) hx hb dX10_compute_55 (by decide) (fun c_6 => ?_) (fun c_6 => ?_)
            · have i_6 := z_le c_6
              rw [nI_toInt (by omega)] at i_6
              rw [nI_toInt (by omega)] at i_6
              have htt : (0 : Int32).toInt = s9 i := by rw [tI_0, hsz9 i (by omega)]
              have hin9 := htt
              refine lv_iconst (v := 0) hx hb dX10_compute_68 (by decide) ?_
              refine lv_istore (lv' := [(6, .int 0), (0, .ref (Z.2.1 41)), (1, .int (nI s1)), (2, .int (nI r1)), (3, .int c9), (4, .int (nI i)), (5, .int 0)]) hx hb dX10_compute_69 hl (by decide) rfl (fun ls hl => ?_)
              refine lv_aload_n hx hb dX10_compute_71 rfl (lv_at hl 1 rfl) ?_
              refine z_get (own := RX10) (C := RX10) (T := TX10) (N := 21) hx hb hts in_X10_compute_10 hown hK hS h_m hM41 rfl 19 (by decide) (List.mem_of_getElem? (i := 4) rfl) rfl rfl dX10_compute_72 ?_
              refine lv_iload hx hb dX10_compute_75 (lv_at hl 5 rfl) ?_
              refine lv_aload_n hx hb dX10_compute_77 rfl (lv_at hl 1 rfl) ?_
              refine lv_iload_n hx hb dX10_compute_78 rfl (lv_at hl 2 rfl) ?_
              refine lv_iload_n hx hb dX10_compute_79 rfl (lv_at hl 4 rfl) ?_
              refine lv_iload hx hb dX10_compute_80 (lv_at hl 0 rfl) ?_
              refine z_calli (z_runV (As := [.int (nI s1), .int c9, .int 0]) (rest := [.int (nI i), .ref (Z.2.1 55)]) ⟨hx, hb, hml, hown, hts⟩ hK hS ((m_carryDigit Z ga sg ⟨_, _, _, _, _, _, fu, fq, fm, fd, h_m, h_u, h_q, h_n9, h_g, hMN, hSg⟩ s1 hs1 c9 0 hcm (by omega) (by omega)) l _) gX10_compute_X10_carryDigit rfl 3 (by decide +kernel) ⟨Nat.le_of_ble_eq_true rfl, Nat.le_of_ble_eq_true rfl⟩ h_m hM41 rfl rfl hl.1 rfl (Nat.le_of_ble_eq_true rfl) dX10_compute_82 ⟨Nat.le_of_ble_eq_true rfl, Nat.le_of_ble_eq_true rfl⟩) hS (fun dd g_7 H locs hp_8 hS => ?_)
              obtain ⟨rfl, hp_8⟩ := hp_8
              have hdd : dd.toInt = zdq (sg s1) s9 i := by rw [hp_8, htt, hc]; rfl
              refine z_iast hx hb hK hS h_md hM55 (vp_in_nI (by omega) (by omega)) dX10_compute_85 (fun g_9 H locs hg_9 hS => ?_)
              have h_md : g_9 55 = .inl (Z.2.2.2 0, 12, .inl (upd md1 (nI i).toNatClampNeg dd)) := z_up_s hg_9
              have h_m := z_up_n hg_9 h_m (by omega)
              have h_u := z_up_n hg_9 h_u (by omega)
              have h_q := z_up_n hg_9 h_q (by omega)
              have h_n9 := z_up_n hg_9 h_n9 (by omega)
              have h_g := z_up_n hg_9 h_g (by omega)
              have h_l := z_up_n hg_9 h_l (by omega)
              have h_e := z_up_n hg_9 h_e (by omega)
              have h_su := z_up_n hg_9 h_su (by omega)
              refine lv_aload_n hx hb dX10_compute_86 rfl (lv_at hl 1 rfl) ?_
              refine lv_iload_n hx hb dX10_compute_87 rfl (lv_at hl 2 rfl) ?_
              refine lv_iload_n hx hb dX10_compute_88 rfl (lv_at hl 4 rfl) ?_
              refine lv_iload hx hb dX10_compute_89 (lv_at hl 0 rfl) ?_
              refine z_calli (z_runV (As := [.int (nI s1), .int c9, .int 0]) (rest := []) ⟨hx, hb, hml, hown, hts⟩ hK hS ((m_carried Z g_9 sg ⟨_, _, _, _, _, _, fu, fq, fm, fd, h_m, h_u, h_q, h_n9, h_g, hMN, hSg⟩ s1 hs1 c9 0 hcm (by omega) (by omega)) l _) gX10_compute_X10_carried rfl 3 (by decide +kernel) ⟨Nat.le_of_ble_eq_true rfl, Nat.le_of_ble_eq_true rfl⟩ h_m hM41 rfl rfl hl.1 rfl (Nat.le_of_ble_eq_true rfl) dX10_compute_91 ⟨Nat.le_of_ble_eq_true rfl, Nat.le_of_ble_eq_true rfl⟩) hS (fun cn g_10 H locs hp_11 hS => ?_)
              obtain ⟨rfl, hp_11⟩ := hp_11
              have hcn : cn.toInt = zcq (sg s1) s9 (i + 1) := by rw [hp_11, htt, hc]; rfl
              refine lv_istore_n (lv' := [(3, .int cn), (6, .int 0), (0, .ref (Z.2.1 41)), (1, .int (nI s1)), (2, .int (nI r1)), (4, .int (nI i)), (5, .int 0)]) hx hb dX10_compute_94 rfl hl (by decide) rfl (fun ls hl => ?_)
              refine lv_iinc (v := (nI (i + 1))) (lv' := [(4, .int (nI (i + 1))), (3, .int cn), (6, .int 0), (0, .ref (Z.2.1 41)), (1, .int (nI s1)), (2, .int (nI r1)), (5, .int 0)]) hx hb dX10_compute_95 hl (k := 5) rfl (nI_1 _) (by decide) rfl (fun ls hl => ?_)
              refine lv_goto (tgt := 21) hx hb dX10_compute_98 (by decide) ?_
              exact ih_21 cn (i + 1) (upd md1 (nI i).toNatClampNeg dd) g_9 h_m h_u h_q h_n9 h_g h_l h_e h_su h_md (hfr_ga.up hg_9 (by omega)) (by omega) hcn (fun t ht => by
                  rcases Nat.lt_or_ge t i with q9 | q9
                  · exact hno t q9
                  · have : t = i := by omega
                    subst this; exact hnov) (fun t ht => by
                  rw [nI_clamp (by omega)]
                  by_cases q9 : t = i
                  · rw [q9, pk_us]; exact hdd
                  · rw [pk_un q9]; exact hmd t (by omega)) (by omega) _ _ _ hS (lv_sub hl [3, 4, 5, 1, 0, 6] rfl)
            · have i_6 := z_nle c_6
              rw [nI_toInt (by omega)] at i_6
              rw [nI_toInt (by omega)] at i_6
              have htt : (fs i).toInt = s9 i := hfs i (by omega)
              refine lv_aload_n hx hb dX10_compute_58 rfl (lv_at hl 0 rfl) ?_
              refine z_get (own := RX10) (C := RX10) (T := TX10) (N := 21) hx hb hts in_X10_compute_10 hown hK hS h_m hM41 rfl 18 (by decide) (List.mem_of_getElem? (i := 3) rfl) rfl rfl dX10_compute_59 ?_
              refine lv_iload hx hb dX10_compute_62 (lv_at hl 4 rfl) ?_
              refine z_iald hx hb hK hS h_su hM54 (vp_in_nI (by omega) (by omega)) dX10_compute_64 ?_
              rw [show fs (nI i).toNatClampNeg = fs i from by rw [nI_clamp (by omega)]]
              refine lv_goto (tgt := 69) hx hb dX10_compute_65 (by decide) ?_
              refine lv_topi (fun tt ett => ?_)
              have htt : tt.toInt = s9 i := by rw [ett]; exact htt
              refine lv_istore (lv' := [(6, .int tt), (0, .ref (Z.2.1 41)), (1, .int (nI s1)), (2, .int (nI r1)), (3, .int c9), (4, .int (nI i)), (5, .int 0)]) hx hb dX10_compute_69 hl (by decide) rfl (fun ls hl => ?_)
              refine lv_aload_n hx hb dX10_compute_71 rfl (lv_at hl 1 rfl) ?_
              refine z_get (own := RX10) (C := RX10) (T := TX10) (N := 21) hx hb hts in_X10_compute_10 hown hK hS h_m hM41 rfl 19 (by decide) (List.mem_of_getElem? (i := 4) rfl) rfl rfl dX10_compute_72 ?_
              refine lv_iload hx hb dX10_compute_75 (lv_at hl 5 rfl) ?_
              refine lv_aload_n hx hb dX10_compute_77 rfl (lv_at hl 1 rfl) ?_
              refine lv_iload_n hx hb dX10_compute_78 rfl (lv_at hl 2 rfl) ?_
              refine lv_iload_n hx hb dX10_compute_79 rfl (lv_at hl 4 rfl) ?_
              refine lv_iload hx hb dX10_compute_80 (lv_at hl 0 rfl) ?_
              refine z_calli (z_runV (As := [.int (nI s1), .int c9, .int tt]) (rest := [.int (nI i), .ref (Z.2.1 55)]) ⟨hx, hb, hml, hown, hts⟩ hK hS ((m_carryDigit Z ga sg ⟨_, _, _, _, _, _, fu, fq, fm, fd, h_m, h_u, h_q, h_n9, h_g, hMN, hSg⟩ s1 hs1 c9 tt hcm (by omega) (by omega)) l _) gX10_compute_X10_carryDigit rfl 3 (by decide +kernel) ⟨Nat.le_of_ble_eq_true rfl, Nat.le_of_ble_eq_true rfl⟩ h_m hM41 rfl rfl hl.1 rfl (Nat.le_of_ble_eq_true rfl) dX10_compute_82 ⟨Nat.le_of_ble_eq_true rfl, Nat.le_of_ble_eq_true rfl⟩) hS (fun dd g_12 H locs hp_13 hS => ?_)
              obtain ⟨rfl, hp_13⟩ := hp_13
              have hdd : dd.toInt = zdq (sg s1) s9 i := by rw [hp_13, htt, hc]; rfl
              refine z_iast hx hb hK hS h_md hM55 (vp_in_nI (by omega) (by omega)) dX10_compute_85 (fun g_14 H locs hg_14 hS => ?_)
              have h_md : g_14 55 = .inl (Z.2.2.2 0, 12, .inl (upd md1 (nI i).toNatClampNeg dd)) := z_up_s hg_14
              have h_m := z_up_n hg_14 h_m (by omega)
              have h_u := z_up_n hg_14 h_u (by omega)
              have h_q := z_up_n hg_14 h_q (by omega)
              have h_n9 := z_up_n hg_14 h_n9 (by omega)
              have h_g := z_up_n hg_14 h_g (by omega)
              have h_l := z_up_n hg_14 h_l (by omega)
              have h_e := z_up_n hg_14 h_e (by omega)
              have h_su := z_up_n hg_14 h_su (by omega)
              refine lv_aload_n hx hb dX10_compute_86 rfl (lv_at hl 1 rfl) ?_
              refine lv_iload_n hx hb dX10_compute_87 rfl (lv_at hl 2 rfl) ?_
              refine lv_iload_n hx hb dX10_compute_88 rfl (lv_at hl 4 rfl) ?_
              refine lv_iload hx hb dX10_compute_89 (lv_at hl 0 rfl) ?_
              refine z_calli (z_runV (As := [.int (nI s1), .int c9, .int tt]) (rest := []) ⟨hx, hb, hml, hown, hts⟩ hK hS ((m_carried Z g_14 sg ⟨_, _, _, _, _, _, fu, fq, fm, fd, h_m, h_u, h_q, h_n9, h_g, hMN, hSg⟩ s1 hs1 c9 tt hcm (by omega) (by omega)) l _) gX10_compute_X10_carried rfl 3 (by decide +kernel) ⟨Nat.le_of_ble_eq_true rfl, Nat.le_of_ble_eq_true rfl⟩ h_m hM41 rfl rfl hl.1 rfl (Nat.le_of_ble_eq_true rfl) dX10_compute_91 ⟨Nat.le_of_ble_eq_true rfl, Nat.le_of_ble_eq_true rfl⟩) hS (fun cn g_15 H locs hp_16 hS => ?_)
              obtain ⟨rfl, hp_16⟩ := hp_16
              have hcn : cn.toInt = zcq (sg s1) s9 (i + 1) := by rw [hp_16, htt, hc]; rfl
              refine lv_istore_n (lv' := [(3, .int cn), (6, .int tt), (0, .ref (Z.2.1 41)), (1, .int (nI s1)), (2, .int (nI r1)), (4, .int (nI i)), (5, .int 0)]) hx hb dX10_compute_94 rfl hl (by decide) rfl (fun ls hl => ?_)
              refine lv_iinc (v := (nI (i + 1))) (lv' := [(4, .int (nI (i + 1))), (3, .int cn), (6, .int tt), (0, .ref (Z.2.1 41)), (1, .int (nI s1)), (2, .int (nI r1)), (5, .int 0)]) hx hb dX10_compute_95 hl (k := 5) rfl (nI_1 _) (by decide) rfl (fun ls hl => ?_)
              refine lv_goto (tgt := 21) hx hb dX10_compute_98 (by decide) ?_
              exact ih_21 cn (i + 1) (upd md1 (nI i).toNatClampNeg dd) g_14 h_m h_u h_q h_n9 h_g h_l h_e h_su h_md (hfr_ga.up hg_14 (by omega)) (by omega) hcn (fun t ht => by
                  rcases Nat.lt_or_ge t i with q9 | q9
                  · exact hno t q9
                  · have : t = i := by omega
                    subst this; exact hnov) (fun t ht => by
                  rw [nI_clamp (by omega)]
                  by_cases q9 : t = i
                  · rw [q9, pk_us]; exact hdd
                  · rw [pk_un q9]; exact hmd t (by omega)) (by omega) _ _ _ hS (lv_sub hl [3, 4, 5, 1, 0, 6] rfl)
          · have i_5 := z_eq c_5
            rw [nI_toInt (by omega)] at i_5
            rw [tI_12] at i_5
            have hi12 : i = 12 := by omega
            refine lv_ldc (v := (-1000005)) hx hb hown (hts _ (List.mem_of_getElem? (i := 2) rfl)) dX10_compute_46 ?_
            refine z_iret hx hb hr hlocks hS ?_ dX10_compute_48
            show z_pm Z g (sp_comp (sg, rw9) s1 n s9 r1) _ _
            unfold sp_comp
            dsimp only
            have hN : ¬ zcN (sg s1) n s9 < 13 := by
              have h9 : zcN (sg s1) n s9 = 13 := zfi_none (fun k hk => by
                rcases Nat.lt_or_ge k i with q9 | q9
                · exact hno k q9
                · have : k = i := by omega
                  subst this; exact hnov)
              omega
            rw [zite_f hN]
            have hfz : z_fr 55 1 g ga := hfr_ga
            exact ⟨rfl, ⟨⟨_, _, _, _, _, _, fu, fq, fm, fd, h_m, h_u, h_q, h_n9, h_g, hMN, hSg⟩, hx9.made h_md (fun k h1 h2 h3 => hfz k (by omega))⟩, hfz.wide (by omega) (by omega)⟩
        · have i_4 := z_nlt c_4
          rw [nI_toInt (by omega)] at i_4
          rw [nI_toInt (by omega)] at i_4
          refine lv_iload_n hx hb dX10_compute_30 rfl (lv_at hl 3 rfl) ?_
          refine lv_if_ne (tgt := 39) hx hb dX10_compute_31 (by decide) (fun c_17 => ?_) (fun c_17 => ?_)
          · have i_17 := z_ne c_17
            rw [tI_0] at i_17
            have hnov : zovB (sg s1) n s9 i = false := zovB_f (fun h9 => by
              obtain ⟨q1, q2, q3⟩ := h9
              rw [← hc] at q2; omega)
            refine lv_iload hx hb dX10_compute_39 (lv_at hl 4 rfl) ?_
            refine lv_bipush (v := 12) hx hb dX10_compute_41 (by decide) ?_
            refine lv_icmp_ne (tgt := 49) hx hb dX10_compute_43 (by decide) (fun c_18 => ?_) (fun c_18 => ?_)
            · have i_18 := z_ne c_18
              rw [nI_toInt (by omega)] at i_18
              rw [tI_12] at i_18
              have hi12 : i < 12 := by omega
              refine lv_iload hx hb dX10_compute_49 (lv_at hl 4 rfl) ?_
              refine lv_aload_n hx hb dX10_compute_51 rfl (lv_at hl 0 rfl) ?_
              refine z_get (own := RX10) (C := RX10) (T := TX10) (N := 21) hx hb hts in_X10_compute_10 hown hK hS h_m hM41 rfl 17 (by decide) (List.mem_of_getElem? (i := 1) rfl) rfl rfl dX10_compute_52 ?_
              refine lv_icmp_ge (tgt := 68) hx hb dX10_compute_55 (by decide) (fun c_19 => ?_) (fun c_19 => ?_)
              · have i_19 := z_le c_19
                rw [nI_toInt (by omega)] at i_19
                rw [nI_toInt (by omega)] at i_19
                have htt : (0 : Int32).toInt = s9 i := by rw [tI_0, hsz9 i (by omega)]
                have hin9 := htt
                refine lv_iconst (v := 0) hx hb dX10_compute_68 (by decide) ?_
                refine lv_istore (lv' := [(6, .int 0), (0, .ref (Z.2.1 41)), (1, .int (nI s1)), (2, .int (nI r1)), (3, .int c9), (4, .int (nI i)), (5, .int 0)]) hx hb dX10_compute_69 hl (by decide) rfl (fun ls hl => ?_)
                refine lv_aload_n hx hb dX10_compute_71 rfl (lv_at hl 1 rfl) ?_
                refine z_get (own := RX10) (C := RX10) (T := TX10) (N := 21) hx hb hts in_X10_compute_10 hown hK hS h_m hM41 rfl 19 (by decide) (List.mem_of_getElem? (i := 4) rfl) rfl rfl dX10_compute_72 ?_
                refine lv_iload hx hb dX10_compute_75 (lv_at hl 5 rfl) ?_
                refine lv_aload_n hx hb dX10_compute_77 rfl (lv_at hl 1 rfl) ?_
                refine lv_iload_n hx hb dX10_compute_78 rfl (lv_at hl 2 rfl) ?_
                refine lv_iload_n hx hb dX10_compute_79 rfl (lv_at hl 4 rfl) ?_
                refine lv_iload hx hb dX10_compute_80 (lv_at hl 0 rfl) ?_
                refine z_calli (z_runV (As := [.int (nI s1), .int c9, .int 0]) (rest := [.int (nI i), .ref (Z.2.1 55)]) ⟨hx, hb, hml, hown, hts⟩ hK hS ((m_carryDigit Z ga sg ⟨_, _, _, _, _, _, fu, fq, fm, fd, h_m, h_u, h_q, h_n9, h_g, hMN, hSg⟩ s1 hs1 c9 0 hcm (by omega) (by omega)) l _) gX10_compute_X10_carryDigit rfl 3 (by decide +kernel) ⟨Nat.le_of_ble_eq_true rfl, Nat.le_of_ble_eq_true rfl⟩ h_m hM41 rfl rfl hl.1 rfl (Nat.le_of_ble_eq_true rfl) dX10_compute_82 ⟨Nat.le_of_ble_eq_true rfl, Nat.le_of_ble_eq_true rfl⟩) hS (fun dd g_20 H locs hp_21 hS => ?_)
                obtain ⟨rfl, hp_21⟩ := hp_21
                have hdd : dd.toInt = zdq (sg s1) s9 i := by rw [hp_21, htt, hc]; rfl
                refine z_iast hx hb hK hS h_md hM55 (vp_in_nI (by omega) (by omega)) dX10_compute_85 (fun g_22 H locs hg_22 hS => ?_)
                have h_md : g_22 55 = .inl (Z.2.2.2 0, 12, .inl (upd md1 (nI i).toNatClampNeg dd)) := z_up_s hg_22
                have h_m := z_up_n hg_22 h_m (by omega)
                have h_u := z_up_n hg_22 h_u (by omega)
                have h_q := z_up_n hg_22 h_q (by omega)
                have h_n9 := z_up_n hg_22 h_n9 (by omega)
                have h_g := z_up_n hg_22 h_g (by omega)
                have h_l := z_up_n hg_22 h_l (by omega)
                have h_e := z_up_n hg_22 h_e (by omega)
                have h_su := z_up_n hg_22 h_su (by omega)
                refine lv_aload_n hx hb dX10_compute_86 rfl (lv_at hl 1 rfl) ?_
                refine lv_iload_n hx hb dX10_compute_87 rfl (lv_at hl 2 rfl) ?_
                refine lv_iload_n hx hb dX10_compute_88 rfl (lv_at hl 4 rfl) ?_
                refine lv_iload hx hb dX10_compute_89 (lv_at hl 0 rfl) ?_
                refine z_calli (z_runV (As := [.int (nI s1), .int c9, .int 0]) (rest := []) ⟨hx, hb, hml, hown, hts⟩ hK hS ((m_carried Z g_22 sg ⟨_, _, _, _, _, _, fu, fq, fm, fd, h_m, h_u, h_q, h_n9, h_g, hMN, hSg⟩ s1 hs1 c9 0 hcm (by omega) (by omega)) l _) gX10_compute_X10_carried rfl 3 (by decide +kernel) ⟨Nat.le_of_ble_eq_true rfl, Nat.le_of_ble_eq_true rfl⟩ h_m hM41 rfl rfl hl.1 rfl (Nat.le_of_ble_eq_true rfl) dX10_compute_91 ⟨Nat.le_of_ble_eq_true rfl, Nat.le_of_ble_eq_true rfl⟩) hS (fun cn g_23 H locs hp_24 hS => ?_)
                obtain ⟨rfl, hp_24⟩ := hp_24
                have hcn : cn.toInt = zcq (sg s1) s9 (i + 1) := by rw [hp_24, htt, hc]; rfl
                refine lv_istore_n (lv' := [(3, .int cn), (6, .int 0), (0, .ref (Z.2.1 41)), (1, .int (nI s1)), (2, .int (nI r1)), (4, .int (nI i)), (5, .int 0)]) hx hb dX10_compute_94 rfl hl (by decide) rfl (fun ls hl => ?_)
                refine lv_iinc (v := (nI (i + 1))) (lv' := [(4, .int (nI (i + 1))), (3, .int cn), (6, .int 0), (0, .ref (Z.2.1 41)), (1, .int (nI s1)), (2, .int (nI r1)), (5, .int 0)]) hx hb dX10_compute_95 hl (k := 5) rfl (nI_1 _) (by decide) rfl (fun ls hl => ?_)
                refine lv_goto (tgt := 21) hx hb dX10_compute_98 (by decide) ?_
                exact ih_21 cn (i + 1) (upd md1 (nI i).toNatClampNeg dd) g_22 h_m h_u h_q h_n9 h_g h_l h_e h_su h_md (hfr_ga.up hg_22 (by omega)) (by omega) hcn (fun t ht => by
                    rcases Nat.lt_or_ge t i with q9 | q9
                    · exact hno t q9
                    · have : t = i := by omega
                      subst this; exact hnov) (fun t ht => by
                    rw [nI_clamp (by omega)]
                    by_cases q9 : t = i
                    · rw [q9, pk_us]; exact hdd
                    · rw [pk_un q9]; exact hmd t (by omega)) (by omega) _ _ _ hS (lv_sub hl [3, 4, 5, 1, 0, 6] rfl)
              · have i_19 := z_nle c_19
                rw [nI_toInt (by omega)] at i_19
                rw [nI_toInt (by omega)] at i_19
                have htt : (fs i).toInt = s9 i := hfs i (by omega)
                refine lv_aload_n hx hb dX10_compute_58 rfl (lv_at hl 0 rfl) ?_
                refine z_get (own := RX10) (C := RX10) (T := TX10) (N := 21) hx hb hts in_X10_compute_10 hown hK hS h_m hM41 rfl 18 (by decide) (List.mem_of_getElem? (i := 3) rfl) rfl rfl dX10_compute_59 ?_
                refine lv_iload hx hb dX10_compute_62 (lv_at hl 4 rfl) ?_
                refine z_iald hx hb hK hS h_su hM54 (vp_in_nI (by omega) (by omega)) dX10_compute_64 ?_
                rw [show fs (nI i).toNatClampNeg = fs i from by rw [nI_clamp (by omega)]]
                refine lv_goto (tgt := 69) hx hb dX10_compute_65 (by decide) ?_
                refine lv_topi (fun tt ett => ?_)
                have htt : tt.toInt = s9 i := by rw [ett]; exact htt
                refine lv_istore (lv' := [(6, .int tt), (0, .ref (Z.2.1 41)), (1, .int (nI s1)), (2, .int (nI r1)), (3, .int c9), (4, .int (nI i)), (5, .int 0)]) hx hb dX10_compute_69 hl (by decide) rfl (fun ls hl => ?_)
                refine lv_aload_n hx hb dX10_compute_71 rfl (lv_at hl 1 rfl) ?_
                refine z_get (own := RX10) (C := RX10) (T := TX10) (N := 21) hx hb hts in_X10_compute_10 hown hK hS h_m hM41 rfl 19 (by decide) (List.mem_of_getElem? (i := 4) rfl) rfl rfl dX10_compute_72 ?_
                refine lv_iload hx hb dX10_compute_75 (lv_at hl 5 rfl) ?_
                refine lv_aload_n hx hb dX10_compute_77 rfl (lv_at hl 1 rfl) ?_
                refine lv_iload_n hx hb dX10_compute_78 rfl (lv_at hl 2 rfl) ?_
                refine lv_iload_n hx hb dX10_compute_79 rfl (lv_at hl 4 rfl) ?_
                refine lv_iload hx hb dX10_compute_80 (lv_at hl 0 rfl) ?_
                refine z_calli (z_runV (As := [.int (nI s1), .int c9, .int tt]) (rest := [.int (nI i), .ref (Z.2.1 55)]) ⟨hx, hb, hml, hown, hts⟩ hK hS ((m_carryDigit Z ga sg ⟨_, _, _, _, _, _, fu, fq, fm, fd, h_m, h_u, h_q, h_n9, h_g, hMN, hSg⟩ s1 hs1 c9 tt hcm (by omega) (by omega)) l _) gX10_compute_X10_carryDigit rfl 3 (by decide +kernel) ⟨Nat.le_of_ble_eq_true rfl, Nat.le_of_ble_eq_true rfl⟩ h_m hM41 rfl rfl hl.1 rfl (Nat.le_of_ble_eq_true rfl) dX10_compute_82 ⟨Nat.le_of_ble_eq_true rfl, Nat.le_of_ble_eq_true rfl⟩) hS (fun dd g_25 H locs hp_26 hS => ?_)
                obtain ⟨rfl, hp_26⟩ := hp_26
                have hdd : dd.toInt = zdq (sg s1) s9 i := by rw [hp_26, htt, hc]; rfl
                refine z_iast hx hb hK hS h_md hM55 (vp_in_nI (by omega) (by omega)) dX10_compute_85 (fun g_27 H locs hg_27 hS => ?_)
                have h_md : g_27 55 = .inl (Z.2.2.2 0, 12, .inl (upd md1 (nI i).toNatClampNeg dd)) := z_up_s hg_27
                have h_m := z_up_n hg_27 h_m (by omega)
                have h_u := z_up_n hg_27 h_u (by omega)
                have h_q := z_up_n hg_27 h_q (by omega)
                have h_n9 := z_up_n hg_27 h_n9 (by omega)
                have h_g := z_up_n hg_27 h_g (by omega)
                have h_l := z_up_n hg_27 h_l (by omega)
                have h_e := z_up_n hg_27 h_e (by omega)
                have h_su := z_up_n hg_27 h_su (by omega)
                refine lv_aload_n hx hb dX10_compute_86 rfl (lv_at hl 1 rfl) ?_
                refine lv_iload_n hx hb dX10_compute_87 rfl (lv_at hl 2 rfl) ?_
                refine lv_iload_n hx hb dX10_compute_88 rfl (lv_at hl 4 rfl) ?_
                refine lv_iload hx hb dX10_compute_89 (lv_at hl 0 rfl) ?_
                refine z_calli (z_runV (As := [.int (nI s1), .int c9, .int tt]) (rest := []) ⟨hx, hb, hml, hown, hts⟩ hK hS ((m_carried Z g_27 sg ⟨_, _, _, _, _, _, fu, fq, fm, fd, h_m, h_u, h_q, h_n9, h_g, hMN, hSg⟩ s1 hs1 c9 tt hcm (by omega) (by omega)) l _) gX10_compute_X10_carried rfl 3 (by decide +kernel) ⟨Nat.le_of_ble_eq_true rfl, Nat.le_of_ble_eq_true rfl⟩ h_m hM41 rfl rfl hl.1 rfl (Nat.le_of_ble_eq_true rfl) dX10_compute_91 ⟨Nat.le_of_ble_eq_true rfl, Nat.le_of_ble_eq_true rfl⟩) hS (fun cn g_28 H locs hp_29 hS => ?_)
                obtain ⟨rfl, hp_29⟩ := hp_29
                have hcn : cn.toInt = zcq (sg s1) s9 (i + 1) := by rw [hp_29, htt, hc]; rfl
                refine lv_istore_n (lv' := [(3, .int cn), (6, .int tt), (0, .ref (Z.2.1 41)), (1, .int (nI s1)), (2, .int (nI r1)), (4, .int (nI i)), (5, .int 0)]) hx hb dX10_compute_94 rfl hl (by decide) rfl (fun ls hl => ?_)
                refine lv_iinc (v := (nI (i + 1))) (lv' := [(4, .int (nI (i + 1))), (3, .int cn), (6, .int tt), (0, .ref (Z.2.1 41)), (1, .int (nI s1)), (2, .int (nI r1)), (5, .int 0)]) hx hb dX10_compute_95 hl (k := 5) rfl (nI_1 _) (by decide) rfl (fun ls hl => ?_)
                refine lv_goto (tgt := 21) hx hb dX10_compute_98 (by decide) ?_
                exact ih_21 cn (i + 1) (upd md1 (nI i).toNatClampNeg dd) g_27 h_m h_u h_q h_n9 h_g h_l h_e h_su h_md (hfr_ga.up hg_27 (by omega)) (by omega) hcn (fun t ht => by
                    rcases Nat.lt_or_ge t i with q9 | q9
                    · exact hno t q9
                    · have : t = i := by omega
                      subst this; exact hnov) (fun t ht => by
                    rw [nI_clamp (by omega)]
                    by_cases q9 : t = i
                    · rw [q9, pk_us]; exact hdd
                    · rw [pk_un q9]; exact hmd t (by omega)) (by omega) _ _ _ hS (lv_sub hl [3, 4, 5, 1, 0, 6] rfl)
            · have i_18 := z_eq c_18
              rw [nI_toInt (by omega)] at i_18
              rw [tI_12] at i_18
              have hi12 : i = 12 := by omega
              refine lv_ldc (v := (-1000005)) hx hb hown (hts _ (List.mem_of_getElem? (i := 2) rfl)) dX10_compute_46 ?_
              refine z_iret hx hb hr hlocks hS ?_ dX10_compute_48
              show z_pm Z g (sp_comp (sg, rw9) s1 n s9 r1) _ _
              unfold sp_comp
              dsimp only
              have hN : ¬ zcN (sg s1) n s9 < 13 := by
                have h9 : zcN (sg s1) n s9 = 13 := zfi_none (fun k hk => by
                  rcases Nat.lt_or_ge k i with q9 | q9
                  · exact hno k q9
                  · have : k = i := by omega
                    subst this; exact hnov)
                omega
              rw [zite_f hN]
              have hfz : z_fr 55 1 g ga := hfr_ga
              exact ⟨rfl, ⟨⟨_, _, _, _, _, _, fu, fq, fm, fd, h_m, h_u, h_q, h_n9, h_g, hMN, hSg⟩, hx9.made h_md (fun k h1 h2 h3 => hfz k (by omega))⟩, hfz.wide (by omega) (by omega)⟩
          · have i_17 := z_eq c_17
            rw [tI_0] at i_17
            have hnov : zovB (sg s1) n s9 i = false := zovB_f (fun h9 => by
              obtain ⟨q1, q2, q3⟩ := h9
              exact hez q3)
            refine lv_iload hx hb dX10_compute_34 (lv_at hl 5 rfl) ?_
            refine lv_if_ne (tgt := 101) hx hb dX10_compute_36 (by decide) (fun c_30 => ?_) (fun c_30 => ?_)
            · have i_30 := z_ne c_30
              rw [tI_0] at i_30
              exfalso; omega
            · have i_30 := z_eq c_30
              rw [tI_0] at i_30
              
              refine lv_iload hx hb dX10_compute_39 (lv_at hl 4 rfl) ?_
              refine lv_bipush (v := 12) hx hb dX10_compute_41 (by decide) ?_
              refine lv_icmp_ne (tgt := 49) hx hb dX10_compute_43 (by decide) (fun c_31 => ?_) (fun c_31 => ?_)
              · have i_31 := z_ne c_31
                rw [nI_toInt (by omega)] at i_31
                rw [tI_12] at i_31
                have hi12 : i < 12 := by omega
                refine lv_iload hx hb dX10_compute_49 (lv_at hl 4 rfl) ?_
                refine lv_aload_n hx hb dX10_compute_51 rfl (lv_at hl 0 rfl) ?_
                refine z_get (own := RX10) (C := RX10) (T := TX10) (N := 21) hx hb hts in_X10_compute_10 hown hK hS h_m hM41 rfl 17 (by decide) (List.mem_of_getElem? (i := 1) rfl) rfl rfl dX10_compute_52 ?_
                refine lv_icmp_ge (tgt := 68) hx hb dX10_compute_55 (by decide) (fun c_32 => ?_) (fun c_32 => ?_)
                · have i_32 := z_le c_32
                  rw [nI_toInt (by omega)] at i_32
                  rw [nI_toInt (by omega)] at i_32
                  have htt : (0 : Int32).toInt = s9 i := by rw [tI_0, hsz9 i (by omega)]
                  have hin9 := htt
                  refine lv_iconst (v := 0) hx hb dX10_compute_68 (by decide) ?_
                  refine lv_istore (lv' := [(6, .int 0), (0, .ref (Z.2.1 41)), (1, .int (nI s1)), (2, .int (nI r1)), (3, .int c9), (4, .int (nI i)), (5, .int 0)]) hx hb dX10_compute_69 hl (by decide) rfl (fun ls hl => ?_)
                  refine lv_aload_n hx hb dX10_compute_71 rfl (lv_at hl 1 rfl) ?_
                  refine z_get (own := RX10) (C := RX10) (T := TX10) (N := 21) hx hb hts in_X10_compute_10 hown hK hS h_m hM41 rfl 19 (by decide) (List.mem_of_getElem? (i := 4) rfl) rfl rfl dX10_compute_72 ?_
                  refine lv_iload hx hb dX10_compute_75 (lv_at hl 5 rfl) ?_
                  refine lv_aload_n hx hb dX10_compute_77 rfl (lv_at hl 1 rfl) ?_
                  refine lv_iload_n hx hb dX10_compute_78 rfl (lv_at hl 2 rfl) ?_
                  refine lv_iload_n hx hb dX10_compute_79 rfl (lv_at hl 4 rfl) ?_
                  refine lv_iload hx hb dX10_compute_80 (lv_at hl 0 rfl) ?_
                  refine z_calli (z_runV (As := [.int (nI s1), .int c9, .int 0]) (rest := [.int (nI i), .ref (Z.2.1 55)]) ⟨hx, hb, hml, hown, hts⟩ hK hS ((m_carryDigit Z ga sg ⟨_, _, _, _, _, _, fu, fq, fm, fd, h_m, h_u, h_q, h_n9, h_g, hMN, hSg⟩ s1 hs1 c9 0 hcm (by omega) (by omega)) l _) gX10_compute_X10_carryDigit rfl 3 (by decide +kernel) ⟨Nat.le_of_ble_eq_true rfl, Nat.le_of_ble_eq_true rfl⟩ h_m hM41 rfl rfl hl.1 rfl (Nat.le_of_ble_eq_true rfl) dX10_compute_82 ⟨Nat.le_of_ble_eq_true rfl, Nat.le_of_ble_eq_true rfl⟩) hS (fun dd g_33 H locs hp_34 hS => ?_)
                  obtain ⟨rfl, hp_34⟩ := hp_34
                  have hdd : dd.toInt = zdq (sg s1) s9 i := by rw [hp_34, htt, hc]; rfl
                  refine z_iast hx hb hK hS h_md hM55 (vp_in_nI (by omega) (by omega)) dX10_compute_85 (fun g_35 H locs hg_35 hS => ?_)
                  have h_md : g_35 55 = .inl (Z.2.2.2 0, 12, .inl (upd md1 (nI i).toNatClampNeg dd)) := z_up_s hg_35
                  have h_m := z_up_n hg_35 h_m (by omega)
                  have h_u := z_up_n hg_35 h_u (by omega)
                  have h_q := z_up_n hg_35 h_q (by omega)
                  have h_n9 := z_up_n hg_35 h_n9 (by omega)
                  have h_g := z_up_n hg_35 h_g (by omega)
                  have h_l := z_up_n hg_35 h_l (by omega)
                  have h_e := z_up_n hg_35 h_e (by omega)
                  have h_su := z_up_n hg_35 h_su (by omega)
                  refine lv_aload_n hx hb dX10_compute_86 rfl (lv_at hl 1 rfl) ?_
                  refine lv_iload_n hx hb dX10_compute_87 rfl (lv_at hl 2 rfl) ?_
                  refine lv_iload_n hx hb dX10_compute_88 rfl (lv_at hl 4 rfl) ?_
                  refine lv_iload hx hb dX10_compute_89 (lv_at hl 0 rfl) ?_
                  refine z_calli (z_runV (As := [.int (nI s1), .int c9, .int 0]) (rest := []) ⟨hx, hb, hml, hown, hts⟩ hK hS ((m_carried Z g_35 sg ⟨_, _, _, _, _, _, fu, fq, fm, fd, h_m, h_u, h_q, h_n9, h_g, hMN, hSg⟩ s1 hs1 c9 0 hcm (by omega) (by omega)) l _) gX10_compute_X10_carried rfl 3 (by decide +kernel) ⟨Nat.le_of_ble_eq_true rfl, Nat.le_of_ble_eq_true rfl⟩ h_m hM41 rfl rfl hl.1 rfl (Nat.le_of_ble_eq_true rfl) dX10_compute_91 ⟨Nat.le_of_ble_eq_true rfl, Nat.le_of_ble_eq_true rfl⟩) hS (fun cn g_36 H locs hp_37 hS => ?_)
                  obtain ⟨rfl, hp_37⟩ := hp_37
                  have hcn : cn.toInt = zcq (sg s1) s9 (i + 1) := by rw [hp_37, htt, hc]; rfl
                  refine lv_istore_n (lv' := [(3, .int cn), (6, .int 0), (0, .ref (Z.2.1 41)), (1, .int (nI s1)), (2, .int (nI r1)), (4, .int (nI i)), (5, .int 0)]) hx hb dX10_compute_94 rfl hl (by decide) rfl (fun ls hl => ?_)
                  refine lv_iinc (v := (nI (i + 1))) (lv' := [(4, .int (nI (i + 1))), (3, .int cn), (6, .int 0), (0, .ref (Z.2.1 41)), (1, .int (nI s1)), (2, .int (nI r1)), (5, .int 0)]) hx hb dX10_compute_95 hl (k := 5) rfl (nI_1 _) (by decide) rfl (fun ls hl => ?_)
                  refine lv_goto (tgt := 21) hx hb dX10_compute_98 (by decide) ?_
                  exact ih_21 cn (i + 1) (upd md1 (nI i).toNatClampNeg dd) g_35 h_m h_u h_q h_n9 h_g h_l h_e h_su h_md (hfr_ga.up hg_35 (by omega)) (by omega) hcn (fun t ht => by
                      rcases Nat.lt_or_ge t i with q9 | q9
                      · exact hno t q9
                      · have : t = i := by omega
                        subst this; exact hnov) (fun t ht => by
                      rw [nI_clamp (by omega)]
                      by_cases q9 : t = i
                      · rw [q9, pk_us]; exact hdd
                      · rw [pk_un q9]; exact hmd t (by omega)) (by omega) _ _ _ hS (lv_sub hl [3, 4, 5, 1, 0, 6] rfl)
                · have i_32 := z_nle c_32
                  rw [nI_toInt (by omega)] at i_32
                  rw [nI_toInt (by omega)] at i_32
                  have htt : (fs i).toInt = s9 i := hfs i (by omega)
                  refine lv_aload_n hx hb dX10_compute_58 rfl (lv_at hl 0 rfl) ?_
                  refine z_get (own := RX10) (C := RX10) (T := TX10) (N := 21) hx hb hts in_X10_compute_10 hown hK hS h_m hM41 rfl 18 (by decide) (List.mem_of_getElem? (i := 3) rfl) rfl rfl dX10_compute_59 ?_
                  refine lv_iload hx hb dX10_compute_62 (lv_at hl 4 rfl) ?_
                  refine z_iald hx hb hK hS h_su hM54 (vp_in_nI (by omega) (by omega)) dX10_compute_64 ?_
                  rw [show fs (nI i).toNatClampNeg = fs i from by rw [nI_clamp (by omega)]]
                  refine lv_goto (tgt := 69) hx hb dX10_compute_65 (by decide) ?_
                  refine lv_topi (fun tt ett => ?_)
                  have htt : tt.toInt = s9 i := by rw [ett]; exact htt
                  refine lv_istore (lv' := [(6, .int tt), (0, .ref (Z.2.1 41)), (1, .int (nI s1)), (2, .int (nI r1)), (3, .int c9), (4, .int (nI i)), (5, .int 0)]) hx hb dX10_compute_69 hl (by decide) rfl (fun ls hl => ?_)
                  refine lv_aload_n hx hb dX10_compute_71 rfl (lv_at hl 1 rfl) ?_
                  refine z_get (own := RX10) (C := RX10) (T := TX10) (N := 21) hx hb hts in_X10_compute_10 hown hK hS h_m hM41 rfl 19 (by decide) (List.mem_of_getElem? (i := 4) rfl) rfl rfl dX10_compute_72 ?_
                  refine lv_iload hx hb dX10_compute_75 (lv_at hl 5 rfl) ?_
                  refine lv_aload_n hx hb dX10_compute_77 rfl (lv_at hl 1 rfl) ?_
                  refine lv_iload_n hx hb dX10_compute_78 rfl (lv_at hl 2 rfl) ?_
                  refine lv_iload_n hx hb dX10_compute_79 rfl (lv_at hl 4 rfl) ?_
                  refine lv_iload hx hb dX10_compute_80 (lv_at hl 0 rfl) ?_
                  refine z_calli (z_runV (As := [.int (nI s1), .int c9, .int tt]) (rest := [.int (nI i), .ref (Z.2.1 55)]) ⟨hx, hb, hml, hown, hts⟩ hK hS ((m_carryDigit Z ga sg ⟨_, _, _, _, _, _, fu, fq, fm, fd, h_m, h_u, h_q, h_n9, h_g, hMN, hSg⟩ s1 hs1 c9 tt hcm (by omega) (by omega)) l _) gX10_compute_X10_carryDigit rfl 3 (by decide +kernel) ⟨Nat.le_of_ble_eq_true rfl, Nat.le_of_ble_eq_true rfl⟩ h_m hM41 rfl rfl hl.1 rfl (Nat.le_of_ble_eq_true rfl) dX10_compute_82 ⟨Nat.le_of_ble_eq_true rfl, Nat.le_of_ble_eq_true rfl⟩) hS (fun dd g_38 H locs hp_39 hS => ?_)
                  obtain ⟨rfl, hp_39⟩ := hp_39
                  have hdd : dd.toInt = zdq (sg s1) s9 i := by rw [hp_39, htt, hc]; rfl
                  refine z_iast hx hb hK hS h_md hM55 (vp_in_nI (by omega) (by omega)) dX10_compute_85 (fun g_40 H locs hg_40 hS => ?_)
                  have h_md : g_40 55 = .inl (Z.2.2.2 0, 12, .inl (upd md1 (nI i).toNatClampNeg dd)) := z_up_s hg_40
                  have h_m := z_up_n hg_40 h_m (by omega)
                  have h_u := z_up_n hg_40 h_u (by omega)
                  have h_q := z_up_n hg_40 h_q (by omega)
                  have h_n9 := z_up_n hg_40 h_n9 (by omega)
                  have h_g := z_up_n hg_40 h_g (by omega)
                  have h_l := z_up_n hg_40 h_l (by omega)
                  have h_e := z_up_n hg_40 h_e (by omega)
                  have h_su := z_up_n hg_40 h_su (by omega)
                  refine lv_aload_n hx hb dX10_compute_86 rfl (lv_at hl 1 rfl) ?_
                  refine lv_iload_n hx hb dX10_compute_87 rfl (lv_at hl 2 rfl) ?_
                  refine lv_iload_n hx hb dX10_compute_88 rfl (lv_at hl 4 rfl) ?_
                  refine lv_iload hx hb dX10_compute_89 (lv_at hl 0 rfl) ?_
                  refine z_calli (z_runV (As := [.int (nI s1), .int c9, .int tt]) (rest := []) ⟨hx, hb, hml, hown, hts⟩ hK hS ((m_carried Z g_40 sg ⟨_, _, _, _, _, _, fu, fq, fm, fd, h_m, h_u, h_q, h_n9, h_g, hMN, hSg⟩ s1 hs1 c9 tt hcm (by omega) (by omega)) l _) gX10_compute_X10_carried rfl 3 (by decide +kernel) ⟨Nat.le_of_ble_eq_true rfl, Nat.le_of_ble_eq_true rfl⟩ h_m hM41 rfl rfl hl.1 rfl (Nat.le_of_ble_eq_true rfl) dX10_compute_91 ⟨Nat.le_of_ble_eq_true rfl, Nat.le_of_ble_eq_true rfl⟩) hS (fun cn g_41 H locs hp_42 hS => ?_)
                  obtain ⟨rfl, hp_42⟩ := hp_42
                  have hcn : cn.toInt = zcq (sg s1) s9 (i + 1) := by rw [hp_42, htt, hc]; rfl
                  refine lv_istore_n (lv' := [(3, .int cn), (6, .int tt), (0, .ref (Z.2.1 41)), (1, .int (nI s1)), (2, .int (nI r1)), (4, .int (nI i)), (5, .int 0)]) hx hb dX10_compute_94 rfl hl (by decide) rfl (fun ls hl => ?_)
                  refine lv_iinc (v := (nI (i + 1))) (lv' := [(4, .int (nI (i + 1))), (3, .int cn), (6, .int tt), (0, .ref (Z.2.1 41)), (1, .int (nI s1)), (2, .int (nI r1)), (5, .int 0)]) hx hb dX10_compute_95 hl (k := 5) rfl (nI_1 _) (by decide) rfl (fun ls hl => ?_)
                  refine lv_goto (tgt := 21) hx hb dX10_compute_98 (by decide) ?_
                  exact ih_21 cn (i + 1) (upd md1 (nI i).toNatClampNeg dd) g_40 h_m h_u h_q h_n9 h_g h_l h_e h_su h_md (hfr_ga.up hg_40 (by omega)) (by omega) hcn (fun t ht => by
                      rcases Nat.lt_or_ge t i with q9 | q9
                      · exact hno t q9
                      · have : t = i := by omega
                        subst this; exact hnov) (fun t ht => by
                      rw [nI_clamp (by omega)]
                      by_cases q9 : t = i
                      · rw [q9, pk_us]; exact hdd
                      · rw [pk_un q9]; exact hmd t (by omega)) (by omega) _ _ _ hS (lv_sub hl [3, 4, 5, 1, 0, 6] rfl)
              · have i_31 := z_eq c_31
                rw [nI_toInt (by omega)] at i_31
                rw [tI_12] at i_31
                have hi12 : i = 12 := by omega
                refine lv_ldc (v := (-1000005)) hx hb hown (hts _ (List.mem_of_getElem? (i := 2) rfl)) dX10_compute_46 ?_
                refine z_iret hx hb hr hlocks hS ?_ dX10_compute_48
                show z_pm Z g (sp_comp (sg, rw9) s1 n s9 r1) _ _
                unfold sp_comp
                dsimp only
                have hN : ¬ zcN (sg s1) n s9 < 13 := by
                  have h9 : zcN (sg s1) n s9 = 13 := zfi_none (fun k hk => by
                    rcases Nat.lt_or_ge k i with q9 | q9
                    · exact hno k q9
                    · have : k = i := by omega
                      subst this; exact hnov)
                  omega
                rw [zite_f hN]
                have hfz : z_fr 55 1 g ga := hfr_ga
                exact ⟨rfl, ⟨⟨_, _, _, _, _, _, fu, fq, fm, fd, h_m, h_u, h_q, h_n9, h_g, hMN, hSg⟩, hx9.made h_md (fun k h1 h2 h3 => hfz k (by omega))⟩, hfz.wide (by omega) (by omega)⟩
    exact hcut_21 (13 - 0 + 1) 0 0 md g h_m h_u h_q h_n9 h_g h_l h_e h_su h_md z_fr.rf (by omega) rfl (fun t ht => absurd ht (Nat.not_lt_zero t)) (fun t ht => absurd ht (Nat.not_lt_zero t)) (Nat.lt_succ_self _) _ _ _ hS (lv_sub hl [3, 4, 5, 2, 1, 0] rfl)
  · have i_3 := z_eq c_3
    rw [tI_0] at i_3
    rw [hc0] at i_3
    have hez : zch (sg s1) 0 = 0 := i_3
    refine lv_iconst (v := 1) hx hb dX10_compute_14 (by decide) ?_
    refine lv_goto (tgt := 19) hx hb dX10_compute_15 (by decide) ?_
    refine lv_istore (lv' := [(5, .int 1), (4, .int 0), (3, .int 0), (0, .ref (Z.2.1 41)), (1, .int (nI s1)), (2, .int (nI r1))]) hx hb dX10_compute_19 hl (by decide) rfl (fun ls hl => ?_)
    have hcut_21_2 : ∀ (nn_21 : Nat) (c9 : Int32) (i : Nat) (md1 : Nat → Int32) (ga : Nat → va_E) (h_m : ga 41 = .inr (10, [.ref (Z.2.1 42), .ref (Z.2.1 43), .ref (Z.2.1 44), .ref (Z.2.1 45), .int v4, .int v5, .int v6, .ref (Z.2.1 46), .ref (Z.2.1 47), .ref (Z.2.1 48), .ref (Z.2.1 49), .ref (Z.2.1 50), .ref (Z.2.1 51), .ref (Z.2.1 52), .ref (Z.2.1 53), .long v15, .long v16, .int (nI n), .ref (Z.2.1 54), .ref (Z.2.1 55), .ref (Z.2.1 56)])) (h_u : ga 42 = .inl (Z.2.2.2 0, 2, .inl fu)) (h_q : ga 43 = .inl (Z.2.2.2 0, 2, .inl fq)) (h_n9 : ga 44 = .inl (Z.2.2.2 0, 2, .inl fm)) (h_g : ga 45 = .inl (Z.2.2.2 0, 24, .inl fd)) (h_l : ga 52 = .inl (Z.2.2.2 0, 3, .inl fl)) (h_e : ga 53 = .inl (Z.2.2.2 0, 36, .inl fe)) (h_su : ga 54 = .inl (Z.2.2.2 0, 12, .inl fs)) (h_md : ga 55 = .inl (Z.2.2.2 0, 12, .inl md1)) (hfr_ga : z_fr 55 1 g ga) (hi : i ≤ 12) (hc : c9.toInt = zcq (sg s1) s9 i) (hno : ∀ t, t < i → zovB (sg s1) n s9 t = false) (hmd : ∀ t, t < i → (md1 t).toInt = zdq (sg s1) s9 t) (hm_21 : 13 - i < nn_21) (H : Heap) (locs : List Loc) (ls : Array Slot), z_S Z (z_A Z sz) s.heap ga H locs → lv_has ls 7 [(0, .ref (Z.2.1 41)), (1, .int (nI s1)), (2, .int (nI r1)), (3, .int c9), (4, .int (nI i)), (5, .int 1)] → W p l e (headSpec wsX10_compute (z_rm 6 134)).room s m args below meth c H locs 0 0 (MQ below (va_Qi (fun r g1 => z_pm Z g (sp_comp (sg, rw9) s1 n s9 r1) r g1) (z_B Z) (z_A Z sz)) args s 0 0 (z_A Z sz)) (F0 m 21 ls []) := by
      intro nn_21
      induction nn_21 with
      | zero => intro c9 i md1 ga h_m h_u h_q h_n9 h_g h_l h_e h_su h_md hfr_ga hi hc hno hmd hm_21 H locs ls hS hl; exact absurd hm_21 (Nat.not_lt_zero _)
      | succ nn_21 ih_21 =>
        intro c9 i md1 ga h_m h_u h_q h_n9 h_g h_l h_e h_su h_md hfr_ga hi hc hno hmd hm_21 H locs ls hS hl
        have hqi := hqb i hi
        rw [← hc] at hqi
        have hsi := hsb i
        refine lv_iload hx hb dX10_compute_21 (lv_at hl 4 rfl) ?_
        refine lv_aload_n hx hb dX10_compute_23 rfl (lv_at hl 0 rfl) ?_
        refine z_get (own := RX10) (C := RX10) (T := TX10) (N := 21) hx hb hts in_X10_compute_10 hown hK hS h_m hM41 rfl 17 (by decide) (List.mem_of_getElem? (i := 1) rfl) rfl rfl dX10_compute_24 ?_
        refine lv_icmp_lt (tgt := 39) hx hb dX10_compute_27 (by decide) (fun c_43 => ?_) (fun c_43 => ?_)
        · have i_43 := z_lt c_43
          rw [nI_toInt (by omega)] at i_43
          rw [nI_toInt (by omega)] at i_43
          have hnov : zovB (sg s1) n s9 i = false := zovB_f (fun h9 => by
            obtain ⟨q1, q2, q3⟩ := h9
            omega)
          refine lv_iload hx hb dX10_compute_39 (lv_at hl 4 rfl) ?_
          refine lv_bipush (v := 12) hx hb dX10_compute_41 (by decide) ?_
          refine lv_icmp_ne (tgt := 49) hx hb dX10_compute_43 (by decide) (fun c_44 => ?_) (fun c_44 => ?_)
          · have i_44 := z_ne c_44
            rw [nI_toInt (by omega)] at i_44
            rw [tI_12] at i_44
            have hi12 : i < 12 := by omega
            refine lv_iload hx hb dX10_compute_49 (lv_at hl 4 rfl) ?_
            refine lv_aload_n hx hb dX10_compute_51 rfl (lv_at hl 0 rfl) ?_
            refine z_get (own := RX10) (C := RX10) (T := TX10) (N := 21) hx hb hts in_X10_compute_10 hown hK hS h_m hM41 rfl 17 (by decide) (List.mem_of_getElem? (i := 1) rfl) rfl rfl dX10_compute_52 ?_
            refine lv_icmp_ge (tgt := 68) hx hb dX10_compute_55 (by decide) (fun c_45 => ?_) (fun c_45 => ?_)
            · have i_45 := z_le c_45
              rw [nI_toInt (by omega)] at i_45
              rw [nI_toInt (by omega)] at i_45
              have htt : (0 : Int32).toInt = s9 i := by rw [tI_0, hsz9 i (by omega)]
              have hin9 := htt
              refine lv_iconst (v := 0) hx hb dX10_compute_68 (by decide) ?_
              refine lv_istore (lv' := [(6, .int 0), (0, .ref (Z.2.1 41)), (1, .int (nI s1)), (2, .int (nI r1)), (3, .int c9), (4, .int (nI i)), (5, .int 1)]) hx hb dX10_compute_69 hl (by decide) rfl (fun ls hl => ?_)
              refine lv_aload_n hx hb dX10_compute_71 rfl (lv_at hl 1 rfl) ?_
              refine z_get (own := RX10) (C := RX10) (T := TX10) (N := 21) hx hb hts in_X10_compute_10 hown hK hS h_m hM41 rfl 19 (by decide) (List.mem_of_getElem? (i := 4) rfl) rfl rfl dX10_compute_72 ?_
              refine lv_iload hx hb dX10_compute_75 (lv_at hl 5 rfl) ?_
              refine lv_aload_n hx hb dX10_compute_77 rfl (lv_at hl 1 rfl) ?_
              refine lv_iload_n hx hb dX10_compute_78 rfl (lv_at hl 2 rfl) ?_
              refine lv_iload_n hx hb dX10_compute_79 rfl (lv_at hl 4 rfl) ?_
              refine lv_iload hx hb dX10_compute_80 (lv_at hl 0 rfl) ?_
              refine z_calli (z_runV (As := [.int (nI s1), .int c9, .int 0]) (rest := [.int (nI i), .ref (Z.2.1 55)]) ⟨hx, hb, hml, hown, hts⟩ hK hS ((m_carryDigit Z ga sg ⟨_, _, _, _, _, _, fu, fq, fm, fd, h_m, h_u, h_q, h_n9, h_g, hMN, hSg⟩ s1 hs1 c9 0 hcm (by omega) (by omega)) l _) gX10_compute_X10_carryDigit rfl 3 (by decide +kernel) ⟨Nat.le_of_ble_eq_true rfl, Nat.le_of_ble_eq_true rfl⟩ h_m hM41 rfl rfl hl.1 rfl (Nat.le_of_ble_eq_true rfl) dX10_compute_82 ⟨Nat.le_of_ble_eq_true rfl, Nat.le_of_ble_eq_true rfl⟩) hS (fun dd g_46 H locs hp_47 hS => ?_)
              obtain ⟨rfl, hp_47⟩ := hp_47
              have hdd : dd.toInt = zdq (sg s1) s9 i := by rw [hp_47, htt, hc]; rfl
              refine z_iast hx hb hK hS h_md hM55 (vp_in_nI (by omega) (by omega)) dX10_compute_85 (fun g_48 H locs hg_48 hS => ?_)
              have h_md : g_48 55 = .inl (Z.2.2.2 0, 12, .inl (upd md1 (nI i).toNatClampNeg dd)) := z_up_s hg_48
              have h_m := z_up_n hg_48 h_m (by omega)
              have h_u := z_up_n hg_48 h_u (by omega)
              have h_q := z_up_n hg_48 h_q (by omega)
              have h_n9 := z_up_n hg_48 h_n9 (by omega)
              have h_g := z_up_n hg_48 h_g (by omega)
              have h_l := z_up_n hg_48 h_l (by omega)
              have h_e := z_up_n hg_48 h_e (by omega)
              have h_su := z_up_n hg_48 h_su (by omega)
              refine lv_aload_n hx hb dX10_compute_86 rfl (lv_at hl 1 rfl) ?_
              refine lv_iload_n hx hb dX10_compute_87 rfl (lv_at hl 2 rfl) ?_
              refine lv_iload_n hx hb dX10_compute_88 rfl (lv_at hl 4 rfl) ?_
              refine lv_iload hx hb dX10_compute_89 (lv_at hl 0 rfl) ?_
              refine z_calli (z_runV (As := [.int (nI s1), .int c9, .int 0]) (rest := []) ⟨hx, hb, hml, hown, hts⟩ hK hS ((m_carried Z g_48 sg ⟨_, _, _, _, _, _, fu, fq, fm, fd, h_m, h_u, h_q, h_n9, h_g, hMN, hSg⟩ s1 hs1 c9 0 hcm (by omega) (by omega)) l _) gX10_compute_X10_carried rfl 3 (by decide +kernel) ⟨Nat.le_of_ble_eq_true rfl, Nat.le_of_ble_eq_true rfl⟩ h_m hM41 rfl rfl hl.1 rfl (Nat.le_of_ble_eq_true rfl) dX10_compute_91 ⟨Nat.le_of_ble_eq_true rfl, Nat.le_of_ble_eq_true rfl⟩) hS (fun cn g_49 H locs hp_50 hS => ?_)
              obtain ⟨rfl, hp_50⟩ := hp_50
              have hcn : cn.toInt = zcq (sg s1) s9 (i + 1) := by rw [hp_50, htt, hc]; rfl
              refine lv_istore_n (lv' := [(3, .int cn), (6, .int 0), (0, .ref (Z.2.1 41)), (1, .int (nI s1)), (2, .int (nI r1)), (4, .int (nI i)), (5, .int 1)]) hx hb dX10_compute_94 rfl hl (by decide) rfl (fun ls hl => ?_)
              refine lv_iinc (v := (nI (i + 1))) (lv' := [(4, .int (nI (i + 1))), (3, .int cn), (6, .int 0), (0, .ref (Z.2.1 41)), (1, .int (nI s1)), (2, .int (nI r1)), (5, .int 1)]) hx hb dX10_compute_95 hl (k := 5) rfl (nI_1 _) (by decide) rfl (fun ls hl => ?_)
              refine lv_goto (tgt := 21) hx hb dX10_compute_98 (by decide) ?_
              exact ih_21 cn (i + 1) (upd md1 (nI i).toNatClampNeg dd) g_48 h_m h_u h_q h_n9 h_g h_l h_e h_su h_md (hfr_ga.up hg_48 (by omega)) (by omega) hcn (fun t ht => by
                  rcases Nat.lt_or_ge t i with q9 | q9
                  · exact hno t q9
                  · have : t = i := by omega
                    subst this; exact hnov) (fun t ht => by
                  rw [nI_clamp (by omega)]
                  by_cases q9 : t = i
                  · rw [q9, pk_us]; exact hdd
                  · rw [pk_un q9]; exact hmd t (by omega)) (by omega) _ _ _ hS (lv_sub hl [3, 4, 5, 1, 0, 6] rfl)
            · have i_45 := z_nle c_45
              rw [nI_toInt (by omega)] at i_45
              rw [nI_toInt (by omega)] at i_45
              have htt : (fs i).toInt = s9 i := hfs i (by omega)
              refine lv_aload_n hx hb dX10_compute_58 rfl (lv_at hl 0 rfl) ?_
              refine z_get (own := RX10) (C := RX10) (T := TX10) (N := 21) hx hb hts in_X10_compute_10 hown hK hS h_m hM41 rfl 18 (by decide) (List.mem_of_getElem? (i := 3) rfl) rfl rfl dX10_compute_59 ?_
              refine lv_iload hx hb dX10_compute_62 (lv_at hl 4 rfl) ?_
              refine z_iald hx hb hK hS h_su hM54 (vp_in_nI (by omega) (by omega)) dX10_compute_64 ?_
              rw [show fs (nI i).toNatClampNeg = fs i from by rw [nI_clamp (by omega)]]
              refine lv_goto (tgt := 69) hx hb dX10_compute_65 (by decide) ?_
              refine lv_topi (fun tt ett => ?_)
              have htt : tt.toInt = s9 i := by rw [ett]; exact htt
              refine lv_istore (lv' := [(6, .int tt), (0, .ref (Z.2.1 41)), (1, .int (nI s1)), (2, .int (nI r1)), (3, .int c9), (4, .int (nI i)), (5, .int 1)]) hx hb dX10_compute_69 hl (by decide) rfl (fun ls hl => ?_)
              refine lv_aload_n hx hb dX10_compute_71 rfl (lv_at hl 1 rfl) ?_
              refine z_get (own := RX10) (C := RX10) (T := TX10) (N := 21) hx hb hts in_X10_compute_10 hown hK hS h_m hM41 rfl 19 (by decide) (List.mem_of_getElem? (i := 4) rfl) rfl rfl dX10_compute_72 ?_
              refine lv_iload hx hb dX10_compute_75 (lv_at hl 5 rfl) ?_
              refine lv_aload_n hx hb dX10_compute_77 rfl (lv_at hl 1 rfl) ?_
              refine lv_iload_n hx hb dX10_compute_78 rfl (lv_at hl 2 rfl) ?_
              refine lv_iload_n hx hb dX10_compute_79 rfl (lv_at hl 4 rfl) ?_
              refine lv_iload hx hb dX10_compute_80 (lv_at hl 0 rfl) ?_
              refine z_calli (z_runV (As := [.int (nI s1), .int c9, .int tt]) (rest := [.int (nI i), .ref (Z.2.1 55)]) ⟨hx, hb, hml, hown, hts⟩ hK hS ((m_carryDigit Z ga sg ⟨_, _, _, _, _, _, fu, fq, fm, fd, h_m, h_u, h_q, h_n9, h_g, hMN, hSg⟩ s1 hs1 c9 tt hcm (by omega) (by omega)) l _) gX10_compute_X10_carryDigit rfl 3 (by decide +kernel) ⟨Nat.le_of_ble_eq_true rfl, Nat.le_of_ble_eq_true rfl⟩ h_m hM41 rfl rfl hl.1 rfl (Nat.le_of_ble_eq_true rfl) dX10_compute_82 ⟨Nat.le_of_ble_eq_true rfl, Nat.le_of_ble_eq_true rfl⟩) hS (fun dd g_51 H locs hp_52 hS => ?_)
              obtain ⟨rfl, hp_52⟩ := hp_52
              have hdd : dd.toInt = zdq (sg s1) s9 i := by rw [hp_52, htt, hc]; rfl
              refine z_iast hx hb hK hS h_md hM55 (vp_in_nI (by omega) (by omega)) dX10_compute_85 (fun g_53 H locs hg_53 hS => ?_)
              have h_md : g_53 55 = .inl (Z.2.2.2 0, 12, .inl (upd md1 (nI i).toNatClampNeg dd)) := z_up_s hg_53
              have h_m := z_up_n hg_53 h_m (by omega)
              have h_u := z_up_n hg_53 h_u (by omega)
              have h_q := z_up_n hg_53 h_q (by omega)
              have h_n9 := z_up_n hg_53 h_n9 (by omega)
              have h_g := z_up_n hg_53 h_g (by omega)
              have h_l := z_up_n hg_53 h_l (by omega)
              have h_e := z_up_n hg_53 h_e (by omega)
              have h_su := z_up_n hg_53 h_su (by omega)
              refine lv_aload_n hx hb dX10_compute_86 rfl (lv_at hl 1 rfl) ?_
              refine lv_iload_n hx hb dX10_compute_87 rfl (lv_at hl 2 rfl) ?_
              refine lv_iload_n hx hb dX10_compute_88 rfl (lv_at hl 4 rfl) ?_
              refine lv_iload hx hb dX10_compute_89 (lv_at hl 0 rfl) ?_
              refine z_calli (z_runV (As := [.int (nI s1), .int c9, .int tt]) (rest := []) ⟨hx, hb, hml, hown, hts⟩ hK hS ((m_carried Z g_53 sg ⟨_, _, _, _, _, _, fu, fq, fm, fd, h_m, h_u, h_q, h_n9, h_g, hMN, hSg⟩ s1 hs1 c9 tt hcm (by omega) (by omega)) l _) gX10_compute_X10_carried rfl 3 (by decide +kernel) ⟨Nat.le_of_ble_eq_true rfl, Nat.le_of_ble_eq_true rfl⟩ h_m hM41 rfl rfl hl.1 rfl (Nat.le_of_ble_eq_true rfl) dX10_compute_91 ⟨Nat.le_of_ble_eq_true rfl, Nat.le_of_ble_eq_true rfl⟩) hS (fun cn g_54 H locs hp_55 hS => ?_)
              obtain ⟨rfl, hp_55⟩ := hp_55
              have hcn : cn.toInt = zcq (sg s1) s9 (i + 1) := by rw [hp_55, htt, hc]; rfl
              refine lv_istore_n (lv' := [(3, .int cn), (6, .int tt), (0, .ref (Z.2.1 41)), (1, .int (nI s1)), (2, .int (nI r1)), (4, .int (nI i)), (5, .int 1)]) hx hb dX10_compute_94 rfl hl (by decide) rfl (fun ls hl => ?_)
              refine lv_iinc (v := (nI (i + 1))) (lv' := [(4, .int (nI (i + 1))), (3, .int cn), (6, .int tt), (0, .ref (Z.2.1 41)), (1, .int (nI s1)), (2, .int (nI r1)), (5, .int 1)]) hx hb dX10_compute_95 hl (k := 5) rfl (nI_1 _) (by decide) rfl (fun ls hl => ?_)
              refine lv_goto (tgt := 21) hx hb dX10_compute_98 (by decide) ?_
              exact ih_21 cn (i + 1) (upd md1 (nI i).toNatClampNeg dd) g_53 h_m h_u h_q h_n9 h_g h_l h_e h_su h_md (hfr_ga.up hg_53 (by omega)) (by omega) hcn (fun t ht => by
                  rcases Nat.lt_or_ge t i with q9 | q9
                  · exact hno t q9
                  · have : t = i := by omega
                    subst this; exact hnov) (fun t ht => by
                  rw [nI_clamp (by omega)]
                  by_cases q9 : t = i
                  · rw [q9, pk_us]; exact hdd
                  · rw [pk_un q9]; exact hmd t (by omega)) (by omega) _ _ _ hS (lv_sub hl [3, 4, 5, 1, 0, 6] rfl)
          · have i_44 := z_eq c_44
            rw [nI_toInt (by omega)] at i_44
            rw [tI_12] at i_44
            have hi12 : i = 12 := by omega
            refine lv_ldc (v := (-1000005)) hx hb hown (hts _ (List.mem_of_getElem? (i := 2) rfl)) dX10_compute_46 ?_
            refine z_iret hx hb hr hlocks hS ?_ dX10_compute_48
            show z_pm Z g (sp_comp (sg, rw9) s1 n s9 r1) _ _
            unfold sp_comp
            dsimp only
            have hN : ¬ zcN (sg s1) n s9 < 13 := by
              have h9 : zcN (sg s1) n s9 = 13 := zfi_none (fun k hk => by
                rcases Nat.lt_or_ge k i with q9 | q9
                · exact hno k q9
                · have : k = i := by omega
                  subst this; exact hnov)
              omega
            rw [zite_f hN]
            have hfz : z_fr 55 1 g ga := hfr_ga
            exact ⟨rfl, ⟨⟨_, _, _, _, _, _, fu, fq, fm, fd, h_m, h_u, h_q, h_n9, h_g, hMN, hSg⟩, hx9.made h_md (fun k h1 h2 h3 => hfz k (by omega))⟩, hfz.wide (by omega) (by omega)⟩
        · have i_43 := z_nlt c_43
          rw [nI_toInt (by omega)] at i_43
          rw [nI_toInt (by omega)] at i_43
          refine lv_iload_n hx hb dX10_compute_30 rfl (lv_at hl 3 rfl) ?_
          refine lv_if_ne (tgt := 39) hx hb dX10_compute_31 (by decide) (fun c_56 => ?_) (fun c_56 => ?_)
          · have i_56 := z_ne c_56
            rw [tI_0] at i_56
            have hnov : zovB (sg s1) n s9 i = false := zovB_f (fun h9 => by
              obtain ⟨q1, q2, q3⟩ := h9
              rw [← hc] at q2; omega)
            refine lv_iload hx hb dX10_compute_39 (lv_at hl 4 rfl) ?_
            refine lv_bipush (v := 12) hx hb dX10_compute_41 (by decide) ?_
            refine lv_icmp_ne (tgt := 49) hx hb dX10_compute_43 (by decide) (fun c_57 => ?_) (fun c_57 => ?_)
            · have i_57 := z_ne c_57
              rw [nI_toInt (by omega)] at i_57
              rw [tI_12] at i_57
              have hi12 : i < 12 := by omega
              refine lv_iload hx hb dX10_compute_49 (lv_at hl 4 rfl) ?_
              refine lv_aload_n hx hb dX10_compute_51 rfl (lv_at hl 0 rfl) ?_
              refine z_get (own := RX10) (C := RX10) (T := TX10) (N := 21) hx hb hts in_X10_compute_10 hown hK hS h_m hM41 rfl 17 (by decide) (List.mem_of_getElem? (i := 1) rfl) rfl rfl dX10_compute_52 ?_
              refine lv_icmp_ge (tgt := 68) hx hb dX10_compute_55 (by decide) (fun c_58 => ?_) (fun c_58 => ?_)
              · have i_58 := z_le c_58
                rw [nI_toInt (by omega)] at i_58
                rw [nI_toInt (by omega)] at i_58
                have htt : (0 : Int32).toInt = s9 i := by rw [tI_0, hsz9 i (by omega)]
                have hin9 := htt
                refine lv_iconst (v := 0) hx hb dX10_compute_68 (by decide) ?_
                refine lv_istore (lv' := [(6, .int 0), (0, .ref (Z.2.1 41)), (1, .int (nI s1)), (2, .int (nI r1)), (3, .int c9), (4, .int (nI i)), (5, .int 1)]) hx hb dX10_compute_69 hl (by decide) rfl (fun ls hl => ?_)
                refine lv_aload_n hx hb dX10_compute_71 rfl (lv_at hl 1 rfl) ?_
                refine z_get (own := RX10) (C := RX10) (T := TX10) (N := 21) hx hb hts in_X10_compute_10 hown hK hS h_m hM41 rfl 19 (by decide) (List.mem_of_getElem? (i := 4) rfl) rfl rfl dX10_compute_72 ?_
                refine lv_iload hx hb dX10_compute_75 (lv_at hl 5 rfl) ?_
                refine lv_aload_n hx hb dX10_compute_77 rfl (lv_at hl 1 rfl) ?_
                refine lv_iload_n hx hb dX10_compute_78 rfl (lv_at hl 2 rfl) ?_
                refine lv_iload_n hx hb dX10_compute_79 rfl (lv_at hl 4 rfl) ?_
                refine lv_iload hx hb dX10_compute_80 (lv_at hl 0 rfl) ?_
                refine z_calli (z_runV (As := [.int (nI s1), .int c9, .int 0]) (rest := [.int (nI i), .ref (Z.2.1 55)]) ⟨hx, hb, hml, hown, hts⟩ hK hS ((m_carryDigit Z ga sg ⟨_, _, _, _, _, _, fu, fq, fm, fd, h_m, h_u, h_q, h_n9, h_g, hMN, hSg⟩ s1 hs1 c9 0 hcm (by omega) (by omega)) l _) gX10_compute_X10_carryDigit rfl 3 (by decide +kernel) ⟨Nat.le_of_ble_eq_true rfl, Nat.le_of_ble_eq_true rfl⟩ h_m hM41 rfl rfl hl.1 rfl (Nat.le_of_ble_eq_true rfl) dX10_compute_82 ⟨Nat.le_of_ble_eq_true rfl, Nat.le_of_ble_eq_true rfl⟩) hS (fun dd g_59 H locs hp_60 hS => ?_)
                obtain ⟨rfl, hp_60⟩ := hp_60
                have hdd : dd.toInt = zdq (sg s1) s9 i := by rw [hp_60, htt, hc]; rfl
                refine z_iast hx hb hK hS h_md hM55 (vp_in_nI (by omega) (by omega)) dX10_compute_85 (fun g_61 H locs hg_61 hS => ?_)
                have h_md : g_61 55 = .inl (Z.2.2.2 0, 12, .inl (upd md1 (nI i).toNatClampNeg dd)) := z_up_s hg_61
                have h_m := z_up_n hg_61 h_m (by omega)
                have h_u := z_up_n hg_61 h_u (by omega)
                have h_q := z_up_n hg_61 h_q (by omega)
                have h_n9 := z_up_n hg_61 h_n9 (by omega)
                have h_g := z_up_n hg_61 h_g (by omega)
                have h_l := z_up_n hg_61 h_l (by omega)
                have h_e := z_up_n hg_61 h_e (by omega)
                have h_su := z_up_n hg_61 h_su (by omega)
                refine lv_aload_n hx hb dX10_compute_86 rfl (lv_at hl 1 rfl) ?_
                refine lv_iload_n hx hb dX10_compute_87 rfl (lv_at hl 2 rfl) ?_
                refine lv_iload_n hx hb dX10_compute_88 rfl (lv_at hl 4 rfl) ?_
                refine lv_iload hx hb dX10_compute_89 (lv_at hl 0 rfl) ?_
                refine z_calli (z_runV (As := [.int (nI s1), .int c9, .int 0]) (rest := []) ⟨hx, hb, hml, hown, hts⟩ hK hS ((m_carried Z g_61 sg ⟨_, _, _, _, _, _, fu, fq, fm, fd, h_m, h_u, h_q, h_n9, h_g, hMN, hSg⟩ s1 hs1 c9 0 hcm (by omega) (by omega)) l _) gX10_compute_X10_carried rfl 3 (by decide +kernel) ⟨Nat.le_of_ble_eq_true rfl, Nat.le_of_ble_eq_true rfl⟩ h_m hM41 rfl rfl hl.1 rfl (Nat.le_of_ble_eq_true rfl) dX10_compute_91 ⟨Nat.le_of_ble_eq_true rfl, Nat.le_of_ble_eq_true rfl⟩) hS (fun cn g_62 H locs hp_63 hS => ?_)
                obtain ⟨rfl, hp_63⟩ := hp_63
                have hcn : cn.toInt = zcq (sg s1) s9 (i + 1) := by rw [hp_63, htt, hc]; rfl
                refine lv_istore_n (lv' := [(3, .int cn), (6, .int 0), (0, .ref (Z.2.1 41)), (1, .int (nI s1)), (2, .int (nI r1)), (4, .int (nI i)), (5, .int 1)]) hx hb dX10_compute_94 rfl hl (by decide) rfl (fun ls hl => ?_)
                refine lv_iinc (v := (nI (i + 1))) (lv' := [(4, .int (nI (i + 1))), (3, .int cn), (6, .int 0), (0, .ref (Z.2.1 41)), (1, .int (nI s1)), (2, .int (nI r1)), (5, .int 1)]) hx hb dX10_compute_95 hl (k := 5) rfl (nI_1 _) (by decide) rfl (fun ls hl => ?_)
                refine lv_goto (tgt := 21) hx hb dX10_compute_98 (by decide) ?_
                exact ih_21 cn (i + 1) (upd md1 (nI i).toNatClampNeg dd) g_61 h_m h_u h_q h_n9 h_g h_l h_e h_su h_md (hfr_ga.up hg_61 (by omega)) (by omega) hcn (fun t ht => by
                    rcases Nat.lt_or_ge t i with q9 | q9
                    · exact hno t q9
                    · have : t = i := by omega
                      subst this; exact hnov) (fun t ht => by
                    rw [nI_clamp (by omega)]
                    by_cases q9 : t = i
                    · rw [q9, pk_us]; exact hdd
                    · rw [pk_un q9]; exact hmd t (by omega)) (by omega) _ _ _ hS (lv_sub hl [3, 4, 5, 1, 0, 6] rfl)
              · have i_58 := z_nle c_58
                rw [nI_toInt (by omega)] at i_58
                rw [nI_toInt (by omega)] at i_58
                have htt : (fs i).toInt = s9 i := hfs i (by omega)
                refine lv_aload_n hx hb dX10_compute_58 rfl (lv_at hl 0 rfl) ?_
                refine z_get (own := RX10) (C := RX10) (T := TX10) (N := 21) hx hb hts in_X10_compute_10 hown hK hS h_m hM41 rfl 18 (by decide) (List.mem_of_getElem? (i := 3) rfl) rfl rfl dX10_compute_59 ?_
                refine lv_iload hx hb dX10_compute_62 (lv_at hl 4 rfl) ?_
                refine z_iald hx hb hK hS h_su hM54 (vp_in_nI (by omega) (by omega)) dX10_compute_64 ?_
                rw [show fs (nI i).toNatClampNeg = fs i from by rw [nI_clamp (by omega)]]
                refine lv_goto (tgt := 69) hx hb dX10_compute_65 (by decide) ?_
                refine lv_topi (fun tt ett => ?_)
                have htt : tt.toInt = s9 i := by rw [ett]; exact htt
                refine lv_istore (lv' := [(6, .int tt), (0, .ref (Z.2.1 41)), (1, .int (nI s1)), (2, .int (nI r1)), (3, .int c9), (4, .int (nI i)), (5, .int 1)]) hx hb dX10_compute_69 hl (by decide) rfl (fun ls hl => ?_)
                refine lv_aload_n hx hb dX10_compute_71 rfl (lv_at hl 1 rfl) ?_
                refine z_get (own := RX10) (C := RX10) (T := TX10) (N := 21) hx hb hts in_X10_compute_10 hown hK hS h_m hM41 rfl 19 (by decide) (List.mem_of_getElem? (i := 4) rfl) rfl rfl dX10_compute_72 ?_
                refine lv_iload hx hb dX10_compute_75 (lv_at hl 5 rfl) ?_
                refine lv_aload_n hx hb dX10_compute_77 rfl (lv_at hl 1 rfl) ?_
                refine lv_iload_n hx hb dX10_compute_78 rfl (lv_at hl 2 rfl) ?_
                refine lv_iload_n hx hb dX10_compute_79 rfl (lv_at hl 4 rfl) ?_
                refine lv_iload hx hb dX10_compute_80 (lv_at hl 0 rfl) ?_
                refine z_calli (z_runV (As := [.int (nI s1), .int c9, .int tt]) (rest := [.int (nI i), .ref (Z.2.1 55)]) ⟨hx, hb, hml, hown, hts⟩ hK hS ((m_carryDigit Z ga sg ⟨_, _, _, _, _, _, fu, fq, fm, fd, h_m, h_u, h_q, h_n9, h_g, hMN, hSg⟩ s1 hs1 c9 tt hcm (by omega) (by omega)) l _) gX10_compute_X10_carryDigit rfl 3 (by decide +kernel) ⟨Nat.le_of_ble_eq_true rfl, Nat.le_of_ble_eq_true rfl⟩ h_m hM41 rfl rfl hl.1 rfl (Nat.le_of_ble_eq_true rfl) dX10_compute_82 ⟨Nat.le_of_ble_eq_true rfl, Nat.le_of_ble_eq_true rfl⟩) hS (fun dd g_64 H locs hp_65 hS => ?_)
                obtain ⟨rfl, hp_65⟩ := hp_65
                have hdd : dd.toInt = zdq (sg s1) s9 i := by rw [hp_65, htt, hc]; rfl
                refine z_iast hx hb hK hS h_md hM55 (vp_in_nI (by omega) (by omega)) dX10_compute_85 (fun g_66 H locs hg_66 hS => ?_)
                have h_md : g_66 55 = .inl (Z.2.2.2 0, 12, .inl (upd md1 (nI i).toNatClampNeg dd)) := z_up_s hg_66
                have h_m := z_up_n hg_66 h_m (by omega)
                have h_u := z_up_n hg_66 h_u (by omega)
                have h_q := z_up_n hg_66 h_q (by omega)
                have h_n9 := z_up_n hg_66 h_n9 (by omega)
                have h_g := z_up_n hg_66 h_g (by omega)
                have h_l := z_up_n hg_66 h_l (by omega)
                have h_e := z_up_n hg_66 h_e (by omega)
                have h_su := z_up_n hg_66 h_su (by omega)
                refine lv_aload_n hx hb dX10_compute_86 rfl (lv_at hl 1 rfl) ?_
                refine lv_iload_n hx hb dX10_compute_87 rfl (lv_at hl 2 rfl) ?_
                refine lv_iload_n hx hb dX10_compute_88 rfl (lv_at hl 4 rfl) ?_
                refine lv_iload hx hb dX10_compute_89 (lv_at hl 0 rfl) ?_
                refine z_calli (z_runV (As := [.int (nI s1), .int c9, .int tt]) (rest := []) ⟨hx, hb, hml, hown, hts⟩ hK hS ((m_carried Z g_66 sg ⟨_, _, _, _, _, _, fu, fq, fm, fd, h_m, h_u, h_q, h_n9, h_g, hMN, hSg⟩ s1 hs1 c9 tt hcm (by omega) (by omega)) l _) gX10_compute_X10_carried rfl 3 (by decide +kernel) ⟨Nat.le_of_ble_eq_true rfl, Nat.le_of_ble_eq_true rfl⟩ h_m hM41 rfl rfl hl.1 rfl (Nat.le_of_ble_eq_true rfl) dX10_compute_91 ⟨Nat.le_of_ble_eq_true rfl, Nat.le_of_ble_eq_true rfl⟩) hS (fun cn g_67 H locs hp_68 hS => ?_)
                obtain ⟨rfl, hp_68⟩ := hp_68
                have hcn : cn.toInt = zcq (sg s1) s9 (i + 1) := by rw [hp_68, htt, hc]; rfl
                refine lv_istore_n (lv' := [(3, .int cn), (6, .int tt), (0, .ref (Z.2.1 41)), (1, .int (nI s1)), (2, .int (nI r1)), (4, .int (nI i)), (5, .int 1)]) hx hb dX10_compute_94 rfl hl (by decide) rfl (fun ls hl => ?_)
                refine lv_iinc (v := (nI (i + 1))) (lv' := [(4, .int (nI (i + 1))), (3, .int cn), (6, .int tt), (0, .ref (Z.2.1 41)), (1, .int (nI s1)), (2, .int (nI r1)), (5, .int 1)]) hx hb dX10_compute_95 hl (k := 5) rfl (nI_1 _) (by decide) rfl (fun ls hl => ?_)
                refine lv_goto (tgt := 21) hx hb dX10_compute_98 (by decide) ?_
                exact ih_21 cn (i + 1) (upd md1 (nI i).toNatClampNeg dd) g_66 h_m h_u h_q h_n9 h_g h_l h_e h_su h_md (hfr_ga.up hg_66 (by omega)) (by omega) hcn (fun t ht => by
                    rcases Nat.lt_or_ge t i with q9 | q9
                    · exact hno t q9
                    · have : t = i := by omega
                      subst this; exact hnov) (fun t ht => by
                    rw [nI_clamp (by omega)]
                    by_cases q9 : t = i
                    · rw [q9, pk_us]; exact hdd
                    · rw [pk_un q9]; exact hmd t (by omega)) (by omega) _ _ _ hS (lv_sub hl [3, 4, 5, 1, 0, 6] rfl)
            · have i_57 := z_eq c_57
              rw [nI_toInt (by omega)] at i_57
              rw [tI_12] at i_57
              have hi12 : i = 12 := by omega
              refine lv_ldc (v := (-1000005)) hx hb hown (hts _ (List.mem_of_getElem? (i := 2) rfl)) dX10_compute_46 ?_
              refine z_iret hx hb hr hlocks hS ?_ dX10_compute_48
              show z_pm Z g (sp_comp (sg, rw9) s1 n s9 r1) _ _
              unfold sp_comp
              dsimp only
              have hN : ¬ zcN (sg s1) n s9 < 13 := by
                have h9 : zcN (sg s1) n s9 = 13 := zfi_none (fun k hk => by
                  rcases Nat.lt_or_ge k i with q9 | q9
                  · exact hno k q9
                  · have : k = i := by omega
                    subst this; exact hnov)
                omega
              rw [zite_f hN]
              have hfz : z_fr 55 1 g ga := hfr_ga
              exact ⟨rfl, ⟨⟨_, _, _, _, _, _, fu, fq, fm, fd, h_m, h_u, h_q, h_n9, h_g, hMN, hSg⟩, hx9.made h_md (fun k h1 h2 h3 => hfz k (by omega))⟩, hfz.wide (by omega) (by omega)⟩
          · have i_56 := z_eq c_56
            rw [tI_0] at i_56
            have hov : zovB (sg s1) n s9 i = true := zovB_iff.mpr ⟨by omega, by omega, hez⟩
            have hN : zcN (sg s1) n s9 = i := zfi_is (by omega) hov hno
            have hfa : z_fr 55 1 g ga := hfr_ga
            have hmx := hx9.made h_md (fun k h1 h2 h3 => hfa k (by omega))
            refine lv_iload hx hb dX10_compute_34 (lv_at hl 5 rfl) ?_
            refine lv_if_ne (tgt := 101) hx hb dX10_compute_36 (by decide) (fun c_69 => ?_) (fun c_69 => ?_)
            · have i_69 := z_ne c_69
              rw [tI_1] at i_69
              rw [tI_0] at i_69
              
              have hcut_101 : ∀ (nn_101 : Nat) (k9 : Nat) (hk9 : k9 ≤ i) (htr : ztr (zdq (sg s1) s9) k9 = ztr (zdq (sg s1) s9) i) (hm_101 : k9 < nn_101) (H : Heap) (locs : List Loc) (ls : Array Slot), z_S Z (z_A Z sz) s.heap ga H locs → lv_has ls 7 [(0, .ref (Z.2.1 41)), (1, .int (nI s1)), (2, .int (nI r1)), (4, .int (nI k9))] → W p l e (headSpec wsX10_compute (z_rm 6 134)).room s m args below meth c H locs 0 0 (MQ below (va_Qi (fun r g1 => z_pm Z g (sp_comp (sg, rw9) s1 n s9 r1) r g1) (z_B Z) (z_A Z sz)) args s 0 0 (z_A Z sz)) (F0 m 101 ls []) := by
                intro nn_101
                induction nn_101 with
                | zero => intro k9 hk9 htr hm_101 H locs ls hS hl; exact absurd hm_101 (Nat.not_lt_zero _)
                | succ nn_101 ih_101 =>
                  intro k9 hk9 htr hm_101 H locs ls hS hl
                  refine lv_iload hx hb dX10_compute_101 (lv_at hl 3 rfl) ?_
                  refine lv_if_le (tgt := 124) hx hb dX10_compute_103 (by decide) (fun c_70 => ?_) (fun c_70 => ?_)
                  · have i_70 := z_le c_70
                    rw [nI_toInt (by omega)] at i_70
                    rw [tI_0] at i_70
                    have hk0 : k9 = 0 := by omega
                    have hT : ztr (zdq (sg s1) s9) i = k9 := by rw [← htr, hk0]; rfl
                    obtain ⟨T9, eT9⟩ : ∃ T9 : Nat, T9 = k9 := ⟨_, rfl⟩
                    rw [← eT9] at hT
                    refine lv_iconst (v := 0) hx hb dX10_compute_124 (by decide) ?_
                    refine lv_istore (lv' := [(6, .int 0), (0, .ref (Z.2.1 41)), (1, .int (nI s1)), (2, .int (nI r1)), (4, .int (nI k9))]) hx hb dX10_compute_125 hl (by decide) rfl (fun ls hl => ?_)
                    have hcut_127 : ∀ (nn_127 : Nat) (j : Nat) (fe1 : Nat → Int32) (gb : Nat → va_E) (h_m : gb 41 = .inr (10, [.ref (Z.2.1 42), .ref (Z.2.1 43), .ref (Z.2.1 44), .ref (Z.2.1 45), .int v4, .int v5, .int v6, .ref (Z.2.1 46), .ref (Z.2.1 47), .ref (Z.2.1 48), .ref (Z.2.1 49), .ref (Z.2.1 50), .ref (Z.2.1 51), .ref (Z.2.1 52), .ref (Z.2.1 53), .long v15, .long v16, .int (nI n), .ref (Z.2.1 54), .ref (Z.2.1 55), .ref (Z.2.1 56)])) (h_u : gb 42 = .inl (Z.2.2.2 0, 2, .inl fu)) (h_q : gb 43 = .inl (Z.2.2.2 0, 2, .inl fq)) (h_n9 : gb 44 = .inl (Z.2.2.2 0, 2, .inl fm)) (h_g : gb 45 = .inl (Z.2.2.2 0, 24, .inl fd)) (h_l : gb 52 = .inl (Z.2.2.2 0, 3, .inl fl)) (h_e : gb 53 = .inl (Z.2.2.2 0, 36, .inl fe1)) (h_su : gb 54 = .inl (Z.2.2.2 0, 12, .inl fs)) (h_md : gb 55 = .inl (Z.2.2.2 0, 12, .inl md1)) (hfr_gb : z_fr 52 2 ga gb) (hj : j ≤ T9) (hfi : (∀ i, i < j → (fe1 (12 * r1 + i)).toInt = zdq (sg s1) s9 i) ∧ ∀ k, (k < 12 * r1 ∨ 12 * r1 + j ≤ k) → fe1 k = fe k) (hm_127 : T9 - j < nn_127) (H : Heap) (locs : List Loc) (ls : Array Slot), z_S Z (z_A Z sz) s.heap gb H locs → lv_has ls 7 [(0, .ref (Z.2.1 41)), (1, .int (nI s1)), (2, .int (nI r1)), (4, .int (nI k9)), (6, .int (nI j))] → W p l e (headSpec wsX10_compute (z_rm 6 134)).room s m args below meth c H locs 0 0 (MQ below (va_Qi (fun r g1 => z_pm Z g (sp_comp (sg, rw9) s1 n s9 r1) r g1) (z_B Z) (z_A Z sz)) args s 0 0 (z_A Z sz)) (F0 m 127 ls []) := by
                      intro nn_127
                      induction nn_127 with
                      | zero => intro j fe1 gb h_m h_u h_q h_n9 h_g h_l h_e h_su h_md hfr_gb hj hfi hm_127 H locs ls hS hl; exact absurd hm_127 (Nat.not_lt_zero _)
                      | succ nn_127 ih_127 =>
                        intro j fe1 gb h_m h_u h_q h_n9 h_g h_l h_e h_su h_md hfr_gb hj hfi hm_127 H locs ls hS hl
                        refine lv_iload hx hb dX10_compute_127 (lv_at hl 4 rfl) ?_
                        refine lv_iload hx hb dX10_compute_129 (lv_at hl 3 rfl) ?_
                        refine lv_icmp_ge (tgt := 159) hx hb dX10_compute_131 (by decide) (fun c_71 => ?_) (fun c_71 => ?_)
                        · have i_71 := z_le c_71
                          rw [nI_toInt (by omega)] at i_71
                          rw [nI_toInt (by omega)] at i_71
                          have hjT : j = T9 := by omega
                          refine lv_aload_n hx hb dX10_compute_159 rfl (lv_at hl 0 rfl) ?_
                          refine z_get (own := RX10) (C := RX10) (T := TX10) (N := 21) hx hb hts in_X10_compute_10 hown hK hS h_m hM41 rfl 13 (by decide) (List.mem_of_getElem? (i := 6) rfl) rfl rfl dX10_compute_160 ?_
                          refine lv_iload_n hx hb dX10_compute_163 rfl (lv_at hl 2 rfl) ?_
                          refine lv_iload hx hb dX10_compute_164 (lv_at hl 3 rfl) ?_
                          refine z_iast hx hb hK hS h_l hM52 (vp_in_nI (by omega) (by omega)) dX10_compute_166 (fun g_72 H locs hg_72 hS => ?_)
                          have h_l : g_72 52 = .inl (Z.2.2.2 0, 3, .inl (upd fl (nI r1).toNatClampNeg (nI k9))) := z_up_s hg_72
                          have h_m := z_up_n hg_72 h_m (by omega)
                          have h_u := z_up_n hg_72 h_u (by omega)
                          have h_q := z_up_n hg_72 h_q (by omega)
                          have h_n9 := z_up_n hg_72 h_n9 (by omega)
                          have h_g := z_up_n hg_72 h_g (by omega)
                          have h_e := z_up_n hg_72 h_e (by omega)
                          have h_su := z_up_n hg_72 h_su (by omega)
                          have h_md := z_up_n hg_72 h_md (by omega)
                          refine lv_iload hx hb dX10_compute_167 (lv_at hl 3 rfl) ?_
                          refine z_iret hx hb hr hlocks hS ?_ dX10_compute_169
                          show z_pm Z g (sp_comp (sg, rw9) s1 n s9 r1) _ _
                          unfold sp_comp
                          dsimp only
                          rw [hN, zite_t (show i < 13 by omega), hT]
                          have hfz : z_fr 52 2 ga g_72 := (hfr_gb.up hg_72 (by omega))
                          rw [nI_clamp (by omega)] at h_l
                          rw [hjT] at hfi
                          exact ⟨(nI_toInt (by omega)).trans (by dsimp only; omega), ⟨⟨_, _, _, _, _, _, fu, fq, fm, fd, h_m, h_u, h_q, h_n9, h_g, hMN, hSg⟩, hmx.row (r := r1) (w := (T9, zdq (sg s1) s9)) (by show T9 ≤ 12; omega) hfl hfe h_l h_e (fun k h1 h2 h3 h4 => hfz k (by omega)) (fun k => by
                            by_cases h9 : k = r1
                            · rw [if_pos h9, h9, pk_us, eT9]
                            · rw [if_neg h9, pk_un h9]) (fun k hk => hfi.2 k (by omega)) (fun i hi => ⟨hfi.1 i hi, zch_bd hok (hcm _)⟩)⟩, (hfa.wide (by omega) (by omega)).tr (hfz.wide (by omega) (by omega))⟩
                        · have i_71 := z_nle c_71
                          rw [nI_toInt (by omega)] at i_71
                          rw [nI_toInt (by omega)] at i_71
                          refine lv_aload_n hx hb dX10_compute_134 rfl (lv_at hl 0 rfl) ?_
                          refine z_get (own := RX10) (C := RX10) (T := TX10) (N := 21) hx hb hts in_X10_compute_10 hown hK hS h_m hM41 rfl 14 (by decide) (List.mem_of_getElem? (i := 5) rfl) rfl rfl dX10_compute_135 ?_
                          refine lv_bipush (v := 12) hx hb dX10_compute_138 (by decide) ?_
                          refine lv_iload_n hx hb dX10_compute_140 rfl (lv_at hl 2 rfl) ?_
                          refine lv_imul hx hb dX10_compute_141 ?_
                          refine lv_iload hx hb dX10_compute_142 (lv_at hl 4 rfl) ?_
                          refine lv_iadd hx hb dX10_compute_144 ?_
                          rw [show (12 * (nI r1)) + (nI j) = nI (12 * r1 + j) from zm_ix (by omega) (by omega)]
                          refine lv_aload_n hx hb dX10_compute_145 rfl (lv_at hl 0 rfl) ?_
                          refine z_get (own := RX10) (C := RX10) (T := TX10) (N := 21) hx hb hts in_X10_compute_10 hown hK hS h_m hM41 rfl 19 (by decide) (List.mem_of_getElem? (i := 4) rfl) rfl rfl dX10_compute_146 ?_
                          refine lv_iload hx hb dX10_compute_149 (lv_at hl 4 rfl) ?_
                          refine z_iald hx hb hK hS h_md hM55 (vp_in_nI (by omega) (by omega)) dX10_compute_151 ?_
                          rw [show md1 (nI j).toNatClampNeg = md1 j from by rw [nI_clamp (by omega)]]
                          refine z_iast hx hb hK hS h_e hM53 (vp_in_nI (by omega) (by omega)) dX10_compute_152 (fun g_73 H locs hg_73 hS => ?_)
                          have h_e : g_73 53 = .inl (Z.2.2.2 0, 36, .inl (upd fe1 (nI (12 * r1 + j)).toNatClampNeg (md1 j))) := z_up_s hg_73
                          have h_m := z_up_n hg_73 h_m (by omega)
                          have h_u := z_up_n hg_73 h_u (by omega)
                          have h_q := z_up_n hg_73 h_q (by omega)
                          have h_n9 := z_up_n hg_73 h_n9 (by omega)
                          have h_g := z_up_n hg_73 h_g (by omega)
                          have h_l := z_up_n hg_73 h_l (by omega)
                          have h_su := z_up_n hg_73 h_su (by omega)
                          have h_md := z_up_n hg_73 h_md (by omega)
                          refine lv_iinc (v := (nI (j + 1))) (lv' := [(6, .int (nI (j + 1))), (0, .ref (Z.2.1 41)), (1, .int (nI s1)), (2, .int (nI r1)), (4, .int (nI k9))]) hx hb dX10_compute_153 hl (k := 4) rfl (nI_1 _) (by decide) rfl (fun ls hl => ?_)
                          refine lv_goto (tgt := 127) hx hb dX10_compute_156 (by decide) ?_
                          exact ih_127 (j + 1) (upd fe1 (nI (12 * r1 + j)).toNatClampNeg (md1 j)) g_73 h_m h_u h_q h_n9 h_g h_l h_e h_su h_md (hfr_gb.up hg_73 (by omega)) (by omega) ⟨fun i hi => by
                            rw [nI_clamp (by omega)]
                            by_cases h9 : i = j
                            · rw [h9, pk_us]; exact hmd j (by omega)
                            · rw [pk_un (by omega)]; exact hfi.1 i (by omega), fun k hk => by
                            rw [nI_clamp (by omega), pk_un (by omega)]; exact hfi.2 k (by omega)⟩ (by omega) _ _ _ hS (lv_sub hl [1, 2, 3, 4, 0] rfl)
                    exact hcut_127 (T9 - 0 + 1) 0 fe ga h_m h_u h_q h_n9 h_g h_l h_e h_su h_md z_fr.rf (by omega) ⟨fun i hi => absurd hi (Nat.not_lt_zero i), fun k hk => rfl⟩ (Nat.lt_succ_self _) _ _ _ hS (lv_sub hl [1, 2, 3, 4, 0] rfl)
                  · have i_70 := z_nle c_70
                    rw [nI_toInt (by omega)] at i_70
                    rw [tI_0] at i_70
                    obtain ⟨k8, ek8⟩ : ∃ t, k9 = t + 1 := ⟨k9 - 1, by omega⟩
                    subst ek8
                    refine lv_aload_n hx hb dX10_compute_106 rfl (lv_at hl 0 rfl) ?_
                    refine z_get (own := RX10) (C := RX10) (T := TX10) (N := 21) hx hb hts in_X10_compute_10 hown hK hS h_m hM41 rfl 19 (by decide) (List.mem_of_getElem? (i := 4) rfl) rfl rfl dX10_compute_107 ?_
                    refine lv_iload hx hb dX10_compute_110 (lv_at hl 3 rfl) ?_
                    refine lv_iconst (v := 1) hx hb dX10_compute_112 (by decide) ?_
                    refine lv_isub hx hb dX10_compute_113 ?_
                    rw [show (nI (k8 + 1)) - 1 = nI k8 from zm_dec (by omega) (by omega)]
                    refine z_iald hx hb hK hS h_md hM55 (vp_in_nI (by omega) (by omega)) dX10_compute_114 ?_
                    rw [show md1 (nI k8).toNatClampNeg = md1 k8 from by rw [nI_clamp (by omega)]]
                    refine lv_if_ne (tgt := 124) hx hb dX10_compute_115 (by decide) (fun c_74 => ?_) (fun c_74 => ?_)
                    · have i_74 := z_ne c_74
                      rw [tI_0] at i_74
                      rw [hmd k8 (by omega)] at i_74
                      have hT : ztr (zdq (sg s1) s9) i = k8 + 1 := by rw [← htr, show ztr (zdq (sg s1) s9) (k8 + 1) = if zdq (sg s1) s9 k8 = 0 then ztr (zdq (sg s1) s9) k8 else k8 + 1 from rfl, if_neg i_74]
                      obtain ⟨T9, eT9⟩ : ∃ T9 : Nat, T9 = k8 + 1 := ⟨_, rfl⟩
                      rw [← eT9] at hT
                      refine lv_iconst (v := 0) hx hb dX10_compute_124 (by decide) ?_
                      refine lv_istore (lv' := [(6, .int 0), (0, .ref (Z.2.1 41)), (1, .int (nI s1)), (2, .int (nI r1)), (4, .int (nI (k8 + 1)))]) hx hb dX10_compute_125 hl (by decide) rfl (fun ls hl => ?_)
                      have hcut_127_2 : ∀ (nn_127 : Nat) (j : Nat) (fe1 : Nat → Int32) (gb : Nat → va_E) (h_m : gb 41 = .inr (10, [.ref (Z.2.1 42), .ref (Z.2.1 43), .ref (Z.2.1 44), .ref (Z.2.1 45), .int v4, .int v5, .int v6, .ref (Z.2.1 46), .ref (Z.2.1 47), .ref (Z.2.1 48), .ref (Z.2.1 49), .ref (Z.2.1 50), .ref (Z.2.1 51), .ref (Z.2.1 52), .ref (Z.2.1 53), .long v15, .long v16, .int (nI n), .ref (Z.2.1 54), .ref (Z.2.1 55), .ref (Z.2.1 56)])) (h_u : gb 42 = .inl (Z.2.2.2 0, 2, .inl fu)) (h_q : gb 43 = .inl (Z.2.2.2 0, 2, .inl fq)) (h_n9 : gb 44 = .inl (Z.2.2.2 0, 2, .inl fm)) (h_g : gb 45 = .inl (Z.2.2.2 0, 24, .inl fd)) (h_l : gb 52 = .inl (Z.2.2.2 0, 3, .inl fl)) (h_e : gb 53 = .inl (Z.2.2.2 0, 36, .inl fe1)) (h_su : gb 54 = .inl (Z.2.2.2 0, 12, .inl fs)) (h_md : gb 55 = .inl (Z.2.2.2 0, 12, .inl md1)) (hfr_gb : z_fr 52 2 ga gb) (hj : j ≤ T9) (hfi : (∀ i, i < j → (fe1 (12 * r1 + i)).toInt = zdq (sg s1) s9 i) ∧ ∀ k, (k < 12 * r1 ∨ 12 * r1 + j ≤ k) → fe1 k = fe k) (hm_127 : T9 - j < nn_127) (H : Heap) (locs : List Loc) (ls : Array Slot), z_S Z (z_A Z sz) s.heap gb H locs → lv_has ls 7 [(0, .ref (Z.2.1 41)), (1, .int (nI s1)), (2, .int (nI r1)), (4, .int (nI (k8 + 1))), (6, .int (nI j))] → W p l e (headSpec wsX10_compute (z_rm 6 134)).room s m args below meth c H locs 0 0 (MQ below (va_Qi (fun r g1 => z_pm Z g (sp_comp (sg, rw9) s1 n s9 r1) r g1) (z_B Z) (z_A Z sz)) args s 0 0 (z_A Z sz)) (F0 m 127 ls []) := by
                        intro nn_127
                        induction nn_127 with
                        | zero => intro j fe1 gb h_m h_u h_q h_n9 h_g h_l h_e h_su h_md hfr_gb hj hfi hm_127 H locs ls hS hl; exact absurd hm_127 (Nat.not_lt_zero _)
                        | succ nn_127 ih_127 =>
                          intro j fe1 gb h_m h_u h_q h_n9 h_g h_l h_e h_su h_md hfr_gb hj hfi hm_127 H locs ls hS hl
                          refine lv_iload hx hb dX10_compute_127 (lv_at hl 4 rfl) ?_
                          refine lv_iload hx hb dX10_compute_129 (lv_at hl 3 rfl) ?_
                          refine lv_icmp_ge (tgt := 159) hx hb dX10_compute_131 (by decide) (fun c_75 => ?_) (fun c_75 => ?_)
                          · have i_75 := z_le c_75
                            rw [nI_toInt (by omega)] at i_75
                            rw [nI_toInt (by omega)] at i_75
                            have hjT : j = T9 := by omega
                            refine lv_aload_n hx hb dX10_compute_159 rfl (lv_at hl 0 rfl) ?_
                            refine z_get (own := RX10) (C := RX10) (T := TX10) (N := 21) hx hb hts in_X10_compute_10 hown hK hS h_m hM41 rfl 13 (by decide) (List.mem_of_getElem? (i := 6) rfl) rfl rfl dX10_compute_160 ?_
                            refine lv_iload_n hx hb dX10_compute_163 rfl (lv_at hl 2 rfl) ?_
                            refine lv_iload hx hb dX10_compute_164 (lv_at hl 3 rfl) ?_
                            refine z_iast hx hb hK hS h_l hM52 (vp_in_nI (by omega) (by omega)) dX10_compute_166 (fun g_76 H locs hg_76 hS => ?_)
                            have h_l : g_76 52 = .inl (Z.2.2.2 0, 3, .inl (upd fl (nI r1).toNatClampNeg (nI (k8 + 1)))) := z_up_s hg_76
                            have h_m := z_up_n hg_76 h_m (by omega)
                            have h_u := z_up_n hg_76 h_u (by omega)
                            have h_q := z_up_n hg_76 h_q (by omega)
                            have h_n9 := z_up_n hg_76 h_n9 (by omega)
                            have h_g := z_up_n hg_76 h_g (by omega)
                            have h_e := z_up_n hg_76 h_e (by omega)
                            have h_su := z_up_n hg_76 h_su (by omega)
                            have h_md := z_up_n hg_76 h_md (by omega)
                            refine lv_iload hx hb dX10_compute_167 (lv_at hl 3 rfl) ?_
                            refine z_iret hx hb hr hlocks hS ?_ dX10_compute_169
                            show z_pm Z g (sp_comp (sg, rw9) s1 n s9 r1) _ _
                            unfold sp_comp
                            dsimp only
                            rw [hN, zite_t (show i < 13 by omega), hT]
                            have hfz : z_fr 52 2 ga g_76 := (hfr_gb.up hg_76 (by omega))
                            rw [nI_clamp (by omega)] at h_l
                            rw [hjT] at hfi
                            exact ⟨(nI_toInt (by omega)).trans (by dsimp only; omega), ⟨⟨_, _, _, _, _, _, fu, fq, fm, fd, h_m, h_u, h_q, h_n9, h_g, hMN, hSg⟩, hmx.row (r := r1) (w := (T9, zdq (sg s1) s9)) (by show T9 ≤ 12; omega) hfl hfe h_l h_e (fun k h1 h2 h3 h4 => hfz k (by omega)) (fun k => by
                              by_cases h9 : k = r1
                              · rw [if_pos h9, h9, pk_us, eT9]
                              · rw [if_neg h9, pk_un h9]) (fun k hk => hfi.2 k (by omega)) (fun i hi => ⟨hfi.1 i hi, zch_bd hok (hcm _)⟩)⟩, (hfa.wide (by omega) (by omega)).tr (hfz.wide (by omega) (by omega))⟩
                          · have i_75 := z_nle c_75
                            rw [nI_toInt (by omega)] at i_75
                            rw [nI_toInt (by omega)] at i_75
                            refine lv_aload_n hx hb dX10_compute_134 rfl (lv_at hl 0 rfl) ?_
                            refine z_get (own := RX10) (C := RX10) (T := TX10) (N := 21) hx hb hts in_X10_compute_10 hown hK hS h_m hM41 rfl 14 (by decide) (List.mem_of_getElem? (i := 5) rfl) rfl rfl dX10_compute_135 ?_
                            refine lv_bipush (v := 12) hx hb dX10_compute_138 (by decide) ?_
                            refine lv_iload_n hx hb dX10_compute_140 rfl (lv_at hl 2 rfl) ?_
                            refine lv_imul hx hb dX10_compute_141 ?_
                            refine lv_iload hx hb dX10_compute_142 (lv_at hl 4 rfl) ?_
                            refine lv_iadd hx hb dX10_compute_144 ?_
                            rw [show (12 * (nI r1)) + (nI j) = nI (12 * r1 + j) from zm_ix (by omega) (by omega)]
                            refine lv_aload_n hx hb dX10_compute_145 rfl (lv_at hl 0 rfl) ?_
                            refine z_get (own := RX10) (C := RX10) (T := TX10) (N := 21) hx hb hts in_X10_compute_10 hown hK hS h_m hM41 rfl 19 (by decide) (List.mem_of_getElem? (i := 4) rfl) rfl rfl dX10_compute_146 ?_
                            refine lv_iload hx hb dX10_compute_149 (lv_at hl 4 rfl) ?_
                            refine z_iald hx hb hK hS h_md hM55 (vp_in_nI (by omega) (by omega)) dX10_compute_151 ?_
                            rw [show md1 (nI j).toNatClampNeg = md1 j from by rw [nI_clamp (by omega)]]
                            refine z_iast hx hb hK hS h_e hM53 (vp_in_nI (by omega) (by omega)) dX10_compute_152 (fun g_77 H locs hg_77 hS => ?_)
                            have h_e : g_77 53 = .inl (Z.2.2.2 0, 36, .inl (upd fe1 (nI (12 * r1 + j)).toNatClampNeg (md1 j))) := z_up_s hg_77
                            have h_m := z_up_n hg_77 h_m (by omega)
                            have h_u := z_up_n hg_77 h_u (by omega)
                            have h_q := z_up_n hg_77 h_q (by omega)
                            have h_n9 := z_up_n hg_77 h_n9 (by omega)
                            have h_g := z_up_n hg_77 h_g (by omega)
                            have h_l := z_up_n hg_77 h_l (by omega)
                            have h_su := z_up_n hg_77 h_su (by omega)
                            have h_md := z_up_n hg_77 h_md (by omega)
                            refine lv_iinc (v := (nI (j + 1))) (lv' := [(6, .int (nI (j + 1))), (0, .ref (Z.2.1 41)), (1, .int (nI s1)), (2, .int (nI r1)), (4, .int (nI (k8 + 1)))]) hx hb dX10_compute_153 hl (k := 4) rfl (nI_1 _) (by decide) rfl (fun ls hl => ?_)
                            refine lv_goto (tgt := 127) hx hb dX10_compute_156 (by decide) ?_
                            exact ih_127 (j + 1) (upd fe1 (nI (12 * r1 + j)).toNatClampNeg (md1 j)) g_77 h_m h_u h_q h_n9 h_g h_l h_e h_su h_md (hfr_gb.up hg_77 (by omega)) (by omega) ⟨fun i hi => by
                              rw [nI_clamp (by omega)]
                              by_cases h9 : i = j
                              · rw [h9, pk_us]; exact hmd j (by omega)
                              · rw [pk_un (by omega)]; exact hfi.1 i (by omega), fun k hk => by
                              rw [nI_clamp (by omega), pk_un (by omega)]; exact hfi.2 k (by omega)⟩ (by omega) _ _ _ hS (lv_sub hl [1, 2, 3, 4, 0] rfl)
                      exact hcut_127_2 (T9 - 0 + 1) 0 fe ga h_m h_u h_q h_n9 h_g h_l h_e h_su h_md z_fr.rf (by omega) ⟨fun i hi => absurd hi (Nat.not_lt_zero i), fun k hk => rfl⟩ (Nat.lt_succ_self _) _ _ _ hS (lv_sub hl [1, 2, 3, 4, 0] rfl)
                    · have i_74 := z_eq c_74
                      rw [tI_0] at i_74
                      rw [hmd k8 (by omega)] at i_74
                      have hz9 := i_74
                      refine lv_iinc (v := (nI k8)) (lv' := [(4, .int (nI k8)), (0, .ref (Z.2.1 41)), (1, .int (nI s1)), (2, .int (nI r1))]) hx hb dX10_compute_118 hl (k := 3) rfl (pk_m1 _) (by decide) rfl (fun ls hl => ?_)
                      refine lv_goto (tgt := 101) hx hb dX10_compute_121 (by decide) ?_
                      exact ih_101 k8 (by omega) (by rw [← htr]; show _ = ztr (zdq (sg s1) s9) (k8 + 1); rw [show ztr (zdq (sg s1) s9) (k8 + 1) = if zdq (sg s1) s9 k8 = 0 then ztr (zdq (sg s1) s9) k8 else k8 + 1 from rfl, if_pos hz9]) (by omega) _ _ _ hS (lv_sub hl [1, 2, 3, 0] rfl)
              exact hcut_101 (i + 1) i (by omega) rfl (Nat.lt_succ_self _) _ _ _ hS (lv_sub hl [0, 1, 2, 4] rfl)
            · have i_69 := z_eq c_69
              rw [tI_1] at i_69
              rw [tI_0] at i_69
              exfalso; omega
    exact hcut_21_2 (13 - 0 + 1) 0 0 md g h_m h_u h_q h_n9 h_g h_l h_e h_su h_md z_fr.rf (by omega) rfl (fun t ht => absurd ht (Nat.not_lt_zero t)) (fun t ht => absurd ht (Nat.not_lt_zero t)) (Nat.lt_succ_self _) _ _ _ hS (lv_sub hl [3, 4, 5, 2, 1, 0] rfl)

