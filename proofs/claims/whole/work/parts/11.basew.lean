theorem in_X0_chooseAgain_0 : ∀ w ∈ wsX00, w ∈ wsX0_chooseAgain := by decide +kernel
set_option maxHeartbeats 4000000 in
set_option maxRecDepth 100000 in
theorem k_chooseAgain (Z : zT) (g : Nat → va_E) (k : Nat) (b : zb) (hB : z_b0 Z g k b) : z_Mv Z yX0_chooseAgain wsX0_chooseAgain 2 44 [.ref (Z.2.1 k)] g (fun g1 => z_bs Z g1 k b ∧ z_fr k 3 g g1) := by
  intro l sz
  obtain ⟨pb, qb, res, cmp, dg, ch, h_b, h_d, h_c, hkN, hok, hp, hq, hres, hdg⟩ := id hB
  have hk0 : k < Z.1 := by omega
  have hk1 : k + 1 < Z.1 := by omega
  have hk2 : k + 2 < Z.1 := by omega
  have hPb := zP_bd hok
  have hn12 := hok.2.2.2.1
  have hq1 := hok.2.1
  refine z_enter (maxL := 4) (ret := none) (lv := [(0, .ref (Z.2.1 k))]) (plainFor_of_name (by decide +kernel)) rfl (fun ls h => by subst h; exact lv_entry [.ref (Z.2.1 k)] (n := 4) (Nat.le_of_ble_eq_true rfl)) ?_
  intro p e s m args below meth c hx hb hml hr hlocks hown hts hK hS hsz ls hl
  refine lv_iconst (v := 0) hx hb dX0_chooseAgain_0 (by decide) ?_
  refine lv_istore_n (lv' := [(1, .int 0), (0, .ref (Z.2.1 k))]) hx hb dX0_chooseAgain_1 rfl hl (by decide) rfl (fun ls hl => ?_)
  have hcut_2 : ∀ (nn_2 : Nat) (j : Nat) (cv : Nat → Int32) (ga : Nat → va_E) (h_b : ga k = .inr (0, [.int pb, .int qb, .int res, .int (nI b.2.2.1), .int cmp, .ref (Z.2.1 (k + 1)), .ref (Z.2.1 (k + 2))])) (h_d : ga (k + 1) = .inl (Z.2.2.2 0, 12, .inl dg)) (h_c : ga (k + 2) = .inl (Z.2.2.2 0, 10, .inl cv)) (hfr_ga : z_fr k 3 g ga) (hj : j ≤ 10) (hcv : ∀ r, r < j → cv r = -1000006) (hm_2 : 10 - j < nn_2) (H : Heap) (locs : List Loc) (ls : Array Slot), z_S Z (z_A Z sz) s.heap ga H locs → lv_has ls 4 [(0, .ref (Z.2.1 k)), (1, .int (nI j))] → W p l e (headSpec wsX0_chooseAgain (z_rm 2 44)).room s m args below meth c H locs 0 0 (MQ below (va_Qv (fun g1 => z_bs Z g1 k b ∧ z_fr k 3 g g1) (z_B Z) (z_A Z sz)) args s 0 0 (z_A Z sz)) (F0 m 2 ls []) := by
    intro nn_2
    induction nn_2 with
    | zero => intro j cv ga h_b h_d h_c hfr_ga hj hcv hm_2 H locs ls hS hl; exact absurd hm_2 (Nat.not_lt_zero _)
    | succ nn_2 ih_2 =>
      intro j cv ga h_b h_d h_c hfr_ga hj hcv hm_2 H locs ls hS hl
      refine lv_iload_n hx hb dX0_chooseAgain_2 rfl (lv_at hl 1 rfl) ?_
      refine lv_aload_n hx hb dX0_chooseAgain_3 rfl (lv_at hl 0 rfl) ?_
      refine z_get (own := RX0) (C := RX0) (T := TX0) (N := 7) hx hb hts in_X0_chooseAgain_0 hown hK hS h_b hk0 rfl 6 (by decide) (List.mem_of_getElem? (i := 1) rfl) rfl rfl dX0_chooseAgain_4 ?_
      refine z_alen (v := 10) hx hb hK hS 0 h_c hk2 rfl rfl dX0_chooseAgain_7 ?_
      refine lv_icmp_ge (tgt := 25) hx hb dX0_chooseAgain_8 (by decide) (fun c_1 => ?_) (fun c_1 => ?_)
      · have i_1 := z_le c_1
        rw [nI_toInt (by omega)] at i_1
        rw [tI_10] at i_1
        have hj10 : j = 10 := by omega
        subst hj10
        refine lv_aload_n hx hb dX0_chooseAgain_25 rfl (lv_at hl 0 rfl) ?_
        refine z_get (own := RX0) (C := RX0) (T := TX0) (N := 7) hx hb hts in_X0_chooseAgain_0 hown hK hS h_b hk0 rfl 3 (by decide) (List.mem_of_getElem? (i := 3) rfl) rfl rfl dX0_chooseAgain_26 ?_
        refine lv_iconst (v := 1) hx hb dX0_chooseAgain_29 (by decide) ?_
        refine lv_isub hx hb dX0_chooseAgain_30 ?_
        refine lv_topi (fun i0 ei0 => ?_)
        have hi0 : i0.toInt = (b.2.2.1 : Int) - 1 := by rw [ei0, fb_subI (by rw [nI_toInt (by omega), tI_1]; omega) (by rw [nI_toInt (by omega), tI_1]; omega), nI_toInt (by omega), tI_1]
        refine lv_istore_n (lv' := [(1, .int i0), (0, .ref (Z.2.1 k))]) hx hb dX0_chooseAgain_31 rfl hl (by decide) rfl (fun ls hl => ?_)
        have hcut_32 : ∀ (nn_32 : Nat) (i1 : Int32) (n1 : Nat) (cw : Nat → Int32) (gb : Nat → va_E) (h_b : gb k = .inr (0, [.int pb, .int qb, .int res, .int (nI b.2.2.1), .int cmp, .ref (Z.2.1 (k + 1)), .ref (Z.2.1 (k + 2))])) (h_d : gb (k + 1) = .inl (Z.2.2.2 0, 12, .inl dg)) (h_c : gb (k + 2) = .inl (Z.2.2.2 0, 10, .inl cw)) (hfr_gb : z_fr k 3 g gb) (hn1 : i1.toInt = (n1 : Int) - 1) (hn2 : n1 ≤ b.2.2.1) (hcw : ∀ r : Nat, r < 10 → (∃ i, n1 ≤ i ∧ i < b.2.2.1 ∧ b.2.2.2 i % zP b = r ∧ (∀ t, n1 ≤ t → t < i → b.2.2.2 t % zP b ≠ r) ∧ (cw r).toInt = b.2.2.2 i) ∨ ((∀ i, n1 ≤ i → i < b.2.2.1 → b.2.2.2 i % zP b ≠ r) ∧ (cw r).toInt = -1000006)) (hm_32 : n1 < nn_32) (H : Heap) (locs : List Loc) (ls : Array Slot), z_S Z (z_A Z sz) s.heap gb H locs → lv_has ls 4 [(0, .ref (Z.2.1 k)), (1, .int i1)] → W p l e (headSpec wsX0_chooseAgain (z_rm 2 44)).room s m args below meth c H locs 0 0 (MQ below (va_Qv (fun g1 => z_bs Z g1 k b ∧ z_fr k 3 g g1) (z_B Z) (z_A Z sz)) args s 0 0 (z_A Z sz)) (F0 m 32 ls []) := by
          intro nn_32
          induction nn_32 with
          | zero => intro i1 n1 cw gb h_b h_d h_c hfr_gb hn1 hn2 hcw hm_32 H locs ls hS hl; exact absurd hm_32 (Nat.not_lt_zero _)
          | succ nn_32 ih_32 =>
            intro i1 n1 cw gb h_b h_d h_c hfr_gb hn1 hn2 hcw hm_32 H locs ls hS hl
            refine lv_iload_n hx hb dX0_chooseAgain_32 rfl (lv_at hl 1 rfl) ?_
            refine lv_if_lt (tgt := 74) hx hb dX0_chooseAgain_33 (by decide) (fun c_2 => ?_) (fun c_2 => ?_)
            · have i_2 := z_lt c_2
              rw [tI_0] at i_2
              have hn0 : n1 = 0 := by omega
              subst hn0
              have hch : ∀ r : Nat, r < 10 → (cw r).toInt = if (r : Int) < zP b then zch b r else -1000006 := by
                intro r hr
                rcases hcw r hr with ⟨i, q1, q2, q3, q4, q5⟩ | ⟨q1, q2⟩
                · have hrP : (r : Int) < zP b := by rw [← q3]; exact Int.emod_lt_of_pos _ (by omega)
                  have hci : zci b r = i := zfi_is q2 (decide_eq_true (by rw [q3, Int.emod_eq_of_lt (by omega) hrP])) (fun t ht => decide_eq_false (by rw [Int.emod_eq_of_lt (by omega) hrP]; exact q4 t (Nat.zero_le t) ht))
                  rw [if_pos hrP, (zch_of (by rw [hci]; exact q2)).1, hci]; exact q5
                · by_cases hrP : (r : Int) < zP b
                  · have hci : zci b r = b.2.2.1 := zfi_none (fun t ht => decide_eq_false (by rw [Int.emod_eq_of_lt (by omega) hrP]; exact q1 t (Nat.zero_le t) ht))
                    rw [if_pos hrP, q2]; unfold zch; rw [if_neg (by omega)]
                  · rw [if_neg hrP]; exact q2
              refine lv_aload_n hx hb dX0_chooseAgain_74 rfl (lv_at hl 0 rfl) ?_
              refine lv_iconst (v := 1) hx hb dX0_chooseAgain_75 (by decide) ?_
              refine z_put (fs' := [.int pb, .int qb, .int res, .int (nI b.2.2.1), .int 1, .ref (Z.2.1 (k + 1)), .ref (Z.2.1 (k + 2))]) (own := RX0) (C := RX0) (T := TX0) (N := 7) hx hb hts in_X0_chooseAgain_0 tyX0 tyX0_ok nmX0 hown hK hS h_b hk0 rfl 4 (by decide) (List.mem_of_getElem? (i := 4) rfl) rfl rfl rfl rfl (Nat.le_of_ble_eq_true rfl) rfl dX0_chooseAgain_76 (fun g_3 H locs hg_3 hS => ?_)
              have h_b : g_3 k = .inr (0, [.int pb, .int qb, .int res, .int (nI b.2.2.1), .int 1, .ref (Z.2.1 (k + 1)), .ref (Z.2.1 (k + 2))]) := z_up_s hg_3
              have h_d := z_up_n hg_3 h_d (by omega)
              have h_c := z_up_n hg_3 h_c (by omega)
              refine lv_iconst (v := 0) hx hb dX0_chooseAgain_79 (by decide) ?_
              refine lv_istore_n (lv' := [(1, .int 0), (0, .ref (Z.2.1 k))]) hx hb dX0_chooseAgain_80 rfl hl (by decide) rfl (fun ls hl => ?_)
              have hcut_81 : ∀ (nn_81 : Nat) (j3 : Nat) (cf : Int32) (gc : Nat → va_E) (h_b : gc k = .inr (0, [.int pb, .int qb, .int res, .int (nI b.2.2.1), .int cf, .ref (Z.2.1 (k + 1)), .ref (Z.2.1 (k + 2))])) (h_d : gc (k + 1) = .inl (Z.2.2.2 0, 12, .inl dg)) (h_c : gc (k + 2) = .inl (Z.2.2.2 0, 10, .inl cw)) (hfr_gc : z_fr k 3 g gc) (hj3 : (j3 : Int) ≤ zP b) (hcf : zbo cf (∀ r : Nat, r < j3 → zch b r ≠ -1000006)) (hm_81 : 10 - j3 < nn_81) (H : Heap) (locs : List Loc) (ls : Array Slot), z_S Z (z_A Z sz) s.heap gc H locs → lv_has ls 4 [(0, .ref (Z.2.1 k)), (1, .int (nI j3))] → W p l e (headSpec wsX0_chooseAgain (z_rm 2 44)).room s m args below meth c H locs 0 0 (MQ below (va_Qv (fun g1 => z_bs Z g1 k b ∧ z_fr k 3 g g1) (z_B Z) (z_A Z sz)) args s 0 0 (z_A Z sz)) (F0 m 81 ls []) := by
                intro nn_81
                induction nn_81 with
                | zero => intro j3 cf gc h_b h_d h_c hfr_gc hj3 hcf hm_81 H locs ls hS hl; exact absurd hm_81 (Nat.not_lt_zero _)
                | succ nn_81 ih_81 =>
                  intro j3 cf gc h_b h_d h_c hfr_gc hj3 hcf hm_81 H locs ls hS hl
                  refine lv_iload_n hx hb dX0_chooseAgain_81 rfl (lv_at hl 1 rfl) ?_
                  refine lv_aload_n hx hb dX0_chooseAgain_82 rfl (lv_at hl 0 rfl) ?_
                  refine z_get (own := RX0) (C := RX0) (T := TX0) (N := 7) hx hb hts in_X0_chooseAgain_0 hown hK hS h_b hk0 rfl 2 (by decide) (List.mem_of_getElem? (i := 5) rfl) rfl rfl dX0_chooseAgain_83 ?_
                  refine lv_icmp_ge (tgt := 110) hx hb dX0_chooseAgain_86 (by decide) (fun c_4 => ?_) (fun c_4 => ?_)
                  · have i_4 := z_le c_4
                    rw [nI_toInt (by omega)] at i_4
                    have hj3P : (j3 : Int) = zP b := by omega
                    refine z_vret hx hb hr hlocks hS ?_ dX0_chooseAgain_110
                    exact ⟨⟨pb, qb, res, _, dg, _, ⟨h_b, h_d, h_c, hkN, hok, hp, hq, hres, hdg⟩, hch, by
                      have e := zcm_iff hok
                      rcases hcf with ⟨q, q2⟩ | ⟨q, q2⟩
                      · exact Or.inl ⟨e.mpr (fun r hr => q r (by omega)), q2⟩
                      · exact Or.inr ⟨fun h => q (fun r hr => e.mp h r (by omega)), q2⟩⟩, hfr_gc⟩
                  · have i_4 := z_nle c_4
                    rw [nI_toInt (by omega)] at i_4
                    refine lv_aload_n hx hb dX0_chooseAgain_89 rfl (lv_at hl 0 rfl) ?_
                    refine lv_iload_n hx hb dX0_chooseAgain_90 rfl (lv_at hl 1 rfl) ?_
                    refine z_calli (z_runV (As := [.int (nI j3)]) (rest := []) ⟨hx, hb, hml, hown, hts⟩ hK hS ((k_digitFor Z gc k b ⟨pb, qb, res, _, dg, _, ⟨h_b, h_d, h_c, hkN, hok, hp, hq, hres, hdg⟩, hch⟩ (nI j3)) l _) gX0_chooseAgain_X0_digitFor rfl 1 (by decide +kernel) ⟨Nat.le_of_ble_eq_true rfl, Nat.le_of_ble_eq_true rfl⟩ h_b hk0 rfl rfl hl.1 rfl (Nat.le_of_ble_eq_true rfl) dX0_chooseAgain_91 ⟨Nat.le_of_ble_eq_true rfl, Nat.le_of_ble_eq_true rfl⟩) hS (fun d3 g_5 H locs hp_6 hS => ?_)
                    obtain ⟨rfl, hp_6⟩ := hp_6
                    rw [nI_toInt (by omega)] at hp_6
                    refine lv_ldc (v := (-1000006)) hx hb hown (hts _ (List.mem_of_getElem? (i := 2) rfl)) dX0_chooseAgain_94 ?_
                    refine lv_icmp_ne (tgt := 104) hx hb dX0_chooseAgain_96 (by decide) (fun c_7 => ?_) (fun c_7 => ?_)
                    · have i_7 := z_ne c_7
                      rw [tI_m1000006] at i_7
                      refine lv_iinc (v := (nI (j3 + 1))) (lv' := [(1, .int (nI (j3 + 1))), (0, .ref (Z.2.1 k))]) hx hb dX0_chooseAgain_104 hl (k := 1) rfl (nI_1 _) (by decide) rfl (fun ls hl => ?_)
                      refine lv_goto (tgt := 81) hx hb dX0_chooseAgain_107 (by decide) ?_
                      exact ih_81 (j3 + 1) cf gc h_b h_d h_c hfr_gc (by omega) (by
                          rcases hcf with ⟨q, rfl⟩ | ⟨q, rfl⟩
                          · refine zbo_1 (fun r h => ?_)
                            rcases Nat.lt_or_ge r j3 with hh | hh
                            · exact q r hh
                            · have : r = j3 := by omega
                              subst this; omega
                          · exact zbo_0 (fun h => q (fun r hr => h r (by omega)))) (by omega) _ _ _ hS (lv_sub hl [1, 0] rfl)
                    · have i_7 := z_eq c_7
                      rw [tI_m1000006] at i_7
                      refine lv_aload_n hx hb dX0_chooseAgain_99 rfl (lv_at hl 0 rfl) ?_
                      refine lv_iconst (v := 0) hx hb dX0_chooseAgain_100 (by decide) ?_
                      refine z_put (fs' := [.int pb, .int qb, .int res, .int (nI b.2.2.1), .int 0, .ref (Z.2.1 (k + 1)), .ref (Z.2.1 (k + 2))]) (own := RX0) (C := RX0) (T := TX0) (N := 7) hx hb hts in_X0_chooseAgain_0 tyX0 tyX0_ok nmX0 hown hK hS h_b hk0 rfl 4 (by decide) (List.mem_of_getElem? (i := 4) rfl) rfl rfl rfl rfl (Nat.le_of_ble_eq_true rfl) rfl dX0_chooseAgain_101 (fun g_8 H locs hg_8 hS => ?_)
                      have h_b : g_8 k = .inr (0, [.int pb, .int qb, .int res, .int (nI b.2.2.1), .int 0, .ref (Z.2.1 (k + 1)), .ref (Z.2.1 (k + 2))]) := z_up_s hg_8
                      have h_d := z_up_n hg_8 h_d (by omega)
                      have h_c := z_up_n hg_8 h_c (by omega)
                      refine lv_iinc (v := (nI (j3 + 1))) (lv' := [(1, .int (nI (j3 + 1))), (0, .ref (Z.2.1 k))]) hx hb dX0_chooseAgain_104 hl (k := 1) rfl (nI_1 _) (by decide) rfl (fun ls hl => ?_)
                      refine lv_goto (tgt := 81) hx hb dX0_chooseAgain_107 (by decide) ?_
                      exact ih_81 (j3 + 1) 0 g_8 h_b h_d h_c (hfr_gc.up hg_8 (by omega)) (by omega) (zbo_0 (fun h => h j3 (Nat.lt_succ_self j3) (by omega))) (by omega) _ _ _ hS (lv_sub hl [1, 0] rfl)
              exact hcut_81 (10 - 0 + 1) 0 1 g_3 h_b h_d h_c (hfr_gb.up hg_3 (by omega)) (by omega) (zbo_1 (fun r h => absurd h (Nat.not_lt_zero r))) (Nat.lt_succ_self _) _ _ _ hS (lv_sub hl [1, 0] rfl)
            · have i_2 := z_nlt c_2
              rw [tI_0] at i_2
              obtain ⟨n2, rfl⟩ : ∃ n2, n1 = n2 + 1 := ⟨n1 - 1, by omega⟩
              have ei1 : i1 = nI n2 := z_nI_is (by omega)
              subst ei1
              refine lv_aload_n hx hb dX0_chooseAgain_36 rfl (lv_at hl 0 rfl) ?_
              refine lv_iload_n hx hb dX0_chooseAgain_37 rfl (lv_at hl 1 rfl) ?_
              refine z_calli (z_runV (As := [.int (nI n2)]) (rest := []) ⟨hx, hb, hml, hown, hts⟩ hK hS ((k_listed Z gb k b ⟨pb, qb, res, _, dg, _, h_b, h_d, h_c, hkN, hok, hp, hq, hres, hdg⟩ n2 (by omega)) l _) gX0_chooseAgain_X0_listed rfl 1 (by decide +kernel) ⟨Nat.le_of_ble_eq_true rfl, Nat.le_of_ble_eq_true rfl⟩ h_b hk0 rfl rfl hl.1 rfl (Nat.le_of_ble_eq_true rfl) dX0_chooseAgain_38 ⟨Nat.le_of_ble_eq_true rfl, Nat.le_of_ble_eq_true rfl⟩) hS (fun dd g_9 H locs hp_10 hS => ?_)
              obtain ⟨rfl, hp_10⟩ := hp_10
              have hdd := hp_10
              refine lv_istore_n (lv' := [(2, .int dd), (0, .ref (Z.2.1 k)), (1, .int (nI n2))]) hx hb dX0_chooseAgain_41 rfl hl (by decide) rfl (fun ls hl => ?_)
              refine lv_aload_n hx hb dX0_chooseAgain_42 rfl (lv_at hl 1 rfl) ?_
              refine lv_iload_n hx hb dX0_chooseAgain_43 rfl (lv_at hl 0 rfl) ?_
              refine z_calli (z_runV (As := [.int dd]) (rest := []) ⟨hx, hb, hml, hown, hts⟩ hK hS ((k_residueOf Z gb k b ⟨pb, qb, res, _, dg, _, h_b, h_d, h_c, hkN, hok, hp, hq, hres, hdg⟩ dd) l _) gX0_chooseAgain_X0_residueOf rfl 1 (by decide +kernel) ⟨Nat.le_of_ble_eq_true rfl, Nat.le_of_ble_eq_true rfl⟩ h_b hk0 rfl rfl hl.1 rfl (Nat.le_of_ble_eq_true rfl) dX0_chooseAgain_44 ⟨Nat.le_of_ble_eq_true rfl, Nat.le_of_ble_eq_true rfl⟩) hS (fun rr g_11 H locs hp_12 hS => ?_)
              obtain ⟨rfl, hp_12⟩ := hp_12
              have hrr := hp_12
              rw [hdd] at hrr
              have h0 := Int.emod_nonneg (b.2.2.2 n2) (b := zP b) (by omega)
              have h1 := Int.emod_lt_of_pos (b.2.2.2 n2) (b := zP b) (by omega)
              obtain ⟨r0, er0, hr0, -⟩ := z_nI_of (x := rr) (by omega)
              subst er0
              refine lv_istore_n (lv' := [(3, .int (nI r0)), (2, .int dd), (0, .ref (Z.2.1 k)), (1, .int (nI n2))]) hx hb dX0_chooseAgain_47 rfl hl (by decide) rfl (fun ls hl => ?_)
              refine lv_iload_n hx hb dX0_chooseAgain_48 rfl (lv_at hl 0 rfl) ?_
              refine lv_if_lt (tgt := 68) hx hb dX0_chooseAgain_49 (by decide) (fun c_13 => ?_) (fun c_13 => ?_)
              · have i_13 := z_lt c_13
                rw [nI_toInt (by omega)] at i_13
                rw [tI_0] at i_13
                exfalso; omega
              · have i_13 := z_nlt c_13
                rw [nI_toInt (by omega)] at i_13
                rw [tI_0] at i_13
                refine lv_iload_n hx hb dX0_chooseAgain_52 rfl (lv_at hl 0 rfl) ?_
                refine lv_aload_n hx hb dX0_chooseAgain_53 rfl (lv_at hl 2 rfl) ?_
                refine z_get (own := RX0) (C := RX0) (T := TX0) (N := 7) hx hb hts in_X0_chooseAgain_0 hown hK hS h_b hk0 rfl 6 (by decide) (List.mem_of_getElem? (i := 1) rfl) rfl rfl dX0_chooseAgain_54 ?_
                refine z_alen (v := 10) hx hb hK hS 0 h_c hk2 rfl rfl dX0_chooseAgain_57 ?_
                refine lv_icmp_ge (tgt := 68) hx hb dX0_chooseAgain_58 (by decide) (fun c_14 => ?_) (fun c_14 => ?_)
                · have i_14 := z_le c_14
                  rw [nI_toInt (by omega)] at i_14
                  rw [tI_10] at i_14
                  exfalso; omega
                · have i_14 := z_nle c_14
                  rw [nI_toInt (by omega)] at i_14
                  rw [tI_10] at i_14
                  refine lv_aload_n hx hb dX0_chooseAgain_61 rfl (lv_at hl 2 rfl) ?_
                  refine z_get (own := RX0) (C := RX0) (T := TX0) (N := 7) hx hb hts in_X0_chooseAgain_0 hown hK hS h_b hk0 rfl 6 (by decide) (List.mem_of_getElem? (i := 1) rfl) rfl rfl dX0_chooseAgain_62 ?_
                  refine lv_iload_n hx hb dX0_chooseAgain_65 rfl (lv_at hl 0 rfl) ?_
                  refine lv_iload_n hx hb dX0_chooseAgain_66 rfl (lv_at hl 1 rfl) ?_
                  refine z_iast hx hb hK hS h_c hk2 (vp_in_nI (by omega) (by omega)) dX0_chooseAgain_67 (fun g_15 H locs hg_15 hS => ?_)
                  have h_c : g_15 (k + 2) = .inl (Z.2.2.2 0, 10, .inl (upd cw (nI r0).toNatClampNeg dd)) := z_up_s hg_15
                  have h_b := z_up_n hg_15 h_b (by omega)
                  have h_d := z_up_n hg_15 h_d (by omega)
                  have hcw2 : ∀ r : Nat, r < 10 → (∃ i, n2 ≤ i ∧ i < b.2.2.1 ∧ b.2.2.2 i % zP b = r ∧ (∀ t, n2 ≤ t → t < i → b.2.2.2 t % zP b ≠ r) ∧ ((upd cw (nI r0).toNatClampNeg dd) r).toInt = b.2.2.2 i) ∨ ((∀ i, n2 ≤ i → i < b.2.2.1 → b.2.2.2 i % zP b ≠ r) ∧ ((upd cw (nI r0).toNatClampNeg dd) r).toInt = -1000006) := by
                    intro r hr
                    by_cases hrr0 : r = r0
                    · subst hrr0
                      refine Or.inl ⟨n2, Nat.le_refl _, by omega, by omega, fun t h2 h3 => by omega, ?_⟩
                      rw [nI_clamp (by omega), pk_us]; exact hdd
                    · rw [nI_clamp (by omega), pk_un hrr0]
                      rcases hcw r hr with ⟨i, q1, q2, q3, q4, q5⟩ | ⟨q1, q2⟩
                      · refine Or.inl ⟨i, by omega, q2, q3, fun t h2 h3 => ?_, q5⟩
                        rcases Nat.lt_or_ge t (n2 + 1) with q | q
                        · have : t = n2 := by omega
                          subst this; omega
                        · exact q4 t q h3
                      · refine Or.inr ⟨fun i h2 h3 => ?_, q2⟩
                        rcases Nat.lt_or_ge i (n2 + 1) with q | q
                        · have : i = n2 := by omega
                          subst this; omega
                        · exact q1 i q h3
                  obtain ⟨i2, ei2⟩ : ∃ zz9 : Int32, zz9 = nI n2 + (-1) := ⟨_, rfl⟩
                  have hi2 : i2.toInt = (n2 : Int) - 1 := by rw [ei2, fb_addI (by rw [nI_toInt (by omega), tI_m1]; omega) (by rw [nI_toInt (by omega), tI_m1]; omega), nI_toInt (by omega), tI_m1]; omega
                  refine lv_iinc (v := i2) (lv' := [(1, .int i2), (3, .int (nI r0)), (2, .int dd), (0, .ref (Z.2.1 k))]) hx hb dX0_chooseAgain_68 hl (k := 3) rfl (by rw [ei2]; rfl) (by decide) rfl (fun ls hl => ?_)
                  refine lv_goto (tgt := 32) hx hb dX0_chooseAgain_71 (by decide) ?_
                  exact ih_32 i2 n2 (upd cw (nI r0).toNatClampNeg dd) g_15 h_b h_d h_c (hfr_gb.up hg_15 (by omega)) (by omega) (by omega) hcw2 (by omega) _ _ _ hS (lv_sub hl [3, 0] rfl)
        exact hcut_32 (b.2.2.1 + 1) i0 b.2.2.1 cv ga h_b h_d h_c hfr_ga hi0 (by omega) (fun r h => Or.inr ⟨fun i h1 h2 => by omega, by rw [hcv r h]; rfl⟩) (Nat.lt_succ_self _) _ _ _ hS (lv_sub hl [1, 0] rfl)
      · have i_1 := z_nle c_1
        rw [nI_toInt (by omega)] at i_1
        rw [tI_10] at i_1
        refine lv_aload_n hx hb dX0_chooseAgain_11 rfl (lv_at hl 0 rfl) ?_
        refine z_get (own := RX0) (C := RX0) (T := TX0) (N := 7) hx hb hts in_X0_chooseAgain_0 hown hK hS h_b hk0 rfl 6 (by decide) (List.mem_of_getElem? (i := 1) rfl) rfl rfl dX0_chooseAgain_12 ?_
        refine lv_iload_n hx hb dX0_chooseAgain_15 rfl (lv_at hl 1 rfl) ?_
        refine lv_ldc (v := (-1000006)) hx hb hown (hts _ (List.mem_of_getElem? (i := 2) rfl)) dX0_chooseAgain_16 ?_
        refine z_iast hx hb hK hS h_c hk2 (vp_in_nI (by omega) (by omega)) dX0_chooseAgain_18 (fun g_16 H locs hg_16 hS => ?_)
        have h_c : g_16 (k + 2) = .inl (Z.2.2.2 0, 10, .inl (upd cv (nI j).toNatClampNeg (-1000006))) := z_up_s hg_16
        have h_b := z_up_n hg_16 h_b (by omega)
        have h_d := z_up_n hg_16 h_d (by omega)
        refine lv_iinc (v := (nI (j + 1))) (lv' := [(1, .int (nI (j + 1))), (0, .ref (Z.2.1 k))]) hx hb dX0_chooseAgain_19 hl (k := 1) rfl (nI_1 _) (by decide) rfl (fun ls hl => ?_)
        refine lv_goto (tgt := 2) hx hb dX0_chooseAgain_22 (by decide) ?_
        exact ih_2 (j + 1) (upd cv (nI j).toNatClampNeg (-1000006)) g_16 h_b h_d h_c (hfr_ga.up hg_16 (by omega)) (by omega) (fun r h => by
            rcases Nat.lt_or_ge r j with hh | hh
            · rw [nI_clamp (by omega), pk_un (by omega)]; exact hcv r hh
            · have : r = j := by omega
              subst this; rw [nI_clamp (by omega), pk_us]) (by omega) _ _ _ hS (lv_sub hl [1, 0] rfl)
  exact hcut_2 (10 - 0 + 1) 0 ch g h_b h_d h_c z_fr.rf (by omega) (fun r h => absurd h (Nat.not_lt_zero r)) (Nat.lt_succ_self _) _ _ _ hS (lv_sub hl [1, 0] rfl)

theorem in_X0_append_0 : ∀ w ∈ wsX00, w ∈ wsX0_append := by decide +kernel
set_option maxHeartbeats 4000000 in
set_option maxRecDepth 100000 in
theorem k_append (Z : zT) (g : Nat → va_E) (k : Nat) (b : zb) (hB : z_b0 Z g k b) (x : Int32) (hx20 : -20 ≤ x.toInt ∧ x.toInt ≤ 20) (hn : b.2.2.1 < 12) : z_Mv Z yX0_append wsX0_append 3 67 [.ref (Z.2.1 k), .int x] g (fun g1 => z_bs Z g1 k (b.1, b.2.1, b.2.2.1 + 1, fun i => if i = b.2.2.1 then x.toInt else b.2.2.2 i) ∧ z_fr k 3 g g1) := by
  intro l sz
  obtain ⟨pb, qb, res, cmp, dg, ch, h_b, h_d, h_c, hkN, hok, hp, hq, hres, hdg⟩ := id hB
  have hk0 : k < Z.1 := by omega
  have hk1 : k + 1 < Z.1 := by omega
  have hk2 : k + 2 < Z.1 := by omega
  have hPb := zP_bd hok
  have hn12 := hok.2.2.2.1
  have hq1 := hok.2.1
  refine z_enter (maxL := 2) (ret := none) (lv := [(0, .ref (Z.2.1 k)), (1, .int x)]) (plainFor_of_name (by decide +kernel)) rfl (fun ls h => by subst h; exact lv_entry [.ref (Z.2.1 k), .int x] (n := 2) (Nat.le_of_ble_eq_true rfl)) ?_
  intro p e s m args below meth c hx hb hml hr hlocks hown hts hK hS hsz ls hl
  refine lv_aload_n hx hb dX0_append_0 rfl (lv_at hl 0 rfl) ?_
  refine z_get (own := RX0) (C := RX0) (T := TX0) (N := 7) hx hb hts in_X0_append_0 hown hK hS h_b hk0 rfl 3 (by decide) (List.mem_of_getElem? (i := 1) rfl) rfl rfl dX0_append_1 ?_
  refine lv_if_lt (tgt := 19) hx hb dX0_append_4 (by decide) (fun c_1 => ?_) (fun c_1 => ?_)
  · have i_1 := z_lt c_1
    rw [nI_toInt (by omega)] at i_1
    rw [tI_0] at i_1
    exfalso; omega
  · have i_1 := z_nlt c_1
    rw [nI_toInt (by omega)] at i_1
    rw [tI_0] at i_1
    refine lv_aload_n hx hb dX0_append_7 rfl (lv_at hl 0 rfl) ?_
    refine z_get (own := RX0) (C := RX0) (T := TX0) (N := 7) hx hb hts in_X0_append_0 hown hK hS h_b hk0 rfl 3 (by decide) (List.mem_of_getElem? (i := 1) rfl) rfl rfl dX0_append_8 ?_
    refine lv_aload_n hx hb dX0_append_11 rfl (lv_at hl 0 rfl) ?_
    refine z_get (own := RX0) (C := RX0) (T := TX0) (N := 7) hx hb hts in_X0_append_0 hown hK hS h_b hk0 rfl 5 (by decide) (List.mem_of_getElem? (i := 2) rfl) rfl rfl dX0_append_12 ?_
    refine z_alen (v := 12) hx hb hK hS 0 h_d hk1 rfl rfl dX0_append_15 ?_
    refine lv_icmp_lt (tgt := 20) hx hb dX0_append_16 (by decide) (fun c_2 => ?_) (fun c_2 => ?_)
    · have i_2 := z_lt c_2
      rw [nI_toInt (by omega)] at i_2
      rw [tI_12] at i_2
      refine lv_aload_n hx hb dX0_append_20 rfl (lv_at hl 0 rfl) ?_
      refine z_get (own := RX0) (C := RX0) (T := TX0) (N := 7) hx hb hts in_X0_append_0 hown hK hS h_b hk0 rfl 5 (by decide) (List.mem_of_getElem? (i := 2) rfl) rfl rfl dX0_append_21 ?_
      refine lv_aload_n hx hb dX0_append_24 rfl (lv_at hl 0 rfl) ?_
      refine z_get (own := RX0) (C := RX0) (T := TX0) (N := 7) hx hb hts in_X0_append_0 hown hK hS h_b hk0 rfl 3 (by decide) (List.mem_of_getElem? (i := 1) rfl) rfl rfl dX0_append_25 ?_
      refine lv_iload_n hx hb dX0_append_28 rfl (lv_at hl 1 rfl) ?_
      refine z_iast hx hb hK hS h_d hk1 (vp_in_nI (by omega) (by omega)) dX0_append_29 (fun g_3 H locs hg_3 hS => ?_)
      have h_d : g_3 (k + 1) = .inl (Z.2.2.2 0, 12, .inl (upd dg (nI b.2.2.1).toNatClampNeg x)) := z_up_s hg_3
      have h_b := z_up_n hg_3 h_b (by omega)
      have h_c := z_up_n hg_3 h_c (by omega)
      refine lv_aload_n hx hb dX0_append_30 rfl (lv_at hl 0 rfl) ?_
      refine lv_dup hx hb dX0_append_31 rfl ?_
      refine z_get (own := RX0) (C := RX0) (T := TX0) (N := 7) hx hb hts in_X0_append_0 hown hK hS h_b hk0 rfl 3 (by decide) (List.mem_of_getElem? (i := 1) rfl) rfl rfl dX0_append_32 ?_
      refine lv_iconst (v := 1) hx hb dX0_append_35 (by decide) ?_
      refine lv_iadd hx hb dX0_append_36 ?_
      rw [show (nI b.2.2.1) + 1 = nI (b.2.2.1 + 1) from nI_1 _]
      refine z_put (fs' := [.int pb, .int qb, .int res, .int (nI (b.2.2.1 + 1)), .int cmp, .ref (Z.2.1 (k + 1)), .ref (Z.2.1 (k + 2))]) (own := RX0) (C := RX0) (T := TX0) (N := 7) hx hb hts in_X0_append_0 tyX0 tyX0_ok nmX0 hown hK hS h_b hk0 rfl 3 (by decide) (List.mem_of_getElem? (i := 1) rfl) rfl rfl rfl rfl (Nat.le_of_ble_eq_true rfl) rfl dX0_append_37 (fun g_4 H locs hg_4 hS => ?_)
      have h_b : g_4 k = .inr (0, [.int pb, .int qb, .int res, .int (nI (b.2.2.1 + 1)), .int cmp, .ref (Z.2.1 (k + 1)), .ref (Z.2.1 (k + 2))]) := z_up_s hg_4
      have h_d := z_up_n hg_4 h_d (by omega)
      have h_c := z_up_n hg_4 h_c (by omega)
      refine lv_aload_n hx hb dX0_append_40 rfl (lv_at hl 0 rfl) ?_
      refine z_callv (z_runV (As := []) (rest := []) ⟨hx, hb, hml, hown, hts⟩ hK hS ((k_chooseAgain Z g_4 k (b.1, b.2.1, b.2.2.1 + 1, fun i => if i = b.2.2.1 then x.toInt else b.2.2.2 i) ⟨pb, qb, res, _, _, _, h_b, h_d, h_c, hkN, ⟨hok.1, hok.2.1, hok.2.2.1, hn, fun i hi => by
        by_cases hib : i = b.2.2.1
        · simp only [hib, if_true]; exact hx20
        · simp only [hib, if_false]; exact hok.2.2.2.2 i (by simp only at hi; omega)⟩, hp, hq, hres, fun i hi => by
        by_cases hib : i = b.2.2.1
        · simp only [hib, if_true]; rw [nI_clamp (by omega), pk_us]
        · simp only [hib, if_false]; rw [nI_clamp (by omega), pk_un hib]; exact hdg i (by simp only at hi; omega)⟩) l _) gX0_append_X0_chooseAgain rfl 0 (by decide +kernel) ⟨Nat.le_of_ble_eq_true rfl, Nat.le_of_ble_eq_true rfl⟩ h_b hk0 rfl rfl hl.1 rfl (Nat.le_of_ble_eq_true rfl) dX0_append_41 ⟨Nat.le_of_ble_eq_true rfl, Nat.le_of_ble_eq_true rfl⟩) hS (fun g_6 H locs hp_7 hS => ?_)
      refine z_vret hx hb hr hlocks hS ?_ dX0_append_44
      exact ⟨hp_7.1, (((z_fr.rf.up hg_3 (by omega)).up hg_4 (by omega)).tr (hp_7.2.wide (by omega) (by omega)))⟩
    · have i_2 := z_nlt c_2
      rw [nI_toInt (by omega)] at i_2
      rw [tI_12] at i_2
      exfalso; omega

theorem in_X0_removeAt_0 : ∀ w ∈ wsX00, w ∈ wsX0_removeAt := by decide +kernel
set_option maxHeartbeats 4000000 in
set_option maxRecDepth 100000 in
theorem k_removeAt (Z : zT) (g : Nat → va_E) (k : Nat) (b : zb) (hB : z_b0 Z g k b) (j : Nat) (hj : j < b.2.2.1) : z_Mv Z yX0_removeAt wsX0_removeAt 3 67 [.ref (Z.2.1 k), .int (nI j)] g (fun g1 => z_bs Z g1 k (b.1, b.2.1, b.2.2.1 - 1, fun i => if i < j then b.2.2.2 i else b.2.2.2 (i + 1)) ∧ z_fr k 3 g g1) := by
  intro l sz
  obtain ⟨pb, qb, res, cmp, dg, ch, h_b, h_d, h_c, hkN, hok, hp, hq, hres, hdg⟩ := id hB
  have hk0 : k < Z.1 := by omega
  have hk1 : k + 1 < Z.1 := by omega
  have hk2 : k + 2 < Z.1 := by omega
  have hPb := zP_bd hok
  have hn12 := hok.2.2.2.1
  have hq1 := hok.2.1
  refine z_enter (maxL := 3) (ret := none) (lv := [(0, .ref (Z.2.1 k)), (1, .int (nI j))]) (plainFor_of_name (by decide +kernel)) rfl (fun ls h => by subst h; exact lv_entry [.ref (Z.2.1 k), .int (nI j)] (n := 3) (Nat.le_of_ble_eq_true rfl)) ?_
  intro p e s m args below meth c hx hb hml hr hlocks hown hts hK hS hsz ls hl
  refine lv_iload_n hx hb dX0_removeAt_0 rfl (lv_at hl 1 rfl) ?_
  refine lv_if_lt (tgt := 12) hx hb dX0_removeAt_1 (by decide) (fun c_1 => ?_) (fun c_1 => ?_)
  · have i_1 := z_lt c_1
    rw [nI_toInt (by omega)] at i_1
    rw [tI_0] at i_1
    exfalso; omega
  · have i_1 := z_nlt c_1
    rw [nI_toInt (by omega)] at i_1
    rw [tI_0] at i_1
    refine lv_iload_n hx hb dX0_removeAt_4 rfl (lv_at hl 1 rfl) ?_
    refine lv_aload_n hx hb dX0_removeAt_5 rfl (lv_at hl 0 rfl) ?_
    refine z_get (own := RX0) (C := RX0) (T := TX0) (N := 7) hx hb hts in_X0_removeAt_0 hown hK hS h_b hk0 rfl 3 (by decide) (List.mem_of_getElem? (i := 1) rfl) rfl rfl dX0_removeAt_6 ?_
    refine lv_icmp_lt (tgt := 13) hx hb dX0_removeAt_9 (by decide) (fun c_2 => ?_) (fun c_2 => ?_)
    · have i_2 := z_lt c_2
      rw [nI_toInt (by omega)] at i_2
      rw [nI_toInt (by omega)] at i_2
      refine lv_iload_n hx hb dX0_removeAt_13 rfl (lv_at hl 1 rfl) ?_
      refine lv_istore_n (lv' := [(2, .int (nI j)), (0, .ref (Z.2.1 k)), (1, .int (nI j))]) hx hb dX0_removeAt_14 rfl hl (by decide) rfl (fun ls hl => ?_)
      have hcut_15 : ∀ (nn_15 : Nat) (i : Nat) (dv : Nat → Int32) (ga : Nat → va_E) (h_b : ga k = .inr (0, [.int pb, .int qb, .int res, .int (nI b.2.2.1), .int cmp, .ref (Z.2.1 (k + 1)), .ref (Z.2.1 (k + 2))])) (h_d : ga (k + 1) = .inl (Z.2.2.2 0, 12, .inl dv)) (h_c : ga (k + 2) = .inl (Z.2.2.2 0, 10, .inl ch)) (hfr_ga : z_fr k 3 g ga) (hji : j ≤ i) (hin : i < b.2.2.1) (hdv : ∀ t, t < b.2.2.1 → (dv t).toInt = if t < i then (if t < j then b.2.2.2 t else b.2.2.2 (t + 1)) else b.2.2.2 t) (hm_15 : b.2.2.1 - i < nn_15) (H : Heap) (locs : List Loc) (ls : Array Slot), z_S Z (z_A Z sz) s.heap ga H locs → lv_has ls 3 [(0, .ref (Z.2.1 k)), (1, .int (nI j)), (2, .int (nI i))] → W p l e (headSpec wsX0_removeAt (z_rm 3 67)).room s m args below meth c H locs 0 0 (MQ below (va_Qv (fun g1 => z_bs Z g1 k (b.1, b.2.1, b.2.2.1 - 1, fun i => if i < j then b.2.2.2 i else b.2.2.2 (i + 1)) ∧ z_fr k 3 g g1) (z_B Z) (z_A Z sz)) args s 0 0 (z_A Z sz)) (F0 m 15 ls []) := by
        intro nn_15
        induction nn_15 with
        | zero => intro i dv ga h_b h_d h_c hfr_ga hji hin hdv hm_15 H locs ls hS hl; exact absurd hm_15 (Nat.not_lt_zero _)
        | succ nn_15 ih_15 =>
          intro i dv ga h_b h_d h_c hfr_ga hji hin hdv hm_15 H locs ls hS hl
          refine lv_iload_n hx hb dX0_removeAt_15 rfl (lv_at hl 2 rfl) ?_
          refine lv_iconst (v := 1) hx hb dX0_removeAt_16 (by decide) ?_
          refine lv_iadd hx hb dX0_removeAt_17 ?_
          rw [show (nI i) + 1 = nI (i + 1) from nI_1 _]
          refine lv_aload_n hx hb dX0_removeAt_18 rfl (lv_at hl 0 rfl) ?_
          refine z_get (own := RX0) (C := RX0) (T := TX0) (N := 7) hx hb hts in_X0_removeAt_0 hown hK hS h_b hk0 rfl 3 (by decide) (List.mem_of_getElem? (i := 1) rfl) rfl rfl dX0_removeAt_19 ?_
          refine lv_icmp_ge (tgt := 56) hx hb dX0_removeAt_22 (by decide) (fun c_3 => ?_) (fun c_3 => ?_)
          · have i_3 := z_le c_3
            rw [nI_toInt (by omega)] at i_3
            rw [nI_toInt (by omega)] at i_3
            refine lv_aload_n hx hb dX0_removeAt_56 rfl (lv_at hl 0 rfl) ?_
            refine lv_dup hx hb dX0_removeAt_57 rfl ?_
            refine z_get (own := RX0) (C := RX0) (T := TX0) (N := 7) hx hb hts in_X0_removeAt_0 hown hK hS h_b hk0 rfl 3 (by decide) (List.mem_of_getElem? (i := 1) rfl) rfl rfl dX0_removeAt_58 ?_
            refine lv_iconst (v := 1) hx hb dX0_removeAt_61 (by decide) ?_
            refine lv_isub hx hb dX0_removeAt_62 ?_
            rw [show (nI b.2.2.1) - 1 = nI (b.2.2.1 - 1) from (by have h9 := pk_sub (a := b.2.2.1) (b := 1) (by omega); exact h9)]
            refine z_put (fs' := [.int pb, .int qb, .int res, .int (nI (b.2.2.1 - 1)), .int cmp, .ref (Z.2.1 (k + 1)), .ref (Z.2.1 (k + 2))]) (own := RX0) (C := RX0) (T := TX0) (N := 7) hx hb hts in_X0_removeAt_0 tyX0 tyX0_ok nmX0 hown hK hS h_b hk0 rfl 3 (by decide) (List.mem_of_getElem? (i := 1) rfl) rfl rfl rfl rfl (Nat.le_of_ble_eq_true rfl) rfl dX0_removeAt_63 (fun g_4 H locs hg_4 hS => ?_)
            have h_b : g_4 k = .inr (0, [.int pb, .int qb, .int res, .int (nI (b.2.2.1 - 1)), .int cmp, .ref (Z.2.1 (k + 1)), .ref (Z.2.1 (k + 2))]) := z_up_s hg_4
            have h_d := z_up_n hg_4 h_d (by omega)
            have h_c := z_up_n hg_4 h_c (by omega)
            refine lv_aload_n hx hb dX0_removeAt_66 rfl (lv_at hl 0 rfl) ?_
            refine z_callv (z_runV (As := []) (rest := []) ⟨hx, hb, hml, hown, hts⟩ hK hS ((k_chooseAgain Z g_4 k (b.1, b.2.1, b.2.2.1 - 1, fun i => if i < j then b.2.2.2 i else b.2.2.2 (i + 1)) ⟨pb, qb, res, _, _, _, h_b, h_d, h_c, hkN, ⟨hok.1, hok.2.1, hok.2.2.1, (by show b.2.2.1 - 1 ≤ 12; omega), fun t ht => by
              simp only at ht ⊢
              split
              · exact hok.2.2.2.2 t (by omega)
              · exact hok.2.2.2.2 (t + 1) (by omega)⟩, hp, hq, hres, fun t ht => by
              simp only at ht ⊢
              rw [hdv t (by omega), if_pos (by omega)]⟩) l _) gX0_removeAt_X0_chooseAgain rfl 0 (by decide +kernel) ⟨Nat.le_of_ble_eq_true rfl, Nat.le_of_ble_eq_true rfl⟩ h_b hk0 rfl rfl hl.1 rfl (Nat.le_of_ble_eq_true rfl) dX0_removeAt_67 ⟨Nat.le_of_ble_eq_true rfl, Nat.le_of_ble_eq_true rfl⟩) hS (fun g_6 H locs hp_7 hS => ?_)
            refine z_vret hx hb hr hlocks hS ?_ dX0_removeAt_70
            exact ⟨hp_7.1, ((hfr_ga.up hg_4 (by omega)).tr (hp_7.2.wide (by omega) (by omega)))⟩
          · have i_3 := z_nle c_3
            rw [nI_toInt (by omega)] at i_3
            rw [nI_toInt (by omega)] at i_3
            refine lv_iload_n hx hb dX0_removeAt_25 rfl (lv_at hl 2 rfl) ?_
            refine lv_iconst (v := 1) hx hb dX0_removeAt_26 (by decide) ?_
            refine lv_iadd hx hb dX0_removeAt_27 ?_
            rw [show (nI i) + 1 = nI (i + 1) from nI_1 _]
            refine lv_aload_n hx hb dX0_removeAt_28 rfl (lv_at hl 0 rfl) ?_
            refine z_get (own := RX0) (C := RX0) (T := TX0) (N := 7) hx hb hts in_X0_removeAt_0 hown hK hS h_b hk0 rfl 5 (by decide) (List.mem_of_getElem? (i := 2) rfl) rfl rfl dX0_removeAt_29 ?_
            refine z_alen (v := 12) hx hb hK hS 0 h_d hk1 rfl rfl dX0_removeAt_32 ?_
            refine lv_icmp_ge (tgt := 56) hx hb dX0_removeAt_33 (by decide) (fun c_8 => ?_) (fun c_8 => ?_)
            · have i_8 := z_le c_8
              rw [nI_toInt (by omega)] at i_8
              rw [tI_12] at i_8
              exfalso; omega
            · have i_8 := z_nle c_8
              rw [nI_toInt (by omega)] at i_8
              rw [tI_12] at i_8
              refine lv_aload_n hx hb dX0_removeAt_36 rfl (lv_at hl 0 rfl) ?_
              refine z_get (own := RX0) (C := RX0) (T := TX0) (N := 7) hx hb hts in_X0_removeAt_0 hown hK hS h_b hk0 rfl 5 (by decide) (List.mem_of_getElem? (i := 2) rfl) rfl rfl dX0_removeAt_37 ?_
              refine lv_iload_n hx hb dX0_removeAt_40 rfl (lv_at hl 2 rfl) ?_
              refine lv_aload_n hx hb dX0_removeAt_41 rfl (lv_at hl 0 rfl) ?_
              refine z_get (own := RX0) (C := RX0) (T := TX0) (N := 7) hx hb hts in_X0_removeAt_0 hown hK hS h_b hk0 rfl 5 (by decide) (List.mem_of_getElem? (i := 2) rfl) rfl rfl dX0_removeAt_42 ?_
              refine lv_iload_n hx hb dX0_removeAt_45 rfl (lv_at hl 2 rfl) ?_
              refine lv_iconst (v := 1) hx hb dX0_removeAt_46 (by decide) ?_
              refine lv_iadd hx hb dX0_removeAt_47 ?_
              rw [show (nI i) + 1 = nI (i + 1) from nI_1 _]
              refine z_iald hx hb hK hS h_d hk1 (vp_in_nI (by omega) (by omega)) dX0_removeAt_48 ?_
              refine z_iast hx hb hK hS h_d hk1 (vp_in_nI (by omega) (by omega)) dX0_removeAt_49 (fun g_9 H locs hg_9 hS => ?_)
              have h_d : g_9 (k + 1) = .inl (Z.2.2.2 0, 12, .inl (upd dv (nI i).toNatClampNeg (dv (nI (i + 1)).toNatClampNeg))) := z_up_s hg_9
              have h_b := z_up_n hg_9 h_b (by omega)
              have h_c := z_up_n hg_9 h_c (by omega)
              refine lv_iinc (v := (nI (i + 1))) (lv' := [(2, .int (nI (i + 1))), (0, .ref (Z.2.1 k)), (1, .int (nI j))]) hx hb dX0_removeAt_50 hl (k := 2) rfl (nI_1 _) (by decide) rfl (fun ls hl => ?_)
              refine lv_goto (tgt := 15) hx hb dX0_removeAt_53 (by decide) ?_
              exact ih_15 (i + 1) (upd dv (nI i).toNatClampNeg (dv (nI (i + 1)).toNatClampNeg)) g_9 h_b h_d h_c (hfr_ga.up hg_9 (by omega)) (by omega) (by omega) (fun t ht => by
                  rw [nI_clamp (by omega), nI_clamp (by omega)]
                  by_cases h1 : t = i
                  · subst h1; rw [pk_us, if_pos (by omega), if_neg (by omega), hdv _ (by omega), if_neg (by omega)]
                  · rw [pk_un h1, hdv t ht]
                    by_cases h2 : t < i
                    · rw [if_pos h2, if_pos (show t < i + 1 by omega)]
                    · rw [if_neg h2, if_neg (show ¬ t < i + 1 by omega)]) (by omega) _ _ _ hS (lv_sub hl [1, 2, 0] rfl)
      exact hcut_15 (b.2.2.1 - j + 1) j dg g h_b h_d h_c z_fr.rf (by omega) (by omega) (fun t ht => by
          rw [hdg t ht]
          by_cases h1 : t < j
          · rw [if_pos h1, if_pos h1]
          · rw [if_neg h1]) (Nat.lt_succ_self _) _ _ _ hS (lv_sub hl [1, 2, 0] rfl)
    · have i_2 := z_nlt c_2
      rw [nI_toInt (by omega)] at i_2
      rw [nI_toInt (by omega)] at i_2
      exfalso; omega

theorem in_X0_moveToFront_0 : ∀ w ∈ wsX00, w ∈ wsX0_moveToFront := by decide +kernel
set_option maxHeartbeats 4000000 in
set_option maxRecDepth 100000 in
theorem k_moveToFront (Z : zT) (g : Nat → va_E) (k : Nat) (b : zb) (hB : z_b0 Z g k b) (j : Nat) (hj : j < b.2.2.1) : z_Mv Z yX0_moveToFront wsX0_moveToFront 3 67 [.ref (Z.2.1 k), .int (nI j)] g (fun g1 => z_bs Z g1 k (b.1, b.2.1, b.2.2.1, fun i => if i = 0 then b.2.2.2 j else if i ≤ j then b.2.2.2 (i - 1) else b.2.2.2 i) ∧ z_fr k 3 g g1) := by
  intro l sz
  obtain ⟨pb, qb, res, cmp, dg, ch, h_b, h_d, h_c, hkN, hok, hp, hq, hres, hdg⟩ := id hB
  have hk0 : k < Z.1 := by omega
  have hk1 : k + 1 < Z.1 := by omega
  have hk2 : k + 2 < Z.1 := by omega
  have hPb := zP_bd hok
  have hn12 := hok.2.2.2.1
  have hq1 := hok.2.1
  refine z_enter (maxL := 4) (ret := none) (lv := [(0, .ref (Z.2.1 k)), (1, .int (nI j))]) (plainFor_of_name (by decide +kernel)) rfl (fun ls h => by subst h; exact lv_entry [.ref (Z.2.1 k), .int (nI j)] (n := 4) (Nat.le_of_ble_eq_true rfl)) ?_
  intro p e s m args below meth c hx hb hml hr hlocks hown hts hK hS hsz ls hl
  refine lv_iload_n hx hb dX0_moveToFront_0 rfl (lv_at hl 1 rfl) ?_
  refine lv_if_lt (tgt := 13) hx hb dX0_moveToFront_1 (by decide) (fun c_1 => ?_) (fun c_1 => ?_)
  · have i_1 := z_lt c_1
    rw [nI_toInt (by omega)] at i_1
    rw [tI_0] at i_1
    exfalso; omega
  · have i_1 := z_nlt c_1
    rw [nI_toInt (by omega)] at i_1
    rw [tI_0] at i_1
    refine lv_iload_n hx hb dX0_moveToFront_4 rfl (lv_at hl 1 rfl) ?_
    refine lv_aload_n hx hb dX0_moveToFront_5 rfl (lv_at hl 0 rfl) ?_
    refine z_get (own := RX0) (C := RX0) (T := TX0) (N := 7) hx hb hts in_X0_moveToFront_0 hown hK hS h_b hk0 rfl 5 (by decide) (List.mem_of_getElem? (i := 1) rfl) rfl rfl dX0_moveToFront_6 ?_
    refine z_alen (v := 12) hx hb hK hS 0 h_d hk1 rfl rfl dX0_moveToFront_9 ?_
    refine lv_icmp_lt (tgt := 14) hx hb dX0_moveToFront_10 (by decide) (fun c_2 => ?_) (fun c_2 => ?_)
    · have i_2 := z_lt c_2
      rw [nI_toInt (by omega)] at i_2
      rw [tI_12] at i_2
      refine lv_aload_n hx hb dX0_moveToFront_14 rfl (lv_at hl 0 rfl) ?_
      refine z_get (own := RX0) (C := RX0) (T := TX0) (N := 7) hx hb hts in_X0_moveToFront_0 hown hK hS h_b hk0 rfl 5 (by decide) (List.mem_of_getElem? (i := 1) rfl) rfl rfl dX0_moveToFront_15 ?_
      refine lv_iload_n hx hb dX0_moveToFront_18 rfl (lv_at hl 1 rfl) ?_
      refine z_iald hx hb hK hS h_d hk1 (vp_in_nI (by omega) (by omega)) dX0_moveToFront_19 ?_
      rw [show dg (nI j).toNatClampNeg = dg j from by rw [nI_clamp (by omega)]]
      refine lv_topi (fun mv emv => ?_)
      refine lv_istore_n (lv' := [(2, .int mv), (0, .ref (Z.2.1 k)), (1, .int (nI j))]) hx hb dX0_moveToFront_20 rfl hl (by decide) rfl (fun ls hl => ?_)
      refine lv_iload_n hx hb dX0_moveToFront_21 rfl (lv_at hl 2 rfl) ?_
      refine lv_istore_n (lv' := [(3, .int (nI j)), (2, .int mv), (0, .ref (Z.2.1 k)), (1, .int (nI j))]) hx hb dX0_moveToFront_22 rfl hl (by decide) rfl (fun ls hl => ?_)
      have hcut_23 : ∀ (nn_23 : Nat) (i : Nat) (dv : Nat → Int32) (ga : Nat → va_E) (h_b : ga k = .inr (0, [.int pb, .int qb, .int res, .int (nI b.2.2.1), .int cmp, .ref (Z.2.1 (k + 1)), .ref (Z.2.1 (k + 2))])) (h_d : ga (k + 1) = .inl (Z.2.2.2 0, 12, .inl dv)) (h_c : ga (k + 2) = .inl (Z.2.2.2 0, 10, .inl ch)) (hfr_ga : z_fr k 3 g ga) (hij : i ≤ j) (hdv : ∀ t, t < b.2.2.1 → (dv t).toInt = if i < t ∧ t ≤ j then b.2.2.2 (t - 1) else b.2.2.2 t) (hm_23 : i < nn_23) (H : Heap) (locs : List Loc) (ls : Array Slot), z_S Z (z_A Z sz) s.heap ga H locs → lv_has ls 4 [(0, .ref (Z.2.1 k)), (1, .int (nI j)), (2, .int mv), (3, .int (nI i))] → W p l e (headSpec wsX0_moveToFront (z_rm 3 67)).room s m args below meth c H locs 0 0 (MQ below (va_Qv (fun g1 => z_bs Z g1 k (b.1, b.2.1, b.2.2.1, fun i => if i = 0 then b.2.2.2 j else if i ≤ j then b.2.2.2 (i - 1) else b.2.2.2 i) ∧ z_fr k 3 g g1) (z_B Z) (z_A Z sz)) args s 0 0 (z_A Z sz)) (F0 m 23 ls []) := by
        intro nn_23
        induction nn_23 with
        | zero => intro i dv ga h_b h_d h_c hfr_ga hij hdv hm_23 H locs ls hS hl; exact absurd hm_23 (Nat.not_lt_zero _)
        | succ nn_23 ih_23 =>
          intro i dv ga h_b h_d h_c hfr_ga hij hdv hm_23 H locs ls hS hl
          refine lv_iload_n hx hb dX0_moveToFront_23 rfl (lv_at hl 3 rfl) ?_
          refine lv_if_le (tgt := 47) hx hb dX0_moveToFront_24 (by decide) (fun c_3 => ?_) (fun c_3 => ?_)
          · have i_3 := z_le c_3
            rw [nI_toInt (by omega)] at i_3
            rw [tI_0] at i_3
            have hi0 : i = 0 := by omega
            subst hi0
            refine lv_aload_n hx hb dX0_moveToFront_47 rfl (lv_at hl 0 rfl) ?_
            refine z_get (own := RX0) (C := RX0) (T := TX0) (N := 7) hx hb hts in_X0_moveToFront_0 hown hK hS h_b hk0 rfl 5 (by decide) (List.mem_of_getElem? (i := 1) rfl) rfl rfl dX0_moveToFront_48 ?_
            refine lv_iconst (v := 0) hx hb dX0_moveToFront_51 (by decide) ?_
            refine lv_iload_n hx hb dX0_moveToFront_52 rfl (lv_at hl 2 rfl) ?_
            refine z_iast hx hb hK hS h_d hk1 (vp_in_iff.mpr (by rw [tI_0]; omega)) dX0_moveToFront_53 (fun g_4 H locs hg_4 hS => ?_)
            have h_d : g_4 (k + 1) = .inl (Z.2.2.2 0, 12, .inl (upd dv (0 : Int32).toNatClampNeg mv)) := z_up_s hg_4
            have h_b := z_up_n hg_4 h_b (by omega)
            have h_c := z_up_n hg_4 h_c (by omega)
            refine lv_aload_n hx hb dX0_moveToFront_54 rfl (lv_at hl 0 rfl) ?_
            refine z_callv (z_runV (As := []) (rest := []) ⟨hx, hb, hml, hown, hts⟩ hK hS ((k_chooseAgain Z g_4 k (b.1, b.2.1, b.2.2.1, fun i => if i = 0 then b.2.2.2 j else if i ≤ j then b.2.2.2 (i - 1) else b.2.2.2 i) ⟨pb, qb, res, _, _, _, h_b, h_d, h_c, hkN, ⟨hok.1, hok.2.1, hok.2.2.1, hok.2.2.2.1, fun t ht => by
              simp only at ht ⊢
              split
              · exact hok.2.2.2.2 j (by omega)
              · split
                · exact hok.2.2.2.2 (t - 1) (by omega)
                · exact hok.2.2.2.2 t (by omega)⟩, hp, hq, hres, fun t ht => by
              simp only at ht ⊢
              by_cases h0 : t = 0
              · subst h0; rw [if_pos rfl]; show (upd dv 0 mv 0).toInt = _; rw [pk_us, emv]; exact hdg j (by omega)
              · rw [if_neg h0]; show (upd dv 0 mv t).toInt = _; rw [pk_un h0, hdv t (by omega)]
                by_cases h1 : t ≤ j
                · rw [if_pos (by omega), if_pos h1]
                · rw [if_neg (by omega), if_neg h1]⟩) l _) gX0_moveToFront_X0_chooseAgain rfl 0 (by decide +kernel) ⟨Nat.le_of_ble_eq_true rfl, Nat.le_of_ble_eq_true rfl⟩ h_b hk0 rfl rfl hl.1 rfl (Nat.le_of_ble_eq_true rfl) dX0_moveToFront_55 ⟨Nat.le_of_ble_eq_true rfl, Nat.le_of_ble_eq_true rfl⟩) hS (fun g_6 H locs hp_7 hS => ?_)
            refine z_vret hx hb hr hlocks hS ?_ dX0_moveToFront_58
            exact ⟨hp_7.1, ((hfr_ga.up hg_4 (by omega)).tr (hp_7.2.wide (by omega) (by omega)))⟩
          · have i_3 := z_nle c_3
            rw [nI_toInt (by omega)] at i_3
            rw [tI_0] at i_3
            obtain ⟨i0, rfl⟩ : ∃ i0, i = i0 + 1 := ⟨i - 1, by omega⟩
            refine lv_aload_n hx hb dX0_moveToFront_27 rfl (lv_at hl 0 rfl) ?_
            refine z_get (own := RX0) (C := RX0) (T := TX0) (N := 7) hx hb hts in_X0_moveToFront_0 hown hK hS h_b hk0 rfl 5 (by decide) (List.mem_of_getElem? (i := 1) rfl) rfl rfl dX0_moveToFront_28 ?_
            refine lv_iload_n hx hb dX0_moveToFront_31 rfl (lv_at hl 3 rfl) ?_
            refine lv_aload_n hx hb dX0_moveToFront_32 rfl (lv_at hl 0 rfl) ?_
            refine z_get (own := RX0) (C := RX0) (T := TX0) (N := 7) hx hb hts in_X0_moveToFront_0 hown hK hS h_b hk0 rfl 5 (by decide) (List.mem_of_getElem? (i := 1) rfl) rfl rfl dX0_moveToFront_33 ?_
            refine lv_iload_n hx hb dX0_moveToFront_36 rfl (lv_at hl 3 rfl) ?_
            refine lv_iconst (v := 1) hx hb dX0_moveToFront_37 (by decide) ?_
            refine lv_isub hx hb dX0_moveToFront_38 ?_
            rw [show (nI (i0 + 1)) - 1 = nI i0 from nI_pred _]
            refine z_iald hx hb hK hS h_d hk1 (vp_in_nI (by omega) (by omega)) dX0_moveToFront_39 ?_
            refine z_iast hx hb hK hS h_d hk1 (vp_in_nI (by omega) (by omega)) dX0_moveToFront_40 (fun g_8 H locs hg_8 hS => ?_)
            have h_d : g_8 (k + 1) = .inl (Z.2.2.2 0, 12, .inl (upd dv (nI (i0 + 1)).toNatClampNeg (dv (nI i0).toNatClampNeg))) := z_up_s hg_8
            have h_b := z_up_n hg_8 h_b (by omega)
            have h_c := z_up_n hg_8 h_c (by omega)
            refine lv_iinc (v := (nI i0)) (lv' := [(3, .int (nI i0)), (0, .ref (Z.2.1 k)), (1, .int (nI j)), (2, .int mv)]) hx hb dX0_moveToFront_41 hl (k := 3) rfl (pk_m1 _) (by decide) rfl (fun ls hl => ?_)
            refine lv_goto (tgt := 23) hx hb dX0_moveToFront_44 (by decide) ?_
            exact ih_23 i0 (upd dv (nI (i0 + 1)).toNatClampNeg (dv (nI i0).toNatClampNeg)) g_8 h_b h_d h_c (hfr_ga.up hg_8 (by omega)) (by omega) (fun t ht => by
                rw [nI_clamp (by omega), nI_clamp (by omega)]
                by_cases h1 : t = i0 + 1
                · subst h1; rw [pk_us, if_pos (by omega), hdv _ (by omega), if_neg (by omega)]; rfl
                · rw [pk_un h1, hdv t ht]
                  by_cases h2 : i0 + 1 < t ∧ t ≤ j
                  · rw [if_pos h2, if_pos (by omega)]
                  · rw [if_neg h2, if_neg (by omega)]) (by omega) _ _ _ hS (lv_sub hl [1, 2, 3, 0] rfl)
      exact hcut_23 (j + 1) j dg g h_b h_d h_c z_fr.rf (by omega) (fun t ht => by rw [hdg t ht, if_neg (by omega)]) (Nat.lt_succ_self _) _ _ _ hS (lv_sub hl [2, 3, 1, 0] rfl)
    · have i_2 := z_nlt c_2
      rw [nI_toInt (by omega)] at i_2
      rw [tI_12] at i_2
      exfalso; omega

theorem in_X0_become_0 : ∀ w ∈ wsX00, w ∈ wsX0_become := by decide +kernel
set_option maxHeartbeats 4000000 in
set_option maxRecDepth 100000 in
theorem k_become (Z : zT)  (g : Nat → va_E) (k : Nat) (x y v1 v2 v3 v4 v5 : Int32) (dg ch : Nat → Int32) (h_b : g k = .inr (0, [.int v1, .int v2, .int v3, .int v4, .int v5, .ref (Z.2.1 (k + 1)), .ref (Z.2.1 (k + 2))])) (h_d : g (k + 1) = .inl (Z.2.2.2 0, 12, .inl dg)) (h_c : g (k + 2) = .inl (Z.2.2.2 0, 10, .inl ch)) (hkN : k + 2 < Z.1) (hx3 : (2 ≤ x.toInt ∧ x.toInt ≤ 10) ∨ (-10 ≤ x.toInt ∧ x.toInt ≤ -2)) (n : Nat) (hn : (n : Int) = if x.toInt < 0 then -x.toInt else x.toInt) (hy3 : 1 ≤ y.toInt ∧ y.toInt < n) : z_Mv Z yX0_become wsX0_become 3 67 [.ref (Z.2.1 k), .int x, .int y] g (fun g1 => z_bs Z g1 k (x.toInt, y.toInt, n, fun i => (i : Int)) ∧ z_fr k 3 g g1) := by
  intro l sz
  have hk0 : k < Z.1 := by omega
  have hk1 : k + 1 < Z.1 := by omega
  have hk2 : k + 2 < Z.1 := by omega
  have hn10 : 2 ≤ n ∧ n ≤ 10 := by split at hn <;> omega
  refine z_enter (maxL := 4) (ret := none) (lv := [(0, .ref (Z.2.1 k)), (1, .int x), (2, .int y)]) (plainFor_of_name (by decide +kernel)) rfl (fun ls h => by subst h; exact lv_entry [.ref (Z.2.1 k), .int x, .int y] (n := 4) (Nat.le_of_ble_eq_true rfl)) ?_
  intro p e s m args below meth c hx hb hml hr hlocks hown hts hK hS hsz ls hl
  refine lv_aload_n hx hb dX0_become_0 rfl (lv_at hl 0 rfl) ?_
  refine lv_iload_n hx hb dX0_become_1 rfl (lv_at hl 1 rfl) ?_
  refine z_put (fs' := [.int x, .int v2, .int v3, .int v4, .int v5, .ref (Z.2.1 (k + 1)), .ref (Z.2.1 (k + 2))]) (own := RX0) (C := RX0) (T := TX0) (N := 7) hx hb hts in_X0_become_0 tyX0 tyX0_ok nmX0 hown hK hS h_b hk0 rfl 0 (by decide) (List.mem_of_getElem? (i := 1) rfl) rfl rfl rfl rfl (Nat.le_of_ble_eq_true rfl) rfl dX0_become_2 (fun g_1 H locs hg_1 hS => ?_)
  have h_b : g_1 k = .inr (0, [.int x, .int v2, .int v3, .int v4, .int v5, .ref (Z.2.1 (k + 1)), .ref (Z.2.1 (k + 2))]) := z_up_s hg_1
  have h_d := z_up_n hg_1 h_d (by omega)
  have h_c := z_up_n hg_1 h_c (by omega)
  refine lv_aload_n hx hb dX0_become_5 rfl (lv_at hl 0 rfl) ?_
  refine lv_iload_n hx hb dX0_become_6 rfl (lv_at hl 2 rfl) ?_
  refine z_put (fs' := [.int x, .int y, .int v3, .int v4, .int v5, .ref (Z.2.1 (k + 1)), .ref (Z.2.1 (k + 2))]) (own := RX0) (C := RX0) (T := TX0) (N := 7) hx hb hts in_X0_become_0 tyX0 tyX0_ok nmX0 hown hK hS h_b hk0 rfl 1 (by decide) (List.mem_of_getElem? (i := 2) rfl) rfl rfl rfl rfl (Nat.le_of_ble_eq_true rfl) rfl dX0_become_7 (fun g_2 H locs hg_2 hS => ?_)
  have h_b : g_2 k = .inr (0, [.int x, .int y, .int v3, .int v4, .int v5, .ref (Z.2.1 (k + 1)), .ref (Z.2.1 (k + 2))]) := z_up_s hg_2
  have h_d := z_up_n hg_2 h_d (by omega)
  have h_c := z_up_n hg_2 h_c (by omega)
  refine lv_aload_n hx hb dX0_become_10 rfl (lv_at hl 0 rfl) ?_
  refine lv_iload_n hx hb dX0_become_11 rfl (lv_at hl 1 rfl) ?_
  refine va_mabs hx hb (hml.trans hl.1.symm) hown (hts _ (List.mem_of_getElem? (i := 3) rfl)) (hts _ (List.mem_of_getElem? (i := 4) rfl)) (hts _ (List.mem_of_getElem? (i := 5) rfl)) (hts _ (List.mem_of_getElem? (i := 6) rfl)) (Nat.le_of_ble_eq_true rfl) (Nat.le_of_ble_eq_true rfl) (Nat.le_of_ble_eq_true rfl) (Nat.le_of_ble_eq_true rfl) dX0_become_12 ?_
  rw [show (if 0 ≤ x then x else 0 - x) = nI n from (by
    apply z_inj
    rw [nI_toInt (by omega)]
    by_cases h0 : 0 ≤ x
    · have := z_le h0; rw [tI_0] at this; rw [if_pos h0, hn, if_neg (by omega)]
    · have := z_nle h0; rw [tI_0] at this; rw [if_neg h0, hn, if_pos this, fb_subI (by rw [tI_0]; omega) (by rw [tI_0]; omega), tI_0]; omega)]
  refine z_put (fs' := [.int x, .int y, .int (nI n), .int v4, .int v5, .ref (Z.2.1 (k + 1)), .ref (Z.2.1 (k + 2))]) (own := RX0) (C := RX0) (T := TX0) (N := 7) hx hb hts in_X0_become_0 tyX0 tyX0_ok nmX0 hown hK hS h_b hk0 rfl 2 (by decide) (List.mem_of_getElem? (i := 7) rfl) rfl rfl rfl rfl (Nat.le_of_ble_eq_true rfl) rfl dX0_become_15 (fun g_3 H locs hg_3 hS => ?_)
  have h_b : g_3 k = .inr (0, [.int x, .int y, .int (nI n), .int v4, .int v5, .ref (Z.2.1 (k + 1)), .ref (Z.2.1 (k + 2))]) := z_up_s hg_3
  have h_d := z_up_n hg_3 h_d (by omega)
  have h_c := z_up_n hg_3 h_c (by omega)
  refine lv_aload_n hx hb dX0_become_18 rfl (lv_at hl 0 rfl) ?_
  refine lv_aload_n hx hb dX0_become_19 rfl (lv_at hl 0 rfl) ?_
  refine z_get (own := RX0) (C := RX0) (T := TX0) (N := 7) hx hb hts in_X0_become_0 hown hK hS h_b hk0 rfl 2 (by decide) (List.mem_of_getElem? (i := 7) rfl) rfl rfl dX0_become_20 ?_
  refine z_put (fs' := [.int x, .int y, .int (nI n), .int (nI n), .int v5, .ref (Z.2.1 (k + 1)), .ref (Z.2.1 (k + 2))]) (own := RX0) (C := RX0) (T := TX0) (N := 7) hx hb hts in_X0_become_0 tyX0 tyX0_ok nmX0 hown hK hS h_b hk0 rfl 3 (by decide) (List.mem_of_getElem? (i := 8) rfl) rfl rfl rfl rfl (Nat.le_of_ble_eq_true rfl) rfl dX0_become_23 (fun g_4 H locs hg_4 hS => ?_)
  have h_b : g_4 k = .inr (0, [.int x, .int y, .int (nI n), .int (nI n), .int v5, .ref (Z.2.1 (k + 1)), .ref (Z.2.1 (k + 2))]) := z_up_s hg_4
  have h_d := z_up_n hg_4 h_d (by omega)
  have h_c := z_up_n hg_4 h_c (by omega)
  refine lv_iconst (v := 0) hx hb dX0_become_26 (by decide) ?_
  refine lv_istore_n (lv' := [(3, .int 0), (0, .ref (Z.2.1 k)), (1, .int x), (2, .int y)]) hx hb dX0_become_27 rfl hl (by decide) rfl (fun ls hl => ?_)
  have hcut_28 : ∀ (nn_28 : Nat) (i : Nat) (dv : Nat → Int32) (ga : Nat → va_E) (h_b : ga k = .inr (0, [.int x, .int y, .int (nI n), .int (nI n), .int v5, .ref (Z.2.1 (k + 1)), .ref (Z.2.1 (k + 2))])) (h_d : ga (k + 1) = .inl (Z.2.2.2 0, 12, .inl dv)) (h_c : ga (k + 2) = .inl (Z.2.2.2 0, 10, .inl ch)) (hfr_ga : z_fr k 3 g ga) (hin : i ≤ n) (hdv : ∀ t, t < i → (dv t).toInt = (t : Int)) (hm_28 : n - i < nn_28) (H : Heap) (locs : List Loc) (ls : Array Slot), z_S Z (z_A Z sz) s.heap ga H locs → lv_has ls 4 [(0, .ref (Z.2.1 k)), (1, .int x), (2, .int y), (3, .int (nI i))] → W p l e (headSpec wsX0_become (z_rm 3 67)).room s m args below meth c H locs 0 0 (MQ below (va_Qv (fun g1 => z_bs Z g1 k (x.toInt, y.toInt, n, fun i => (i : Int)) ∧ z_fr k 3 g g1) (z_B Z) (z_A Z sz)) args s 0 0 (z_A Z sz)) (F0 m 28 ls []) := by
    intro nn_28
    induction nn_28 with
    | zero => intro i dv ga h_b h_d h_c hfr_ga hin hdv hm_28 H locs ls hS hl; exact absurd hm_28 (Nat.not_lt_zero _)
    | succ nn_28 ih_28 =>
      intro i dv ga h_b h_d h_c hfr_ga hin hdv hm_28 H locs ls hS hl
      refine lv_iload_n hx hb dX0_become_28 rfl (lv_at hl 3 rfl) ?_
      refine lv_aload_n hx hb dX0_become_29 rfl (lv_at hl 0 rfl) ?_
      refine z_get (own := RX0) (C := RX0) (T := TX0) (N := 7) hx hb hts in_X0_become_0 hown hK hS h_b hk0 rfl 3 (by decide) (List.mem_of_getElem? (i := 8) rfl) rfl rfl dX0_become_30 ?_
      refine lv_icmp_ge (tgt := 58) hx hb dX0_become_33 (by decide) (fun c_5 => ?_) (fun c_5 => ?_)
      · have i_5 := z_le c_5
        rw [nI_toInt (by omega)] at i_5
        rw [nI_toInt (by omega)] at i_5
        have hin2 : i = n := by omega
        subst hin2
        refine lv_aload_n hx hb dX0_become_58 rfl (lv_at hl 0 rfl) ?_
        refine z_callv (z_runV (As := []) (rest := []) ⟨hx, hb, hml, hown, hts⟩ hK hS ((k_chooseAgain Z ga k (x.toInt, y.toInt, i, fun t => (t : Int)) ⟨x, y, _, _, _, _, h_b, h_d, h_c, hkN, ⟨hx3, hy3.1, (by show y.toInt < if x.toInt < 0 then -x.toInt else x.toInt; omega), (by show i ≤ 12; omega), fun t ht => by simp only at ht ⊢; omega⟩, rfl, rfl, (by rw [nI_toInt (by omega), hn]; rfl), fun t ht => hdv t ht⟩) l _) gX0_become_X0_chooseAgain rfl 0 (by decide +kernel) ⟨Nat.le_of_ble_eq_true rfl, Nat.le_of_ble_eq_true rfl⟩ h_b hk0 rfl rfl hl.1 rfl (Nat.le_of_ble_eq_true rfl) dX0_become_59 ⟨Nat.le_of_ble_eq_true rfl, Nat.le_of_ble_eq_true rfl⟩) hS (fun g_7 H locs hp_8 hS => ?_)
        refine z_vret hx hb hr hlocks hS ?_ dX0_become_62
        exact ⟨hp_8.1, (hfr_ga.tr (hp_8.2.wide (by omega) (by omega)))⟩
      · have i_5 := z_nle c_5
        rw [nI_toInt (by omega)] at i_5
        rw [nI_toInt (by omega)] at i_5
        refine lv_iload_n hx hb dX0_become_36 rfl (lv_at hl 3 rfl) ?_
        refine lv_aload_n hx hb dX0_become_37 rfl (lv_at hl 0 rfl) ?_
        refine z_get (own := RX0) (C := RX0) (T := TX0) (N := 7) hx hb hts in_X0_become_0 hown hK hS h_b hk0 rfl 5 (by decide) (List.mem_of_getElem? (i := 9) rfl) rfl rfl dX0_become_38 ?_
        refine z_alen (v := 12) hx hb hK hS 0 h_d hk1 rfl rfl dX0_become_41 ?_
        refine lv_icmp_ge (tgt := 58) hx hb dX0_become_42 (by decide) (fun c_9 => ?_) (fun c_9 => ?_)
        · have i_9 := z_le c_9
          rw [nI_toInt (by omega)] at i_9
          rw [tI_12] at i_9
          exfalso; omega
        · have i_9 := z_nle c_9
          rw [nI_toInt (by omega)] at i_9
          rw [tI_12] at i_9
          refine lv_aload_n hx hb dX0_become_45 rfl (lv_at hl 0 rfl) ?_
          refine z_get (own := RX0) (C := RX0) (T := TX0) (N := 7) hx hb hts in_X0_become_0 hown hK hS h_b hk0 rfl 5 (by decide) (List.mem_of_getElem? (i := 9) rfl) rfl rfl dX0_become_46 ?_
          refine lv_iload_n hx hb dX0_become_49 rfl (lv_at hl 3 rfl) ?_
          refine lv_iload_n hx hb dX0_become_50 rfl (lv_at hl 3 rfl) ?_
          refine z_iast hx hb hK hS h_d hk1 (vp_in_nI (by omega) (by omega)) dX0_become_51 (fun g_10 H locs hg_10 hS => ?_)
          have h_d : g_10 (k + 1) = .inl (Z.2.2.2 0, 12, .inl (upd dv (nI i).toNatClampNeg (nI i))) := z_up_s hg_10
          have h_b := z_up_n hg_10 h_b (by omega)
          have h_c := z_up_n hg_10 h_c (by omega)
          refine lv_iinc (v := (nI (i + 1))) (lv' := [(3, .int (nI (i + 1))), (0, .ref (Z.2.1 k)), (1, .int x), (2, .int y)]) hx hb dX0_become_52 hl (k := 3) rfl (nI_1 _) (by decide) rfl (fun ls hl => ?_)
          refine lv_goto (tgt := 28) hx hb dX0_become_55 (by decide) ?_
          exact ih_28 (i + 1) (upd dv (nI i).toNatClampNeg (nI i)) g_10 h_b h_d h_c (hfr_ga.up hg_10 (by omega)) (by omega) (fun t ht => by
              rw [nI_clamp (by omega)]
              by_cases h1 : t = i
              · subst h1; rw [pk_us, nI_toInt (by omega)]
              · rw [pk_un h1]; exact hdv t (by omega)) (by omega) _ _ _ hS (lv_sub hl [1, 2, 3, 0] rfl)
  exact hcut_28 (n - 0 + 1) 0 dg g_4 h_b h_d h_c ((((z_fr.rf.up hg_1 (by omega)).up hg_2 (by omega)).up hg_3 (by omega)).up hg_4 (by omega)) (by omega) (fun t ht => absurd ht (Nat.not_lt_zero t)) (Nat.lt_succ_self _) _ _ _ hS (lv_sub hl [1, 2, 3, 0] rfl)

