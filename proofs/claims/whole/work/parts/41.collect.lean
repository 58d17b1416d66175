theorem in_X1_collect_1 : ∀ w ∈ wsX10, w ∈ wsX1_collect := by decide +kernel
set_option maxHeartbeats 4000000 in
set_option maxRecDepth 100000 in
theorem k_collect (Z : zT) (g : Nat → va_E) (k kb : Nat) (b : zb) (l0 : List Int) (hC : z_cs Z g k kb l0) (hB : z_b1 Z g kb b) (hcm : zcm b) : z_Mv Z yX1_collect wsX1_collect 4 90 [.ref (Z.2.1 k)] g (fun g1 => ∃ l2, z_cs Z g1 k kb l2 ∧ (∀ y, y ∈ l2 ↔ zcs b y) ∧ z_fr k 3 g g1) := by
  intro l sz
  obtain ⟨pb, qb, res, cmp, dg, ch, ⟨h_b, h_d, h_c, hkN, hok, hp, hq, hres, hdg⟩, hch⟩ := id hB
  have hk0 : kb < Z.1 := by omega
  have hk1 : kb + 1 < Z.1 := by omega
  have hk2 : kb + 2 < Z.1 := by omega
  have hn12 := hok.2.2.2.1
  obtain ⟨fd, sn, h_k, h_f, h_s, hkM, hsep, hfd, hsn, hlen, hbd⟩ := id hC
  have hkk : k < Z.1 := by omega
  have hkk1 : k + 1 < Z.1 := by omega
  have hkk2 : k + 2 < Z.1 := by omega
  have hl121 : l0.length ≤ 121 := by rw [hlen]; exact zct_le _ _
  refine z_enter (maxL := 2) (ret := none) (lv := [(0, .ref (Z.2.1 k))]) (plainFor_of_name (by decide +kernel)) rfl (fun ls h => by subst h; exact lv_entry [.ref (Z.2.1 k)] (n := 2) (Nat.le_of_ble_eq_true rfl)) ?_
  intro p e s m args below meth c hx hb hml hr hlocks hown hts hK hS hsz ls hl
  refine lv_aload_n hx hb dX1_collect_0 rfl (lv_at hl 0 rfl) ?_
  refine lv_iconst (v := 0) hx hb dX1_collect_1 (by decide) ?_
  refine z_put (fs' := [.ref (Z.2.1 kb), .ref (Z.2.1 (k + 1)), .ref (Z.2.1 (k + 2)), .int 0]) (own := RX1) (C := RX1) (T := TX1) (N := 4) hx hb hts in_X1_collect_1 tyX1 tyX1_ok nmX1 hown hK hS h_k hkk rfl 3 (by decide) (List.mem_of_getElem? (i := 1) rfl) rfl rfl rfl rfl (Nat.le_of_ble_eq_true rfl) rfl dX1_collect_2 (fun g_1 H locs hg_1 hS => ?_)
  have h_k : g_1 k = .inr (1, [.ref (Z.2.1 kb), .ref (Z.2.1 (k + 1)), .ref (Z.2.1 (k + 2)), .int 0]) := z_up_s hg_1
  have h_b := z_up_n hg_1 h_b (by omega)
  have h_d := z_up_n hg_1 h_d (by omega)
  have h_c := z_up_n hg_1 h_c (by omega)
  have h_f := z_up_n hg_1 h_f (by omega)
  have h_s := z_up_n hg_1 h_s (by omega)
  refine lv_iconst (v := 0) hx hb dX1_collect_5 (by decide) ?_
  refine lv_istore_n (lv' := [(1, .int 0), (0, .ref (Z.2.1 k))]) hx hb dX1_collect_6 rfl hl (by decide) rfl (fun ls hl => ?_)
  have hcut_7 : ∀ (nn_7 : Nat) (j : Nat) (sv : Nat → Int32) (ga : Nat → va_E) (h_b : ga kb = .inr (0, [.int pb, .int qb, .int res, .int (nI b.2.2.1), .int cmp, .ref (Z.2.1 (kb + 1)), .ref (Z.2.1 (kb + 2))])) (h_d : ga (kb + 1) = .inl (Z.2.2.2 0, 12, .inl dg)) (h_c : ga (kb + 2) = .inl (Z.2.2.2 0, 10, .inl ch)) (h_k : ga k = .inr (1, [.ref (Z.2.1 kb), .ref (Z.2.1 (k + 1)), .ref (Z.2.1 (k + 2)), .int 0])) (h_f : ga (k + 1) = .inl (Z.2.2.2 0, 121, .inl fd)) (h_s : ga (k + 2) = .inl (Z.2.2.2 2, 121, .inl sv)) (hfr_ga : z_fr k 3 g ga) (hj : j ≤ 121) (hsv : ∀ t, t < j → sv t = 0) (hm_7 : 121 - j < nn_7) (H : Heap) (locs : List Loc) (ls : Array Slot), z_S Z (z_A Z sz) s.heap ga H locs → lv_has ls 2 [(0, .ref (Z.2.1 k)), (1, .int (nI j))] → W p l e (headSpec wsX1_collect (z_rm 4 90)).room s m args below meth c H locs 0 0 (MQ below (va_Qv (fun g1 => ∃ l2, z_cs Z g1 k kb l2 ∧ (∀ y, y ∈ l2 ↔ zcs b y) ∧ z_fr k 3 g g1) (z_B Z) (z_A Z sz)) args s 0 0 (z_A Z sz)) (F0 m 7 ls []) := by
    intro nn_7
    induction nn_7 with
    | zero => intro j sv ga h_b h_d h_c h_k h_f h_s hfr_ga hj hsv hm_7 H locs ls hS hl; exact absurd hm_7 (Nat.not_lt_zero _)
    | succ nn_7 ih_7 =>
      intro j sv ga h_b h_d h_c h_k h_f h_s hfr_ga hj hsv hm_7 H locs ls hS hl
      refine lv_iload_n hx hb dX1_collect_7 rfl (lv_at hl 1 rfl) ?_
      refine lv_aload_n hx hb dX1_collect_8 rfl (lv_at hl 0 rfl) ?_
      refine z_get (own := RX1) (C := RX1) (T := TX1) (N := 4) hx hb hts in_X1_collect_1 hown hK hS h_k hkk rfl 2 (by decide) (List.mem_of_getElem? (i := 2) rfl) rfl rfl dX1_collect_9 ?_
      refine z_alen (v := 121) hx hb hK hS 2 h_s hkk2 rfl rfl dX1_collect_12 ?_
      refine lv_icmp_ge (tgt := 29) hx hb dX1_collect_13 (by decide) (fun c_2 => ?_) (fun c_2 => ?_)
      · have i_2 := z_le c_2
        rw [nI_toInt (by omega)] at i_2
        rw [tI_121] at i_2
        have hj121 : j = 121 := by omega
        subst hj121
        refine lv_aload_n hx hb dX1_collect_29 rfl (lv_at hl 0 rfl) ?_
        refine lv_iconst (v := 0) hx hb dX1_collect_30 (by decide) ?_
        have hz0 : ([] : List Int).length = zcnt [] := (zct_false 0 (j := 121) (fun t h1 h2 => decide_eq_false List.not_mem_nil)).symm
        refine z_callv (z_runV (As := [.int 0]) (rest := []) ⟨hx, hb, hml, hown, hts⟩ hK hS ((k_note Z ga k kb b [] ⟨fd, sv, h_k, h_f, h_s, hkM, hsep, fun i hi => absurd hi (Nat.not_lt_zero i), fun t ht => Or.inr ⟨List.not_mem_nil, hsv t ht⟩, hz0, fun x hx9 => absurd hx9 List.not_mem_nil⟩ 0 (by rw [tI_0]; omega)) l _) gX1_collect_X1_note rfl 1 (by decide +kernel) ⟨Nat.le_of_ble_eq_true rfl, Nat.le_of_ble_eq_true rfl⟩ h_k hkk rfl rfl hl.1 rfl (Nat.le_of_ble_eq_true rfl) dX1_collect_31 ⟨Nat.le_of_ble_eq_true rfl, Nat.le_of_ble_eq_true rfl⟩) hS (fun g_4 H locs hp_5 hS => ?_)
        obtain ⟨la0, hla0, hex0, hmem0, hfr_6⟩ := hp_5
        have h_b := (hfr_6 _ (by omega)).trans h_b
        have h_d := (hfr_6 _ (by omega)).trans h_d
        have h_c := (hfr_6 _ (by omega)).trans h_c
        obtain ⟨fd9, sn9, h_k, -⟩ := id hla0
        rw [tI_0] at hex0 hmem0
        refine lv_iconst (v := 0) hx hb dX1_collect_34 (by decide) ?_
        refine lv_istore_n (lv' := [(1, .int 0), (0, .ref (Z.2.1 k))]) hx hb dX1_collect_35 rfl hl (by decide) rfl (fun ls hl => ?_)
        have hcut_36 : ∀ (nn_36 : Nat) (i1 : Nat) (l1 : List Int) (gb : Nat → va_E) (h_b : gb kb = .inr (0, [.int pb, .int qb, .int res, .int (nI b.2.2.1), .int cmp, .ref (Z.2.1 (kb + 1)), .ref (Z.2.1 (kb + 2))])) (h_d : gb (kb + 1) = .inl (Z.2.2.2 0, 12, .inl dg)) (h_c : gb (kb + 2) = .inl (Z.2.2.2 0, 10, .inl ch)) (h_k : gb k = .inr (1, [.ref (Z.2.1 kb), .ref (Z.2.1 (k + 1)), .ref (Z.2.1 (k + 2)), .int (nI l1.length)])) (hfr_gb : z_fr k 3 g gb) (hi_i1 : i1 ≤ l1.length) (hl1 : z_cs Z gb k kb l1) (hb_i1 : ∀ y, (fun y => y = 0) y → y ∈ l1) (hs_i1 : ∀ y, y ∈ l1 → zcl (zs2 b) (fun y => y = 0) y) (hc_i1 : ∀ t (h1 : t < i1) (h2 : t < l1.length) y, zs2 b l1[t] y → y ∈ l1) (hm_36 : 122 - i1 < nn_36) (H : Heap) (locs : List Loc) (ls : Array Slot), z_S Z (z_A Z sz) s.heap gb H locs → lv_has ls 2 [(0, .ref (Z.2.1 k)), (1, .int (nI i1))] → W p l e (headSpec wsX1_collect (z_rm 4 90)).room s m args below meth c H locs 0 0 (MQ below (va_Qv (fun g1 => ∃ l2, z_cs Z g1 k kb l2 ∧ (∀ y, y ∈ l2 ↔ zcs b y) ∧ z_fr k 3 g g1) (z_B Z) (z_A Z sz)) args s 0 0 (z_A Z sz)) (F0 m 36 ls []) := by
          intro nn_36
          induction nn_36 with
          | zero => intro i1 l1 gb h_b h_d h_c h_k hfr_gb hi_i1 hl1 hb_i1 hs_i1 hc_i1 hm_36 H locs ls hS hl; exact absurd hm_36 (Nat.not_lt_zero _)
          | succ nn_36 ih_36 =>
            intro i1 l1 gb h_b h_d h_c h_k hfr_gb hi_i1 hl1 hb_i1 hs_i1 hc_i1 hm_36 H locs ls hS hl
            obtain ⟨fd_i1, sn_i1, -, h_f, h_s, -, -, hfd_i1, hsn_i1, hlen_i1, hbd_i1⟩ := id hl1
            have hl121_i1 : l1.length ≤ 121 := by rw [hlen_i1]; exact zct_le _ _
            refine lv_iload_n hx hb dX1_collect_36 rfl (lv_at hl 1 rfl) ?_
            refine lv_aload_n hx hb dX1_collect_37 rfl (lv_at hl 0 rfl) ?_
            refine z_get (own := RX1) (C := RX1) (T := TX1) (N := 4) hx hb hts in_X1_collect_1 hown hK hS h_k hkk rfl 3 (by decide) (List.mem_of_getElem? (i := 1) rfl) rfl rfl dX1_collect_38 ?_
            refine lv_icmp_ge (tgt := 69) hx hb dX1_collect_41 (by decide) (fun c_7 => ?_) (fun c_7 => ?_)
            · have i_7 := z_le c_7
              rw [nI_toInt (by omega)] at i_7
              rw [nI_toInt (by omega)] at i_7
              have hm1 : ∀ y, y ∈ l1 ↔ zcl (zs2 b) (fun y => y = 0) y := zcl_same hb_i1 hs_i1 (fun x y hx9 hy => by
                obtain ⟨t, ht, rfl⟩ := List.getElem_of_mem hx9
                exact hc_i1 t (by omega) ht y hy)
              refine lv_iconst (v := 0) hx hb dX1_collect_69 (by decide) ?_
              refine lv_istore_n (lv' := [(1, .int 0), (0, .ref (Z.2.1 k))]) hx hb dX1_collect_70 rfl hl (by decide) rfl (fun ls hl => ?_)
              have hcut_71 : ∀ (nn_71 : Nat) (i2 : Nat) (l5 : List Int) (gd : Nat → va_E) (h_b : gd kb = .inr (0, [.int pb, .int qb, .int res, .int (nI b.2.2.1), .int cmp, .ref (Z.2.1 (kb + 1)), .ref (Z.2.1 (kb + 2))])) (h_d : gd (kb + 1) = .inl (Z.2.2.2 0, 12, .inl dg)) (h_c : gd (kb + 2) = .inl (Z.2.2.2 0, 10, .inl ch)) (h_k : gd k = .inr (1, [.ref (Z.2.1 kb), .ref (Z.2.1 (k + 1)), .ref (Z.2.1 (k + 2)), .int (nI l5.length)])) (hfr_gd : z_fr k 3 g gd) (hi_i2 : i2 ≤ l5.length) (hl5 : z_cs Z gd k kb l5) (hb_i2 : ∀ y, (zcl (zs2 b) (fun y => y = 0)) y → y ∈ l5) (hs_i2 : ∀ y, y ∈ l5 → zcl (zs1 b) (zcl (zs2 b) (fun y => y = 0)) y) (hc_i2 : ∀ t (h1 : t < i2) (h2 : t < l5.length) y, zs1 b l5[t] y → y ∈ l5) (hm_71 : 122 - i2 < nn_71) (H : Heap) (locs : List Loc) (ls : Array Slot), z_S Z (z_A Z sz) s.heap gd H locs → lv_has ls 2 [(0, .ref (Z.2.1 k)), (1, .int (nI i2))] → W p l e (headSpec wsX1_collect (z_rm 4 90)).room s m args below meth c H locs 0 0 (MQ below (va_Qv (fun g1 => ∃ l2, z_cs Z g1 k kb l2 ∧ (∀ y, y ∈ l2 ↔ zcs b y) ∧ z_fr k 3 g g1) (z_B Z) (z_A Z sz)) args s 0 0 (z_A Z sz)) (F0 m 71 ls []) := by
                intro nn_71
                induction nn_71 with
                | zero => intro i2 l5 gd h_b h_d h_c h_k hfr_gd hi_i2 hl5 hb_i2 hs_i2 hc_i2 hm_71 H locs ls hS hl; exact absurd hm_71 (Nat.not_lt_zero _)
                | succ nn_71 ih_71 =>
                  intro i2 l5 gd h_b h_d h_c h_k hfr_gd hi_i2 hl5 hb_i2 hs_i2 hc_i2 hm_71 H locs ls hS hl
                  obtain ⟨fd_i2, sn_i2, -, h_f, h_s, -, -, hfd_i2, hsn_i2, hlen_i2, hbd_i2⟩ := id hl5
                  have hl121_i2 : l5.length ≤ 121 := by rw [hlen_i2]; exact zct_le _ _
                  refine lv_iload_n hx hb dX1_collect_71 rfl (lv_at hl 1 rfl) ?_
                  refine lv_aload_n hx hb dX1_collect_72 rfl (lv_at hl 0 rfl) ?_
                  refine z_get (own := RX1) (C := RX1) (T := TX1) (N := 4) hx hb hts in_X1_collect_1 hown hK hS h_k hkk rfl 3 (by decide) (List.mem_of_getElem? (i := 1) rfl) rfl rfl dX1_collect_73 ?_
                  refine lv_icmp_ge (tgt := 104) hx hb dX1_collect_76 (by decide) (fun c_8 => ?_) (fun c_8 => ?_)
                  · have i_8 := z_le c_8
                    rw [nI_toInt (by omega)] at i_8
                    rw [nI_toInt (by omega)] at i_8
                    have hm2 : ∀ y, y ∈ l5 ↔ zcl (zs1 b) (zcl (zs2 b) (fun y => y = 0)) y := zcl_same hb_i2 hs_i2 (fun x y hx9 hy => by
                      obtain ⟨t, ht, rfl⟩ := List.getElem_of_mem hx9
                      exact hc_i2 t (by omega) ht y hy)
                    refine lv_iconst (v := 0) hx hb dX1_collect_104 (by decide) ?_
                    refine lv_istore_n (lv' := [(1, .int 0), (0, .ref (Z.2.1 k))]) hx hb dX1_collect_105 rfl hl (by decide) rfl (fun ls hl => ?_)
                    have hcut_106 : ∀ (nn_106 : Nat) (i3 : Nat) (l6 : List Int) (ge : Nat → va_E) (h_b : ge kb = .inr (0, [.int pb, .int qb, .int res, .int (nI b.2.2.1), .int cmp, .ref (Z.2.1 (kb + 1)), .ref (Z.2.1 (kb + 2))])) (h_d : ge (kb + 1) = .inl (Z.2.2.2 0, 12, .inl dg)) (h_c : ge (kb + 2) = .inl (Z.2.2.2 0, 10, .inl ch)) (h_k : ge k = .inr (1, [.ref (Z.2.1 kb), .ref (Z.2.1 (k + 1)), .ref (Z.2.1 (k + 2)), .int (nI l6.length)])) (hfr_ge : z_fr k 3 g ge) (hi_i3 : i3 ≤ l6.length) (hl6 : z_cs Z ge k kb l6) (hb_i3 : ∀ y, (zcl (zs1 b) (zcl (zs2 b) (fun y => y = 0))) y → y ∈ l6) (hs_i3 : ∀ y, y ∈ l6 → zcl (zs0 b) (zcl (zs1 b) (zcl (zs2 b) (fun y => y = 0))) y) (hc_i3 : ∀ t (h1 : t < i3) (h2 : t < l6.length) y, zs0 b l6[t] y → y ∈ l6) (hm_106 : 122 - i3 < nn_106) (H : Heap) (locs : List Loc) (ls : Array Slot), z_S Z (z_A Z sz) s.heap ge H locs → lv_has ls 2 [(0, .ref (Z.2.1 k)), (1, .int (nI i3))] → W p l e (headSpec wsX1_collect (z_rm 4 90)).room s m args below meth c H locs 0 0 (MQ below (va_Qv (fun g1 => ∃ l2, z_cs Z g1 k kb l2 ∧ (∀ y, y ∈ l2 ↔ zcs b y) ∧ z_fr k 3 g g1) (z_B Z) (z_A Z sz)) args s 0 0 (z_A Z sz)) (F0 m 106 ls []) := by
                      intro nn_106
                      induction nn_106 with
                      | zero => intro i3 l6 ge h_b h_d h_c h_k hfr_ge hi_i3 hl6 hb_i3 hs_i3 hc_i3 hm_106 H locs ls hS hl; exact absurd hm_106 (Nat.not_lt_zero _)
                      | succ nn_106 ih_106 =>
                        intro i3 l6 ge h_b h_d h_c h_k hfr_ge hi_i3 hl6 hb_i3 hs_i3 hc_i3 hm_106 H locs ls hS hl
                        obtain ⟨fd_i3, sn_i3, -, h_f, h_s, -, -, hfd_i3, hsn_i3, hlen_i3, hbd_i3⟩ := id hl6
                        have hl121_i3 : l6.length ≤ 121 := by rw [hlen_i3]; exact zct_le _ _
                        refine lv_iload_n hx hb dX1_collect_106 rfl (lv_at hl 1 rfl) ?_
                        refine lv_aload_n hx hb dX1_collect_107 rfl (lv_at hl 0 rfl) ?_
                        refine z_get (own := RX1) (C := RX1) (T := TX1) (N := 4) hx hb hts in_X1_collect_1 hown hK hS h_k hkk rfl 3 (by decide) (List.mem_of_getElem? (i := 1) rfl) rfl rfl dX1_collect_108 ?_
                        refine lv_icmp_ge (tgt := 147) hx hb dX1_collect_111 (by decide) (fun c_9 => ?_) (fun c_9 => ?_)
                        · have i_9 := z_le c_9
                          rw [nI_toInt (by omega)] at i_9
                          rw [nI_toInt (by omega)] at i_9
                          have hm3 : ∀ y, y ∈ l6 ↔ zcl (zs0 b) (zcl (zs1 b) (zcl (zs2 b) (fun y => y = 0))) y := zcl_same hb_i3 hs_i3 (fun x y hx9 hy => by
                            obtain ⟨t, ht, rfl⟩ := List.getElem_of_mem hx9
                            exact hc_i3 t (by omega) ht y hy)
                          refine z_vret hx hb hr hlocks hS ?_ dX1_collect_147
                          exact ⟨l6, hl6, hm3, hfr_ge⟩
                        · have i_9 := z_nle c_9
                          rw [nI_toInt (by omega)] at i_9
                          rw [nI_toInt (by omega)] at i_9
                          have hil : i3 < l6.length := by omega
                          refine lv_iload_n hx hb dX1_collect_114 rfl (lv_at hl 1 rfl) ?_
                          refine lv_aload_n hx hb dX1_collect_115 rfl (lv_at hl 0 rfl) ?_
                          refine z_get (own := RX1) (C := RX1) (T := TX1) (N := 4) hx hb hts in_X1_collect_1 hown hK hS h_k hkk rfl 1 (by decide) (List.mem_of_getElem? (i := 3) rfl) rfl rfl dX1_collect_116 ?_
                          refine z_alen (v := 121) hx hb hK hS 0 h_f hkk1 rfl rfl dX1_collect_119 ?_
                          refine lv_icmp_ge (tgt := 147) hx hb dX1_collect_120 (by decide) (fun c_10 => ?_) (fun c_10 => ?_)
                          · have i_10 := z_le c_10
                            rw [nI_toInt (by omega)] at i_10
                            rw [tI_121] at i_10
                            exfalso; omega
                          · have i_10 := z_nle c_10
                            rw [nI_toInt (by omega)] at i_10
                            rw [tI_121] at i_10
                            refine lv_aload_n hx hb dX1_collect_123 rfl (lv_at hl 0 rfl) ?_
                            refine lv_aload_n hx hb dX1_collect_124 rfl (lv_at hl 0 rfl) ?_
                            refine z_get (own := RX1) (C := RX1) (T := TX1) (N := 4) hx hb hts in_X1_collect_1 hown hK hS h_k hkk rfl 0 (by decide) (List.mem_of_getElem? (i := 4) rfl) rfl rfl dX1_collect_125 ?_
                            refine lv_aload_n hx hb dX1_collect_128 rfl (lv_at hl 0 rfl) ?_
                            refine z_get (own := RX1) (C := RX1) (T := TX1) (N := 4) hx hb hts in_X1_collect_1 hown hK hS h_k hkk rfl 1 (by decide) (List.mem_of_getElem? (i := 3) rfl) rfl rfl dX1_collect_129 ?_
                            refine lv_iload_n hx hb dX1_collect_132 rfl (lv_at hl 1 rfl) ?_
                            refine z_iald hx hb hK hS h_f hkk1 (vp_in_nI (by omega) (by omega)) dX1_collect_133 ?_
                            rw [show fd_i3 (nI i3).toNatClampNeg = fd_i3 i3 from by rw [nI_clamp (by omega)]]
                            refine lv_iconst (v := 0) hx hb dX1_collect_134 (by decide) ?_
                            have hxb : -60 ≤ (fd_i3 i3).toInt ∧ (fd_i3 i3).toInt ≤ 60 := by rw [hfd_i3 i3 hil]; exact hbd_i3 _ (List.getElem_mem hil)
                            refine z_calli (z_runVN (As := [.int (fd_i3 i3), .int 0]) (rest := [.ref (Z.2.1 k)]) (C := RX0) ⟨hx, hb, hml, hown, hts⟩ hK hS ((k_carryBehind Z ge kb b ⟨pb, qb, res, cmp, dg, ch, ⟨h_b, h_d, h_c, hkN, hok, hp, hq, hres, hdg⟩, hch⟩ (fd_i3 i3) 0 hcm (by omega) (by rw [tI_0]; omega)) l _) gX1_collect_X0_carryBehind_n37 rfl 2 42 rfl (List.mem_of_getElem? (i := 15) rfl) (List.mem_of_getElem? (i := 19) rfl) (List.mem_of_getElem? (i := 20) rfl) (by decide +kernel) ⟨Nat.le_of_ble_eq_true rfl, Nat.le_of_ble_eq_true rfl⟩ h_b hk0 rfl rfl hl.1 rfl (Nat.le_of_ble_eq_true rfl) dX1_collect_135 ⟨Nat.le_of_ble_eq_true rfl, Nat.le_of_ble_eq_true rfl⟩) hS (fun cc g_11 H locs hp_12 hS => ?_)
                            obtain ⟨rfl, hp_12⟩ := hp_12
                            have hcc := hp_12
                            rw [tI_0] at hcc
                            have hccb := zcr_bd60 hok hcm hxb (t := 0) (by omega)
                            refine z_callv (z_runV (As := [.int cc]) (rest := []) ⟨hx, hb, hml, hown, hts⟩ hK hS ((k_note Z ge k kb b l6 hl6 cc (by rw [hcc]; exact hccb)) l _) gX1_collect_X1_note rfl 1 (by decide +kernel) ⟨Nat.le_of_ble_eq_true rfl, Nat.le_of_ble_eq_true rfl⟩ h_k hkk rfl rfl hl.1 rfl (Nat.le_of_ble_eq_true rfl) dX1_collect_138 ⟨Nat.le_of_ble_eq_true rfl, Nat.le_of_ble_eq_true rfl⟩) hS (fun g_14 H locs hp_15 hS => ?_)
                            obtain ⟨l6n, hl6n, hex9, hmem9, hfr_16⟩ := hp_15
                            have h_b := (hfr_16 _ (by omega)).trans h_b
                            have h_d := (hfr_16 _ (by omega)).trans h_d
                            have h_c := (hfr_16 _ (by omega)).trans h_c
                            obtain ⟨fd9, sn9, h_k, -⟩ := id hl6n
                            have hle9 := zpre_len hex9.1
                            rw [hcc, hfd_i3 i3 hil] at hex9 hmem9
                            have hall9 : ∀ y, zs0 b l6[i3] y → y ∈ l6n := fun y hy => by
                              have hy2 : y = zcr b l6[i3] 0 := hy
                              rw [hy2]; exact hmem9
                            refine lv_iinc (v := (nI (i3 + 1))) (lv' := [(1, .int (nI (i3 + 1))), (0, .ref (Z.2.1 k))]) hx hb dX1_collect_141 hl (k := 1) rfl (nI_1 _) (by decide) rfl (fun ls hl => ?_)
                            refine lv_goto (tgt := 106) hx hb dX1_collect_144 (by decide) ?_
                            exact ih_106 (i3 + 1) l6n g_14 h_b h_d h_c h_k (hfr_ge.tr (hfr_16.wide (by omega) (by omega))) (by omega) hl6n (fun y hy => zpre_mem hex9.1 (hb_i3 y hy)) (fun y hy => by
                                rcases hex9.2 y hy with q9 | q9
                                · exact hs_i3 y q9
                                · exact zcl_step (hs_i3 _ (List.getElem_mem hil)) q9) (fun t h1 h2 y hy => by
                                rcases Nat.lt_or_ge t i3 with q9 | q9
                                · rw [zpre_get hex9.1 (show t < l6.length by omega) h2] at hy
                                  exact zpre_mem hex9.1 (hc_i3 t q9 (by omega) y hy)
                                · have : t = i3 := by omega
                                  subst this
                                  rw [zpre_get hex9.1 hil h2] at hy
                                  exact hall9 y hy) (by omega) _ _ _ hS (lv_sub hl [1, 0] rfl)
                    exact hcut_106 (122 - 0 + 1) 0 l5 gd h_b h_d h_c h_k hfr_gd (Nat.zero_le _) hl5 (fun y hy => (hm2 y).mpr hy) (fun y hy => zcl_base ((hm2 y).mp hy)) (fun t h1 => absurd h1 (Nat.not_lt_zero t)) (Nat.lt_succ_self _) _ _ _ hS (lv_sub hl [1, 0] rfl)
                  · have i_8 := z_nle c_8
                    rw [nI_toInt (by omega)] at i_8
                    rw [nI_toInt (by omega)] at i_8
                    have hil : i2 < l5.length := by omega
                    refine lv_iload_n hx hb dX1_collect_79 rfl (lv_at hl 1 rfl) ?_
                    refine lv_aload_n hx hb dX1_collect_80 rfl (lv_at hl 0 rfl) ?_
                    refine z_get (own := RX1) (C := RX1) (T := TX1) (N := 4) hx hb hts in_X1_collect_1 hown hK hS h_k hkk rfl 1 (by decide) (List.mem_of_getElem? (i := 3) rfl) rfl rfl dX1_collect_81 ?_
                    refine z_alen (v := 121) hx hb hK hS 0 h_f hkk1 rfl rfl dX1_collect_84 ?_
                    refine lv_icmp_ge (tgt := 104) hx hb dX1_collect_85 (by decide) (fun c_17 => ?_) (fun c_17 => ?_)
                    · have i_17 := z_le c_17
                      rw [nI_toInt (by omega)] at i_17
                      rw [tI_121] at i_17
                      exfalso; omega
                    · have i_17 := z_nle c_17
                      rw [nI_toInt (by omega)] at i_17
                      rw [tI_121] at i_17
                      refine lv_aload_n hx hb dX1_collect_88 rfl (lv_at hl 0 rfl) ?_
                      refine lv_aload_n hx hb dX1_collect_89 rfl (lv_at hl 0 rfl) ?_
                      refine z_get (own := RX1) (C := RX1) (T := TX1) (N := 4) hx hb hts in_X1_collect_1 hown hK hS h_k hkk rfl 1 (by decide) (List.mem_of_getElem? (i := 3) rfl) rfl rfl dX1_collect_90 ?_
                      refine lv_iload_n hx hb dX1_collect_93 rfl (lv_at hl 1 rfl) ?_
                      refine z_iald hx hb hK hS h_f hkk1 (vp_in_nI (by omega) (by omega)) dX1_collect_94 ?_
                      rw [show fd_i2 (nI i2).toNatClampNeg = fd_i2 i2 from by rw [nI_clamp (by omega)]]
                      refine z_callv (z_runV (As := [.int (fd_i2 i2)]) (rest := []) ⟨hx, hb, hml, hown, hts⟩ hK hS ((k_noteOne Z gd k kb b l5 hl5 ⟨pb, qb, res, cmp, dg, ch, ⟨h_b, h_d, h_c, hkN, hok, hp, hq, hres, hdg⟩, hch⟩ hcm (fd_i2 i2) (by rw [hfd_i2 i2 hil]; exact hbd_i2 _ (List.getElem_mem hil))) l _) gX1_collect_X1_noteBehindOneDigit rfl 1 (by decide +kernel) ⟨Nat.le_of_ble_eq_true rfl, Nat.le_of_ble_eq_true rfl⟩ h_k hkk rfl rfl hl.1 rfl (Nat.le_of_ble_eq_true rfl) dX1_collect_95 ⟨Nat.le_of_ble_eq_true rfl, Nat.le_of_ble_eq_true rfl⟩) hS (fun g_19 H locs hp_20 hS => ?_)
                      obtain ⟨l5n, hl5n, hex9, hall9, hfr_21⟩ := hp_20
                      have h_b := (hfr_21 _ (by omega)).trans h_b
                      have h_d := (hfr_21 _ (by omega)).trans h_d
                      have h_c := (hfr_21 _ (by omega)).trans h_c
                      obtain ⟨fd9, sn9, h_k, -⟩ := id hl5n
                      rw [hfd_i2 i2 hil] at hex9 hall9
                      have hle9 := zpre_len hex9.1
                      refine lv_iinc (v := (nI (i2 + 1))) (lv' := [(1, .int (nI (i2 + 1))), (0, .ref (Z.2.1 k))]) hx hb dX1_collect_98 hl (k := 1) rfl (nI_1 _) (by decide) rfl (fun ls hl => ?_)
                      refine lv_goto (tgt := 71) hx hb dX1_collect_101 (by decide) ?_
                      exact ih_71 (i2 + 1) l5n g_19 h_b h_d h_c h_k (hfr_gd.tr (hfr_21.wide (by omega) (by omega))) (by omega) hl5n (fun y hy => zpre_mem hex9.1 (hb_i2 y hy)) (fun y hy => by
                          rcases hex9.2 y hy with q9 | q9
                          · exact hs_i2 y q9
                          · exact zcl_step (hs_i2 _ (List.getElem_mem hil)) q9) (fun t h1 h2 y hy => by
                          rcases Nat.lt_or_ge t i2 with q9 | q9
                          · rw [zpre_get hex9.1 (show t < l5.length by omega) h2] at hy
                            exact zpre_mem hex9.1 (hc_i2 t q9 (by omega) y hy)
                          · have : t = i2 := by omega
                            subst this
                            rw [zpre_get hex9.1 hil h2] at hy
                            exact hall9 y hy) (by omega) _ _ _ hS (lv_sub hl [1, 0] rfl)
              exact hcut_71 (122 - 0 + 1) 0 l1 gb h_b h_d h_c h_k hfr_gb (Nat.zero_le _) hl1 (fun y hy => (hm1 y).mpr hy) (fun y hy => zcl_base ((hm1 y).mp hy)) (fun t h1 => absurd h1 (Nat.not_lt_zero t)) (Nat.lt_succ_self _) _ _ _ hS (lv_sub hl [1, 0] rfl)
            · have i_7 := z_nle c_7
              rw [nI_toInt (by omega)] at i_7
              rw [nI_toInt (by omega)] at i_7
              have hil : i1 < l1.length := by omega
              refine lv_iload_n hx hb dX1_collect_44 rfl (lv_at hl 1 rfl) ?_
              refine lv_aload_n hx hb dX1_collect_45 rfl (lv_at hl 0 rfl) ?_
              refine z_get (own := RX1) (C := RX1) (T := TX1) (N := 4) hx hb hts in_X1_collect_1 hown hK hS h_k hkk rfl 1 (by decide) (List.mem_of_getElem? (i := 3) rfl) rfl rfl dX1_collect_46 ?_
              refine z_alen (v := 121) hx hb hK hS 0 h_f hkk1 rfl rfl dX1_collect_49 ?_
              refine lv_icmp_ge (tgt := 69) hx hb dX1_collect_50 (by decide) (fun c_22 => ?_) (fun c_22 => ?_)
              · have i_22 := z_le c_22
                rw [nI_toInt (by omega)] at i_22
                rw [tI_121] at i_22
                exfalso; omega
              · have i_22 := z_nle c_22
                rw [nI_toInt (by omega)] at i_22
                rw [tI_121] at i_22
                refine lv_aload_n hx hb dX1_collect_53 rfl (lv_at hl 0 rfl) ?_
                refine lv_aload_n hx hb dX1_collect_54 rfl (lv_at hl 0 rfl) ?_
                refine z_get (own := RX1) (C := RX1) (T := TX1) (N := 4) hx hb hts in_X1_collect_1 hown hK hS h_k hkk rfl 1 (by decide) (List.mem_of_getElem? (i := 3) rfl) rfl rfl dX1_collect_55 ?_
                refine lv_iload_n hx hb dX1_collect_58 rfl (lv_at hl 1 rfl) ?_
                refine z_iald hx hb hK hS h_f hkk1 (vp_in_nI (by omega) (by omega)) dX1_collect_59 ?_
                rw [show fd_i1 (nI i1).toNatClampNeg = fd_i1 i1 from by rw [nI_clamp (by omega)]]
                refine z_callv (z_runV (As := [.int (fd_i1 i1)]) (rest := []) ⟨hx, hb, hml, hown, hts⟩ hK hS ((k_noteTwo Z gb k kb b l1 hl1 ⟨pb, qb, res, cmp, dg, ch, ⟨h_b, h_d, h_c, hkN, hok, hp, hq, hres, hdg⟩, hch⟩ hcm (fd_i1 i1) (by rw [hfd_i1 i1 hil]; exact hbd_i1 _ (List.getElem_mem hil))) l _) gX1_collect_X1_noteBehindTwoDigits rfl 1 (by decide +kernel) ⟨Nat.le_of_ble_eq_true rfl, Nat.le_of_ble_eq_true rfl⟩ h_k hkk rfl rfl hl.1 rfl (Nat.le_of_ble_eq_true rfl) dX1_collect_60 ⟨Nat.le_of_ble_eq_true rfl, Nat.le_of_ble_eq_true rfl⟩) hS (fun g_24 H locs hp_25 hS => ?_)
                obtain ⟨l1n, hl1n, hex9, hall9, hfr_26⟩ := hp_25
                have h_b := (hfr_26 _ (by omega)).trans h_b
                have h_d := (hfr_26 _ (by omega)).trans h_d
                have h_c := (hfr_26 _ (by omega)).trans h_c
                obtain ⟨fd9, sn9, h_k, -⟩ := id hl1n
                rw [hfd_i1 i1 hil] at hex9 hall9
                have hle9 := zpre_len hex9.1
                refine lv_iinc (v := (nI (i1 + 1))) (lv' := [(1, .int (nI (i1 + 1))), (0, .ref (Z.2.1 k))]) hx hb dX1_collect_63 hl (k := 1) rfl (nI_1 _) (by decide) rfl (fun ls hl => ?_)
                refine lv_goto (tgt := 36) hx hb dX1_collect_66 (by decide) ?_
                exact ih_36 (i1 + 1) l1n g_24 h_b h_d h_c h_k (hfr_gb.tr (hfr_26.wide (by omega) (by omega))) (by omega) hl1n (fun y hy => zpre_mem hex9.1 (hb_i1 y hy)) (fun y hy => by
                    rcases hex9.2 y hy with q9 | q9
                    · exact hs_i1 y q9
                    · exact zcl_step (hs_i1 _ (List.getElem_mem hil)) q9) (fun t h1 h2 y hy => by
                    rcases Nat.lt_or_ge t i1 with q9 | q9
                    · rw [zpre_get hex9.1 (show t < l1.length by omega) h2] at hy
                      exact zpre_mem hex9.1 (hc_i1 t q9 (by omega) y hy)
                    · have : t = i1 := by omega
                      subst this
                      rw [zpre_get hex9.1 hil h2] at hy
                      exact hall9 y hy) (by omega) _ _ _ hS (lv_sub hl [1, 0] rfl)
        exact hcut_36 (122 - 0 + 1) 0 la0 g_4 h_b h_d h_c h_k (hfr_ga.tr (hfr_6.wide (by omega) (by omega))) (Nat.zero_le _) hla0 (fun y hy => by rw [hy]; exact hmem0) (fun y hy => by
            rcases hex0.2 y hy with q9 | q9
            · exact absurd q9 List.not_mem_nil
            · exact zcl_base q9) (fun t h1 => absurd h1 (Nat.not_lt_zero t)) (Nat.lt_succ_self _) _ _ _ hS (lv_sub hl [1, 0] rfl)
      · have i_2 := z_nle c_2
        rw [nI_toInt (by omega)] at i_2
        rw [tI_121] at i_2
        refine lv_aload_n hx hb dX1_collect_16 rfl (lv_at hl 0 rfl) ?_
        refine z_get (own := RX1) (C := RX1) (T := TX1) (N := 4) hx hb hts in_X1_collect_1 hown hK hS h_k hkk rfl 2 (by decide) (List.mem_of_getElem? (i := 2) rfl) rfl rfl dX1_collect_17 ?_
        refine lv_iload_n hx hb dX1_collect_20 rfl (lv_at hl 1 rfl) ?_
        refine lv_iconst (v := 0) hx hb dX1_collect_21 (by decide) ?_
        refine z_zast (y := 0) hx hb hK hS h_s hkk2 rfl (vp_in_nI (by omega) (by omega)) dX1_collect_22 (fun g_27 H locs hg_27 hS => ?_)
        have h_s : g_27 (k + 2) = .inl (Z.2.2.2 2, 121, .inl (upd sv (nI j).toNatClampNeg 0)) := z_up_s hg_27
        have h_b := z_up_n hg_27 h_b (by omega)
        have h_d := z_up_n hg_27 h_d (by omega)
        have h_c := z_up_n hg_27 h_c (by omega)
        have h_k := z_up_n hg_27 h_k (by omega)
        have h_f := z_up_n hg_27 h_f (by omega)
        refine lv_iinc (v := (nI (j + 1))) (lv' := [(1, .int (nI (j + 1))), (0, .ref (Z.2.1 k))]) hx hb dX1_collect_23 hl (k := 1) rfl (nI_1 _) (by decide) rfl (fun ls hl => ?_)
        refine lv_goto (tgt := 7) hx hb dX1_collect_26 (by decide) ?_
        exact ih_7 (j + 1) (upd sv (nI j).toNatClampNeg 0) g_27 h_b h_d h_c h_k h_f h_s (hfr_ga.up hg_27 (by omega)) (by omega) (fun t ht => by
            rw [nI_clamp (by omega)]
            by_cases h9 : t = j
            · subst h9; rw [pk_us]
            · rw [pk_un h9]; exact hsv t (by omega)) (by omega) _ _ _ hS (lv_sub hl [1, 0] rfl)
  exact hcut_7 (121 - 0 + 1) 0 sn g_1 h_b h_d h_c h_k h_f h_s (z_fr.rf.up hg_1 (by omega)) (by omega) (fun t ht => absurd ht (Nat.not_lt_zero t)) (Nat.lt_succ_self _) _ _ _ hS (lv_sub hl [1, 0] rfl)

theorem in_X1_ascending_1 : ∀ w ∈ wsX10, w ∈ wsX1_ascending := by decide +kernel
set_option maxHeartbeats 4000000 in
set_option maxRecDepth 100000 in
theorem k_ascending (Z : zT) (g : Nat → va_E) (k kb : Nat) (b : zb) (l0 : List Int) (hC : z_cs Z g k kb l0) (kk : Nat) (hkk9 : kk < 2147483648) : z_Mi Z yX1_ascending wsX1_ascending 0 0 [.ref (Z.2.1 k), .int (nI kk)] g (fun r g1 => g = g1 ∧ ((kk < l0.length ∧ ∃ t : Nat, t < 121 ∧ (t : Int) - 60 ∈ l0 ∧ zct (zcm1 l0) t = kk ∧ r.toInt = (t : Int) - 60) ∨ (l0.length ≤ kk ∧ r = -1000006))) := by
  intro l sz
  obtain ⟨fd, sn, h_k, h_f, h_s, hkM, hsep, hfd, hsn, hlen, hbd⟩ := id hC
  have hkk : k < Z.1 := by omega
  have hkk1 : k + 1 < Z.1 := by omega
  have hkk2 : k + 2 < Z.1 := by omega
  have hl121 : l0.length ≤ 121 := by rw [hlen]; exact zct_le _ _
  have hzl : zct (zcm1 l0) 121 = l0.length := hlen.symm
  refine z_enter (maxL := 4) (ret := (some .int)) (lv := [(0, .ref (Z.2.1 k)), (1, .int (nI kk))]) (plainFor_of_name (by decide +kernel)) rfl (fun ls h => by subst h; exact lv_entry [.ref (Z.2.1 k), .int (nI kk)] (n := 4) (Nat.le_of_ble_eq_true rfl)) ?_
  intro p e s m args below meth c hx hb hml hr hlocks hown hts hK hS hsz ls hl
  refine lv_iconst (v := 0) hx hb dX1_ascending_0 (by decide) ?_
  refine lv_istore_n (lv' := [(2, .int 0), (0, .ref (Z.2.1 k)), (1, .int (nI kk))]) hx hb dX1_ascending_1 rfl hl (by decide) rfl (fun ls hl => ?_)
  refine lv_iconst (v := 0) hx hb dX1_ascending_2 (by decide) ?_
  refine lv_istore_n (lv' := [(3, .int 0), (2, .int 0), (0, .ref (Z.2.1 k)), (1, .int (nI kk))]) hx hb dX1_ascending_3 rfl hl (by decide) rfl (fun ls hl => ?_)
  have hcut_4 : ∀ (nn_4 : Nat) (t : Nat) (ht : t ≤ 121) (hle : zct (zcm1 l0) t ≤ kk) (hm_4 : 121 - t < nn_4) (H : Heap) (locs : List Loc) (ls : Array Slot), z_S Z (z_A Z sz) s.heap g H locs → lv_has ls 4 [(0, .ref (Z.2.1 k)), (1, .int (nI kk)), (2, .int (nI (zct (zcm1 l0) t))), (3, .int (nI t))] → W p l e (headSpec wsX1_ascending (z_rm 0 0)).room s m args below meth c H locs 0 0 (MQ below (va_Qi (fun r g1 => g = g1 ∧ ((kk < l0.length ∧ ∃ t : Nat, t < 121 ∧ (t : Int) - 60 ∈ l0 ∧ zct (zcm1 l0) t = kk ∧ r.toInt = (t : Int) - 60) ∨ (l0.length ≤ kk ∧ r = -1000006))) (z_B Z) (z_A Z sz)) args s 0 0 (z_A Z sz)) (F0 m 4 ls []) := by
    intro nn_4
    induction nn_4 with
    | zero => intro t ht hle hm_4 H locs ls hS hl; exact absurd hm_4 (Nat.not_lt_zero _)
    | succ nn_4 ih_4 =>
      intro t ht hle hm_4 H locs ls hS hl
      have hzt := zct_le (zcm1 l0) t
      refine lv_iload_n hx hb dX1_ascending_4 rfl (lv_at hl 3 rfl) ?_
      refine lv_aload_n hx hb dX1_ascending_5 rfl (lv_at hl 0 rfl) ?_
      refine z_get (own := RX1) (C := RX1) (T := TX1) (N := 4) hx hb hts in_X1_ascending_1 hown hK hS h_k hkk rfl 2 (by decide) (List.mem_of_getElem? (i := 1) rfl) rfl rfl dX1_ascending_6 ?_
      refine z_alen (v := 121) hx hb hK hS 2 h_s hkk2 rfl rfl dX1_ascending_9 ?_
      refine lv_icmp_ge (tgt := 41) hx hb dX1_ascending_10 (by decide) (fun c_1 => ?_) (fun c_1 => ?_)
      · have i_1 := z_le c_1
        rw [nI_toInt (by omega)] at i_1
        rw [tI_121] at i_1
        have ht121 : t = 121 := by omega
        subst ht121
        refine lv_ldc (v := (-1000006)) hx hb hown (hts _ (List.mem_of_getElem? (i := 2) rfl)) dX1_ascending_41 ?_
        refine z_iret hx hb hr hlocks hS ?_ dX1_ascending_43
        exact ⟨rfl, Or.inr ⟨by omega, rfl⟩⟩
      · have i_1 := z_nle c_1
        rw [nI_toInt (by omega)] at i_1
        rw [tI_121] at i_1
        have hsx := hsn t (by omega)
        refine lv_aload_n hx hb dX1_ascending_13 rfl (lv_at hl 0 rfl) ?_
        refine z_get (own := RX1) (C := RX1) (T := TX1) (N := 4) hx hb hts in_X1_ascending_1 hown hK hS h_k hkk rfl 2 (by decide) (List.mem_of_getElem? (i := 1) rfl) rfl rfl dX1_ascending_14 ?_
        refine lv_iload_n hx hb dX1_ascending_17 rfl (lv_at hl 3 rfl) ?_
        refine z_zald hx hb hK hS h_s hkk2 (vp_in_nI (by omega) (by omega)) dX1_ascending_18 ?_
        rw [show sn (nI t).toNatClampNeg = sn t from by rw [nI_clamp (by omega)]]
        refine lv_if_eq (tgt := 35) hx hb dX1_ascending_19 (by decide) (fun c_2 => ?_) (fun c_2 => ?_)
        · have i_2 := z_eq c_2
          rw [tI_0] at i_2
          have hf9 : zct (zcm1 l0) (t + 1) = zct (zcm1 l0) t := by
            show zct (zcm1 l0) t + (if zcm1 l0 t then 1 else 0) = _
            rw [show zcm1 l0 t = false from decide_eq_false (zbo_f hsx c_2)]; rfl
          rw [← hf9] at hl
          refine lv_iinc (v := (nI (t + 1))) (lv' := [(3, .int (nI (t + 1))), (0, .ref (Z.2.1 k)), (1, .int (nI kk)), (2, .int (nI (zct (zcm1 l0) (t + 1))))]) hx hb dX1_ascending_35 hl (k := 3) rfl (nI_1 _) (by decide) rfl (fun ls hl => ?_)
          refine lv_goto (tgt := 4) hx hb dX1_ascending_38 (by decide) ?_
          exact ih_4 (t + 1) (by omega) (by omega) (by omega) _ _ _ hS (lv_sub hl [1, 2, 3, 0] rfl)
        · have i_2 := z_ne c_2
          rw [tI_0] at i_2
          have hin9 := zbo_t hsx c_2
          have hf9 : zct (zcm1 l0) (t + 1) = zct (zcm1 l0) t + 1 := by
            show zct (zcm1 l0) t + (if zcm1 l0 t then 1 else 0) = _
            rw [show zcm1 l0 t = true from decide_eq_true hin9]; rfl
          refine lv_iload_n hx hb dX1_ascending_22 rfl (lv_at hl 2 rfl) ?_
          refine lv_iload_n hx hb dX1_ascending_23 rfl (lv_at hl 1 rfl) ?_
          refine lv_icmp_ne (tgt := 32) hx hb dX1_ascending_24 (by decide) (fun c_3 => ?_) (fun c_3 => ?_)
          · have i_3 := z_ne c_3
            rw [nI_toInt (by omega)] at i_3
            rw [nI_toInt (by omega)] at i_3
            refine lv_iinc (v := (nI (zct (zcm1 l0) t + 1))) (lv' := [(2, .int (nI (zct (zcm1 l0) t + 1))), (0, .ref (Z.2.1 k)), (1, .int (nI kk)), (3, .int (nI t))]) hx hb dX1_ascending_32 hl (k := 2) rfl (nI_1 _) (by decide) rfl (fun ls hl => ?_)
            rw [← hf9] at hl
            refine lv_iinc (v := (nI (t + 1))) (lv' := [(3, .int (nI (t + 1))), (2, .int (nI (zct (zcm1 l0) (t + 1)))), (0, .ref (Z.2.1 k)), (1, .int (nI kk))]) hx hb dX1_ascending_35 hl (k := 3) rfl (nI_1 _) (by decide) rfl (fun ls hl => ?_)
            refine lv_goto (tgt := 4) hx hb dX1_ascending_38 (by decide) ?_
            exact ih_4 (t + 1) (by omega) (by omega) (by omega) _ _ _ hS (lv_sub hl [2, 3, 1, 0] rfl)
          · have i_3 := z_eq c_3
            rw [nI_toInt (by omega)] at i_3
            rw [nI_toInt (by omega)] at i_3
            refine lv_iload_n hx hb dX1_ascending_27 rfl (lv_at hl 3 rfl) ?_
            refine lv_bipush (v := 60) hx hb dX1_ascending_28 (by decide) ?_
            refine lv_isub hx hb dX1_ascending_30 ?_
            refine z_iret hx hb hr hlocks hS ?_ dX1_ascending_31
            refine ⟨rfl, Or.inl ⟨?_, t, by omega, hin9, by omega, ?_⟩⟩
            · have := zct_lt (c := zcm1 l0) (i := t) (n := 121) (decide_eq_true hin9) (by omega)
              omega
            · rw [fb_subI (by rw [nI_toInt (by omega), tI_60]; omega) (by rw [nI_toInt (by omega), tI_60]; omega), nI_toInt (by omega), tI_60]
  exact hcut_4 (121 - 0 + 1) 0 (by omega) (Nat.zero_le _) (Nat.lt_succ_self _) _ _ _ hS (lv_sub hl [2, 3, 1, 0] rfl)

