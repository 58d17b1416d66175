/-! the reference: digits go, digits move -/
theorem zm_dec {n : Nat} (h : 1 ≤ n) (h2 : n < 1000) : nI n - 1 = nI (n - 1) := zm_sub (b := 1) h (by omega)
theorem zm_x12 {a : Nat} (h : a < 1000) : (12 : Int32) * nI a = nI (12 * a) :=
  z_inj (by rw [fb_mulI (by rw [show (12 : Int32).toInt = 12 from rfl, nI_toInt (by omega)]; omega) (by rw [show (12 : Int32).toInt = 12 from rfl, nI_toInt (by omega)]; omega), show (12 : Int32).toInt = 12 from rfl, nI_toInt (by omega), nI_toInt (by omega)]; omega)
theorem zb_ok_rem {b : zb} (h : zb_ok b) {j : Nat} (hj : j < b.2.2.1) : zb_ok (b.1, b.2.1, b.2.2.1 - 1, fun i => if i < j then b.2.2.2 i else b.2.2.2 (i + 1)) := by
  obtain ⟨a1, a2, a3, a4, a5⟩ := h
  refine ⟨a1, a2, a3, by show b.2.2.1 - 1 ≤ 12; omega, fun i hi => ?_⟩
  have hi2 : i < b.2.2.1 - 1 := hi
  show -20 ≤ (if i < j then b.2.2.2 i else b.2.2.2 (i + 1)) ∧ (if i < j then b.2.2.2 i else b.2.2.2 (i + 1)) ≤ 20
  split
  · exact a5 i (by omega)
  · exact a5 (i + 1) (by omega)
theorem zb_ok_cho {b : zb} (h : zb_ok b) {j : Nat} (hj : j < b.2.2.1) : zb_ok (b.1, b.2.1, b.2.2.1, fun i => if i = 0 then b.2.2.2 j else if i ≤ j then b.2.2.2 (i - 1) else b.2.2.2 i) := by
  obtain ⟨a1, a2, a3, a4, a5⟩ := h
  refine ⟨a1, a2, a3, a4, fun i hi => ?_⟩
  have hi2 : i < b.2.2.1 := hi
  show -20 ≤ (if i = 0 then b.2.2.2 j else if i ≤ j then b.2.2.2 (i - 1) else b.2.2.2 i) ∧ (if i = 0 then b.2.2.2 j else if i ≤ j then b.2.2.2 (i - 1) else b.2.2.2 i) ≤ 20
  split
  · exact a5 j hj
  · split
    · exact a5 (i - 1) (by omega)
    · exact a5 i hi2
theorem in_X10_removeDigit_10 : ∀ w ∈ wsX100, w ∈ wsX10_removeDigit := by decide +kernel
set_option maxHeartbeats 4000000 in
set_option maxRecDepth 100000 in
theorem m_removeDigit (Z : zT) (g : Nat → va_E) (sg : Nat → zb) (rw9 : Nat → zr) (hW : z_mw Z g sg rw9) (x y : Int32) : z_Mi Z yX10_removeDigit wsX10_removeDigit 2 42 [.ref (Z.2.1 41), .int x, .int y] g (fun r g1 => z_pm Z g (sp_removeDigit (sg, rw9) x.toInt y.toInt) r g1) := by
  intro l sz
  obtain ⟨v4, v5, v6, v15, v16, v17, hM9⟩ := hW.1.mp
  have hM := hM9.mr
  obtain ⟨fu, fq, fm, fd, h_m, h_u, h_q, h_n9, h_g, hMN, hSg⟩ := id hM9
  have hM41 : 41 < Z.1 := by omega
  have hM42 : 42 < Z.1 := by omega
  have hM43 : 43 < Z.1 := by omega
  have hM44 : 44 < Z.1 := by omega
  have hM45 : 45 < Z.1 := by omega
  refine z_enter (maxL := 5) (ret := (some .int)) (lv := [(0, .ref (Z.2.1 41)), (1, .int x), (2, .int y)]) (plainFor_of_name (by decide +kernel)) rfl (fun ls h => by subst h; exact lv_entry [.ref (Z.2.1 41), .int x, .int y] (n := 5) (Nat.le_of_ble_eq_true rfl)) ?_
  intro p e s m args below meth c hx hb hml hr hlocks hown hts hK hS hsz ls hl
  refine lv_iload_n hx hb dX10_removeDigit_0 rfl (lv_at hl 1 rfl) ?_
  refine z_calli (z_runS (As := [.int x]) (rest := []) ⟨hx, hb, hml, hown, hts⟩ hK hS ((m_noSystem Z g x) l _) gX10_removeDigit_X10_noSystem rfl 1 (by decide +kernel) ⟨Nat.le_of_ble_eq_true rfl, Nat.le_of_ble_eq_true rfl⟩ rfl hl.1 rfl (Nat.le_of_ble_eq_true rfl) dX10_removeDigit_1 ⟨Nat.le_of_ble_eq_true rfl, Nat.le_of_ble_eq_true rfl⟩) hS (fun rn g_1 H locs hp_2 hS => ?_)
  obtain ⟨rfl, hp_2⟩ := hp_2
  have hrn := hp_2
  refine lv_if_eq (tgt := 10) hx hb dX10_removeDigit_4 (by decide) (fun c_3 => ?_) (fun c_3 => ?_)
  · have i_3 := z_eq c_3
    rw [tI_0] at i_3
    have hzs : zsy x.toInt := Classical.byContradiction (zbo_f hrn c_3)
    obtain ⟨s1, es1, hs1x, -⟩ := z_nI_of (x := x) hzs.1
    have hs1 : s1 < 2 := by have := hzs.2; omega
    have htn1 : x.toInt.toNat = s1 := by omega
    obtain ⟨hok, hp, hq, hm, hd⟩ := hSg s1 hs1
    have hPb := zP_bd hok
    have hn12 := hok.2.2.2.1
    have hq1 := hok.2.1
    rw [es1] at hl
    refine lv_aload_n hx hb dX10_removeDigit_10 rfl (lv_at hl 0 rfl) ?_
    refine lv_iload_n hx hb dX10_removeDigit_11 rfl (lv_at hl 1 rfl) ?_
    refine lv_iload_n hx hb dX10_removeDigit_12 rfl (lv_at hl 2 rfl) ?_
    refine z_calli (z_runV (As := [.int (nI s1), .int y]) (rest := []) ⟨hx, hb, hml, hown, hts⟩ hK hS ((m_placeOf Z g sg hM s1 hs1 y) l _) gX10_removeDigit_X10_placeOf rfl 2 (by decide +kernel) ⟨Nat.le_of_ble_eq_true rfl, Nat.le_of_ble_eq_true rfl⟩ h_m hM41 rfl rfl hl.1 rfl (Nat.le_of_ble_eq_true rfl) dX10_removeDigit_13 ⟨Nat.le_of_ble_eq_true rfl, Nat.le_of_ble_eq_true rfl⟩) hS (fun rp g_4 H locs hp_5 hS => ?_)
    obtain ⟨rfl, hp_5⟩ := hp_5
    have hrp := hp_5
    refine lv_istore_n (lv' := [(3, .int rp), (0, .ref (Z.2.1 41)), (1, .int (nI s1)), (2, .int y)]) hx hb dX10_removeDigit_16 rfl hl (by decide) rfl (fun ls hl => ?_)
    refine lv_iload_n hx hb dX10_removeDigit_17 rfl (lv_at hl 0 rfl) ?_
    refine lv_if_ge (tgt := 24) hx hb dX10_removeDigit_18 (by decide) (fun c_6 => ?_) (fun c_6 => ?_)
    · have i_6 := z_le c_6
      rw [tI_0] at i_6
      have hfd : zdi (sg s1) y.toInt < (sg s1).2.2.1 := by
        rcases hrp with ⟨q1, q2⟩ | ⟨q1, q2⟩
        · exact q1
        · exfalso; rw [q2, tI_m1] at i_6; omega
      have erp : rp = nI (zdi (sg s1) y.toInt) := by
        rcases hrp with ⟨q1, q2⟩ | ⟨q1, q2⟩
        · exact q2
        · exact absurd hfd q1
      obtain ⟨d9, ed9⟩ : ∃ d9 : Nat, d9 = zdi (sg s1) y.toInt := ⟨_, rfl⟩
      rw [← ed9] at hfd erp
      subst erp
      have hdd : (sg s1).2.2.2 d9 = y.toInt := by
        have h9 := zfi_yes (fun i => decide ((sg s1).2.2.2 i = y.toInt)) (sg s1).2.2.1 (by rw [show zfi (fun i => decide ((sg s1).2.2.2 i = y.toInt)) (sg s1).2.2.1 = d9 from ed9.symm]; exact hfd)
        rw [show zfi (fun i => decide ((sg s1).2.2.2 i = y.toInt)) (sg s1).2.2.1 = d9 from ed9.symm] at h9
        exact of_decide_eq_true h9
      refine lv_aload_n hx hb dX10_removeDigit_24 rfl (lv_at hl 1 rfl) ?_
      refine z_get (own := RX10) (C := RX10) (T := TX10) (N := 21) hx hb hts in_X10_removeDigit_10 hown hK hS h_m hM41 rfl 2 (by decide) (List.mem_of_getElem? (i := 3) rfl) rfl rfl dX10_removeDigit_25 ?_
      refine lv_iload_n hx hb dX10_removeDigit_28 rfl (lv_at hl 2 rfl) ?_
      refine lv_dup2_11 hx hb dX10_removeDigit_29 rfl rfl ?_
      refine z_iald hx hb hK hS h_n9 hM44 (vp_in_nI (by omega) (by omega)) dX10_removeDigit_30 ?_
      rw [show fm (nI s1).toNatClampNeg = nI (sg s1).2.2.1 from by rw [nI_clamp (by omega)]; exact hm]
      refine lv_iconst (v := 1) hx hb dX10_removeDigit_31 (by decide) ?_
      refine lv_isub hx hb dX10_removeDigit_32 ?_
      rw [show (nI (sg s1).2.2.1) - 1 = nI ((sg s1).2.2.1 - 1) from zm_dec (by omega) (by omega)]
      refine z_iast hx hb hK hS h_n9 hM44 (vp_in_nI (by omega) (by omega)) dX10_removeDigit_33 (fun g_7 H locs hg_7 hS => ?_)
      have h_n9 : g_7 44 = .inl (Z.2.2.2 0, 2, .inl (upd fm (nI s1).toNatClampNeg (nI ((sg s1).2.2.1 - 1)))) := z_up_s hg_7
      have h_m := z_up_n hg_7 h_m (by omega)
      have h_u := z_up_n hg_7 h_u (by omega)
      have h_q := z_up_n hg_7 h_q (by omega)
      have h_g := z_up_n hg_7 h_g (by omega)
      refine lv_iload_n hx hb dX10_removeDigit_34 rfl (lv_at hl 0 rfl) ?_
      refine lv_istore (lv' := [(4, .int (nI d9)), (3, .int (nI d9)), (0, .ref (Z.2.1 41)), (1, .int (nI s1)), (2, .int y)]) hx hb dX10_removeDigit_35 hl (by decide) rfl (fun ls hl => ?_)
      have hcut_37 : ∀ (nn_37 : Nat) (j : Nat) (fd2 : Nat → Int32) (ga : Nat → va_E) (h_m : ga 41 = .inr (10, [.ref (Z.2.1 42), .ref (Z.2.1 43), .ref (Z.2.1 44), .ref (Z.2.1 45), .int v4, .int v5, .int v6, .ref (Z.2.1 46), .ref (Z.2.1 47), .ref (Z.2.1 48), .ref (Z.2.1 49), .ref (Z.2.1 50), .ref (Z.2.1 51), .ref (Z.2.1 52), .ref (Z.2.1 53), .long v15, .long v16, .int v17, .ref (Z.2.1 54), .ref (Z.2.1 55), .ref (Z.2.1 56)])) (h_u : ga 42 = .inl (Z.2.2.2 0, 2, .inl fu)) (h_q : ga 43 = .inl (Z.2.2.2 0, 2, .inl fq)) (h_n9 : ga 44 = .inl (Z.2.2.2 0, 2, .inl (upd fm (nI s1).toNatClampNeg (nI ((sg s1).2.2.1 - 1))))) (h_g : ga 45 = .inl (Z.2.2.2 0, 24, .inl fd2)) (hfr_ga : z_fr 44 2 g ga) (hj : d9 ≤ j ∧ j ≤ (sg s1).2.2.1 - 1) (hf2 : ∀ k, fd2 k = if 12 * s1 + d9 ≤ k ∧ k < 12 * s1 + j then fd (k + 1) else fd k) (hm_37 : (sg s1).2.2.1 - j < nn_37) (H : Heap) (locs : List Loc) (ls : Array Slot), z_S Z (z_A Z sz) s.heap ga H locs → lv_has ls 5 [(0, .ref (Z.2.1 41)), (1, .int (nI s1)), (2, .int y), (3, .int (nI d9)), (4, .int (nI j))] → W p l e (headSpec wsX10_removeDigit (z_rm 2 42)).room s m args below meth c H locs 0 0 (MQ below (va_Qi (fun r g1 => z_pm Z g (sp_removeDigit (sg, rw9) x.toInt y.toInt) r g1) (z_B Z) (z_A Z sz)) args s 0 0 (z_A Z sz)) (F0 m 37 ls []) := by
        intro nn_37
        induction nn_37 with
        | zero => intro j fd2 ga h_m h_u h_q h_n9 h_g hfr_ga hj hf2 hm_37 H locs ls hS hl; exact absurd hm_37 (Nat.not_lt_zero _)
        | succ nn_37 ih_37 =>
          intro j fd2 ga h_m h_u h_q h_n9 h_g hfr_ga hj hf2 hm_37 H locs ls hS hl
          refine lv_iload hx hb dX10_removeDigit_37 (lv_at hl 4 rfl) ?_
          refine lv_aload_n hx hb dX10_removeDigit_39 rfl (lv_at hl 0 rfl) ?_
          refine z_get (own := RX10) (C := RX10) (T := TX10) (N := 21) hx hb hts in_X10_removeDigit_10 hown hK hS h_m hM41 rfl 2 (by decide) (List.mem_of_getElem? (i := 3) rfl) rfl rfl dX10_removeDigit_40 ?_
          refine lv_iload_n hx hb dX10_removeDigit_43 rfl (lv_at hl 1 rfl) ?_
          refine z_iald hx hb hK hS h_n9 hM44 (vp_in_nI (by omega) (by omega)) dX10_removeDigit_44 ?_
          rw [show (upd fm (nI s1).toNatClampNeg (nI ((sg s1).2.2.1 - 1))) (nI s1).toNatClampNeg = nI ((sg s1).2.2.1 - 1) from by rw [nI_clamp (by omega), pk_us]]
          refine lv_icmp_ge (tgt := 80) hx hb dX10_removeDigit_45 (by decide) (fun c_8 => ?_) (fun c_8 => ?_)
          · have i_8 := z_le c_8
            rw [nI_toInt (by omega)] at i_8
            rw [nI_toInt (by omega)] at i_8
            refine lv_aload_n hx hb dX10_removeDigit_80 rfl (lv_at hl 0 rfl) ?_
            refine z_get (own := RX10) (C := RX10) (T := TX10) (N := 21) hx hb hts in_X10_removeDigit_10 hown hK hS h_m hM41 rfl 2 (by decide) (List.mem_of_getElem? (i := 3) rfl) rfl rfl dX10_removeDigit_81 ?_
            refine lv_iload_n hx hb dX10_removeDigit_84 rfl (lv_at hl 1 rfl) ?_
            refine z_iald hx hb hK hS h_n9 hM44 (vp_in_nI (by omega) (by omega)) dX10_removeDigit_85 ?_
            rw [show (upd fm (nI s1).toNatClampNeg (nI ((sg s1).2.2.1 - 1))) (nI s1).toNatClampNeg = nI ((sg s1).2.2.1 - 1) from by rw [nI_clamp (by omega), pk_us]]
            refine z_iret hx hb hr hlocks hS ?_ dX10_removeDigit_86
            show z_pm Z g (sp_removeDigit (sg, rw9) x.toInt y.toInt) _ _
            unfold sp_removeDigit
            rw [zite_t hzs, htn1]
            dsimp only
            rw [← ed9, zite_t hfd]
            have hjn : j = (sg s1).2.2.1 - 1 := by omega
            have hfz : z_fr 44 2 g ga := hfr_ga
            rw [nI_clamp (by omega)] at h_n9
            exact ⟨(nI_toInt (n := (sg s1).2.2.1 - 1) (by omega)).trans (by dsimp only; omega), ⟨⟨_, _, _, _, _, _, _, _, _, _, h_m, h_u, h_q, h_n9, h_g, hMN, hSg.upd (s := s1) (b := ((sg s1).1, (sg s1).2.1, (sg s1).2.2.1 - 1, fun i => if i < d9 then (sg s1).2.2.2 i else (sg s1).2.2.2 (i + 1))) (zb_ok_rem hok hfd) (fun k hk => rfl) (fun k hk => rfl) (fun k hk => pk_un hk) (fun k hk => by rw [hf2, if_neg (by omega)]) ⟨hp, hq, pk_us, fun i hi => by
              have h8 : i < (sg s1).2.2.1 - 1 := hi
              rw [hf2]
              dsimp only
              by_cases h9 : i < d9
              · rw [if_neg (by omega), if_pos h9]; exact hd i (by omega)
              · rw [if_pos (by omega), if_neg h9]; exact hd (i + 1) (by omega)⟩⟩, hW.2.congr (fun j h1 h2 => hfz j (by omega))⟩, hfz.wide (by omega) (by omega)⟩
          · have i_8 := z_nle c_8
            rw [nI_toInt (by omega)] at i_8
            rw [nI_toInt (by omega)] at i_8
            refine lv_aload_n hx hb dX10_removeDigit_48 rfl (lv_at hl 0 rfl) ?_
            refine z_get (own := RX10) (C := RX10) (T := TX10) (N := 21) hx hb hts in_X10_removeDigit_10 hown hK hS h_m hM41 rfl 3 (by decide) (List.mem_of_getElem? (i := 4) rfl) rfl rfl dX10_removeDigit_49 ?_
            refine lv_bipush (v := 12) hx hb dX10_removeDigit_52 (by decide) ?_
            refine lv_iload_n hx hb dX10_removeDigit_54 rfl (lv_at hl 1 rfl) ?_
            refine lv_imul hx hb dX10_removeDigit_55 ?_
            refine lv_iload hx hb dX10_removeDigit_56 (lv_at hl 4 rfl) ?_
            refine lv_iadd hx hb dX10_removeDigit_58 ?_
            rw [show (12 * (nI s1)) + (nI j) = nI (12 * s1 + j) from zm_ix (by omega) (by omega)]
            refine lv_aload_n hx hb dX10_removeDigit_59 rfl (lv_at hl 0 rfl) ?_
            refine z_get (own := RX10) (C := RX10) (T := TX10) (N := 21) hx hb hts in_X10_removeDigit_10 hown hK hS h_m hM41 rfl 3 (by decide) (List.mem_of_getElem? (i := 4) rfl) rfl rfl dX10_removeDigit_60 ?_
            refine lv_bipush (v := 12) hx hb dX10_removeDigit_63 (by decide) ?_
            refine lv_iload_n hx hb dX10_removeDigit_65 rfl (lv_at hl 1 rfl) ?_
            refine lv_imul hx hb dX10_removeDigit_66 ?_
            refine lv_iload hx hb dX10_removeDigit_67 (lv_at hl 4 rfl) ?_
            refine lv_iadd hx hb dX10_removeDigit_69 ?_
            rw [show (12 * (nI s1)) + (nI j) = nI (12 * s1 + j) from zm_ix (by omega) (by omega)]
            refine lv_iconst (v := 1) hx hb dX10_removeDigit_70 (by decide) ?_
            refine lv_iadd hx hb dX10_removeDigit_71 ?_
            rw [show (nI (12 * s1 + j)) + 1 = nI (12 * s1 + j + 1) from nI_1 _]
            refine z_iald hx hb hK hS h_g hM45 (vp_in_nI (by omega) (by omega)) dX10_removeDigit_72 ?_
            rw [show fd2 (nI (12 * s1 + j + 1)).toNatClampNeg = fd2 (12 * s1 + j + 1) from by rw [nI_clamp (by omega)]]
            refine z_iast hx hb hK hS h_g hM45 (vp_in_nI (by omega) (by omega)) dX10_removeDigit_73 (fun g_9 H locs hg_9 hS => ?_)
            have h_g : g_9 45 = .inl (Z.2.2.2 0, 24, .inl (upd fd2 (nI (12 * s1 + j)).toNatClampNeg (fd2 (12 * s1 + j + 1)))) := z_up_s hg_9
            have h_m := z_up_n hg_9 h_m (by omega)
            have h_u := z_up_n hg_9 h_u (by omega)
            have h_q := z_up_n hg_9 h_q (by omega)
            have h_n9 := z_up_n hg_9 h_n9 (by omega)
            refine lv_iinc (v := (nI (j + 1))) (lv' := [(4, .int (nI (j + 1))), (0, .ref (Z.2.1 41)), (1, .int (nI s1)), (2, .int y), (3, .int (nI d9))]) hx hb dX10_removeDigit_74 hl (k := 4) rfl (nI_1 _) (by decide) rfl (fun ls hl => ?_)
            refine lv_goto (tgt := 37) hx hb dX10_removeDigit_77 (by decide) ?_
            exact ih_37 (j + 1) (upd fd2 (nI (12 * s1 + j)).toNatClampNeg (fd2 (12 * s1 + j + 1))) g_9 h_m h_u h_q h_n9 h_g (hfr_ga.up hg_9 (by omega)) (by omega) (fun k => by
              rw [nI_clamp (by omega)]
              by_cases h9 : k = 12 * s1 + j
              · rw [h9, pk_us, hf2 (12 * s1 + j + 1), if_neg (by omega), if_pos (by omega)]
              · rw [pk_un h9, hf2 k]
                by_cases h8 : 12 * s1 + d9 ≤ k ∧ k < 12 * s1 + j
                · rw [if_pos h8, if_pos (by omega)]
                · rw [if_neg h8, if_neg (by omega)]) (by omega) _ _ _ hS (lv_sub hl [1, 2, 3, 4, 0] rfl)
      exact hcut_37 ((sg s1).2.2.1 - d9 + 1) d9 fd g_7 h_m h_u h_q h_n9 h_g (z_fr.rf.up hg_7 (by omega)) (by omega) (fun k => by rw [if_neg (by omega)]) (Nat.lt_succ_self _) _ _ _ hS (lv_sub hl [2, 3, 4, 1, 0] rfl)
    · have i_6 := z_nle c_6
      rw [tI_0] at i_6
      have hnf : ¬ zdi (sg s1) y.toInt < (sg s1).2.2.1 := by
        rcases hrp with ⟨q1, q2⟩ | ⟨q1, q2⟩
        · exfalso; rw [q2, nI_toInt (by omega)] at i_6; omega
        · exact q1
      refine lv_ldc (v := (-1000004)) hx hb hown (hts _ (List.mem_of_getElem? (i := 2) rfl)) dX10_removeDigit_21 ?_
      refine z_iret hx hb hr hlocks hS ?_ dX10_removeDigit_23
      show z_pm Z g (sp_removeDigit (sg, rw9) x.toInt y.toInt) _ _
      unfold sp_removeDigit
      rw [zite_t hzs, htn1, zite_f hnf]
      exact ⟨rfl, hW, z_fr.rf⟩
  · have i_3 := z_ne c_3
    rw [tI_0] at i_3
    have hnv := zbo_t hrn c_3
    refine lv_ldc (v := (-1000001)) hx hb hown (hts _ (List.mem_of_getElem? (i := 1) rfl)) dX10_removeDigit_7 ?_
    refine z_iret hx hb hr hlocks hS ?_ dX10_removeDigit_9
    show z_pm Z g (sp_removeDigit (sg, rw9) x.toInt y.toInt) _ _
    unfold sp_removeDigit
    rw [zite_f hnv]
    exact ⟨rfl, hW, z_fr.rf⟩

theorem in_X10_choose_10 : ∀ w ∈ wsX100, w ∈ wsX10_choose := by decide +kernel
set_option maxHeartbeats 4000000 in
set_option maxRecDepth 100000 in
theorem m_choose (Z : zT) (g : Nat → va_E) (sg : Nat → zb) (rw9 : Nat → zr) (hW : z_mw Z g sg rw9) (x y : Int32) : z_Mi Z yX10_choose wsX10_choose 2 42 [.ref (Z.2.1 41), .int x, .int y] g (fun r g1 => z_pm Z g (sp_choose (sg, rw9) x.toInt y.toInt) r g1) := by
  intro l sz
  obtain ⟨v4, v5, v6, v15, v16, v17, hM9⟩ := hW.1.mp
  have hM := hM9.mr
  obtain ⟨fu, fq, fm, fd, h_m, h_u, h_q, h_n9, h_g, hMN, hSg⟩ := id hM9
  have hM41 : 41 < Z.1 := by omega
  have hM42 : 42 < Z.1 := by omega
  have hM43 : 43 < Z.1 := by omega
  have hM44 : 44 < Z.1 := by omega
  have hM45 : 45 < Z.1 := by omega
  refine z_enter (maxL := 5) (ret := (some .int)) (lv := [(0, .ref (Z.2.1 41)), (1, .int x), (2, .int y)]) (plainFor_of_name (by decide +kernel)) rfl (fun ls h => by subst h; exact lv_entry [.ref (Z.2.1 41), .int x, .int y] (n := 5) (Nat.le_of_ble_eq_true rfl)) ?_
  intro p e s m args below meth c hx hb hml hr hlocks hown hts hK hS hsz ls hl
  refine lv_iload_n hx hb dX10_choose_0 rfl (lv_at hl 1 rfl) ?_
  refine z_calli (z_runS (As := [.int x]) (rest := []) ⟨hx, hb, hml, hown, hts⟩ hK hS ((m_noSystem Z g x) l _) gX10_choose_X10_noSystem rfl 1 (by decide +kernel) ⟨Nat.le_of_ble_eq_true rfl, Nat.le_of_ble_eq_true rfl⟩ rfl hl.1 rfl (Nat.le_of_ble_eq_true rfl) dX10_choose_1 ⟨Nat.le_of_ble_eq_true rfl, Nat.le_of_ble_eq_true rfl⟩) hS (fun rn g_1 H locs hp_2 hS => ?_)
  obtain ⟨rfl, hp_2⟩ := hp_2
  have hrn := hp_2
  refine lv_if_eq (tgt := 10) hx hb dX10_choose_4 (by decide) (fun c_3 => ?_) (fun c_3 => ?_)
  · have i_3 := z_eq c_3
    rw [tI_0] at i_3
    have hzs : zsy x.toInt := Classical.byContradiction (zbo_f hrn c_3)
    obtain ⟨s1, es1, hs1x, -⟩ := z_nI_of (x := x) hzs.1
    have hs1 : s1 < 2 := by have := hzs.2; omega
    have htn1 : x.toInt.toNat = s1 := by omega
    obtain ⟨hok, hp, hq, hm, hd⟩ := hSg s1 hs1
    have hPb := zP_bd hok
    have hn12 := hok.2.2.2.1
    have hq1 := hok.2.1
    rw [es1] at hl
    refine lv_aload_n hx hb dX10_choose_10 rfl (lv_at hl 0 rfl) ?_
    refine lv_iload_n hx hb dX10_choose_11 rfl (lv_at hl 1 rfl) ?_
    refine lv_iload_n hx hb dX10_choose_12 rfl (lv_at hl 2 rfl) ?_
    refine z_calli (z_runV (As := [.int (nI s1), .int y]) (rest := []) ⟨hx, hb, hml, hown, hts⟩ hK hS ((m_placeOf Z g sg hM s1 hs1 y) l _) gX10_choose_X10_placeOf rfl 2 (by decide +kernel) ⟨Nat.le_of_ble_eq_true rfl, Nat.le_of_ble_eq_true rfl⟩ h_m hM41 rfl rfl hl.1 rfl (Nat.le_of_ble_eq_true rfl) dX10_choose_13 ⟨Nat.le_of_ble_eq_true rfl, Nat.le_of_ble_eq_true rfl⟩) hS (fun rp g_4 H locs hp_5 hS => ?_)
    obtain ⟨rfl, hp_5⟩ := hp_5
    have hrp := hp_5
    refine lv_istore_n (lv' := [(3, .int rp), (0, .ref (Z.2.1 41)), (1, .int (nI s1)), (2, .int y)]) hx hb dX10_choose_16 rfl hl (by decide) rfl (fun ls hl => ?_)
    refine lv_iload_n hx hb dX10_choose_17 rfl (lv_at hl 0 rfl) ?_
    refine lv_if_ge (tgt := 24) hx hb dX10_choose_18 (by decide) (fun c_6 => ?_) (fun c_6 => ?_)
    · have i_6 := z_le c_6
      rw [tI_0] at i_6
      have hfd : zdi (sg s1) y.toInt < (sg s1).2.2.1 := by
        rcases hrp with ⟨q1, q2⟩ | ⟨q1, q2⟩
        · exact q1
        · exfalso; rw [q2, tI_m1] at i_6; omega
      have erp : rp = nI (zdi (sg s1) y.toInt) := by
        rcases hrp with ⟨q1, q2⟩ | ⟨q1, q2⟩
        · exact q2
        · exact absurd hfd q1
      obtain ⟨d9, ed9⟩ : ∃ d9 : Nat, d9 = zdi (sg s1) y.toInt := ⟨_, rfl⟩
      rw [← ed9] at hfd erp
      subst erp
      have hdd : (sg s1).2.2.2 d9 = y.toInt := by
        have h9 := zfi_yes (fun i => decide ((sg s1).2.2.2 i = y.toInt)) (sg s1).2.2.1 (by rw [show zfi (fun i => decide ((sg s1).2.2.2 i = y.toInt)) (sg s1).2.2.1 = d9 from ed9.symm]; exact hfd)
        rw [show zfi (fun i => decide ((sg s1).2.2.2 i = y.toInt)) (sg s1).2.2.1 = d9 from ed9.symm] at h9
        exact of_decide_eq_true h9
      refine lv_iload_n hx hb dX10_choose_24 rfl (lv_at hl 0 rfl) ?_
      refine lv_istore (lv' := [(4, .int (nI d9)), (3, .int (nI d9)), (0, .ref (Z.2.1 41)), (1, .int (nI s1)), (2, .int y)]) hx hb dX10_choose_25 hl (by decide) rfl (fun ls hl => ?_)
      have hcut_27 : ∀ (nn_27 : Nat) (j : Nat) (fd2 : Nat → Int32) (ga : Nat → va_E) (h_m : ga 41 = .inr (10, [.ref (Z.2.1 42), .ref (Z.2.1 43), .ref (Z.2.1 44), .ref (Z.2.1 45), .int v4, .int v5, .int v6, .ref (Z.2.1 46), .ref (Z.2.1 47), .ref (Z.2.1 48), .ref (Z.2.1 49), .ref (Z.2.1 50), .ref (Z.2.1 51), .ref (Z.2.1 52), .ref (Z.2.1 53), .long v15, .long v16, .int v17, .ref (Z.2.1 54), .ref (Z.2.1 55), .ref (Z.2.1 56)])) (h_u : ga 42 = .inl (Z.2.2.2 0, 2, .inl fu)) (h_q : ga 43 = .inl (Z.2.2.2 0, 2, .inl fq)) (h_n9 : ga 44 = .inl (Z.2.2.2 0, 2, .inl fm)) (h_g : ga 45 = .inl (Z.2.2.2 0, 24, .inl fd2)) (hfr_ga : z_fr 44 2 g ga) (hj : j ≤ d9) (hf2 : ∀ k, fd2 k = if 12 * s1 + j < k ∧ k ≤ 12 * s1 + d9 then fd (k - 1) else fd k) (hm_27 : j < nn_27) (H : Heap) (locs : List Loc) (ls : Array Slot), z_S Z (z_A Z sz) s.heap ga H locs → lv_has ls 5 [(0, .ref (Z.2.1 41)), (1, .int (nI s1)), (2, .int y), (3, .int (nI d9)), (4, .int (nI j))] → W p l e (headSpec wsX10_choose (z_rm 2 42)).room s m args below meth c H locs 0 0 (MQ below (va_Qi (fun r g1 => z_pm Z g (sp_choose (sg, rw9) x.toInt y.toInt) r g1) (z_B Z) (z_A Z sz)) args s 0 0 (z_A Z sz)) (F0 m 27 ls []) := by
        intro nn_27
        induction nn_27 with
        | zero => intro j fd2 ga h_m h_u h_q h_n9 h_g hfr_ga hj hf2 hm_27 H locs ls hS hl; exact absurd hm_27 (Nat.not_lt_zero _)
        | succ nn_27 ih_27 =>
          intro j fd2 ga h_m h_u h_q h_n9 h_g hfr_ga hj hf2 hm_27 H locs ls hS hl
          refine lv_iload hx hb dX10_choose_27 (lv_at hl 4 rfl) ?_
          refine lv_if_le (tgt := 64) hx hb dX10_choose_29 (by decide) (fun c_7 => ?_) (fun c_7 => ?_)
          · have i_7 := z_le c_7
            rw [nI_toInt (by omega)] at i_7
            rw [tI_0] at i_7
            have hj0 : j = 0 := by omega
            refine lv_aload_n hx hb dX10_choose_64 rfl (lv_at hl 0 rfl) ?_
            refine z_get (own := RX10) (C := RX10) (T := TX10) (N := 21) hx hb hts in_X10_choose_10 hown hK hS h_m hM41 rfl 3 (by decide) (List.mem_of_getElem? (i := 3) rfl) rfl rfl dX10_choose_65 ?_
            refine lv_bipush (v := 12) hx hb dX10_choose_68 (by decide) ?_
            refine lv_iload_n hx hb dX10_choose_70 rfl (lv_at hl 1 rfl) ?_
            refine lv_imul hx hb dX10_choose_71 ?_
            rw [show 12 * (nI s1) = nI (12 * s1) from zm_x12 (by omega)]
            refine lv_iload_n hx hb dX10_choose_72 rfl (lv_at hl 2 rfl) ?_
            refine z_iast hx hb hK hS h_g hM45 (vp_in_nI (by omega) (by omega)) dX10_choose_73 (fun g_8 H locs hg_8 hS => ?_)
            have h_g : g_8 45 = .inl (Z.2.2.2 0, 24, .inl (upd fd2 (nI (12 * s1)).toNatClampNeg y)) := z_up_s hg_8
            have h_m := z_up_n hg_8 h_m (by omega)
            have h_u := z_up_n hg_8 h_u (by omega)
            have h_q := z_up_n hg_8 h_q (by omega)
            have h_n9 := z_up_n hg_8 h_n9 (by omega)
            refine lv_iload_n hx hb dX10_choose_74 rfl (lv_at hl 3 rfl) ?_
            refine z_iret hx hb hr hlocks hS ?_ dX10_choose_75
            show z_pm Z g (sp_choose (sg, rw9) x.toInt y.toInt) _ _
            unfold sp_choose
            rw [zite_t hzs, htn1]
            dsimp only
            rw [← ed9, zite_t hfd]
            subst hj0
            have hfz : z_fr 44 2 g g_8 := (hfr_ga.up hg_8 (by omega))
            rw [nI_clamp (by omega)] at h_g
            exact ⟨nI_toInt (by omega), ⟨⟨_, _, _, _, _, _, _, _, _, _, h_m, h_u, h_q, h_n9, h_g, hMN, hSg.upd (s := s1) (b := ((sg s1).1, (sg s1).2.1, (sg s1).2.2.1, fun i => if i = 0 then (sg s1).2.2.2 d9 else if i ≤ d9 then (sg s1).2.2.2 (i - 1) else (sg s1).2.2.2 i)) (zb_ok_cho hok hfd) (fun k hk => rfl) (fun k hk => rfl) (fun k hk => rfl) (fun k hk => by rw [pk_un (by omega), hf2, if_neg (by omega)]) ⟨hp, hq, hm, fun i hi => by
              have h8 : i < (sg s1).2.2.1 := hi
              dsimp only
              by_cases h9 : i = 0
              · rw [h9, Nat.add_zero, pk_us, if_pos rfl]; exact hdd.symm
              · rw [pk_un (by omega), hf2, if_neg h9]
                by_cases h7 : i ≤ d9
                · rw [if_pos (by omega), if_pos h7, show 12 * s1 + i - 1 = 12 * s1 + (i - 1) by omega]; exact hd (i - 1) (by omega)
                · rw [if_neg (by omega), if_neg h7]; exact hd i h8⟩⟩, hW.2.congr (fun j h1 h2 => hfz j (by omega))⟩, hfz.wide (by omega) (by omega)⟩
          · have i_7 := z_nle c_7
            rw [nI_toInt (by omega)] at i_7
            rw [tI_0] at i_7
            obtain ⟨t9, et9⟩ : ∃ t, j = t + 1 := ⟨j - 1, by omega⟩
            subst et9
            refine lv_aload_n hx hb dX10_choose_32 rfl (lv_at hl 0 rfl) ?_
            refine z_get (own := RX10) (C := RX10) (T := TX10) (N := 21) hx hb hts in_X10_choose_10 hown hK hS h_m hM41 rfl 3 (by decide) (List.mem_of_getElem? (i := 3) rfl) rfl rfl dX10_choose_33 ?_
            refine lv_bipush (v := 12) hx hb dX10_choose_36 (by decide) ?_
            refine lv_iload_n hx hb dX10_choose_38 rfl (lv_at hl 1 rfl) ?_
            refine lv_imul hx hb dX10_choose_39 ?_
            refine lv_iload hx hb dX10_choose_40 (lv_at hl 4 rfl) ?_
            refine lv_iadd hx hb dX10_choose_42 ?_
            rw [show (12 * (nI s1)) + (nI (t9 + 1)) = nI (12 * s1 + (t9 + 1)) from zm_ix (by omega) (by omega)]
            refine lv_aload_n hx hb dX10_choose_43 rfl (lv_at hl 0 rfl) ?_
            refine z_get (own := RX10) (C := RX10) (T := TX10) (N := 21) hx hb hts in_X10_choose_10 hown hK hS h_m hM41 rfl 3 (by decide) (List.mem_of_getElem? (i := 3) rfl) rfl rfl dX10_choose_44 ?_
            refine lv_bipush (v := 12) hx hb dX10_choose_47 (by decide) ?_
            refine lv_iload_n hx hb dX10_choose_49 rfl (lv_at hl 1 rfl) ?_
            refine lv_imul hx hb dX10_choose_50 ?_
            refine lv_iload hx hb dX10_choose_51 (lv_at hl 4 rfl) ?_
            refine lv_iadd hx hb dX10_choose_53 ?_
            rw [show (12 * (nI s1)) + (nI (t9 + 1)) = nI (12 * s1 + (t9 + 1)) from zm_ix (by omega) (by omega)]
            refine lv_iconst (v := 1) hx hb dX10_choose_54 (by decide) ?_
            refine lv_isub hx hb dX10_choose_55 ?_
            rw [show (nI (12 * s1 + (t9 + 1))) - 1 = nI (12 * s1 + (t9 + 1) - 1) from zm_dec (by omega) (by omega)]
            refine z_iald hx hb hK hS h_g hM45 (vp_in_nI (by omega) (by omega)) dX10_choose_56 ?_
            rw [show fd2 (nI (12 * s1 + (t9 + 1) - 1)).toNatClampNeg = fd2 (12 * s1 + (t9 + 1) - 1) from by rw [nI_clamp (by omega)]]
            refine z_iast hx hb hK hS h_g hM45 (vp_in_nI (by omega) (by omega)) dX10_choose_57 (fun g_9 H locs hg_9 hS => ?_)
            have h_g : g_9 45 = .inl (Z.2.2.2 0, 24, .inl (upd fd2 (nI (12 * s1 + (t9 + 1))).toNatClampNeg (fd2 (12 * s1 + (t9 + 1) - 1)))) := z_up_s hg_9
            have h_m := z_up_n hg_9 h_m (by omega)
            have h_u := z_up_n hg_9 h_u (by omega)
            have h_q := z_up_n hg_9 h_q (by omega)
            have h_n9 := z_up_n hg_9 h_n9 (by omega)
            refine lv_iinc (v := (nI t9)) (lv' := [(4, .int (nI t9)), (0, .ref (Z.2.1 41)), (1, .int (nI s1)), (2, .int y), (3, .int (nI d9))]) hx hb dX10_choose_58 hl (k := 4) rfl (pk_m1 _) (by decide) rfl (fun ls hl => ?_)
            refine lv_goto (tgt := 27) hx hb dX10_choose_61 (by decide) ?_
            exact ih_27 t9 (upd fd2 (nI (12 * s1 + (t9 + 1))).toNatClampNeg (fd2 (12 * s1 + (t9 + 1) - 1))) g_9 h_m h_u h_q h_n9 h_g (hfr_ga.up hg_9 (by omega)) (by omega) (fun k => by
              rw [nI_clamp (by omega)]
              by_cases h9 : k = 12 * s1 + (t9 + 1)
              · rw [h9, pk_us, hf2, if_neg (by omega), if_pos (by omega)]
              · rw [pk_un h9, hf2 k]
                by_cases h8 : 12 * s1 + (t9 + 1) < k ∧ k ≤ 12 * s1 + d9
                · rw [if_pos h8, if_pos (by omega)]
                · rw [if_neg h8, if_neg (by omega)]) (by omega) _ _ _ hS (lv_sub hl [1, 2, 3, 4, 0] rfl)
      exact hcut_27 (d9 + 1) d9 fd g h_m h_u h_q h_n9 h_g z_fr.rf (by omega) (fun k => by rw [if_neg (by omega)]) (Nat.lt_succ_self _) _ _ _ hS (lv_sub hl [2, 3, 4, 1, 0] rfl)
    · have i_6 := z_nle c_6
      rw [tI_0] at i_6
      have hnf : ¬ zdi (sg s1) y.toInt < (sg s1).2.2.1 := by
        rcases hrp with ⟨q1, q2⟩ | ⟨q1, q2⟩
        · exfalso; rw [q2, nI_toInt (by omega)] at i_6; omega
        · exact q1
      refine lv_ldc (v := (-1000004)) hx hb hown (hts _ (List.mem_of_getElem? (i := 2) rfl)) dX10_choose_21 ?_
      refine z_iret hx hb hr hlocks hS ?_ dX10_choose_23
      show z_pm Z g (sp_choose (sg, rw9) x.toInt y.toInt) _ _
      unfold sp_choose
      rw [zite_t hzs, htn1, zite_f hnf]
      exact ⟨rfl, hW, z_fr.rf⟩
  · have i_3 := z_ne c_3
    rw [tI_0] at i_3
    have hnv := zbo_t hrn c_3
    refine lv_ldc (v := (-1000001)) hx hb hown (hts _ (List.mem_of_getElem? (i := 1) rfl)) dX10_choose_7 ?_
    refine z_iret hx hb hr hlocks hS ?_ dX10_choose_9
    show z_pm Z g (sp_choose (sg, rw9) x.toInt y.toInt) _ _
    unfold sp_choose
    rw [zite_f hnv]
    exact ⟨rfl, hW, z_fr.rf⟩

