/-! the reference: its systems change -/
theorem z_ms.upd {sg : Nat → zb} {fu fq fm fd fu1 fq1 fm1 fd1 : Nat → Int32} (h : z_ms sg fu fq fm fd) {s : Nat} {b : zb} (hok : zb_ok b) (hu : ∀ k, k ≠ s → fu1 k = fu k) (hq : ∀ k, k ≠ s → fq1 k = fq k) (hm : ∀ k, k ≠ s → fm1 k = fm k) (hd : ∀ k, (k < 12 * s ∨ 12 * s + 12 ≤ k) → fd1 k = fd k) (hb : (fu1 s).toInt = b.1 ∧ (fq1 s).toInt = b.2.1 ∧ fm1 s = nI b.2.2.1 ∧ ∀ i, i < b.2.2.1 → (fd1 (12 * s + i)).toInt = b.2.2.2 i) : z_ms (zupd sg s b) fu1 fq1 fm1 fd1 := by
  intro t ht
  by_cases e : t = s
  · subst e; rw [zupd_s]; exact ⟨hok, hb⟩
  · rw [zupd_n e, hu t e, hq t e, hm t e]
    obtain ⟨a1, a2, a3, a4, a5⟩ := h t ht
    have h12 := a1.2.2.2.1
    exact ⟨a1, a2, a3, a4, fun i hi => by rw [hd _ (by omega)]; exact a5 i hi⟩
theorem zb_ok_add {b : zb} (h : zb_ok b) (hn : b.2.2.1 < 12) {x : Int} (hx : -20 ≤ x ∧ x ≤ 20) : zb_ok (b.1, b.2.1, b.2.2.1 + 1, fun i => if i = b.2.2.1 then x else b.2.2.2 i) := by
  obtain ⟨a1, a2, a3, a4, a5⟩ := h
  refine ⟨a1, a2, a3, by show b.2.2.1 + 1 ≤ 12; omega, fun i hi => ?_⟩
  have hi2 : i < b.2.2.1 + 1 := hi
  show -20 ≤ (if i = b.2.2.1 then x else b.2.2.2 i) ∧ (if i = b.2.2.1 then x else b.2.2.2 i) ≤ 20
  by_cases e : i = b.2.2.1
  · rw [if_pos e]; exact hx
  · rw [if_neg e]; exact a5 i (by omega)
theorem zb_ok_new {p q : Int} {n : Nat} (hp : (2 ≤ p ∧ p ≤ 10) ∨ (-10 ≤ p ∧ p ≤ -2)) (hq : 1 ≤ q) (hqn : q < n) (hn : n = p.natAbs) : zb_ok (p, q, n, fun i => (i : Int)) := by
  have e : zP (p, q, n, fun i => (i : Int)) = n := by
    unfold zP
    dsimp only
    split <;> omega
  refine ⟨hp, hq, by rw [e]; exact hqn, by show n ≤ 12; omega, fun i hi => ?_⟩
  have hi2 : i < n := hi
  show -20 ≤ (i : Int) ∧ (i : Int) ≤ 20
  omega
theorem in_X10_addDigit_10 : ∀ w ∈ wsX100, w ∈ wsX10_addDigit := by decide +kernel
set_option maxHeartbeats 4000000 in
set_option maxRecDepth 100000 in
theorem m_addDigit (Z : zT) (g : Nat → va_E) (sg : Nat → zb) (rw9 : Nat → zr) (hW : z_mw Z g sg rw9) (x y : Int32) : z_Mi Z yX10_addDigit wsX10_addDigit 2 42 [.ref (Z.2.1 41), .int x, .int y] g (fun r g1 => z_pm Z g (sp_addDigit (sg, rw9) x.toInt y.toInt) r g1) := by
  intro l sz
  obtain ⟨v4, v5, v6, v15, v16, v17, hM9⟩ := hW.1.mp
  have hM := hM9.mr
  obtain ⟨fu, fq, fm, fd, h_m, h_u, h_q, h_n9, h_g, hMN, hSg⟩ := id hM9
  have hM41 : 41 < Z.1 := by omega
  have hM42 : 42 < Z.1 := by omega
  have hM43 : 43 < Z.1 := by omega
  have hM44 : 44 < Z.1 := by omega
  have hM45 : 45 < Z.1 := by omega
  refine z_enter (maxL := 3) (ret := (some .int)) (lv := [(0, .ref (Z.2.1 41)), (1, .int x), (2, .int y)]) (plainFor_of_name (by decide +kernel)) rfl (fun ls h => by subst h; exact lv_entry [.ref (Z.2.1 41), .int x, .int y] (n := 3) (Nat.le_of_ble_eq_true rfl)) ?_
  intro p e s m args below meth c hx hb hml hr hlocks hown hts hK hS hsz ls hl
  refine lv_iload_n hx hb dX10_addDigit_0 rfl (lv_at hl 1 rfl) ?_
  refine z_calli (z_runS (As := [.int x]) (rest := []) ⟨hx, hb, hml, hown, hts⟩ hK hS ((m_noSystem Z g x) l _) gX10_addDigit_X10_noSystem rfl 1 (by decide +kernel) ⟨Nat.le_of_ble_eq_true rfl, Nat.le_of_ble_eq_true rfl⟩ rfl hl.1 rfl (Nat.le_of_ble_eq_true rfl) dX10_addDigit_1 ⟨Nat.le_of_ble_eq_true rfl, Nat.le_of_ble_eq_true rfl⟩) hS (fun rn g_1 H locs hp_2 hS => ?_)
  obtain ⟨rfl, hp_2⟩ := hp_2
  have hrn := hp_2
  refine lv_if_eq (tgt := 10) hx hb dX10_addDigit_4 (by decide) (fun c_3 => ?_) (fun c_3 => ?_)
  · have i_3 := z_eq c_3
    rw [tI_0] at i_3
    have hzs : zsy x.toInt := Classical.byContradiction (zbo_f hrn c_3)
    obtain ⟨s1, es1, hs1x, -⟩ := z_nI_of (x := x) hzs.1
    subst es1
    have hs1 : s1 < 2 := by have := hzs.2; omega
    have htn1 : (nI s1).toInt.toNat = s1 := by omega
    obtain ⟨hok, hp, hq, hm, hd⟩ := hSg s1 hs1
    have hPb := zP_bd hok
    have hn12 := hok.2.2.2.1
    have hq1 := hok.2.1
    refine lv_iload_n hx hb dX10_addDigit_10 rfl (lv_at hl 2 rfl) ?_
    refine lv_bipush (v := (-20)) hx hb dX10_addDigit_11 (by decide) ?_
    refine lv_bipush (v := 20) hx hb dX10_addDigit_13 (by decide) ?_
    refine z_calli (z_runS (As := [.int y, .int (-20), .int 20]) (rest := []) ⟨hx, hb, hml, hown, hts⟩ hK hS ((m_in Z g y (-20) 20) l _) gX10_addDigit_X10_in rfl 3 (by decide +kernel) ⟨Nat.le_of_ble_eq_true rfl, Nat.le_of_ble_eq_true rfl⟩ rfl hl.1 rfl (Nat.le_of_ble_eq_true rfl) dX10_addDigit_15 ⟨Nat.le_of_ble_eq_true rfl, Nat.le_of_ble_eq_true rfl⟩) hS (fun r1h g_4 H locs hp_5 hS => ?_)
    obtain ⟨rfl, hp_5⟩ := hp_5
    have hr1h := hp_5
    rw [tI_m20, tI_20] at hr1h
    refine lv_if_ne (tgt := 24) hx hb dX10_addDigit_18 (by decide) (fun c_6 => ?_) (fun c_6 => ?_)
    · have i_6 := z_ne c_6
      rw [tI_0] at i_6
      have h20 := zbo_t hr1h c_6
      refine lv_aload_n hx hb dX10_addDigit_24 rfl (lv_at hl 0 rfl) ?_
      refine lv_iload_n hx hb dX10_addDigit_25 rfl (lv_at hl 1 rfl) ?_
      refine lv_iload_n hx hb dX10_addDigit_26 rfl (lv_at hl 2 rfl) ?_
      refine z_calli (z_runV (As := [.int (nI s1), .int y]) (rest := []) ⟨hx, hb, hml, hown, hts⟩ hK hS ((m_placeOf Z g sg hM s1 hs1 y) l _) gX10_addDigit_X10_placeOf rfl 2 (by decide +kernel) ⟨Nat.le_of_ble_eq_true rfl, Nat.le_of_ble_eq_true rfl⟩ h_m hM41 rfl rfl hl.1 rfl (Nat.le_of_ble_eq_true rfl) dX10_addDigit_27 ⟨Nat.le_of_ble_eq_true rfl, Nat.le_of_ble_eq_true rfl⟩) hS (fun rp g_7 H locs hp_8 hS => ?_)
      obtain ⟨rfl, hp_8⟩ := hp_8
      have hrp := hp_8
      refine lv_if_lt (tgt := 36) hx hb dX10_addDigit_30 (by decide) (fun c_9 => ?_) (fun c_9 => ?_)
      · have i_9 := z_lt c_9
        rw [tI_0] at i_9
        have hnf : ¬ zdi (sg s1) y.toInt < (sg s1).2.2.1 := by
          rcases hrp with ⟨q1, q2⟩ | ⟨q1, q2⟩
          · exfalso; rw [q2, nI_toInt (by omega)] at i_9; omega
          · exact q1
        refine lv_aload_n hx hb dX10_addDigit_36 rfl (lv_at hl 0 rfl) ?_
        refine z_get (own := RX10) (C := RX10) (T := TX10) (N := 21) hx hb hts in_X10_addDigit_10 hown hK hS h_m hM41 rfl 2 (by decide) (List.mem_of_getElem? (i := 4) rfl) rfl rfl dX10_addDigit_37 ?_
        refine lv_iload_n hx hb dX10_addDigit_40 rfl (lv_at hl 1 rfl) ?_
        refine z_iald hx hb hK hS h_n9 hM44 (vp_in_nI (by omega) (by omega)) dX10_addDigit_41 ?_
        rw [show fm (nI s1).toNatClampNeg = nI (sg s1).2.2.1 from by rw [nI_clamp (by omega)]; exact hm]
        refine lv_bipush (v := 12) hx hb dX10_addDigit_42 (by decide) ?_
        refine lv_icmp_ne (tgt := 50) hx hb dX10_addDigit_44 (by decide) (fun c_10 => ?_) (fun c_10 => ?_)
        · have i_10 := z_ne c_10
          rw [nI_toInt (by omega)] at i_10
          rw [tI_12] at i_10
          have hn12b : (sg s1).2.2.1 < 12 := by omega
          refine lv_aload_n hx hb dX10_addDigit_50 rfl (lv_at hl 0 rfl) ?_
          refine z_get (own := RX10) (C := RX10) (T := TX10) (N := 21) hx hb hts in_X10_addDigit_10 hown hK hS h_m hM41 rfl 3 (by decide) (List.mem_of_getElem? (i := 6) rfl) rfl rfl dX10_addDigit_51 ?_
          refine lv_bipush (v := 12) hx hb dX10_addDigit_54 (by decide) ?_
          refine lv_iload_n hx hb dX10_addDigit_56 rfl (lv_at hl 1 rfl) ?_
          refine lv_imul hx hb dX10_addDigit_57 ?_
          refine lv_aload_n hx hb dX10_addDigit_58 rfl (lv_at hl 0 rfl) ?_
          refine z_get (own := RX10) (C := RX10) (T := TX10) (N := 21) hx hb hts in_X10_addDigit_10 hown hK hS h_m hM41 rfl 2 (by decide) (List.mem_of_getElem? (i := 4) rfl) rfl rfl dX10_addDigit_59 ?_
          refine lv_iload_n hx hb dX10_addDigit_62 rfl (lv_at hl 1 rfl) ?_
          refine z_iald hx hb hK hS h_n9 hM44 (vp_in_nI (by omega) (by omega)) dX10_addDigit_63 ?_
          rw [show fm (nI s1).toNatClampNeg = nI (sg s1).2.2.1 from by rw [nI_clamp (by omega)]; exact hm]
          refine lv_iadd hx hb dX10_addDigit_64 ?_
          rw [show (12 * (nI s1)) + (nI (sg s1).2.2.1) = nI (12 * s1 + (sg s1).2.2.1) from zm_ix (by omega) (by omega)]
          refine lv_iload_n hx hb dX10_addDigit_65 rfl (lv_at hl 2 rfl) ?_
          refine z_iast hx hb hK hS h_g hM45 (vp_in_nI (by omega) (by omega)) dX10_addDigit_66 (fun g_11 H locs hg_11 hS => ?_)
          have h_g : g_11 45 = .inl (Z.2.2.2 0, 24, .inl (upd fd (nI (12 * s1 + (sg s1).2.2.1)).toNatClampNeg y)) := z_up_s hg_11
          have h_m := z_up_n hg_11 h_m (by omega)
          have h_u := z_up_n hg_11 h_u (by omega)
          have h_q := z_up_n hg_11 h_q (by omega)
          have h_n9 := z_up_n hg_11 h_n9 (by omega)
          refine lv_aload_n hx hb dX10_addDigit_67 rfl (lv_at hl 0 rfl) ?_
          refine z_get (own := RX10) (C := RX10) (T := TX10) (N := 21) hx hb hts in_X10_addDigit_10 hown hK hS h_m hM41 rfl 2 (by decide) (List.mem_of_getElem? (i := 4) rfl) rfl rfl dX10_addDigit_68 ?_
          refine lv_iload_n hx hb dX10_addDigit_71 rfl (lv_at hl 1 rfl) ?_
          refine lv_dup2_11 hx hb dX10_addDigit_72 rfl rfl ?_
          refine z_iald hx hb hK hS h_n9 hM44 (vp_in_nI (by omega) (by omega)) dX10_addDigit_73 ?_
          rw [show fm (nI s1).toNatClampNeg = nI (sg s1).2.2.1 from by rw [nI_clamp (by omega)]; exact hm]
          refine lv_iconst (v := 1) hx hb dX10_addDigit_74 (by decide) ?_
          refine lv_iadd hx hb dX10_addDigit_75 ?_
          rw [show (nI (sg s1).2.2.1) + 1 = nI ((sg s1).2.2.1 + 1) from nI_1 _]
          refine z_iast hx hb hK hS h_n9 hM44 (vp_in_nI (by omega) (by omega)) dX10_addDigit_76 (fun g_12 H locs hg_12 hS => ?_)
          have h_n9 : g_12 44 = .inl (Z.2.2.2 0, 2, .inl (upd fm (nI s1).toNatClampNeg (nI ((sg s1).2.2.1 + 1)))) := z_up_s hg_12
          have h_m := z_up_n hg_12 h_m (by omega)
          have h_u := z_up_n hg_12 h_u (by omega)
          have h_q := z_up_n hg_12 h_q (by omega)
          have h_g := z_up_n hg_12 h_g (by omega)
          refine lv_aload_n hx hb dX10_addDigit_77 rfl (lv_at hl 0 rfl) ?_
          refine z_get (own := RX10) (C := RX10) (T := TX10) (N := 21) hx hb hts in_X10_addDigit_10 hown hK hS h_m hM41 rfl 2 (by decide) (List.mem_of_getElem? (i := 4) rfl) rfl rfl dX10_addDigit_78 ?_
          refine lv_iload_n hx hb dX10_addDigit_81 rfl (lv_at hl 1 rfl) ?_
          refine z_iald hx hb hK hS h_n9 hM44 (vp_in_nI (by omega) (by omega)) dX10_addDigit_82 ?_
          rw [show (upd fm (nI s1).toNatClampNeg (nI ((sg s1).2.2.1 + 1))) (nI s1).toNatClampNeg = nI ((sg s1).2.2.1 + 1) from by rw [nI_clamp (by omega), pk_us]]
          refine z_iret hx hb hr hlocks hS ?_ dX10_addDigit_83
          show z_pm Z g (sp_addDigit (sg, rw9) (nI s1).toInt y.toInt) _ _
          unfold sp_addDigit
          rw [zite_t hzs, zite_t h20, htn1, zite_f hnf, zite_t hn12b]
          have hfz : z_fr 44 2 g g_12 := ((z_fr.rf.up hg_11 (by omega)).up hg_12 (by omega))
          rw [nI_clamp (by omega)] at h_n9 h_g
          exact ⟨(nI_toInt (n := (sg s1).2.2.1 + 1) (by omega)).trans (by dsimp only; omega), ⟨⟨_, _, _, _, _, _, _, _, _, _, h_m, h_u, h_q, h_n9, h_g, hMN, hSg.upd (s := s1) (b := ((sg s1).1, (sg s1).2.1, (sg s1).2.2.1 + 1, fun i => if i = (sg s1).2.2.1 then y.toInt else (sg s1).2.2.2 i)) (zb_ok_add hok hn12b h20) (fun k hk => rfl) (fun k hk => rfl) (fun k hk => pk_un hk) (fun k hk => pk_un (by omega)) ⟨hp, hq, pk_us, fun i hi => by
            by_cases h9 : i = (sg s1).2.2.1
            · rw [h9, pk_us]; dsimp only; rw [if_pos rfl]
            · rw [pk_un (by omega)]; dsimp only; rw [if_neg h9]; exact hd i (by have h8 : i < (sg s1).2.2.1 + 1 := hi; omega)⟩⟩, hW.2.congr (fun j h1 h2 => hfz j (by omega))⟩, hfz.wide (by omega) (by omega)⟩
        · have i_10 := z_eq c_10
          rw [nI_toInt (by omega)] at i_10
          rw [tI_12] at i_10
          refine lv_ldc (v := (-1000005)) hx hb hown (hts _ (List.mem_of_getElem? (i := 5) rfl)) dX10_addDigit_47 ?_
          refine z_iret hx hb hr hlocks hS ?_ dX10_addDigit_49
          show z_pm Z g (sp_addDigit (sg, rw9) (nI s1).toInt y.toInt) _ _
          unfold sp_addDigit
          rw [zite_t hzs, zite_t h20, htn1, zite_f hnf, zite_f (show ¬ (sg s1).2.2.1 < 12 by omega)]
          exact ⟨rfl, hW, z_fr.rf⟩
      · have i_9 := z_nlt c_9
        rw [tI_0] at i_9
        have hfd : zdi (sg s1) y.toInt < (sg s1).2.2.1 := by
          rcases hrp with ⟨q1, q2⟩ | ⟨q1, q2⟩
          · exact q1
          · exfalso; rw [q2, tI_m1] at i_9; omega
        refine lv_ldc (v := (-1000004)) hx hb hown (hts _ (List.mem_of_getElem? (i := 3) rfl)) dX10_addDigit_33 ?_
        refine z_iret hx hb hr hlocks hS ?_ dX10_addDigit_35
        show z_pm Z g (sp_addDigit (sg, rw9) (nI s1).toInt y.toInt) _ _
        unfold sp_addDigit
        rw [zite_t hzs, zite_t h20, htn1, zite_t hfd]
        exact ⟨rfl, hW, z_fr.rf⟩
    · have i_6 := z_eq c_6
      rw [tI_0] at i_6
      have hbad := zbo_f hr1h c_6
      refine lv_ldc (v := (-1000002)) hx hb hown (hts _ (List.mem_of_getElem? (i := 2) rfl)) dX10_addDigit_21 ?_
      refine z_iret hx hb hr hlocks hS ?_ dX10_addDigit_23
      show z_pm Z g (sp_addDigit (sg, rw9) (nI s1).toInt y.toInt) _ _
      unfold sp_addDigit
      rw [zite_t hzs, zite_f hbad]
      exact ⟨rfl, hW, z_fr.rf⟩
  · have i_3 := z_ne c_3
    rw [tI_0] at i_3
    have hnv := zbo_t hrn c_3
    refine lv_ldc (v := (-1000001)) hx hb hown (hts _ (List.mem_of_getElem? (i := 1) rfl)) dX10_addDigit_7 ?_
    refine z_iret hx hb hr hlocks hS ?_ dX10_addDigit_9
    show z_pm Z g (sp_addDigit (sg, rw9) x.toInt y.toInt) _ _
    unfold sp_addDigit
    rw [zite_f hnv]
    exact ⟨rfl, hW, z_fr.rf⟩

theorem in_X10_lay_10 : ∀ w ∈ wsX100, w ∈ wsX10_lay := by decide +kernel
set_option maxHeartbeats 4000000 in
set_option maxRecDepth 100000 in
theorem m_lay (Z : zT) (g : Nat → va_E) (v4 v5 v6 : Int32) (v15 v16 : Int64) (v17 : Int32) (fu fq fm fd : Nat → Int32) (h_m : g 41 = .inr (10, [.ref (Z.2.1 42), .ref (Z.2.1 43), .ref (Z.2.1 44), .ref (Z.2.1 45), .int v4, .int v5, .int v6, .ref (Z.2.1 46), .ref (Z.2.1 47), .ref (Z.2.1 48), .ref (Z.2.1 49), .ref (Z.2.1 50), .ref (Z.2.1 51), .ref (Z.2.1 52), .ref (Z.2.1 53), .long v15, .long v16, .int v17, .ref (Z.2.1 54), .ref (Z.2.1 55), .ref (Z.2.1 56)])) (h_u : g 42 = .inl (Z.2.2.2 0, 2, .inl fu)) (h_q : g 43 = .inl (Z.2.2.2 0, 2, .inl fq)) (h_n9 : g 44 = .inl (Z.2.2.2 0, 2, .inl fm)) (h_g : g 45 = .inl (Z.2.2.2 0, 24, .inl fd)) (hMN : 57 ≤ Z.1) (s1 : Nat) (hs1 : s1 < 2) (x y : Int32) (n : Nat) (hn : (n : Int) = zabs x.toInt) (hn2 : 2 ≤ n ∧ n ≤ 10) : z_Mv Z yX10_lay wsX10_lay 1 20 [.ref (Z.2.1 41), .int (nI s1), .int x, .int y] g (fun g1 => ∃ fd2, g1 42 = .inl (Z.2.2.2 0, 2, .inl (upd fu s1 x)) ∧ g1 43 = .inl (Z.2.2.2 0, 2, .inl (upd fq s1 y)) ∧ g1 44 = .inl (Z.2.2.2 0, 2, .inl (upd fm s1 (nI n))) ∧ g1 45 = .inl (Z.2.2.2 0, 24, .inl fd2) ∧ (∀ i, i < n → fd2 (12 * s1 + i) = nI i) ∧ (∀ k, (k < 12 * s1 ∨ 12 * s1 + n ≤ k) → fd2 k = fd k) ∧ z_fr 42 4 g g1) := by
  intro l sz
  have hM41 : 41 < Z.1 := by omega
  have hM42 : 42 < Z.1 := by omega
  have hM43 : 43 < Z.1 := by omega
  have hM44 : 44 < Z.1 := by omega
  have hM45 : 45 < Z.1 := by omega
  have hxr : x.toInt ≠ -2147483648 := fun h9 => by rw [h9] at hn; unfold zabs at hn; rw [if_pos (by omega)] at hn; omega
  refine z_enter (maxL := 5) (ret := none) (lv := [(0, .ref (Z.2.1 41)), (1, .int (nI s1)), (2, .int x), (3, .int y)]) (plainFor_of_name (by decide +kernel)) rfl (fun ls h => by subst h; exact lv_entry [.ref (Z.2.1 41), .int (nI s1), .int x, .int y] (n := 5) (Nat.le_of_ble_eq_true rfl)) ?_
  intro p e s m args below meth c hx hb hml hr hlocks hown hts hK hS hsz ls hl
  refine lv_aload_n hx hb dX10_lay_0 rfl (lv_at hl 0 rfl) ?_
  refine z_get (own := RX10) (C := RX10) (T := TX10) (N := 21) hx hb hts in_X10_lay_10 hown hK hS h_m hM41 rfl 0 (by decide) (List.mem_of_getElem? (i := 1) rfl) rfl rfl dX10_lay_1 ?_
  refine lv_iload_n hx hb dX10_lay_4 rfl (lv_at hl 1 rfl) ?_
  refine lv_iload_n hx hb dX10_lay_5 rfl (lv_at hl 2 rfl) ?_
  refine z_iast hx hb hK hS h_u hM42 (vp_in_nI (by omega) (by omega)) dX10_lay_6 (fun g_1 H locs hg_1 hS => ?_)
  have h_u : g_1 42 = .inl (Z.2.2.2 0, 2, .inl (upd fu (nI s1).toNatClampNeg x)) := z_up_s hg_1
  have h_m := z_up_n hg_1 h_m (by omega)
  have h_q := z_up_n hg_1 h_q (by omega)
  have h_n9 := z_up_n hg_1 h_n9 (by omega)
  have h_g := z_up_n hg_1 h_g (by omega)
  refine lv_aload_n hx hb dX10_lay_7 rfl (lv_at hl 0 rfl) ?_
  refine z_get (own := RX10) (C := RX10) (T := TX10) (N := 21) hx hb hts in_X10_lay_10 hown hK hS h_m hM41 rfl 1 (by decide) (List.mem_of_getElem? (i := 2) rfl) rfl rfl dX10_lay_8 ?_
  refine lv_iload_n hx hb dX10_lay_11 rfl (lv_at hl 1 rfl) ?_
  refine lv_iload_n hx hb dX10_lay_12 rfl (lv_at hl 3 rfl) ?_
  refine z_iast hx hb hK hS h_q hM43 (vp_in_nI (by omega) (by omega)) dX10_lay_13 (fun g_2 H locs hg_2 hS => ?_)
  have h_q : g_2 43 = .inl (Z.2.2.2 0, 2, .inl (upd fq (nI s1).toNatClampNeg y)) := z_up_s hg_2
  have h_m := z_up_n hg_2 h_m (by omega)
  have h_u := z_up_n hg_2 h_u (by omega)
  have h_n9 := z_up_n hg_2 h_n9 (by omega)
  have h_g := z_up_n hg_2 h_g (by omega)
  refine lv_aload_n hx hb dX10_lay_14 rfl (lv_at hl 0 rfl) ?_
  refine z_get (own := RX10) (C := RX10) (T := TX10) (N := 21) hx hb hts in_X10_lay_10 hown hK hS h_m hM41 rfl 2 (by decide) (List.mem_of_getElem? (i := 3) rfl) rfl rfl dX10_lay_15 ?_
  refine lv_iload_n hx hb dX10_lay_18 rfl (lv_at hl 1 rfl) ?_
  refine lv_iload_n hx hb dX10_lay_19 rfl (lv_at hl 2 rfl) ?_
  refine z_calli (z_runS (As := [.int x]) (rest := [.int (nI s1), .ref (Z.2.1 44)]) ⟨hx, hb, hml, hown, hts⟩ hK hS ((m_absolute Z g_2 x) l _) gX10_lay_X10_absolute rfl 1 (by decide +kernel) ⟨Nat.le_of_ble_eq_true rfl, Nat.le_of_ble_eq_true rfl⟩ rfl hl.1 rfl (Nat.le_of_ble_eq_true rfl) dX10_lay_20 ⟨Nat.le_of_ble_eq_true rfl, Nat.le_of_ble_eq_true rfl⟩) hS (fun ab g_3 H locs hp_4 hS => ?_)
  obtain ⟨rfl, hp_4⟩ := hp_4
  have hab : ab = nI n := z_nI_is (by rw [hp_4.1 hxr]; omega)
  subst hab
  refine z_iast hx hb hK hS h_n9 hM44 (vp_in_nI (by omega) (by omega)) dX10_lay_23 (fun g_5 H locs hg_5 hS => ?_)
  have h_n9 : g_5 44 = .inl (Z.2.2.2 0, 2, .inl (upd fm (nI s1).toNatClampNeg (nI n))) := z_up_s hg_5
  have h_m := z_up_n hg_5 h_m (by omega)
  have h_u := z_up_n hg_5 h_u (by omega)
  have h_q := z_up_n hg_5 h_q (by omega)
  have h_g := z_up_n hg_5 h_g (by omega)
  refine lv_iconst (v := 0) hx hb dX10_lay_24 (by decide) ?_
  refine lv_istore (lv' := [(4, .int 0), (0, .ref (Z.2.1 41)), (1, .int (nI s1)), (2, .int x), (3, .int y)]) hx hb dX10_lay_25 hl (by decide) rfl (fun ls hl => ?_)
  have hcut_27 : ∀ (nn_27 : Nat) (j : Nat) (fd2 : Nat → Int32) (ga : Nat → va_E) (h_m : ga 41 = .inr (10, [.ref (Z.2.1 42), .ref (Z.2.1 43), .ref (Z.2.1 44), .ref (Z.2.1 45), .int v4, .int v5, .int v6, .ref (Z.2.1 46), .ref (Z.2.1 47), .ref (Z.2.1 48), .ref (Z.2.1 49), .ref (Z.2.1 50), .ref (Z.2.1 51), .ref (Z.2.1 52), .ref (Z.2.1 53), .long v15, .long v16, .int v17, .ref (Z.2.1 54), .ref (Z.2.1 55), .ref (Z.2.1 56)])) (h_u : ga 42 = .inl (Z.2.2.2 0, 2, .inl (upd fu (nI s1).toNatClampNeg x))) (h_q : ga 43 = .inl (Z.2.2.2 0, 2, .inl (upd fq (nI s1).toNatClampNeg y))) (h_n9 : ga 44 = .inl (Z.2.2.2 0, 2, .inl (upd fm (nI s1).toNatClampNeg (nI n)))) (h_g : ga 45 = .inl (Z.2.2.2 0, 24, .inl fd2)) (hfr_ga : z_fr 42 4 g ga) (hj : j ≤ n) (hfd : (∀ i, i < j → fd2 (12 * s1 + i) = nI i) ∧ (∀ k, (k < 12 * s1 ∨ 12 * s1 + j ≤ k) → fd2 k = fd k)) (hm_27 : n - j < nn_27) (H : Heap) (locs : List Loc) (ls : Array Slot), z_S Z (z_A Z sz) s.heap ga H locs → lv_has ls 5 [(0, .ref (Z.2.1 41)), (1, .int (nI s1)), (2, .int x), (3, .int y), (4, .int (nI j))] → W p l e (headSpec wsX10_lay (z_rm 1 20)).room s m args below meth c H locs 0 0 (MQ below (va_Qv (fun g1 => ∃ fd2, g1 42 = .inl (Z.2.2.2 0, 2, .inl (upd fu s1 x)) ∧ g1 43 = .inl (Z.2.2.2 0, 2, .inl (upd fq s1 y)) ∧ g1 44 = .inl (Z.2.2.2 0, 2, .inl (upd fm s1 (nI n))) ∧ g1 45 = .inl (Z.2.2.2 0, 24, .inl fd2) ∧ (∀ i, i < n → fd2 (12 * s1 + i) = nI i) ∧ (∀ k, (k < 12 * s1 ∨ 12 * s1 + n ≤ k) → fd2 k = fd k) ∧ z_fr 42 4 g g1) (z_B Z) (z_A Z sz)) args s 0 0 (z_A Z sz)) (F0 m 27 ls []) := by
    intro nn_27
    induction nn_27 with
    | zero => intro j fd2 ga h_m h_u h_q h_n9 h_g hfr_ga hj hfd hm_27 H locs ls hS hl; exact absurd hm_27 (Nat.not_lt_zero _)
    | succ nn_27 ih_27 =>
      intro j fd2 ga h_m h_u h_q h_n9 h_g hfr_ga hj hfd hm_27 H locs ls hS hl
      refine lv_iload hx hb dX10_lay_27 (lv_at hl 4 rfl) ?_
      refine lv_aload_n hx hb dX10_lay_29 rfl (lv_at hl 0 rfl) ?_
      refine z_get (own := RX10) (C := RX10) (T := TX10) (N := 21) hx hb hts in_X10_lay_10 hown hK hS h_m hM41 rfl 2 (by decide) (List.mem_of_getElem? (i := 3) rfl) rfl rfl dX10_lay_30 ?_
      refine lv_iload_n hx hb dX10_lay_33 rfl (lv_at hl 1 rfl) ?_
      refine z_iald hx hb hK hS h_n9 hM44 (vp_in_nI (by omega) (by omega)) dX10_lay_34 ?_
      rw [show (upd fm (nI s1).toNatClampNeg (nI n)) (nI s1).toNatClampNeg = nI n from by rw [nI_clamp (by omega), pk_us]]
      refine lv_icmp_ge (tgt := 58) hx hb dX10_lay_35 (by decide) (fun c_6 => ?_) (fun c_6 => ?_)
      · have i_6 := z_le c_6
        rw [nI_toInt (by omega)] at i_6
        rw [nI_toInt (by omega)] at i_6
        refine z_vret hx hb hr hlocks hS ?_ dX10_lay_58
        rw [nI_clamp (by omega)] at h_u h_q h_n9
        have hjn : j = n := by omega
        subst hjn
        exact ⟨fd2, h_u, h_q, h_n9, h_g, hfd.1, hfd.2, hfr_ga⟩
      · have i_6 := z_nle c_6
        rw [nI_toInt (by omega)] at i_6
        rw [nI_toInt (by omega)] at i_6
        refine lv_aload_n hx hb dX10_lay_38 rfl (lv_at hl 0 rfl) ?_
        refine z_get (own := RX10) (C := RX10) (T := TX10) (N := 21) hx hb hts in_X10_lay_10 hown hK hS h_m hM41 rfl 3 (by decide) (List.mem_of_getElem? (i := 4) rfl) rfl rfl dX10_lay_39 ?_
        refine lv_bipush (v := 12) hx hb dX10_lay_42 (by decide) ?_
        refine lv_iload_n hx hb dX10_lay_44 rfl (lv_at hl 1 rfl) ?_
        refine lv_imul hx hb dX10_lay_45 ?_
        refine lv_iload hx hb dX10_lay_46 (lv_at hl 4 rfl) ?_
        refine lv_iadd hx hb dX10_lay_48 ?_
        rw [show (12 * (nI s1)) + (nI j) = nI (12 * s1 + j) from zm_ix (by omega) (by omega)]
        refine lv_iload hx hb dX10_lay_49 (lv_at hl 4 rfl) ?_
        refine z_iast hx hb hK hS h_g hM45 (vp_in_nI (by omega) (by omega)) dX10_lay_51 (fun g_7 H locs hg_7 hS => ?_)
        have h_g : g_7 45 = .inl (Z.2.2.2 0, 24, .inl (upd fd2 (nI (12 * s1 + j)).toNatClampNeg (nI j))) := z_up_s hg_7
        have h_m := z_up_n hg_7 h_m (by omega)
        have h_u := z_up_n hg_7 h_u (by omega)
        have h_q := z_up_n hg_7 h_q (by omega)
        have h_n9 := z_up_n hg_7 h_n9 (by omega)
        refine lv_iinc (v := (nI (j + 1))) (lv' := [(4, .int (nI (j + 1))), (0, .ref (Z.2.1 41)), (1, .int (nI s1)), (2, .int x), (3, .int y)]) hx hb dX10_lay_52 hl (k := 4) rfl (nI_1 _) (by decide) rfl (fun ls hl => ?_)
        refine lv_goto (tgt := 27) hx hb dX10_lay_55 (by decide) ?_
        exact ih_27 (j + 1) (upd fd2 (nI (12 * s1 + j)).toNatClampNeg (nI j)) g_7 h_m h_u h_q h_n9 h_g (hfr_ga.up hg_7 (by omega)) (by omega) ⟨fun i hi => by
          rw [nI_clamp (by omega)]
          by_cases h9 : i = j
          · rw [h9, pk_us]
          · rw [pk_un (by omega)]; exact hfd.1 i (by omega), fun k hk => by
          rw [nI_clamp (by omega), pk_un (by omega)]; exact hfd.2 k (by omega)⟩ (by omega) _ _ _ hS (lv_sub hl [1, 2, 3, 4, 0] rfl)
  exact hcut_27 (n - 0 + 1) 0 fd g_5 h_m h_u h_q h_n9 h_g (((z_fr.rf.up hg_1 (by omega)).up hg_2 (by omega)).up hg_5 (by omega)) (by omega) ⟨fun i hi => absurd hi (Nat.not_lt_zero i), fun k hk => rfl⟩ (Nat.lt_succ_self _) _ _ _ hS (lv_sub hl [1, 2, 3, 4, 0] rfl)

set_option maxHeartbeats 4000000 in
set_option maxRecDepth 100000 in
theorem m_setBase (Z : zT) (g : Nat → va_E) (sg : Nat → zb) (rw9 : Nat → zr) (hW : z_mw Z g sg rw9) (x y z : Int32) : z_Mi Z yX10_setBase wsX10_setBase 2 44 [.ref (Z.2.1 41), .int x, .int y, .int z] g (fun r g1 => z_pm Z g (sp_setBase (sg, rw9) x.toInt y.toInt z.toInt) r g1) := by
  intro l sz
  obtain ⟨v4, v5, v6, v15, v16, v17, hM9⟩ := hW.1.mp
  have hM := hM9.mr
  obtain ⟨fu, fq, fm, fd, h_m, h_u, h_q, h_n9, h_g, hMN, hSg⟩ := id hM9
  have hM41 : 41 < Z.1 := by omega
  have hM42 : 42 < Z.1 := by omega
  have hM43 : 43 < Z.1 := by omega
  have hM44 : 44 < Z.1 := by omega
  have hM45 : 45 < Z.1 := by omega
  have hyr := fb_rng y
  refine z_enter (maxL := 4) (ret := (some .int)) (lv := [(0, .ref (Z.2.1 41)), (1, .int x), (2, .int y), (3, .int z)]) (plainFor_of_name (by decide +kernel)) rfl (fun ls h => by subst h; exact lv_entry [.ref (Z.2.1 41), .int x, .int y, .int z] (n := 4) (Nat.le_of_ble_eq_true rfl)) ?_
  intro p e s m args below meth c hx hb hml hr hlocks hown hts hK hS hsz ls hl
  refine lv_iload_n hx hb dX10_setBase_0 rfl (lv_at hl 1 rfl) ?_
  refine z_calli (z_runS (As := [.int x]) (rest := []) ⟨hx, hb, hml, hown, hts⟩ hK hS ((m_noSystem Z g x) l _) gX10_setBase_X10_noSystem rfl 1 (by decide +kernel) ⟨Nat.le_of_ble_eq_true rfl, Nat.le_of_ble_eq_true rfl⟩ rfl hl.1 rfl (Nat.le_of_ble_eq_true rfl) dX10_setBase_1 ⟨Nat.le_of_ble_eq_true rfl, Nat.le_of_ble_eq_true rfl⟩) hS (fun rn g_1 H locs hp_2 hS => ?_)
  obtain ⟨rfl, hp_2⟩ := hp_2
  have hrn := hp_2
  refine lv_if_eq (tgt := 10) hx hb dX10_setBase_4 (by decide) (fun c_3 => ?_) (fun c_3 => ?_)
  · have i_3 := z_eq c_3
    rw [tI_0] at i_3
    have hzs : zsy x.toInt := Classical.byContradiction (zbo_f hrn c_3)
    obtain ⟨s1, es1, hs1x, -⟩ := z_nI_of (x := x) hzs.1
    subst es1
    have hs1 : s1 < 2 := by have := hzs.2; omega
    have htn1 : (nI s1).toInt.toNat = s1 := by omega
    obtain ⟨hok, hp, hq, hm, hd⟩ := hSg s1 hs1
    have hPb := zP_bd hok
    have hn12 := hok.2.2.2.1
    have hq1 := hok.2.1
    refine lv_iload_n hx hb dX10_setBase_10 rfl (lv_at hl 2 rfl) ?_
    refine z_calli (z_runS (As := [.int y]) (rest := []) ⟨hx, hb, hml, hown, hts⟩ hK hS ((m_absolute Z g y) l _) gX10_setBase_X10_absolute rfl 1 (by decide +kernel) ⟨Nat.le_of_ble_eq_true rfl, Nat.le_of_ble_eq_true rfl⟩ rfl hl.1 rfl (Nat.le_of_ble_eq_true rfl) dX10_setBase_11 ⟨Nat.le_of_ble_eq_true rfl, Nat.le_of_ble_eq_true rfl⟩) hS (fun ab g_4 H locs hp_5 hS => ?_)
    obtain ⟨rfl, hp_5⟩ := hp_5
    obtain ⟨haba, habb⟩ := hp_5
    have hab : (y.toInt ≠ -2147483648 → ab.toInt = (y.toInt.natAbs : Int)) := fun h9 => by rw [haba h9]; unfold zabs; split <;> omega
    refine lv_iconst (v := 2) hx hb dX10_setBase_14 (by decide) ?_
    refine lv_bipush (v := 10) hx hb dX10_setBase_15 (by decide) ?_
    refine z_calli (z_runS (As := [.int ab, .int 2, .int 10]) (rest := []) ⟨hx, hb, hml, hown, hts⟩ hK hS ((m_in Z g ab 2 10) l _) gX10_setBase_X10_in rfl 3 (by decide +kernel) ⟨Nat.le_of_ble_eq_true rfl, Nat.le_of_ble_eq_true rfl⟩ rfl hl.1 rfl (Nat.le_of_ble_eq_true rfl) dX10_setBase_17 ⟨Nat.le_of_ble_eq_true rfl, Nat.le_of_ble_eq_true rfl⟩) hS (fun r1 g_6 H locs hp_7 hS => ?_)
    obtain ⟨rfl, hp_7⟩ := hp_7
    have hr1 := hp_7
    rw [tI_2, tI_10] at hr1
    refine lv_if_eq (tgt := 53) hx hb dX10_setBase_20 (by decide) (fun c_8 => ?_) (fun c_8 => ?_)
    · have i_8 := z_eq c_8
      rw [tI_0] at i_8
      have hnz : ¬ zib y.toInt z.toInt := fun h9 => by
        obtain ⟨q1, q2, q3, q4, q5⟩ := h9
        exact zbo_f hr1 c_8 (by rw [hab (by omega)]; omega)
      refine lv_ldc (v := (-1000002)) hx hb hown (hts _ (List.mem_of_getElem? (i := 2) rfl)) dX10_setBase_53 ?_
      refine z_iret hx hb hr hlocks hS ?_ dX10_setBase_55
      show z_pm Z g (sp_setBase (sg, rw9) (nI s1).toInt y.toInt z.toInt) _ _
      unfold sp_setBase
      rw [zite_t hzs, zite_f hnz]
      exact ⟨rfl, hW, z_fr.rf⟩
    · have i_8 := z_ne c_8
      rw [tI_0] at i_8
      have hin := zbo_t hr1 c_8
      have hy0 : y.toInt ≠ -2147483648 := fun h9 => by have := habb h9; omega
      have hab := hab hy0
      refine lv_iload_n hx hb dX10_setBase_23 rfl (lv_at hl 3 rfl) ?_
      refine lv_iconst (v := 1) hx hb dX10_setBase_24 (by decide) ?_
      refine lv_bipush (v := 9) hx hb dX10_setBase_25 (by decide) ?_
      refine z_calli (z_runS (As := [.int z, .int 1, .int 9]) (rest := []) ⟨hx, hb, hml, hown, hts⟩ hK hS ((m_in Z g z 1 9) l _) gX10_setBase_X10_in rfl 3 (by decide +kernel) ⟨Nat.le_of_ble_eq_true rfl, Nat.le_of_ble_eq_true rfl⟩ rfl hl.1 rfl (Nat.le_of_ble_eq_true rfl) dX10_setBase_27 ⟨Nat.le_of_ble_eq_true rfl, Nat.le_of_ble_eq_true rfl⟩) hS (fun r2 g_9 H locs hp_10 hS => ?_)
      obtain ⟨rfl, hp_10⟩ := hp_10
      have hr2 := hp_10
      rw [tI_1, tI_9] at hr2
      refine lv_if_eq (tgt := 53) hx hb dX10_setBase_30 (by decide) (fun c_11 => ?_) (fun c_11 => ?_)
      · have i_11 := z_eq c_11
        rw [tI_0] at i_11
        have hnz : ¬ zib y.toInt z.toInt := fun h9 => by
          obtain ⟨q1, q2, q3, q4, q5⟩ := h9
          exact zbo_f hr2 c_11 (by omega)
        refine lv_ldc (v := (-1000002)) hx hb hown (hts _ (List.mem_of_getElem? (i := 2) rfl)) dX10_setBase_53 ?_
        refine z_iret hx hb hr hlocks hS ?_ dX10_setBase_55
        show z_pm Z g (sp_setBase (sg, rw9) (nI s1).toInt y.toInt z.toInt) _ _
        unfold sp_setBase
        rw [zite_t hzs, zite_f hnz]
        exact ⟨rfl, hW, z_fr.rf⟩
      · have i_11 := z_ne c_11
        rw [tI_0] at i_11
        have hzm := zbo_t hr2 c_11
        refine lv_iload_n hx hb dX10_setBase_33 rfl (lv_at hl 3 rfl) ?_
        refine lv_iload_n hx hb dX10_setBase_34 rfl (lv_at hl 2 rfl) ?_
        refine z_calli (z_runS (As := [.int y]) (rest := [.int z]) ⟨hx, hb, hml, hown, hts⟩ hK hS ((m_absolute Z g y) l _) gX10_setBase_X10_absolute rfl 1 (by decide +kernel) ⟨Nat.le_of_ble_eq_true rfl, Nat.le_of_ble_eq_true rfl⟩ rfl hl.1 rfl (Nat.le_of_ble_eq_true rfl) dX10_setBase_35 ⟨Nat.le_of_ble_eq_true rfl, Nat.le_of_ble_eq_true rfl⟩) hS (fun ab2 g_12 H locs hp_13 hS => ?_)
        obtain ⟨rfl, hp_13⟩ := hp_13
        obtain ⟨hab2a, hab2b⟩ := hp_13
        have hab2 : (y.toInt ≠ -2147483648 → ab2.toInt = (y.toInt.natAbs : Int)) := fun h9 => by rw [hab2a h9]; unfold zabs; split <;> omega
        have hab2 := hab2 hy0
        refine lv_icmp_ge (tgt := 53) hx hb dX10_setBase_38 (by decide) (fun c_14 => ?_) (fun c_14 => ?_)
        · have i_14 := z_le c_14
          have hnz : ¬ zib y.toInt z.toInt := fun h9 => by
            obtain ⟨q1, q2, q3, q4, q5⟩ := h9
            omega
          refine lv_ldc (v := (-1000002)) hx hb hown (hts _ (List.mem_of_getElem? (i := 2) rfl)) dX10_setBase_53 ?_
          refine z_iret hx hb hr hlocks hS ?_ dX10_setBase_55
          show z_pm Z g (sp_setBase (sg, rw9) (nI s1).toInt y.toInt z.toInt) _ _
          unfold sp_setBase
          rw [zite_t hzs, zite_f hnz]
          exact ⟨rfl, hW, z_fr.rf⟩
        · have i_14 := z_nle c_14
          have hlt : z.toInt < y.toInt.natAbs := by omega
          refine lv_iload_n hx hb dX10_setBase_41 rfl (lv_at hl 2 rfl) ?_
          refine lv_i2l hx hb dX10_setBase_42 rfl ?_
          refine lv_iload_n hx hb dX10_setBase_43 rfl (lv_at hl 3 rfl) ?_
          refine lv_i2l hx hb dX10_setBase_44 rfl ?_
          refine z_calll (z_runS (As := [.long (Int32.toInt64 y), .long (Int32.toInt64 z)]) (rest := []) ⟨hx, hb, hml, hown, hts⟩ hK hS ((m_common Z g (Int32.toInt64 y) (Int32.toInt64 z) (by rw [Int32.toInt_toInt64]; omega) (by rw [Int32.toInt_toInt64]; omega)) l _) gX10_setBase_X10_common rfl 2 (by decide +kernel) ⟨Nat.le_of_ble_eq_true rfl, Nat.le_of_ble_eq_true rfl⟩ rfl hl.1 rfl (Nat.le_of_ble_eq_true rfl) dX10_setBase_45 ⟨Nat.le_of_ble_eq_true rfl, Nat.le_of_ble_eq_true rfl⟩) hS (fun gd g_15 H locs hp_16 hS => ?_)
          obtain ⟨rfl, hp_16⟩ := hp_16
          have hgd := hp_16
          rw [Int32.toInt_toInt64, Int32.toInt_toInt64] at hgd
          have hc0 := z_cmp0 (x := gd) (y := 1)
          rw [show (1 : Int64).toInt = 1 from rfl, hgd] at hc0
          refine lv_lconst (v := 1) hx hb dX10_setBase_48 rfl ?_
          refine W.lcmp hx hb dX10_setBase_49 ?_
          refine lv_if_eq (tgt := 56) hx hb dX10_setBase_50 (by decide) (fun c_17 => ?_) (fun c_17 => ?_)
          · have i_17 := z_eq c_17
            rw [tI_0] at i_17
            have hyz : zib y.toInt z.toInt := ⟨by omega, by omega, by omega, by omega, by have := hc0.mp c_17; omega⟩
            refine lv_aload_n hx hb dX10_setBase_56 rfl (lv_at hl 0 rfl) ?_
            refine lv_iload_n hx hb dX10_setBase_57 rfl (lv_at hl 1 rfl) ?_
            refine lv_iload_n hx hb dX10_setBase_58 rfl (lv_at hl 2 rfl) ?_
            refine lv_iload_n hx hb dX10_setBase_59 rfl (lv_at hl 3 rfl) ?_
            refine z_callv (z_runV (As := [.int (nI s1), .int y, .int z]) (rest := []) ⟨hx, hb, hml, hown, hts⟩ hK hS ((m_lay Z g v4 v5 v6 v15 v16 v17 fu fq fm fd h_m h_u h_q h_n9 h_g hMN s1 hs1 y z y.toInt.natAbs (by unfold zabs; split <;> omega) (by omega)) l _) gX10_setBase_X10_lay rfl 3 (by decide +kernel) ⟨Nat.le_of_ble_eq_true rfl, Nat.le_of_ble_eq_true rfl⟩ h_m hM41 rfl rfl hl.1 rfl (Nat.le_of_ble_eq_true rfl) dX10_setBase_60 ⟨Nat.le_of_ble_eq_true rfl, Nat.le_of_ble_eq_true rfl⟩) hS (fun g_19 H locs hp_20 hS => ?_)
            obtain ⟨fd2, h_u, h_q, h_n9, h_g, hl1, hl2, hfr_21⟩ := hp_20
            have h_m := (hfr_21 _ (by omega)).trans h_m
            refine lv_iload_n hx hb dX10_setBase_63 rfl (lv_at hl 2 rfl) ?_
            refine z_calli (z_runS (As := [.int y]) (rest := []) ⟨hx, hb, hml, hown, hts⟩ hK hS ((m_absolute Z g_19 y) l _) gX10_setBase_X10_absolute rfl 1 (by decide +kernel) ⟨Nat.le_of_ble_eq_true rfl, Nat.le_of_ble_eq_true rfl⟩ rfl hl.1 rfl (Nat.le_of_ble_eq_true rfl) dX10_setBase_64 ⟨Nat.le_of_ble_eq_true rfl, Nat.le_of_ble_eq_true rfl⟩) hS (fun ab3 g_22 H locs hp_23 hS => ?_)
            obtain ⟨rfl, hp_23⟩ := hp_23
            have hab3 : ab3.toInt = (y.toInt.natAbs : Int) := by rw [hp_23.1 hy0]; unfold zabs; split <;> omega
            refine z_iret hx hb hr hlocks hS ?_ dX10_setBase_67
            show z_pm Z g (sp_setBase (sg, rw9) (nI s1).toInt y.toInt z.toInt) _ _
            unfold sp_setBase
            rw [zite_t hzs, zite_t hyz, htn1]
            have hfz : z_fr 42 4 g g_19 := (z_fr.rf.tr (hfr_21.wide (by omega) (by omega)))
            exact ⟨hab3, ⟨⟨_, _, _, _, _, _, _, _, _, _, h_m, h_u, h_q, h_n9, h_g, hMN, hSg.upd (s := s1) (b := (y.toInt, z.toInt, y.toInt.natAbs, fun i => (i : Int))) (zb_ok_new (by omega) (by omega) hlt rfl) (fun k hk => pk_un hk) (fun k hk => pk_un hk) (fun k hk => pk_un hk) (fun k hk => hl2 k (by omega)) ⟨by rw [pk_us], by rw [pk_us], pk_us, fun i hi => by rw [hl1 i hi]; exact nI_toInt (by have h8 : i < y.toInt.natAbs := hi; omega)⟩⟩, hW.2.congr (fun j h1 h2 => hfz j (by omega))⟩, hfz.wide (by omega) (by omega)⟩
          · have i_17 := z_ne c_17
            rw [tI_0] at i_17
            have hnz : ¬ zib y.toInt z.toInt := fun h9 => by
              obtain ⟨q1, q2, q3, q4, q5⟩ := h9
              exact c_17 (hc0.mpr (by omega))
            refine lv_ldc (v := (-1000002)) hx hb hown (hts _ (List.mem_of_getElem? (i := 2) rfl)) dX10_setBase_53 ?_
            refine z_iret hx hb hr hlocks hS ?_ dX10_setBase_55
            show z_pm Z g (sp_setBase (sg, rw9) (nI s1).toInt y.toInt z.toInt) _ _
            unfold sp_setBase
            rw [zite_t hzs, zite_f hnz]
            exact ⟨rfl, hW, z_fr.rf⟩
  · have i_3 := z_ne c_3
    rw [tI_0] at i_3
    have hnv := zbo_t hrn c_3
    refine lv_ldc (v := (-1000001)) hx hb hown (hts _ (List.mem_of_getElem? (i := 1) rfl)) dX10_setBase_7 ?_
    refine z_iret hx hb hr hlocks hS ?_ dX10_setBase_9
    show z_pm Z g (sp_setBase (sg, rw9) x.toInt y.toInt z.toInt) _ _
    unfold sp_setBase
    rw [zite_f hnv]
    exact ⟨rfl, hW, z_fr.rf⟩

