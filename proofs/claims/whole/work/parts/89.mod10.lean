/-! the reference: what the cycles' calls answer -/
theorem zct_ex {c : Nat → Bool} {k : Nat} : ∀ {n : Nat}, k < zct c n → ∃ u, u < n ∧ c u = true ∧ zct c u = k
  | 0, h => absurd h (Nat.not_lt_zero k)
  | n + 1, h => by
    cases e : c n
    · rw [zct_f e] at h
      obtain ⟨u, h1, h2⟩ := zct_ex h
      exact ⟨u, by omega, h2⟩
    · rw [zct_t e] at h
      rcases Nat.lt_or_ge k (zct c n) with q | q
      · obtain ⟨u, h1, h2⟩ := zct_ex q
        exact ⟨u, by omega, h2⟩
      · exact ⟨n, by omega, e, by omega⟩
theorem zcyT_at {b : zb} {cl cm cn : Nat → Int32} (h : zcyT b 51 cl cm cn) {k : Nat} (hk : k < zcyc b) : (cl k).toInt = zcyl b k ∧ (cm k).toInt = zgr (zst b 1) (zcyl b k) ∧ cn k = nI (zla b 1 (zcyl b k)) := by
  obtain ⟨u, h1, h2, h3⟩ := zct_ex (show k < zct (zlB (zst b 1)) 51 from hk)
  have h4 := h u h1 h2
  rw [h3] at h4
  rw [zcyl_is h1 h2 h3]; exact h4
theorem zcyl_lc {b : zb} {k : Nat} (hk : k < zcyc b) : zlc (zst b 1) (zcyl b k) := by
  obtain ⟨u, h1, h2, h3⟩ := zct_ex (show k < zct (zlB (zst b 1)) 51 from hk)
  rw [zcyl_is h1 h2 h3]; exact zlB_iff.mp h2
theorem in_X10_cycleCount_10 : ∀ w ∈ wsX100, w ∈ wsX10_cycleCount := by decide +kernel
set_option maxHeartbeats 4000000 in
set_option maxRecDepth 100000 in
theorem m_cycleCount (Z : zT) (g : Nat → va_E) (sg : Nat → zb) (rw9 : Nat → zr) (hW : z_mw Z g sg rw9) (x : Int32) : z_Mi Z yX10_cycleCount wsX10_cycleCount 5 119 [.ref (Z.2.1 41), .int x] g (fun r g1 => z_pm Z g (sp_cycleCount (sg, rw9) x.toInt) r g1) := by
  intro l sz
  obtain ⟨v4, v5, v6, v15, v16, v17, hM9⟩ := hW.1.mp
  have hM := hM9.mr
  obtain ⟨fu, fq, fm, fd, h_m, h_u, h_q, h_n9, h_g, hMN, hSg⟩ := id hM9
  have hM41 : 41 < Z.1 := by omega
  have hM42 : 42 < Z.1 := by omega
  have hM43 : 43 < Z.1 := by omega
  have hM44 : 44 < Z.1 := by omega
  have hM45 : 45 < Z.1 := by omega
  obtain ⟨⟨cl, h_c1⟩, ⟨cm, h_c2⟩, ⟨cn, h_c3⟩, -, -, -, -, -, -, -, -⟩ := id hW.2
  have hM46 : 46 < Z.1 := by omega
  have hM47 : 47 < Z.1 := by omega
  have hM48 : 48 < Z.1 := by omega
  refine z_enter (maxL := 3) (ret := (some .int)) (lv := [(0, .ref (Z.2.1 41)), (1, .int x)]) (plainFor_of_name (by decide +kernel)) rfl (fun ls h => by subst h; exact lv_entry [.ref (Z.2.1 41), .int x] (n := 3) (Nat.le_of_ble_eq_true rfl)) ?_
  intro p e s m args below meth c hx hb hml hr hlocks hown hts hK hS hsz ls hl
  refine lv_aload_n hx hb dX10_cycleCount_0 rfl (lv_at hl 0 rfl) ?_
  refine lv_iload_n hx hb dX10_cycleCount_1 rfl (lv_at hl 1 rfl) ?_
  refine z_calli (z_runV (As := [.int x]) (rest := []) ⟨hx, hb, hml, hown, hts⟩ hK hS ((m_systemBarred Z g sg hM x) l _) gX10_cycleCount_X10_systemBarred rfl 1 (by decide +kernel) ⟨Nat.le_of_ble_eq_true rfl, Nat.le_of_ble_eq_true rfl⟩ h_m hM41 rfl rfl hl.1 rfl (Nat.le_of_ble_eq_true rfl) dX10_cycleCount_2 ⟨Nat.le_of_ble_eq_true rfl, Nat.le_of_ble_eq_true rfl⟩) hS (fun rb g_1 H locs hp_2 hS => ?_)
  obtain ⟨rfl, hp_2⟩ := hp_2
  have hrb := hp_2
  refine lv_istore_n (lv' := [(2, .int rb), (0, .ref (Z.2.1 41)), (1, .int x)]) hx hb dX10_cycleCount_5 rfl hl (by decide) rfl (fun ls hl => ?_)
  refine lv_iload_n hx hb dX10_cycleCount_6 rfl (lv_at hl 0 rfl) ?_
  refine lv_if_ge (tgt := 12) hx hb dX10_cycleCount_7 (by decide) (fun c_3 => ?_) (fun c_3 => ?_)
  · have i_3 := z_le c_3
    rw [tI_0] at i_3
    obtain ⟨hzs, hcm⟩ : zsy x.toInt ∧ zcm (sg x.toInt.toNat) := by
      rcases hrb with ⟨-, h9⟩ | ⟨h8, h7, -⟩ | ⟨-, -, h9⟩
      · rw [h9] at i_3; exact absurd i_3 (by decide)
      · exact ⟨h8, h7⟩
      · rw [h9] at i_3; exact absurd i_3 (by decide)
    obtain ⟨s1, es1, hs1x, -⟩ := z_nI_of (x := x) hzs.1
    subst es1
    have hs1 : s1 < 2 := by have := hzs.2; omega
    have htn1 : (nI s1).toInt.toNat = s1 := by omega
    rw [htn1] at hcm
    obtain ⟨hok, hp, hq, hm, hd⟩ := hSg s1 hs1
    have hPb := zP_bd hok
    have hn12 := hok.2.2.2.1
    have hq1 := hok.2.1
    refine lv_aload_n hx hb dX10_cycleCount_12 rfl (lv_at hl 1 rfl) ?_
    refine lv_iload_n hx hb dX10_cycleCount_13 rfl (lv_at hl 2 rfl) ?_
    refine z_callv (z_runV (As := [.int (nI s1)]) (rest := []) ⟨hx, hb, hml, hown, hts⟩ hK hS ((m_findCycles Z g sg _ _ _ _ _ _ ⟨fu, fq, fm, fd, h_m, h_u, h_q, h_n9, h_g, hMN, hSg⟩ s1 hs1 cl cm cn h_c1 h_c2 h_c3 hcm) l _) gX10_cycleCount_X10_findCycles rfl 1 (by decide +kernel) ⟨Nat.le_of_ble_eq_true rfl, Nat.le_of_ble_eq_true rfl⟩ h_m hM41 rfl rfl hl.1 rfl (Nat.le_of_ble_eq_true rfl) dX10_cycleCount_14 ⟨Nat.le_of_ble_eq_true rfl, Nat.le_of_ble_eq_true rfl⟩) hS (fun g_5 H locs hp_6 hS => ?_)
    obtain ⟨va, vb, cl1, cm1, cn1, ⟨fu, fq, fm, fd, h_m, h_u, h_q, h_n9, h_g, -, hSg2⟩, h_c1, h_c2, h_c3, hcyT, hfr_7⟩ := hp_6
    have hSg := hSg2
    have hzb51 : zcyc (sg s1) ≤ 51 := zct_le _ 51
    refine lv_aload_n hx hb dX10_cycleCount_17 rfl (lv_at hl 1 rfl) ?_
    refine z_get (own := RX10) (C := RX10) (T := TX10) (N := 21) hx hb hts in_X10_cycleCount_10 hown hK hS h_m hM41 rfl 6 (by decide) (List.mem_of_getElem? (i := 1) rfl) rfl rfl dX10_cycleCount_18 ?_
    refine z_iret hx hb hr hlocks hS ?_ dX10_cycleCount_21
    show z_pm Z g (sp_cycleCount (sg, rw9) (nI s1).toInt) _ _
    unfold sp_cycleCount
    rw [zite_t hzs, htn1, zite_t hcm]
    have hfz : z_fr 41 8 g g_5 := (z_fr.rf.tr (hfr_7.wide (by omega) (by omega)))
    exact ⟨nI_toInt (by omega), ⟨⟨_, _, _, _, _, _, fu, fq, fm, fd, h_m, h_u, h_q, h_n9, h_g, hMN, hSg⟩, hW.2.cyc h_c1 h_c2 h_c3 (fun j h1 h2 => hfz j (by omega))⟩, hfz.wide (by omega) (by omega)⟩
  · have i_3 := z_nle c_3
    rw [tI_0] at i_3
    refine lv_iload_n hx hb dX10_cycleCount_10 rfl (lv_at hl 0 rfl) ?_
    refine z_iret hx hb hr hlocks hS ?_ dX10_cycleCount_11
    show z_pm Z g (sp_cycleCount (sg, rw9) x.toInt) _ _
    unfold sp_cycleCount
    rcases hrb with ⟨h8, h9⟩ | ⟨h8, h7, h9⟩ | ⟨h8, h7, h9⟩
    · rw [zite_f h8]; exact ⟨by rw [h9]; rfl, hW, z_fr.rf⟩
    · exfalso; rw [h9] at i_3; exact absurd i_3 (by decide)
    · rw [zite_t h8, zite_f h7]; exact ⟨by rw [h9]; rfl, hW, z_fr.rf⟩

theorem in_X10_reachesAll_10 : ∀ w ∈ wsX100, w ∈ wsX10_reachesAll := by decide +kernel
set_option maxHeartbeats 4000000 in
set_option maxRecDepth 100000 in
theorem m_reachesAll (Z : zT) (g : Nat → va_E) (sg : Nat → zb) (rw9 : Nat → zr) (hW : z_mw Z g sg rw9) (x : Int32) : z_Mi Z yX10_reachesAll wsX10_reachesAll 5 119 [.ref (Z.2.1 41), .int x] g (fun r g1 => z_pm Z g (sp_reachesAll (sg, rw9) x.toInt) r g1) := by
  intro l sz
  obtain ⟨v4, v5, v6, v15, v16, v17, hM9⟩ := hW.1.mp
  have hM := hM9.mr
  obtain ⟨fu, fq, fm, fd, h_m, h_u, h_q, h_n9, h_g, hMN, hSg⟩ := id hM9
  have hM41 : 41 < Z.1 := by omega
  have hM42 : 42 < Z.1 := by omega
  have hM43 : 43 < Z.1 := by omega
  have hM44 : 44 < Z.1 := by omega
  have hM45 : 45 < Z.1 := by omega
  obtain ⟨⟨cl, h_c1⟩, ⟨cm, h_c2⟩, ⟨cn, h_c3⟩, -, -, -, -, -, -, -, -⟩ := id hW.2
  have hM46 : 46 < Z.1 := by omega
  have hM47 : 47 < Z.1 := by omega
  have hM48 : 48 < Z.1 := by omega
  refine z_enter (maxL := 3) (ret := (some .int)) (lv := [(0, .ref (Z.2.1 41)), (1, .int x)]) (plainFor_of_name (by decide +kernel)) rfl (fun ls h => by subst h; exact lv_entry [.ref (Z.2.1 41), .int x] (n := 3) (Nat.le_of_ble_eq_true rfl)) ?_
  intro p e s m args below meth c hx hb hml hr hlocks hown hts hK hS hsz ls hl
  refine lv_aload_n hx hb dX10_reachesAll_0 rfl (lv_at hl 0 rfl) ?_
  refine lv_iload_n hx hb dX10_reachesAll_1 rfl (lv_at hl 1 rfl) ?_
  refine z_calli (z_runV (As := [.int x]) (rest := []) ⟨hx, hb, hml, hown, hts⟩ hK hS ((m_systemBarred Z g sg hM x) l _) gX10_reachesAll_X10_systemBarred rfl 1 (by decide +kernel) ⟨Nat.le_of_ble_eq_true rfl, Nat.le_of_ble_eq_true rfl⟩ h_m hM41 rfl rfl hl.1 rfl (Nat.le_of_ble_eq_true rfl) dX10_reachesAll_2 ⟨Nat.le_of_ble_eq_true rfl, Nat.le_of_ble_eq_true rfl⟩) hS (fun rb g_1 H locs hp_2 hS => ?_)
  obtain ⟨rfl, hp_2⟩ := hp_2
  have hrb := hp_2
  refine lv_istore_n (lv' := [(2, .int rb), (0, .ref (Z.2.1 41)), (1, .int x)]) hx hb dX10_reachesAll_5 rfl hl (by decide) rfl (fun ls hl => ?_)
  refine lv_iload_n hx hb dX10_reachesAll_6 rfl (lv_at hl 0 rfl) ?_
  refine lv_if_ge (tgt := 12) hx hb dX10_reachesAll_7 (by decide) (fun c_3 => ?_) (fun c_3 => ?_)
  · have i_3 := z_le c_3
    rw [tI_0] at i_3
    obtain ⟨hzs, hcm⟩ : zsy x.toInt ∧ zcm (sg x.toInt.toNat) := by
      rcases hrb with ⟨-, h9⟩ | ⟨h8, h7, -⟩ | ⟨-, -, h9⟩
      · rw [h9] at i_3; exact absurd i_3 (by decide)
      · exact ⟨h8, h7⟩
      · rw [h9] at i_3; exact absurd i_3 (by decide)
    obtain ⟨s1, es1, hs1x, -⟩ := z_nI_of (x := x) hzs.1
    subst es1
    have hs1 : s1 < 2 := by have := hzs.2; omega
    have htn1 : (nI s1).toInt.toNat = s1 := by omega
    rw [htn1] at hcm
    obtain ⟨hok, hp, hq, hm, hd⟩ := hSg s1 hs1
    have hPb := zP_bd hok
    have hn12 := hok.2.2.2.1
    have hq1 := hok.2.1
    refine lv_aload_n hx hb dX10_reachesAll_12 rfl (lv_at hl 1 rfl) ?_
    refine lv_iload_n hx hb dX10_reachesAll_13 rfl (lv_at hl 2 rfl) ?_
    refine z_callv (z_runV (As := [.int (nI s1)]) (rest := []) ⟨hx, hb, hml, hown, hts⟩ hK hS ((m_findCycles Z g sg _ _ _ _ _ _ ⟨fu, fq, fm, fd, h_m, h_u, h_q, h_n9, h_g, hMN, hSg⟩ s1 hs1 cl cm cn h_c1 h_c2 h_c3 hcm) l _) gX10_reachesAll_X10_findCycles rfl 1 (by decide +kernel) ⟨Nat.le_of_ble_eq_true rfl, Nat.le_of_ble_eq_true rfl⟩ h_m hM41 rfl rfl hl.1 rfl (Nat.le_of_ble_eq_true rfl) dX10_reachesAll_14 ⟨Nat.le_of_ble_eq_true rfl, Nat.le_of_ble_eq_true rfl⟩) hS (fun g_5 H locs hp_6 hS => ?_)
    obtain ⟨va, vb, cl1, cm1, cn1, ⟨fu, fq, fm, fd, h_m, h_u, h_q, h_n9, h_g, -, hSg2⟩, h_c1, h_c2, h_c3, hcyT, hfr_7⟩ := hp_6
    have hSg := hSg2
    have hzb51 : zcyc (sg s1) ≤ 51 := zct_le _ 51
    refine lv_aload_n hx hb dX10_reachesAll_17 rfl (lv_at hl 1 rfl) ?_
    refine z_get (own := RX10) (C := RX10) (T := TX10) (N := 21) hx hb hts in_X10_reachesAll_10 hown hK hS h_m hM41 rfl 6 (by decide) (List.mem_of_getElem? (i := 1) rfl) rfl rfl dX10_reachesAll_18 ?_
    refine lv_iconst (v := 1) hx hb dX10_reachesAll_21 (by decide) ?_
    refine lv_icmp_ne (tgt := 47) hx hb dX10_reachesAll_22 (by decide) (fun c_8 => ?_) (fun c_8 => ?_)
    · have i_8 := z_ne c_8
      rw [nI_toInt (by omega)] at i_8
      rw [tI_1] at i_8
      have hnk : ¬ (zch (sg s1) 0 = 0 ∧ zcyc (sg s1) = 1) := fun h9 => by have := h9.2; omega
      refine lv_iconst (v := 0) hx hb dX10_reachesAll_47 (by decide) ?_
      refine z_iret hx hb hr hlocks hS ?_ dX10_reachesAll_48
      show z_pm Z g (sp_reachesAll (sg, rw9) (nI s1).toInt) _ _
      unfold sp_reachesAll
      rw [zite_t hzs, htn1, zite_t hcm, zite_f hnk]
      have hfz : z_fr 41 8 g g_5 := (z_fr.rf.tr (hfr_7.wide (by omega) (by omega)))
      exact ⟨rfl, ⟨⟨_, _, _, _, _, _, fu, fq, fm, fd, h_m, h_u, h_q, h_n9, h_g, hMN, hSg⟩, hW.2.cyc h_c1 h_c2 h_c3 (fun j h1 h2 => hfz j (by omega))⟩, hfz.wide (by omega) (by omega)⟩
    · have i_8 := z_eq c_8
      rw [nI_toInt (by omega)] at i_8
      rw [tI_1] at i_8
      have hc1 : zcyc (sg s1) = 1 := by omega
      obtain ⟨hca, hcb, -⟩ := zcyT_at hcyT (k := 0) (by omega)
      have hlc := zcyl_lc (b := sg s1) (k := 0) (by omega)
      obtain ⟨iv, hiv1, hiv2, hiv3⟩ := z_inv_1 ⟨hPb.1, hPb.2.1⟩
      have hf1 := z_fin1 hok hcm (nn := 1) (by omega) hiv3
      have hz0 : zch (sg s1) 0 = 0 → zcyl (sg s1) 0 = 0 := fun h9 => by
        have h8 := hf1.mpr h9
        have h7 : ∀ i, zor (zst (sg s1) 1) 0 i = 0 := fun i => by
          induction i with
          | zero => rfl
          | succ i ih => show zst (sg s1) 1 (zor (zst (sg s1) 1) 0 i) = 0; rw [ih]; exact h8
        have h6 : zlB (zst (sg s1) 1) 25 = true := zlB_iff.mpr ⟨⟨1, by omega, by show zor (zst (sg s1) 1) (((25 : Nat) : Int) - 25) 1 = _; exact h7 1⟩, fun i => by show ((25 : Nat) : Int) - 25 ≤ zor (zst (sg s1) 1) 0 i; rw [h7 i]; omega⟩
        have h5 := zct_lt h6 (show 25 < 51 by omega)
        exact zcyl_is (t := 25) (by omega) h6 (by have h4 : zct (zlB (zst (sg s1) 1)) 51 = 1 := hc1; omega)
      refine lv_aload_n hx hb dX10_reachesAll_25 rfl (lv_at hl 1 rfl) ?_
      refine z_get (own := RX10) (C := RX10) (T := TX10) (N := 21) hx hb hts in_X10_reachesAll_10 hown hK hS h_m hM41 rfl 7 (by decide) (List.mem_of_getElem? (i := 2) rfl) rfl rfl dX10_reachesAll_26 ?_
      refine lv_iconst (v := 0) hx hb dX10_reachesAll_29 (by decide) ?_
      refine z_iald hx hb hK hS h_c1 hM46 (vp_in_iff.mpr (by rw [tI_0]; omega)) dX10_reachesAll_30 ?_
      rw [show cl1 (0 : Int32).toNatClampNeg = cl1 0 from rfl]
      refine lv_if_ne (tgt := 47) hx hb dX10_reachesAll_31 (by decide) (fun c_9 => ?_) (fun c_9 => ?_)
      · have i_9 := z_ne c_9
        rw [tI_0] at i_9
        rw [hca] at i_9
        have hnk : ¬ (zch (sg s1) 0 = 0 ∧ zcyc (sg s1) = 1) := fun h9 => i_9 (hz0 h9.1)
        refine lv_iconst (v := 0) hx hb dX10_reachesAll_47 (by decide) ?_
        refine z_iret hx hb hr hlocks hS ?_ dX10_reachesAll_48
        show z_pm Z g (sp_reachesAll (sg, rw9) (nI s1).toInt) _ _
        unfold sp_reachesAll
        rw [zite_t hzs, htn1, zite_t hcm, zite_f hnk]
        have hfz : z_fr 41 8 g g_5 := (z_fr.rf.tr (hfr_7.wide (by omega) (by omega)))
        exact ⟨rfl, ⟨⟨_, _, _, _, _, _, fu, fq, fm, fd, h_m, h_u, h_q, h_n9, h_g, hMN, hSg⟩, hW.2.cyc h_c1 h_c2 h_c3 (fun j h1 h2 => hfz j (by omega))⟩, hfz.wide (by omega) (by omega)⟩
      · have i_9 := z_eq c_9
        rw [tI_0] at i_9
        rw [hca] at i_9
        have hl0 : zcyl (sg s1) 0 = 0 := i_9
        rw [hl0] at hlc hcb
        obtain ⟨-, hp0⟩ := zper_lc hok hlc
        have hgx : zog (zst (sg s1) 1) 0 (zgr (zst (sg s1) 1) 0) := by
          have h9 : ∃ y, zog (zst (sg s1) 1) 0 y := by
            have h8 : ∀ n, ∃ y, zmxP (zor (zst (sg s1) 1) 0) (n + 1) y := fun n => by
              induction n with
              | zero => exact ⟨_, zmxP.one _⟩
              | succ n ih =>
                obtain ⟨y, hy⟩ := ih
                by_cases q : zor (zst (sg s1) 1) 0 (n + 1) ≤ y
                · exact ⟨_, hy.keep q⟩
                · exact ⟨_, hy.new (by omega)⟩
            obtain ⟨y, hy⟩ := h8 (zla (sg s1) 1 0 - 1)
            have := hp0.1
            rw [show zla (sg s1) 1 0 - 1 + 1 = zla (sg s1) 1 0 by omega] at hy
            exact ⟨y, hy.og hp0⟩
          exact Classical.epsilon_spec h9
        refine lv_aload_n hx hb dX10_reachesAll_34 rfl (lv_at hl 1 rfl) ?_
        refine z_get (own := RX10) (C := RX10) (T := TX10) (N := 21) hx hb hts in_X10_reachesAll_10 hown hK hS h_m hM41 rfl 8 (by decide) (List.mem_of_getElem? (i := 3) rfl) rfl rfl dX10_reachesAll_35 ?_
        refine lv_iconst (v := 0) hx hb dX10_reachesAll_38 (by decide) ?_
        refine z_iald hx hb hK hS h_c2 hM47 (vp_in_iff.mpr (by rw [tI_0]; omega)) dX10_reachesAll_39 ?_
        rw [show cm1 (0 : Int32).toNatClampNeg = cm1 0 from rfl]
        refine lv_if_ne (tgt := 47) hx hb dX10_reachesAll_40 (by decide) (fun c_10 => ?_) (fun c_10 => ?_)
        · have i_10 := z_ne c_10
          rw [tI_0] at i_10
          rw [hcb] at i_10
          have hnk : ¬ (zch (sg s1) 0 = 0 ∧ zcyc (sg s1) = 1) := fun h9 => by
            have h8 := hf1.mpr h9.1
            have h7 : ∀ i, zor (zst (sg s1) 1) 0 i = 0 := fun i => by
              induction i with
              | zero => rfl
              | succ i ih => show zst (sg s1) 1 (zor (zst (sg s1) 1) 0 i) = 0; rw [ih]; exact h8
            obtain ⟨⟨i, hi⟩, -⟩ := hgx
            rw [h7 i] at hi; exact i_10 hi
          refine lv_iconst (v := 0) hx hb dX10_reachesAll_47 (by decide) ?_
          refine z_iret hx hb hr hlocks hS ?_ dX10_reachesAll_48
          show z_pm Z g (sp_reachesAll (sg, rw9) (nI s1).toInt) _ _
          unfold sp_reachesAll
          rw [zite_t hzs, htn1, zite_t hcm, zite_f hnk]
          have hfz : z_fr 41 8 g g_5 := (z_fr.rf.tr (hfr_7.wide (by omega) (by omega)))
          exact ⟨rfl, ⟨⟨_, _, _, _, _, _, fu, fq, fm, fd, h_m, h_u, h_q, h_n9, h_g, hMN, hSg⟩, hW.2.cyc h_c1 h_c2 h_c3 (fun j h1 h2 => hfz j (by omega))⟩, hfz.wide (by omega) (by omega)⟩
        · have i_10 := z_eq c_10
          rw [tI_0] at i_10
          rw [hcb] at i_10
          have hkz : zch (sg s1) 0 = 0 := hf1.mp (by
            have h9 := hgx.2 1
            have h8 := hlc.2 1
            have h7 : zor (zst (sg s1) 1) 0 1 = zst (sg s1) 1 0 := rfl
            rw [h7] at h8 h9
            rw [i_10] at h9; omega)
          refine lv_iconst (v := 1) hx hb dX10_reachesAll_43 (by decide) ?_
          refine lv_goto (tgt := 48) hx hb dX10_reachesAll_44 (by decide) ?_
          refine z_iret hx hb hr hlocks hS ?_ dX10_reachesAll_48
          show z_pm Z g (sp_reachesAll (sg, rw9) (nI s1).toInt) _ _
          unfold sp_reachesAll
          rw [zite_t hzs, htn1, zite_t hcm, zite_t ⟨hkz, hc1⟩]
          have hfz : z_fr 41 8 g g_5 := (z_fr.rf.tr (hfr_7.wide (by omega) (by omega)))
          exact ⟨rfl, ⟨⟨_, _, _, _, _, _, fu, fq, fm, fd, h_m, h_u, h_q, h_n9, h_g, hMN, hSg⟩, hW.2.cyc h_c1 h_c2 h_c3 (fun j h1 h2 => hfz j (by omega))⟩, hfz.wide (by omega) (by omega)⟩
  · have i_3 := z_nle c_3
    rw [tI_0] at i_3
    refine lv_iload_n hx hb dX10_reachesAll_10 rfl (lv_at hl 0 rfl) ?_
    refine z_iret hx hb hr hlocks hS ?_ dX10_reachesAll_11
    show z_pm Z g (sp_reachesAll (sg, rw9) x.toInt) _ _
    unfold sp_reachesAll
    rcases hrb with ⟨h8, h9⟩ | ⟨h8, h7, h9⟩ | ⟨h8, h7, h9⟩
    · rw [zite_f h8]; exact ⟨by rw [h9]; rfl, hW, z_fr.rf⟩
    · exfalso; rw [h9] at i_3; exact absurd i_3 (by decide)
    · rw [zite_t h8, zite_f h7]; exact ⟨by rw [h9]; rfl, hW, z_fr.rf⟩

