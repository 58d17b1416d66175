/-! the reference: what the systems tell, the next carry -/
theorem zm_pred {c : Nat} (h : c < 1000) : (nI c - 1).toInt = (c : Int) - 1 := by
  rw [fb_subI (by rw [nI_toInt (by omega), show (1 : Int32).toInt = 1 from rfl]; omega) (by rw [nI_toInt (by omega), show (1 : Int32).toInt = 1 from rfl]; omega), nI_toInt (by omega)]; rfl
theorem zab_next (d : Nat → Int) (n : Nat) : zab d (n + 1) = if zab d n < zabs (d n) then zabs (d n) else zab d n := by
  have h : zabs (d n) = if 0 ≤ d n then d n else -d n := by
    unfold zabs
    split <;> split <;> omega
  rw [h]; rfl
theorem zab_rng {d : Nat → Int} : ∀ {n : Nat}, (∀ i, i < n → -20 ≤ d i ∧ d i ≤ 20) → 0 ≤ zab d n ∧ zab d n ≤ 20
  | 0, _ => by unfold zab; omega
  | n + 1, h => by
    have ih := zab_rng (n := n) (fun i hi => h i (by omega))
    have h1 := h n (by omega)
    rw [zab_next]
    unfold zabs
    split <;> (try split) <;> omega
set_option maxHeartbeats 4000000 in
set_option maxRecDepth 100000 in
theorem m_systemBarred (Z : zT) (g : Nat → va_E) (sg : Nat → zb) (hM : z_mr Z g sg) (x : Int32) : z_Mi Z yX10_systemBarred wsX10_systemBarred 4 89 [.ref (Z.2.1 41), .int x] g (fun r g1 => g = g1 ∧ ((¬ zsy x.toInt ∧ r = -1000001) ∨ (zsy x.toInt ∧ zcm (sg x.toInt.toNat) ∧ r = 0) ∨ (zsy x.toInt ∧ ¬ zcm (sg x.toInt.toNat) ∧ r = -1000003))) := by
  intro l sz
  obtain ⟨v4, v5, v6, v15, v16, v17, fu, fq, fm, fd, h_m, h_u, h_q, h_n9, h_g, hMN, hSg⟩ := id hM
  have hM41 : 41 < Z.1 := by omega
  have hM42 : 42 < Z.1 := by omega
  have hM43 : 43 < Z.1 := by omega
  have hM44 : 44 < Z.1 := by omega
  have hM45 : 45 < Z.1 := by omega
  
  refine z_enter (maxL := 2) (ret := (some .int)) (lv := [(0, .ref (Z.2.1 41)), (1, .int x)]) (plainFor_of_name (by decide +kernel)) rfl (fun ls h => by subst h; exact lv_entry [.ref (Z.2.1 41), .int x] (n := 2) (Nat.le_of_ble_eq_true rfl)) ?_
  intro p e s m args below meth c hx hb hml hr hlocks hown hts hK hS hsz ls hl
  refine lv_iload_n hx hb dX10_systemBarred_0 rfl (lv_at hl 1 rfl) ?_
  refine z_calli (z_runS (As := [.int x]) (rest := []) ⟨hx, hb, hml, hown, hts⟩ hK hS ((m_noSystem Z g x) l _) gX10_systemBarred_X10_noSystem rfl 1 (by decide +kernel) ⟨Nat.le_of_ble_eq_true rfl, Nat.le_of_ble_eq_true rfl⟩ rfl hl.1 rfl (Nat.le_of_ble_eq_true rfl) dX10_systemBarred_1 ⟨Nat.le_of_ble_eq_true rfl, Nat.le_of_ble_eq_true rfl⟩) hS (fun rn g_1 H locs hp_2 hS => ?_)
  obtain ⟨rfl, hp_2⟩ := hp_2
  have hrn := hp_2
  refine lv_if_eq (tgt := 12) hx hb dX10_systemBarred_4 (by decide) (fun c_3 => ?_) (fun c_3 => ?_)
  · have i_3 := z_eq c_3
    rw [tI_0] at i_3
    have hzs : zsy x.toInt := Classical.byContradiction (zbo_f hrn c_3)
    obtain ⟨s1, es1, hs1x, -⟩ := z_nI_of (x := x) hzs.1
    subst es1
    have hs1 : s1 < 2 := by have := hzs.2; omega
    have htn1 : (nI s1).toInt.toNat = s1 := by omega
    obtain ⟨hok, hp, hq, hm, hd⟩ := hSg s1 hs1
    have hPb := zP_bd hok
    have hn12 := hok.2.2.2.1
    have hq1 := hok.2.1
    refine lv_aload_n hx hb dX10_systemBarred_12 rfl (lv_at hl 0 rfl) ?_
    refine lv_iload_n hx hb dX10_systemBarred_13 rfl (lv_at hl 1 rfl) ?_
    refine z_calli (z_runV (As := [.int (nI s1)]) (rest := []) ⟨hx, hb, hml, hown, hts⟩ hK hS ((m_isComplete Z g sg hM s1 hs1) l _) gX10_systemBarred_X10_isComplete rfl 1 (by decide +kernel) ⟨Nat.le_of_ble_eq_true rfl, Nat.le_of_ble_eq_true rfl⟩ h_m hM41 rfl rfl hl.1 rfl (Nat.le_of_ble_eq_true rfl) dX10_systemBarred_14 ⟨Nat.le_of_ble_eq_true rfl, Nat.le_of_ble_eq_true rfl⟩) hS (fun rc g_4 H locs hp_5 hS => ?_)
    obtain ⟨rfl, hp_5⟩ := hp_5
    have hrc := hp_5
    refine lv_if_eq (tgt := 24) hx hb dX10_systemBarred_17 (by decide) (fun c_6 => ?_) (fun c_6 => ?_)
    · have i_6 := z_eq c_6
      rw [tI_0] at i_6
      have hncm := zbo_f hrc c_6
      refine lv_ldc (v := (-1000003)) hx hb hown (hts _ (List.mem_of_getElem? (i := 2) rfl)) dX10_systemBarred_24 ?_
      refine z_iret hx hb hr hlocks hS ?_ dX10_systemBarred_26
      exact ⟨rfl, Or.inr (Or.inr ⟨hzs, by rw [htn1]; exact hncm, rfl⟩)⟩
    · have i_6 := z_ne c_6
      rw [tI_0] at i_6
      have hcm := zbo_t hrc c_6
      refine lv_iconst (v := 0) hx hb dX10_systemBarred_20 (by decide) ?_
      refine lv_goto (tgt := 26) hx hb dX10_systemBarred_21 (by decide) ?_
      refine z_iret hx hb hr hlocks hS ?_ dX10_systemBarred_26
      exact ⟨rfl, Or.inr (Or.inl ⟨hzs, by rw [htn1]; exact hcm, rfl⟩)⟩
  · have i_3 := z_ne c_3
    rw [tI_0] at i_3
    have hnv := zbo_t hrn c_3
    refine lv_ldc (v := (-1000001)) hx hb hown (hts _ (List.mem_of_getElem? (i := 1) rfl)) dX10_systemBarred_7 ?_
    refine lv_goto (tgt := 26) hx hb dX10_systemBarred_9 (by decide) ?_
    refine z_iret hx hb hr hlocks hS ?_ dX10_systemBarred_26
    exact ⟨rfl, Or.inl ⟨hnv, rfl⟩⟩

theorem in_X10_digitAt_10 : ∀ w ∈ wsX100, w ∈ wsX10_digitAt := by decide +kernel
set_option maxHeartbeats 4000000 in
set_option maxRecDepth 100000 in
theorem m_digitAt (Z : zT) (g : Nat → va_E) (sg : Nat → zb) (rw9 : Nat → zr) (hW : z_mw Z g sg rw9) (x y : Int32) : z_Mi Z yX10_digitAt wsX10_digitAt 2 42 [.ref (Z.2.1 41), .int x, .int y] g (fun r g1 => z_pm Z g (sp_digitAt (sg, rw9) x.toInt y.toInt) r g1) := by
  intro l sz
  obtain ⟨v4, v5, v6, v15, v16, v17, hM9⟩ := hW.1.mp
  have hM := hM9.mr
  obtain ⟨fu, fq, fm, fd, h_m, h_u, h_q, h_n9, h_g, hMN, hSg⟩ := id hM9
  have hM41 : 41 < Z.1 := by omega
  have hM42 : 42 < Z.1 := by omega
  have hM43 : 43 < Z.1 := by omega
  have hM44 : 44 < Z.1 := by omega
  have hM45 : 45 < Z.1 := by omega
  refine z_enter (maxL := 3) (ret := (some .int)) (lv := [(0, .ref (Z.2.1 41)), (1, .int x), (2, .int y)]) (plainFor_of_name (by decide +kernel)) rfl (fun ls h => by subst h; exact lv_entry [.ref (Z.2.1 41), .int x, .int y] (n := 3) (Nat.le_of_ble_eq_true rfl)) ?_
  intro p e s m args below meth c hx hb hml hr hlocks hown hts hK hS hsz ls hl
  refine lv_iload_n hx hb dX10_digitAt_0 rfl (lv_at hl 1 rfl) ?_
  refine z_calli (z_runS (As := [.int x]) (rest := []) ⟨hx, hb, hml, hown, hts⟩ hK hS ((m_noSystem Z g x) l _) gX10_digitAt_X10_noSystem rfl 1 (by decide +kernel) ⟨Nat.le_of_ble_eq_true rfl, Nat.le_of_ble_eq_true rfl⟩ rfl hl.1 rfl (Nat.le_of_ble_eq_true rfl) dX10_digitAt_1 ⟨Nat.le_of_ble_eq_true rfl, Nat.le_of_ble_eq_true rfl⟩) hS (fun rn g_1 H locs hp_2 hS => ?_)
  obtain ⟨rfl, hp_2⟩ := hp_2
  have hrn := hp_2
  refine lv_if_ne (tgt := 23) hx hb dX10_digitAt_4 (by decide) (fun c_3 => ?_) (fun c_3 => ?_)
  · have i_3 := z_ne c_3
    rw [tI_0] at i_3
    have hnv := zbo_t hrn c_3
    refine lv_ldc (v := (-1000001)) hx hb hown (hts _ (List.mem_of_getElem? (i := 2) rfl)) dX10_digitAt_23 ?_
    refine lv_goto (tgt := 39) hx hb dX10_digitAt_25 (by decide) ?_
    refine z_iret hx hb hr hlocks hS ?_ dX10_digitAt_39
    show z_pm Z g (sp_digitAt (sg, rw9) x.toInt y.toInt) _ _
    unfold sp_digitAt
    rw [zite_f hnv]
    exact ⟨rfl, hW, z_fr.rf⟩
  · have i_3 := z_eq c_3
    rw [tI_0] at i_3
    have hzs : zsy x.toInt := Classical.byContradiction (zbo_f hrn c_3)
    obtain ⟨s1, es1, hs1x, -⟩ := z_nI_of (x := x) hzs.1
    subst es1
    have hs1 : s1 < 2 := by have := hzs.2; omega
    have htn1 : (nI s1).toInt.toNat = s1 := by omega
    obtain ⟨hok, hp, hq, hm, hd⟩ := hSg s1 hs1
    have hPb := zP_bd hok
    have hn12 := hok.2.2.2.1
    have hq1 := hok.2.1
    refine lv_iload_n hx hb dX10_digitAt_7 rfl (lv_at hl 2 rfl) ?_
    refine lv_iconst (v := 0) hx hb dX10_digitAt_8 (by decide) ?_
    refine lv_aload_n hx hb dX10_digitAt_9 rfl (lv_at hl 0 rfl) ?_
    refine z_get (own := RX10) (C := RX10) (T := TX10) (N := 21) hx hb hts in_X10_digitAt_10 hown hK hS h_m hM41 rfl 2 (by decide) (List.mem_of_getElem? (i := 1) rfl) rfl rfl dX10_digitAt_10 ?_
    refine lv_iload_n hx hb dX10_digitAt_13 rfl (lv_at hl 1 rfl) ?_
    refine z_iald hx hb hK hS h_n9 hM44 (vp_in_nI (by omega) (by omega)) dX10_digitAt_14 ?_
    rw [show fm (nI s1).toNatClampNeg = nI (sg s1).2.2.1 from by rw [nI_clamp (by omega)]; exact hm]
    refine lv_iconst (v := 1) hx hb dX10_digitAt_15 (by decide) ?_
    refine lv_isub hx hb dX10_digitAt_16 ?_
    refine z_calli (z_runS (As := [.int y, .int 0, .int ((nI (sg s1).2.2.1) - 1)]) (rest := []) ⟨hx, hb, hml, hown, hts⟩ hK hS ((m_in Z g y 0 (nI (sg s1).2.2.1 - 1)) l _) gX10_digitAt_X10_in rfl 3 (by decide +kernel) ⟨Nat.le_of_ble_eq_true rfl, Nat.le_of_ble_eq_true rfl⟩ rfl hl.1 rfl (Nat.le_of_ble_eq_true rfl) dX10_digitAt_17 ⟨Nat.le_of_ble_eq_true rfl, Nat.le_of_ble_eq_true rfl⟩) hS (fun r1 g_4 H locs hp_5 hS => ?_)
    obtain ⟨rfl, hp_5⟩ := hp_5
    have hr1 := hp_5
    rw [tI_0, zm_pred (by omega)] at hr1
    refine lv_if_ne (tgt := 28) hx hb dX10_digitAt_20 (by decide) (fun c_6 => ?_) (fun c_6 => ?_)
    · have i_6 := z_ne c_6
      rw [tI_0] at i_6
      have hin := zbo_t hr1 c_6
      obtain ⟨y9, ey9, hy9, -⟩ := z_nI_of (x := y) hin.1
      subst ey9
      have hy1 : y9 < (sg s1).2.2.1 := by have := hin.2; omega
      have hdy := hd y9 hy1
      have hty : (nI y9).toInt.toNat = y9 := by omega
      refine lv_aload_n hx hb dX10_digitAt_28 rfl (lv_at hl 0 rfl) ?_
      refine z_get (own := RX10) (C := RX10) (T := TX10) (N := 21) hx hb hts in_X10_digitAt_10 hown hK hS h_m hM41 rfl 3 (by decide) (List.mem_of_getElem? (i := 3) rfl) rfl rfl dX10_digitAt_29 ?_
      refine lv_bipush (v := 12) hx hb dX10_digitAt_32 (by decide) ?_
      refine lv_iload_n hx hb dX10_digitAt_34 rfl (lv_at hl 1 rfl) ?_
      refine lv_imul hx hb dX10_digitAt_35 ?_
      refine lv_iload_n hx hb dX10_digitAt_36 rfl (lv_at hl 2 rfl) ?_
      refine lv_iadd hx hb dX10_digitAt_37 ?_
      rw [show (12 * (nI s1)) + (nI y9) = nI (12 * s1 + y9) from zm_ix (by omega) (by omega)]
      refine z_iald hx hb hK hS h_g hM45 (vp_in_nI (by omega) (by omega)) dX10_digitAt_38 ?_
      rw [show fd (nI (12 * s1 + y9)).toNatClampNeg = fd (12 * s1 + y9) from by rw [nI_clamp (by omega)]]
      refine z_iret hx hb hr hlocks hS ?_ dX10_digitAt_39
      show z_pm Z g (sp_digitAt (sg, rw9) (nI s1).toInt (nI y9).toInt) _ _
      unfold sp_digitAt
      rw [zite_t hzs, htn1, zite_t (show 0 ≤ (nI y9).toInt ∧ (nI y9).toInt < ((sg s1).2.2.1 : Int) by omega), hty]
      exact ⟨hdy, hW, z_fr.rf⟩
    · have i_6 := z_eq c_6
      rw [tI_0] at i_6
      have hnr : ¬ (0 ≤ y.toInt ∧ y.toInt < ((sg s1).2.2.1 : Int)) := fun h9 => zbo_f hr1 c_6 ⟨h9.1, by have := h9.2; omega⟩
      refine lv_ldc (v := (-1000001)) hx hb hown (hts _ (List.mem_of_getElem? (i := 2) rfl)) dX10_digitAt_23 ?_
      refine lv_goto (tgt := 39) hx hb dX10_digitAt_25 (by decide) ?_
      refine z_iret hx hb hr hlocks hS ?_ dX10_digitAt_39
      show z_pm Z g (sp_digitAt (sg, rw9) (nI s1).toInt y.toInt) _ _
      unfold sp_digitAt
      rw [zite_t hzs, htn1, zite_f hnr]
      exact ⟨rfl, hW, z_fr.rf⟩

theorem in_X10_chosen_10 : ∀ w ∈ wsX100, w ∈ wsX10_chosen := by decide +kernel
set_option maxHeartbeats 4000000 in
set_option maxRecDepth 100000 in
theorem m_chosen (Z : zT) (g : Nat → va_E) (sg : Nat → zb) (rw9 : Nat → zr) (hW : z_mw Z g sg rw9) (x y : Int32) : z_Mi Z yX10_chosen wsX10_chosen 4 88 [.ref (Z.2.1 41), .int x, .int y] g (fun r g1 => z_pm Z g (sp_chosen (sg, rw9) x.toInt y.toInt) r g1) := by
  intro l sz
  obtain ⟨v4, v5, v6, v15, v16, v17, hM9⟩ := hW.1.mp
  have hM := hM9.mr
  obtain ⟨fu, fq, fm, fd, h_m, h_u, h_q, h_n9, h_g, hMN, hSg⟩ := id hM9
  have hM41 : 41 < Z.1 := by omega
  have hM42 : 42 < Z.1 := by omega
  have hM43 : 43 < Z.1 := by omega
  have hM44 : 44 < Z.1 := by omega
  have hM45 : 45 < Z.1 := by omega
  refine z_enter (maxL := 3) (ret := (some .int)) (lv := [(0, .ref (Z.2.1 41)), (1, .int x), (2, .int y)]) (plainFor_of_name (by decide +kernel)) rfl (fun ls h => by subst h; exact lv_entry [.ref (Z.2.1 41), .int x, .int y] (n := 3) (Nat.le_of_ble_eq_true rfl)) ?_
  intro p e s m args below meth c hx hb hml hr hlocks hown hts hK hS hsz ls hl
  refine lv_iload_n hx hb dX10_chosen_0 rfl (lv_at hl 1 rfl) ?_
  refine z_calli (z_runS (As := [.int x]) (rest := []) ⟨hx, hb, hml, hown, hts⟩ hK hS ((m_noSystem Z g x) l _) gX10_chosen_X10_noSystem rfl 1 (by decide +kernel) ⟨Nat.le_of_ble_eq_true rfl, Nat.le_of_ble_eq_true rfl⟩ rfl hl.1 rfl (Nat.le_of_ble_eq_true rfl) dX10_chosen_1 ⟨Nat.le_of_ble_eq_true rfl, Nat.le_of_ble_eq_true rfl⟩) hS (fun rn g_1 H locs hp_2 hS => ?_)
  obtain ⟨rfl, hp_2⟩ := hp_2
  have hrn := hp_2
  refine lv_if_eq (tgt := 10) hx hb dX10_chosen_4 (by decide) (fun c_3 => ?_) (fun c_3 => ?_)
  · have i_3 := z_eq c_3
    rw [tI_0] at i_3
    have hzs : zsy x.toInt := Classical.byContradiction (zbo_f hrn c_3)
    obtain ⟨s1, es1, hs1x, -⟩ := z_nI_of (x := x) hzs.1
    subst es1
    have hs1 : s1 < 2 := by have := hzs.2; omega
    have htn1 : (nI s1).toInt.toNat = s1 := by omega
    obtain ⟨hok, hp, hq, hm, hd⟩ := hSg s1 hs1
    have hPb := zP_bd hok
    have hn12 := hok.2.2.2.1
    have hq1 := hok.2.1
    refine lv_iload_n hx hb dX10_chosen_10 rfl (lv_at hl 2 rfl) ?_
    refine lv_iconst (v := 0) hx hb dX10_chosen_11 (by decide) ?_
    refine lv_aload_n hx hb dX10_chosen_12 rfl (lv_at hl 0 rfl) ?_
    refine z_get (own := RX10) (C := RX10) (T := TX10) (N := 21) hx hb hts in_X10_chosen_10 hown hK hS h_m hM41 rfl 0 (by decide) (List.mem_of_getElem? (i := 2) rfl) rfl rfl dX10_chosen_13 ?_
    refine lv_iload_n hx hb dX10_chosen_16 rfl (lv_at hl 1 rfl) ?_
    refine z_iald hx hb hK hS h_u hM42 (vp_in_nI (by omega) (by omega)) dX10_chosen_17 ?_
    rw [show fu (nI s1).toNatClampNeg = fu s1 from by rw [nI_clamp (by omega)]]
    refine z_calli (z_runS (As := [.int (fu s1)]) (rest := [.int 0, .int y]) ⟨hx, hb, hml, hown, hts⟩ hK hS ((m_absolute Z g (fu s1)) l _) gX10_chosen_X10_absolute rfl 1 (by decide +kernel) ⟨Nat.le_of_ble_eq_true rfl, Nat.le_of_ble_eq_true rfl⟩ rfl hl.1 rfl (Nat.le_of_ble_eq_true rfl) dX10_chosen_18 ⟨Nat.le_of_ble_eq_true rfl, Nat.le_of_ble_eq_true rfl⟩) hS (fun ab g_4 H locs hp_5 hS => ?_)
    obtain ⟨rfl, hp_5⟩ := hp_5
    have hab : ab.toInt = zP (sg s1) := by rw [hp_5.1 (by omega), hp]; rfl
    have hab1 : (ab - 1).toInt = zP (sg s1) - 1 := by rw [fb_subI (by rw [tI_1]; omega) (by rw [tI_1]; omega), tI_1, hab]
    refine lv_iconst (v := 1) hx hb dX10_chosen_21 (by decide) ?_
    refine lv_isub hx hb dX10_chosen_22 ?_
    refine z_calli (z_runS (As := [.int y, .int 0, .int (ab - 1)]) (rest := []) ⟨hx, hb, hml, hown, hts⟩ hK hS ((m_in Z g y 0 (ab - 1)) l _) gX10_chosen_X10_in rfl 3 (by decide +kernel) ⟨Nat.le_of_ble_eq_true rfl, Nat.le_of_ble_eq_true rfl⟩ rfl hl.1 rfl (Nat.le_of_ble_eq_true rfl) dX10_chosen_23 ⟨Nat.le_of_ble_eq_true rfl, Nat.le_of_ble_eq_true rfl⟩) hS (fun r1 g_6 H locs hp_7 hS => ?_)
    obtain ⟨rfl, hp_7⟩ := hp_7
    have hr1 := hp_7
    rw [tI_0, hab1] at hr1
    refine lv_if_ne (tgt := 32) hx hb dX10_chosen_26 (by decide) (fun c_8 => ?_) (fun c_8 => ?_)
    · have i_8 := z_ne c_8
      rw [tI_0] at i_8
      have hin := zbo_t hr1 c_8
      have hyr : 0 ≤ y.toInt ∧ y.toInt < zP (sg s1) := by omega
      refine lv_aload_n hx hb dX10_chosen_32 rfl (lv_at hl 0 rfl) ?_
      refine lv_iload_n hx hb dX10_chosen_33 rfl (lv_at hl 1 rfl) ?_
      refine lv_iload_n hx hb dX10_chosen_34 rfl (lv_at hl 2 rfl) ?_
      refine z_calli (z_runV (As := [.int (nI s1), .int y]) (rest := []) ⟨hx, hb, hml, hown, hts⟩ hK hS ((m_chosenAt Z g sg hM s1 hs1 y hyr) l _) gX10_chosen_X10_chosenAt rfl 2 (by decide +kernel) ⟨Nat.le_of_ble_eq_true rfl, Nat.le_of_ble_eq_true rfl⟩ h_m hM41 rfl rfl hl.1 rfl (Nat.le_of_ble_eq_true rfl) dX10_chosen_35 ⟨Nat.le_of_ble_eq_true rfl, Nat.le_of_ble_eq_true rfl⟩) hS (fun ra g_9 H locs hp_10 hS => ?_)
      obtain ⟨rfl, hp_10⟩ := hp_10
      have hra := hp_10
      refine lv_if_ge (tgt := 46) hx hb dX10_chosen_38 (by decide) (fun c_11 => ?_) (fun c_11 => ?_)
      · have i_11 := z_le c_11
        rw [tI_0] at i_11
        have hzc : zci (sg s1) y.toInt < (sg s1).2.2.1 := by
          rcases hra with ⟨q1, q2⟩ | ⟨q1, q2⟩
          · exact q1
          · exfalso; rw [q2, tI_m1] at i_11; omega
        refine lv_aload_n hx hb dX10_chosen_46 rfl (lv_at hl 0 rfl) ?_
        refine lv_iload_n hx hb dX10_chosen_47 rfl (lv_at hl 1 rfl) ?_
        refine lv_iload_n hx hb dX10_chosen_48 rfl (lv_at hl 2 rfl) ?_
        refine z_calli (z_runV (As := [.int (nI s1), .int y]) (rest := []) ⟨hx, hb, hml, hown, hts⟩ hK hS ((m_chosenDigit Z g sg hM s1 hs1 y hyr hzc) l _) gX10_chosen_X10_chosenDigit rfl 2 (by decide +kernel) ⟨Nat.le_of_ble_eq_true rfl, Nat.le_of_ble_eq_true rfl⟩ h_m hM41 rfl rfl hl.1 rfl (Nat.le_of_ble_eq_true rfl) dX10_chosen_49 ⟨Nat.le_of_ble_eq_true rfl, Nat.le_of_ble_eq_true rfl⟩) hS (fun rd g_12 H locs hp_13 hS => ?_)
        obtain ⟨rfl, hp_13⟩ := hp_13
        have hrd := hp_13
        refine z_iret hx hb hr hlocks hS ?_ dX10_chosen_52
        show z_pm Z g (sp_chosen (sg, rw9) (nI s1).toInt y.toInt) _ _
        unfold sp_chosen
        rw [zite_t hzs, htn1, zite_t hyr]
        exact ⟨hrd, hW, z_fr.rf⟩
      · have i_11 := z_nle c_11
        rw [tI_0] at i_11
        have hzc : ¬ zci (sg s1) y.toInt < (sg s1).2.2.1 := by
          rcases hra with ⟨q1, q2⟩ | ⟨q1, q2⟩
          · exfalso; rw [q2, nI_toInt (by omega)] at i_11; omega
          · exact q1
        refine lv_ldc (v := (-1000006)) hx hb hown (hts _ (List.mem_of_getElem? (i := 4) rfl)) dX10_chosen_41 ?_
        refine lv_goto (tgt := 52) hx hb dX10_chosen_43 (by decide) ?_
        refine z_iret hx hb hr hlocks hS ?_ dX10_chosen_52
        show z_pm Z g (sp_chosen (sg, rw9) (nI s1).toInt y.toInt) _ _
        unfold sp_chosen
        rw [zite_t hzs, htn1, zite_t hyr]
        exact ⟨by unfold zch; rw [if_neg hzc]; rfl, hW, z_fr.rf⟩
    · have i_8 := z_eq c_8
      rw [tI_0] at i_8
      have hnr : ¬ (0 ≤ y.toInt ∧ y.toInt < zP (sg s1)) := fun h9 => zbo_f hr1 c_8 ⟨h9.1, by have := h9.2; omega⟩
      refine lv_ldc (v := (-1000002)) hx hb hown (hts _ (List.mem_of_getElem? (i := 3) rfl)) dX10_chosen_29 ?_
      refine z_iret hx hb hr hlocks hS ?_ dX10_chosen_31
      show z_pm Z g (sp_chosen (sg, rw9) (nI s1).toInt y.toInt) _ _
      unfold sp_chosen
      rw [zite_t hzs, htn1, zite_f hnr]
      exact ⟨rfl, hW, z_fr.rf⟩
  · have i_3 := z_ne c_3
    rw [tI_0] at i_3
    have hnv := zbo_t hrn c_3
    refine lv_ldc (v := (-1000001)) hx hb hown (hts _ (List.mem_of_getElem? (i := 1) rfl)) dX10_chosen_7 ?_
    refine z_iret hx hb hr hlocks hS ?_ dX10_chosen_9
    show z_pm Z g (sp_chosen (sg, rw9) x.toInt y.toInt) _ _
    unfold sp_chosen
    rw [zite_f hnv]
    exact ⟨rfl, hW, z_fr.rf⟩

theorem in_X10_carryDigit_10 : ∀ w ∈ wsX100, w ∈ wsX10_carryDigit := by decide +kernel
set_option maxHeartbeats 4000000 in
set_option maxRecDepth 100000 in
theorem m_carryDigit (Z : zT) (g : Nat → va_E) (sg : Nat → zb) (hM : z_mr Z g sg) (s1 : Nat) (hs1 : s1 < 2) (x t : Int32) (hcm : zcm (sg s1)) (hx2 : -200000 ≤ x.toInt ∧ x.toInt ≤ 200000) (ht4 : -4000 ≤ t.toInt ∧ t.toInt ≤ 4000) : z_Mi Z yX10_carryDigit wsX10_carryDigit 4 88 [.ref (Z.2.1 41), .int (nI s1), .int x, .int t] g (fun r g1 => g = g1 ∧ r.toInt = zch (sg s1) (t.toInt + (sg s1).2.1 * x.toInt)) := by
  intro l sz
  obtain ⟨v4, v5, v6, v15, v16, v17, fu, fq, fm, fd, h_m, h_u, h_q, h_n9, h_g, hMN, hSg⟩ := id hM
  have hM41 : 41 < Z.1 := by omega
  have hM42 : 42 < Z.1 := by omega
  have hM43 : 43 < Z.1 := by omega
  have hM44 : 44 < Z.1 := by omega
  have hM45 : 45 < Z.1 := by omega
  obtain ⟨hok, hp, hq, hm, hd⟩ := hSg s1 hs1
  have hPb := zP_bd hok
  have hn12 := hok.2.2.2.1
  have hq1 := hok.2.1
  have hqx := z_mul_bd (x := (sg s1).2.1) (y := x.toInt) (a := 9) (b := 200000) (by omega) (by omega) (by omega) (by omega)
  have hqx2 : ((fq s1) * x).toInt = (sg s1).2.1 * x.toInt := by rw [fb_mulI (by rw [hq]; omega) (by rw [hq]; omega), hq]
  have hE : (t + ((fq s1) * x)).toInt = t.toInt + (sg s1).2.1 * x.toInt := by rw [fb_addI (by rw [hqx2]; omega) (by rw [hqx2]; omega), hqx2]
  refine z_enter (maxL := 4) (ret := (some .int)) (lv := [(0, .ref (Z.2.1 41)), (1, .int (nI s1)), (2, .int x), (3, .int t)]) (plainFor_of_name (by decide +kernel)) rfl (fun ls h => by subst h; exact lv_entry [.ref (Z.2.1 41), .int (nI s1), .int x, .int t] (n := 4) (Nat.le_of_ble_eq_true rfl)) ?_
  intro p e s m args below meth c hx hb hml hr hlocks hown hts hK hS hsz ls hl
  refine lv_aload_n hx hb dX10_carryDigit_0 rfl (lv_at hl 0 rfl) ?_
  refine lv_iload_n hx hb dX10_carryDigit_1 rfl (lv_at hl 1 rfl) ?_
  refine lv_aload_n hx hb dX10_carryDigit_2 rfl (lv_at hl 0 rfl) ?_
  refine lv_iload_n hx hb dX10_carryDigit_3 rfl (lv_at hl 1 rfl) ?_
  refine lv_iload_n hx hb dX10_carryDigit_4 rfl (lv_at hl 3 rfl) ?_
  refine lv_aload_n hx hb dX10_carryDigit_5 rfl (lv_at hl 0 rfl) ?_
  refine z_get (own := RX10) (C := RX10) (T := TX10) (N := 21) hx hb hts in_X10_carryDigit_10 hown hK hS h_m hM41 rfl 1 (by decide) (List.mem_of_getElem? (i := 1) rfl) rfl rfl dX10_carryDigit_6 ?_
  refine lv_iload_n hx hb dX10_carryDigit_9 rfl (lv_at hl 1 rfl) ?_
  refine z_iald hx hb hK hS h_q hM43 (vp_in_nI (by omega) (by omega)) dX10_carryDigit_10 ?_
  rw [show fq (nI s1).toNatClampNeg = fq s1 from by rw [nI_clamp (by omega)]]
  refine lv_iload_n hx hb dX10_carryDigit_11 rfl (lv_at hl 2 rfl) ?_
  refine lv_imul hx hb dX10_carryDigit_12 ?_
  refine lv_iadd hx hb dX10_carryDigit_13 ?_
  refine z_calli (z_runV (As := [.int (nI s1), .int (t + ((fq s1) * x))]) (rest := [.int (nI s1), .ref (Z.2.1 41)]) ⟨hx, hb, hml, hown, hts⟩ hK hS ((m_residue Z g sg hM s1 hs1 (t + ((fq s1) * x))) l _) gX10_carryDigit_X10_residue rfl 2 (by decide +kernel) ⟨Nat.le_of_ble_eq_true rfl, Nat.le_of_ble_eq_true rfl⟩ h_m hM41 rfl rfl hl.1 rfl (Nat.le_of_ble_eq_true rfl) dX10_carryDigit_14 ⟨Nat.le_of_ble_eq_true rfl, Nat.le_of_ble_eq_true rfl⟩) hS (fun rr g_1 H locs hp_2 hS => ?_)
  obtain ⟨rfl, hp_2⟩ := hp_2
  have hrr := hp_2
  rw [hE] at hrr
  have hm0 := Int.emod_nonneg (t.toInt + (sg s1).2.1 * x.toInt) (b := zP (sg s1)) (by omega)
  have hm1 := Int.emod_lt_of_pos (t.toInt + (sg s1).2.1 * x.toInt) (b := zP (sg s1)) (by omega)
  refine z_calli (z_runV (As := [.int (nI s1), .int rr]) (rest := []) ⟨hx, hb, hml, hown, hts⟩ hK hS ((m_chosenDigit Z g sg hM s1 hs1 rr (by omega) (hcm _)) l _) gX10_carryDigit_X10_chosenDigit rfl 2 (by decide +kernel) ⟨Nat.le_of_ble_eq_true rfl, Nat.le_of_ble_eq_true rfl⟩ h_m hM41 rfl rfl hl.1 rfl (Nat.le_of_ble_eq_true rfl) dX10_carryDigit_17 ⟨Nat.le_of_ble_eq_true rfl, Nat.le_of_ble_eq_true rfl⟩) hS (fun rd g_3 H locs hp_4 hS => ?_)
  obtain ⟨rfl, hp_4⟩ := hp_4
  have hrd := hp_4
  rw [hrr, zch_mod] at hrd
  refine z_iret hx hb hr hlocks hS ?_ dX10_carryDigit_20
  exact ⟨rfl, hrd⟩

theorem in_X10_carried_10 : ∀ w ∈ wsX100, w ∈ wsX10_carried := by decide +kernel
set_option maxHeartbeats 4000000 in
set_option maxRecDepth 100000 in
theorem m_carried (Z : zT) (g : Nat → va_E) (sg : Nat → zb) (hM : z_mr Z g sg) (s1 : Nat) (hs1 : s1 < 2) (x t : Int32) (hcm : zcm (sg s1)) (hx2 : -200000 ≤ x.toInt ∧ x.toInt ≤ 200000) (ht4 : -4000 ≤ t.toInt ∧ t.toInt ≤ 4000) : z_Mi Z yX10_carried wsX10_carried 5 111 [.ref (Z.2.1 41), .int (nI s1), .int x, .int t] g (fun r g1 => g = g1 ∧ r.toInt = zcr (sg s1) x.toInt t.toInt) := by
  intro l sz
  obtain ⟨v4, v5, v6, v15, v16, v17, fu, fq, fm, fd, h_m, h_u, h_q, h_n9, h_g, hMN, hSg⟩ := id hM
  have hM41 : 41 < Z.1 := by omega
  have hM42 : 42 < Z.1 := by omega
  have hM43 : 43 < Z.1 := by omega
  have hM44 : 44 < Z.1 := by omega
  have hM45 : 45 < Z.1 := by omega
  obtain ⟨hok, hp, hq, hm, hd⟩ := hSg s1 hs1
  have hPb := zP_bd hok
  have hn12 := hok.2.2.2.1
  have hq1 := hok.2.1
  have hqx := z_mul_bd (x := (sg s1).2.1) (y := x.toInt) (a := 9) (b := 200000) (by omega) (by omega) (by omega) (by omega)
  have hqx2 : ((fq s1) * x).toInt = (sg s1).2.1 * x.toInt := by rw [fb_mulI (by rw [hq]; omega) (by rw [hq]; omega), hq]
  have hE : (t + ((fq s1) * x)).toInt = t.toInt + (sg s1).2.1 * x.toInt := by rw [fb_addI (by rw [hqx2]; omega) (by rw [hqx2]; omega), hqx2]
  refine z_enter (maxL := 4) (ret := (some .int)) (lv := [(0, .ref (Z.2.1 41)), (1, .int (nI s1)), (2, .int x), (3, .int t)]) (plainFor_of_name (by decide +kernel)) rfl (fun ls h => by subst h; exact lv_entry [.ref (Z.2.1 41), .int (nI s1), .int x, .int t] (n := 4) (Nat.le_of_ble_eq_true rfl)) ?_
  intro p e s m args below meth c hx hb hml hr hlocks hown hts hK hS hsz ls hl
  refine lv_iload_n hx hb dX10_carried_0 rfl (lv_at hl 3 rfl) ?_
  refine lv_aload_n hx hb dX10_carried_1 rfl (lv_at hl 0 rfl) ?_
  refine z_get (own := RX10) (C := RX10) (T := TX10) (N := 21) hx hb hts in_X10_carried_10 hown hK hS h_m hM41 rfl 1 (by decide) (List.mem_of_getElem? (i := 1) rfl) rfl rfl dX10_carried_2 ?_
  refine lv_iload_n hx hb dX10_carried_5 rfl (lv_at hl 1 rfl) ?_
  refine z_iald hx hb hK hS h_q hM43 (vp_in_nI (by omega) (by omega)) dX10_carried_6 ?_
  rw [show fq (nI s1).toNatClampNeg = fq s1 from by rw [nI_clamp (by omega)]]
  refine lv_iload_n hx hb dX10_carried_7 rfl (lv_at hl 2 rfl) ?_
  refine lv_imul hx hb dX10_carried_8 ?_
  refine lv_iadd hx hb dX10_carried_9 ?_
  refine lv_aload_n hx hb dX10_carried_10 rfl (lv_at hl 0 rfl) ?_
  refine lv_iload_n hx hb dX10_carried_11 rfl (lv_at hl 1 rfl) ?_
  refine lv_iload_n hx hb dX10_carried_12 rfl (lv_at hl 2 rfl) ?_
  refine lv_iload_n hx hb dX10_carried_13 rfl (lv_at hl 3 rfl) ?_
  refine z_calli (z_runV (As := [.int (nI s1), .int x, .int t]) (rest := [.int (t + ((fq s1) * x))]) ⟨hx, hb, hml, hown, hts⟩ hK hS ((m_carryDigit Z g sg hM s1 hs1 x t hcm hx2 ht4) l _) gX10_carried_X10_carryDigit rfl 3 (by decide +kernel) ⟨Nat.le_of_ble_eq_true rfl, Nat.le_of_ble_eq_true rfl⟩ h_m hM41 rfl rfl hl.1 rfl (Nat.le_of_ble_eq_true rfl) dX10_carried_14 ⟨Nat.le_of_ble_eq_true rfl, Nat.le_of_ble_eq_true rfl⟩) hS (fun cd g_1 H locs hp_2 hS => ?_)
  obtain ⟨rfl, hp_2⟩ := hp_2
  have hcd := hp_2
  have hcb := zch_bd hok (hcm (t.toInt + (sg s1).2.1 * x.toInt))
  rw [← hcd] at hcb
  have hF : ((t + ((fq s1) * x)) - cd).toInt = t.toInt + (sg s1).2.1 * x.toInt - cd.toInt := by rw [fb_subI (by rw [hE]; omega) (by rw [hE]; omega), hE]
  refine lv_isub hx hb dX10_carried_17 ?_
  refine lv_aload_n hx hb dX10_carried_18 rfl (lv_at hl 0 rfl) ?_
  refine z_get (own := RX10) (C := RX10) (T := TX10) (N := 21) hx hb hts in_X10_carried_10 hown hK hS h_m hM41 rfl 0 (by decide) (List.mem_of_getElem? (i := 2) rfl) rfl rfl dX10_carried_19 ?_
  refine lv_iload_n hx hb dX10_carried_22 rfl (lv_at hl 1 rfl) ?_
  refine z_iald hx hb hK hS h_u hM42 (vp_in_nI (by omega) (by omega)) dX10_carried_23 ?_
  rw [show fu (nI s1).toNatClampNeg = fu s1 from by rw [nI_clamp (by omega)]]
  refine lv_idiv hx hb dX10_carried_24 (fun h => by rw [h] at hp; have : (0 : Int32).toInt = 0 := rfl; omega) ?_
  refine z_iret hx hb hr hlocks hS ?_ dX10_carried_25
  exact ⟨rfl, by rw [z_div (by omega), hF, hp, hcd]; rfl⟩

set_option maxHeartbeats 4000000 in
set_option maxRecDepth 100000 in
theorem m_nextCarry (Z : zT) (g : Nat → va_E) (sg : Nat → zb) (rw9 : Nat → zr) (hW : z_mw Z g sg rw9) (x y z : Int32) : z_Mi Z yX10_nextCarry wsX10_nextCarry 6 134 [.ref (Z.2.1 41), .int x, .int y, .int z] g (fun r g1 => z_pm Z g (sp_nextCarry (sg, rw9) x.toInt y.toInt z.toInt) r g1) := by
  intro l sz
  obtain ⟨v4, v5, v6, v15, v16, v17, hM9⟩ := hW.1.mp
  have hM := hM9.mr
  obtain ⟨fu, fq, fm, fd, h_m, h_u, h_q, h_n9, h_g, hMN, hSg⟩ := id hM9
  have hM41 : 41 < Z.1 := by omega
  have hM42 : 42 < Z.1 := by omega
  have hM43 : 43 < Z.1 := by omega
  have hM44 : 44 < Z.1 := by omega
  have hM45 : 45 < Z.1 := by omega
  refine z_enter (maxL := 4) (ret := (some .int)) (lv := [(0, .ref (Z.2.1 41)), (1, .int x), (2, .int y), (3, .int z)]) (plainFor_of_name (by decide +kernel)) rfl (fun ls h => by subst h; exact lv_entry [.ref (Z.2.1 41), .int x, .int y, .int z] (n := 4) (Nat.le_of_ble_eq_true rfl)) ?_
  intro p e s m args below meth c hx hb hml hr hlocks hown hts hK hS hsz ls hl
  refine lv_iload_n hx hb dX10_nextCarry_0 rfl (lv_at hl 1 rfl) ?_
  refine z_calli (z_runS (As := [.int x]) (rest := []) ⟨hx, hb, hml, hown, hts⟩ hK hS ((m_noSystem Z g x) l _) gX10_nextCarry_X10_noSystem rfl 1 (by decide +kernel) ⟨Nat.le_of_ble_eq_true rfl, Nat.le_of_ble_eq_true rfl⟩ rfl hl.1 rfl (Nat.le_of_ble_eq_true rfl) dX10_nextCarry_1 ⟨Nat.le_of_ble_eq_true rfl, Nat.le_of_ble_eq_true rfl⟩) hS (fun rn g_1 H locs hp_2 hS => ?_)
  obtain ⟨rfl, hp_2⟩ := hp_2
  have hrn := hp_2
  refine lv_if_eq (tgt := 10) hx hb dX10_nextCarry_4 (by decide) (fun c_3 => ?_) (fun c_3 => ?_)
  · have i_3 := z_eq c_3
    rw [tI_0] at i_3
    have hzs : zsy x.toInt := Classical.byContradiction (zbo_f hrn c_3)
    obtain ⟨s1, es1, hs1x, -⟩ := z_nI_of (x := x) hzs.1
    subst es1
    have hs1 : s1 < 2 := by have := hzs.2; omega
    have htn1 : (nI s1).toInt.toNat = s1 := by omega
    obtain ⟨hok, hp, hq, hm, hd⟩ := hSg s1 hs1
    have hPb := zP_bd hok
    have hn12 := hok.2.2.2.1
    have hq1 := hok.2.1
    refine lv_iload_n hx hb dX10_nextCarry_10 rfl (lv_at hl 2 rfl) ?_
    refine lv_sipush (v := (-10000)) hx hb dX10_nextCarry_11 (by decide) ?_
    refine lv_sipush (v := 10000) hx hb dX10_nextCarry_14 (by decide) ?_
    refine z_calli (z_runS (As := [.int y, .int (-10000), .int 10000]) (rest := []) ⟨hx, hb, hml, hown, hts⟩ hK hS ((m_in Z g y (-10000) 10000) l _) gX10_nextCarry_X10_in rfl 3 (by decide +kernel) ⟨Nat.le_of_ble_eq_true rfl, Nat.le_of_ble_eq_true rfl⟩ rfl hl.1 rfl (Nat.le_of_ble_eq_true rfl) dX10_nextCarry_17 ⟨Nat.le_of_ble_eq_true rfl, Nat.le_of_ble_eq_true rfl⟩) hS (fun r1 g_4 H locs hp_5 hS => ?_)
    obtain ⟨rfl, hp_5⟩ := hp_5
    have hr1 := hp_5
    rw [tI_m10000, tI_10000] at hr1
    refine lv_if_eq (tgt := 36) hx hb dX10_nextCarry_20 (by decide) (fun c_6 => ?_) (fun c_6 => ?_)
    · have i_6 := z_eq c_6
      rw [tI_0] at i_6
      have hbad : ¬ ((-10000 ≤ y.toInt ∧ y.toInt ≤ 10000) ∧ (-2000 ≤ z.toInt ∧ z.toInt ≤ 2000)) := fun h9 => zbo_f hr1 c_6 h9.1
      refine lv_ldc (v := (-1000002)) hx hb hown (hts _ (List.mem_of_getElem? (i := 2) rfl)) dX10_nextCarry_36 ?_
      refine z_iret hx hb hr hlocks hS ?_ dX10_nextCarry_38
      show z_pm Z g (sp_nextCarry (sg, rw9) (nI s1).toInt y.toInt z.toInt) _ _
      unfold sp_nextCarry
      rw [zite_t hzs, zite_f hbad]
      exact ⟨rfl, hW, z_fr.rf⟩
    · have i_6 := z_ne c_6
      rw [tI_0] at i_6
      have hym := zbo_t hr1 c_6
      refine lv_iload_n hx hb dX10_nextCarry_23 rfl (lv_at hl 3 rfl) ?_
      refine lv_sipush (v := (-2000)) hx hb dX10_nextCarry_24 (by decide) ?_
      refine lv_sipush (v := 2000) hx hb dX10_nextCarry_27 (by decide) ?_
      refine z_calli (z_runS (As := [.int z, .int (-2000), .int 2000]) (rest := []) ⟨hx, hb, hml, hown, hts⟩ hK hS ((m_in Z g z (-2000) 2000) l _) gX10_nextCarry_X10_in rfl 3 (by decide +kernel) ⟨Nat.le_of_ble_eq_true rfl, Nat.le_of_ble_eq_true rfl⟩ rfl hl.1 rfl (Nat.le_of_ble_eq_true rfl) dX10_nextCarry_30 ⟨Nat.le_of_ble_eq_true rfl, Nat.le_of_ble_eq_true rfl⟩) hS (fun r2 g_7 H locs hp_8 hS => ?_)
      obtain ⟨rfl, hp_8⟩ := hp_8
      have hr2 := hp_8
      rw [tI_m2000, tI_2000] at hr2
      refine lv_if_ne (tgt := 39) hx hb dX10_nextCarry_33 (by decide) (fun c_9 => ?_) (fun c_9 => ?_)
      · have i_9 := z_ne c_9
        rw [tI_0] at i_9
        have hzm := zbo_t hr2 c_9
        refine lv_aload_n hx hb dX10_nextCarry_39 rfl (lv_at hl 0 rfl) ?_
        refine lv_iload_n hx hb dX10_nextCarry_40 rfl (lv_at hl 1 rfl) ?_
        refine z_calli (z_runV (As := [.int (nI s1)]) (rest := []) ⟨hx, hb, hml, hown, hts⟩ hK hS ((m_isComplete Z g sg hM s1 hs1) l _) gX10_nextCarry_X10_isComplete rfl 1 (by decide +kernel) ⟨Nat.le_of_ble_eq_true rfl, Nat.le_of_ble_eq_true rfl⟩ h_m hM41 rfl rfl hl.1 rfl (Nat.le_of_ble_eq_true rfl) dX10_nextCarry_41 ⟨Nat.le_of_ble_eq_true rfl, Nat.le_of_ble_eq_true rfl⟩) hS (fun rc g_10 H locs hp_11 hS => ?_)
        obtain ⟨rfl, hp_11⟩ := hp_11
        have hrc := hp_11
        refine lv_if_eq (tgt := 57) hx hb dX10_nextCarry_44 (by decide) (fun c_12 => ?_) (fun c_12 => ?_)
        · have i_12 := z_eq c_12
          rw [tI_0] at i_12
          have hncm := zbo_f hrc c_12
          refine lv_ldc (v := (-1000003)) hx hb hown (hts _ (List.mem_of_getElem? (i := 3) rfl)) dX10_nextCarry_57 ?_
          refine z_iret hx hb hr hlocks hS ?_ dX10_nextCarry_59
          show z_pm Z g (sp_nextCarry (sg, rw9) (nI s1).toInt y.toInt z.toInt) _ _
          unfold sp_nextCarry
          rw [zite_t hzs, zite_t ⟨hym, hzm⟩, htn1, zite_f hncm]
          exact ⟨rfl, hW, z_fr.rf⟩
        · have i_12 := z_ne c_12
          rw [tI_0] at i_12
          have hcm := zbo_t hrc c_12
          refine lv_aload_n hx hb dX10_nextCarry_47 rfl (lv_at hl 0 rfl) ?_
          refine lv_iload_n hx hb dX10_nextCarry_48 rfl (lv_at hl 1 rfl) ?_
          refine lv_iload_n hx hb dX10_nextCarry_49 rfl (lv_at hl 2 rfl) ?_
          refine lv_iload_n hx hb dX10_nextCarry_50 rfl (lv_at hl 3 rfl) ?_
          refine z_calli (z_runV (As := [.int (nI s1), .int y, .int z]) (rest := []) ⟨hx, hb, hml, hown, hts⟩ hK hS ((m_carried Z g sg hM s1 hs1 y z hcm (by omega) (by omega)) l _) gX10_nextCarry_X10_carried rfl 3 (by decide +kernel) ⟨Nat.le_of_ble_eq_true rfl, Nat.le_of_ble_eq_true rfl⟩ h_m hM41 rfl rfl hl.1 rfl (Nat.le_of_ble_eq_true rfl) dX10_nextCarry_51 ⟨Nat.le_of_ble_eq_true rfl, Nat.le_of_ble_eq_true rfl⟩) hS (fun rd g_13 H locs hp_14 hS => ?_)
          obtain ⟨rfl, hp_14⟩ := hp_14
          have hrd := hp_14
          refine lv_goto (tgt := 59) hx hb dX10_nextCarry_54 (by decide) ?_
          refine z_iret hx hb hr hlocks hS ?_ dX10_nextCarry_59
          show z_pm Z g (sp_nextCarry (sg, rw9) (nI s1).toInt y.toInt z.toInt) _ _
          unfold sp_nextCarry
          rw [zite_t hzs, zite_t ⟨hym, hzm⟩, htn1, zite_t hcm]
          exact ⟨hrd, hW, z_fr.rf⟩
      · have i_9 := z_eq c_9
        rw [tI_0] at i_9
        have hbad : ¬ ((-10000 ≤ y.toInt ∧ y.toInt ≤ 10000) ∧ (-2000 ≤ z.toInt ∧ z.toInt ≤ 2000)) := fun h9 => zbo_f hr2 c_9 h9.2
        refine lv_ldc (v := (-1000002)) hx hb hown (hts _ (List.mem_of_getElem? (i := 2) rfl)) dX10_nextCarry_36 ?_
        refine z_iret hx hb hr hlocks hS ?_ dX10_nextCarry_38
        show z_pm Z g (sp_nextCarry (sg, rw9) (nI s1).toInt y.toInt z.toInt) _ _
        unfold sp_nextCarry
        rw [zite_t hzs, zite_f hbad]
        exact ⟨rfl, hW, z_fr.rf⟩
  · have i_3 := z_ne c_3
    rw [tI_0] at i_3
    have hnv := zbo_t hrn c_3
    refine lv_ldc (v := (-1000001)) hx hb hown (hts _ (List.mem_of_getElem? (i := 1) rfl)) dX10_nextCarry_7 ?_
    refine z_iret hx hb hr hlocks hS ?_ dX10_nextCarry_9
    show z_pm Z g (sp_nextCarry (sg, rw9) x.toInt y.toInt z.toInt) _ _
    unfold sp_nextCarry
    rw [zite_f hnv]
    exact ⟨rfl, hW, z_fr.rf⟩

theorem in_X10_system_10 : ∀ w ∈ wsX100, w ∈ wsX10_system := by decide +kernel
set_option maxHeartbeats 4000000 in
set_option maxRecDepth 100000 in
theorem m_system (Z : zT) (g : Nat → va_E) (sg : Nat → zb) (rw9 : Nat → zr) (hW : z_mw Z g sg rw9) (x y : Int32) : z_Mi Z yX10_system wsX10_system 4 89 [.ref (Z.2.1 41), .int x, .int y] g (fun r g1 => z_pm Z g (sp_system (sg, rw9) x.toInt y.toInt) r g1) := by
  intro l sz
  obtain ⟨v4, v5, v6, v15, v16, v17, hM9⟩ := hW.1.mp
  have hM := hM9.mr
  obtain ⟨fu, fq, fm, fd, h_m, h_u, h_q, h_n9, h_g, hMN, hSg⟩ := id hM9
  have hM41 : 41 < Z.1 := by omega
  have hM42 : 42 < Z.1 := by omega
  have hM43 : 43 < Z.1 := by omega
  have hM44 : 44 < Z.1 := by omega
  have hM45 : 45 < Z.1 := by omega
  refine z_enter (maxL := 5) (ret := (some .int)) (lv := [(0, .ref (Z.2.1 41)), (1, .int x), (2, .int y)]) (plainFor_of_name (by decide +kernel)) rfl (fun ls h => by subst h; exact lv_entry [.ref (Z.2.1 41), .int x, .int y] (n := 5) (Nat.le_of_ble_eq_true rfl)) ?_
  intro p e s m args below meth c hx hb hml hr hlocks hown hts hK hS hsz ls hl
  refine lv_iload_n hx hb dX10_system_0 rfl (lv_at hl 1 rfl) ?_
  refine z_calli (z_runS (As := [.int x]) (rest := []) ⟨hx, hb, hml, hown, hts⟩ hK hS ((m_noSystem Z g x) l _) gX10_system_X10_noSystem rfl 1 (by decide +kernel) ⟨Nat.le_of_ble_eq_true rfl, Nat.le_of_ble_eq_true rfl⟩ rfl hl.1 rfl (Nat.le_of_ble_eq_true rfl) dX10_system_1 ⟨Nat.le_of_ble_eq_true rfl, Nat.le_of_ble_eq_true rfl⟩) hS (fun rn g_1 H locs hp_2 hS => ?_)
  obtain ⟨rfl, hp_2⟩ := hp_2
  have hrn := hp_2
  refine lv_if_eq (tgt := 10) hx hb dX10_system_4 (by decide) (fun c_3 => ?_) (fun c_3 => ?_)
  · have i_3 := z_eq c_3
    rw [tI_0] at i_3
    have hzs : zsy x.toInt := Classical.byContradiction (zbo_f hrn c_3)
    obtain ⟨s1, es1, hs1x, -⟩ := z_nI_of (x := x) hzs.1
    have hs1 : s1 < 2 := by have := hzs.2; omega
    have htn1 : x.toInt.toNat = s1 := by omega
    obtain ⟨hok, hp, hq, hm, hd⟩ := hSg s1 hs1
    have hPb := zP_bd hok
    have hn12 := hok.2.2.2.1
    have hq1 := hok.2.1
    rw [es1] at hl
    refine lv_iconst (v := 0) hx hb dX10_system_10 (by decide) ?_
    refine lv_istore_n (lv' := [(3, .int 0), (0, .ref (Z.2.1 41)), (1, .int (nI s1)), (2, .int y)]) hx hb dX10_system_11 rfl hl (by decide) rfl (fun ls hl => ?_)
    refine lv_iconst (v := 0) hx hb dX10_system_12 (by decide) ?_
    refine lv_istore (lv' := [(4, .int 0), (3, .int 0), (0, .ref (Z.2.1 41)), (1, .int (nI s1)), (2, .int y)]) hx hb dX10_system_13 hl (by decide) rfl (fun ls hl => ?_)
    have hcut_15 : ∀ (nn_15 : Nat) (j : Nat) (mo : Int32) (hj : j ≤ (sg s1).2.2.1) (hmo : mo.toInt = zab (sg s1).2.2.2 j) (hm_15 : (sg s1).2.2.1 - j < nn_15) (H : Heap) (locs : List Loc) (ls : Array Slot), z_S Z (z_A Z sz) s.heap g H locs → lv_has ls 5 [(0, .ref (Z.2.1 41)), (1, .int (nI s1)), (2, .int y), (3, .int mo), (4, .int (nI j))] → W p l e (headSpec wsX10_system (z_rm 4 89)).room s m args below meth c H locs 0 0 (MQ below (va_Qi (fun r g1 => z_pm Z g (sp_system (sg, rw9) x.toInt y.toInt) r g1) (z_B Z) (z_A Z sz)) args s 0 0 (z_A Z sz)) (F0 m 15 ls []) := by
      intro nn_15
      induction nn_15 with
      | zero => intro j mo hj hmo hm_15 H locs ls hS hl; exact absurd hm_15 (Nat.not_lt_zero _)
      | succ nn_15 ih_15 =>
        intro j mo hj hmo hm_15 H locs ls hS hl
        refine lv_iload hx hb dX10_system_15 (lv_at hl 4 rfl) ?_
        refine lv_aload_n hx hb dX10_system_17 rfl (lv_at hl 0 rfl) ?_
        refine z_get (own := RX10) (C := RX10) (T := TX10) (N := 21) hx hb hts in_X10_system_10 hown hK hS h_m hM41 rfl 2 (by decide) (List.mem_of_getElem? (i := 2) rfl) rfl rfl dX10_system_18 ?_
        refine lv_iload_n hx hb dX10_system_21 rfl (lv_at hl 1 rfl) ?_
        refine z_iald hx hb hK hS h_n9 hM44 (vp_in_nI (by omega) (by omega)) dX10_system_22 ?_
        rw [show fm (nI s1).toNatClampNeg = nI (sg s1).2.2.1 from by rw [nI_clamp (by omega)]; exact hm]
        refine lv_icmp_ge (tgt := 71) hx hb dX10_system_23 (by decide) (fun c_4 => ?_) (fun c_4 => ?_)
        · have i_4 := z_le c_4
          rw [nI_toInt (by omega)] at i_4
          rw [nI_toInt (by omega)] at i_4
          have hjn : j = (sg s1).2.2.1 := by omega
          rw [hjn] at hmo
          refine lv_iload_n hx hb dX10_system_71 rfl (lv_at hl 2 rfl) ?_
          by_cases hsw0 : y.toInt < 0 ∨ 4 < y.toInt
          · refine lv_tableOut (tgt := 145) hx hb dX10_system_72 hsw0 (by decide) ?_
            refine lv_ldc (v := (-1000002)) hx hb hown (hts _ (List.mem_of_getElem? (i := 6) rfl)) dX10_system_145 ?_
            refine z_iret hx hb hr hlocks hS ?_ dX10_system_147
            show z_pm Z g (sp_system (sg, rw9) x.toInt y.toInt) _ _
            unfold sp_system
            rw [zite_t hzs, zite_f (by omega), zite_f (by omega), zite_f (by omega), zite_f (by omega), zite_f (by omega)]
            exact ⟨rfl, hW, z_fr.rf⟩
          · have hc5 : y = 0 ∨ y = 1 ∨ y = 2 ∨ y = 3 ∨ y = 4 := by
              have e5 : y.toInt = 0 ∨ y.toInt = 1 ∨ y.toInt = 2 ∨ y.toInt = 3 ∨ y.toInt = 4 := by omega
              rcases e5 with h9 | h9 | h9 | h9 | h9
              · exact Or.inl (z_inj h9)
              · exact Or.inr (Or.inl (z_inj h9))
              · exact Or.inr (Or.inr (Or.inl (z_inj h9)))
              · exact Or.inr (Or.inr (Or.inr (Or.inl (z_inj h9))))
              · exact Or.inr (Or.inr (Or.inr (Or.inr (z_inj h9))))
            rcases hc5 with rfl | rfl | rfl | rfl | rfl
            · refine lv_tableIn (tgt := 108) hx hb dX10_system_72 (by decide) (by decide) rfl (by decide) ?_
              refine lv_aload_n hx hb dX10_system_108 rfl (lv_at hl 0 rfl) ?_
              refine z_get (own := RX10) (C := RX10) (T := TX10) (N := 21) hx hb hts in_X10_system_10 hown hK hS h_m hM41 rfl 0 (by decide) (List.mem_of_getElem? (i := 4) rfl) rfl rfl dX10_system_109 ?_
              refine lv_iload_n hx hb dX10_system_112 rfl (lv_at hl 1 rfl) ?_
              refine z_iald hx hb hK hS h_u hM42 (vp_in_nI (by omega) (by omega)) dX10_system_113 ?_
              rw [show fu (nI s1).toNatClampNeg = fu s1 from by rw [nI_clamp (by omega)]]
              refine z_iret hx hb hr hlocks hS ?_ dX10_system_114
              show z_pm Z g (sp_system (sg, rw9) x.toInt (0 : Int32).toInt) _ _
              unfold sp_system
              rw [zite_t hzs, htn1, tI_0, zite_t rfl]
              exact ⟨hp, hW, z_fr.rf⟩
            · refine lv_tableIn (tgt := 115) hx hb dX10_system_72 (by decide) (by decide) rfl (by decide) ?_
              refine lv_aload_n hx hb dX10_system_115 rfl (lv_at hl 0 rfl) ?_
              refine z_get (own := RX10) (C := RX10) (T := TX10) (N := 21) hx hb hts in_X10_system_10 hown hK hS h_m hM41 rfl 1 (by decide) (List.mem_of_getElem? (i := 5) rfl) rfl rfl dX10_system_116 ?_
              refine lv_iload_n hx hb dX10_system_119 rfl (lv_at hl 1 rfl) ?_
              refine z_iald hx hb hK hS h_q hM43 (vp_in_nI (by omega) (by omega)) dX10_system_120 ?_
              rw [show fq (nI s1).toNatClampNeg = fq s1 from by rw [nI_clamp (by omega)]]
              refine z_iret hx hb hr hlocks hS ?_ dX10_system_121
              show z_pm Z g (sp_system (sg, rw9) x.toInt (1 : Int32).toInt) _ _
              unfold sp_system
              rw [zite_t hzs, htn1, tI_1, zite_f (by omega), zite_t rfl]
              exact ⟨hq, hW, z_fr.rf⟩
            · refine lv_tableIn (tgt := 122) hx hb dX10_system_72 (by decide) (by decide) rfl (by decide) ?_
              refine lv_aload_n hx hb dX10_system_122 rfl (lv_at hl 0 rfl) ?_
              refine z_get (own := RX10) (C := RX10) (T := TX10) (N := 21) hx hb hts in_X10_system_10 hown hK hS h_m hM41 rfl 2 (by decide) (List.mem_of_getElem? (i := 2) rfl) rfl rfl dX10_system_123 ?_
              refine lv_iload_n hx hb dX10_system_126 rfl (lv_at hl 1 rfl) ?_
              refine z_iald hx hb hK hS h_n9 hM44 (vp_in_nI (by omega) (by omega)) dX10_system_127 ?_
              rw [show fm (nI s1).toNatClampNeg = nI (sg s1).2.2.1 from by rw [nI_clamp (by omega)]; exact hm]
              refine z_iret hx hb hr hlocks hS ?_ dX10_system_128
              show z_pm Z g (sp_system (sg, rw9) x.toInt (2 : Int32).toInt) _ _
              unfold sp_system
              rw [zite_t hzs, htn1, tI_2, zite_f (by omega), zite_f (by omega), zite_t rfl]
              exact ⟨nI_toInt (by omega), hW, z_fr.rf⟩
            · refine lv_tableIn (tgt := 129) hx hb dX10_system_72 (by decide) (by decide) rfl (by decide) ?_
              refine lv_aload_n hx hb dX10_system_129 rfl (lv_at hl 0 rfl) ?_
              refine lv_iload_n hx hb dX10_system_130 rfl (lv_at hl 1 rfl) ?_
              refine z_calli (z_runV (As := [.int (nI s1)]) (rest := []) ⟨hx, hb, hml, hown, hts⟩ hK hS ((m_isComplete Z g sg hM s1 hs1) l _) gX10_system_X10_isComplete rfl 1 (by decide +kernel) ⟨Nat.le_of_ble_eq_true rfl, Nat.le_of_ble_eq_true rfl⟩ h_m hM41 rfl rfl hl.1 rfl (Nat.le_of_ble_eq_true rfl) dX10_system_131 ⟨Nat.le_of_ble_eq_true rfl, Nat.le_of_ble_eq_true rfl⟩) hS (fun rc g_5 H locs hp_6 hS => ?_)
              obtain ⟨rfl, hp_6⟩ := hp_6
              have hrc := hp_6
              refine lv_if_eq (tgt := 141) hx hb dX10_system_134 (by decide) (fun c_7 => ?_) (fun c_7 => ?_)
              · have i_7 := z_eq c_7
                rw [tI_0] at i_7
                have hncm := zbo_f hrc c_7
                refine lv_iconst (v := 0) hx hb dX10_system_141 (by decide) ?_
                refine z_iret hx hb hr hlocks hS ?_ dX10_system_142
                show z_pm Z g (sp_system (sg, rw9) x.toInt (3 : Int32).toInt) _ _
                unfold sp_system
                rw [zite_t hzs, htn1, tI_3, zite_f (by omega), zite_f (by omega), zite_f (by omega), zite_t rfl, zite_f hncm]
                exact ⟨rfl, hW, z_fr.rf⟩
              · have i_7 := z_ne c_7
                rw [tI_0] at i_7
                have hcm := zbo_t hrc c_7
                refine lv_iconst (v := 1) hx hb dX10_system_137 (by decide) ?_
                refine lv_goto (tgt := 142) hx hb dX10_system_138 (by decide) ?_
                refine z_iret hx hb hr hlocks hS ?_ dX10_system_142
                show z_pm Z g (sp_system (sg, rw9) x.toInt (3 : Int32).toInt) _ _
                unfold sp_system
                rw [zite_t hzs, htn1, tI_3, zite_f (by omega), zite_f (by omega), zite_f (by omega), zite_t rfl, zite_t hcm]
                exact ⟨rfl, hW, z_fr.rf⟩
            · refine lv_tableIn (tgt := 143) hx hb dX10_system_72 (by decide) (by decide) rfl (by decide) ?_
              refine lv_iload_n hx hb dX10_system_143 rfl (lv_at hl 3 rfl) ?_
              refine z_iret hx hb hr hlocks hS ?_ dX10_system_144
              show z_pm Z g (sp_system (sg, rw9) x.toInt (4 : Int32).toInt) _ _
              unfold sp_system
              rw [zite_t hzs, htn1, tI_4, zite_f (by omega), zite_f (by omega), zite_f (by omega), zite_f (by omega), zite_t rfl]
              exact ⟨hmo, hW, z_fr.rf⟩
        · have i_4 := z_nle c_4
          rw [nI_toInt (by omega)] at i_4
          rw [nI_toInt (by omega)] at i_4
          have hdj := hd j (by omega)
          have hdb := hok.2.2.2.2 j (by omega)
          refine lv_aload_n hx hb dX10_system_26 rfl (lv_at hl 0 rfl) ?_
          refine z_get (own := RX10) (C := RX10) (T := TX10) (N := 21) hx hb hts in_X10_system_10 hown hK hS h_m hM41 rfl 3 (by decide) (List.mem_of_getElem? (i := 3) rfl) rfl rfl dX10_system_27 ?_
          refine lv_bipush (v := 12) hx hb dX10_system_30 (by decide) ?_
          refine lv_iload_n hx hb dX10_system_32 rfl (lv_at hl 1 rfl) ?_
          refine lv_imul hx hb dX10_system_33 ?_
          refine lv_iload hx hb dX10_system_34 (lv_at hl 4 rfl) ?_
          refine lv_iadd hx hb dX10_system_36 ?_
          rw [show (12 * (nI s1)) + (nI j) = nI (12 * s1 + j) from zm_ix (by omega) (by omega)]
          refine z_iald hx hb hK hS h_g hM45 (vp_in_nI (by omega) (by omega)) dX10_system_37 ?_
          rw [show fd (nI (12 * s1 + j)).toNatClampNeg = fd (12 * s1 + j) from by rw [nI_clamp (by omega)]]
          refine z_calli (z_runS (As := [.int (fd (12 * s1 + j))]) (rest := []) ⟨hx, hb, hml, hown, hts⟩ hK hS ((m_absolute Z g (fd (12 * s1 + j))) l _) gX10_system_X10_absolute rfl 1 (by decide +kernel) ⟨Nat.le_of_ble_eq_true rfl, Nat.le_of_ble_eq_true rfl⟩ rfl hl.1 rfl (Nat.le_of_ble_eq_true rfl) dX10_system_38 ⟨Nat.le_of_ble_eq_true rfl, Nat.le_of_ble_eq_true rfl⟩) hS (fun ab g_8 H locs hp_9 hS => ?_)
          obtain ⟨rfl, hp_9⟩ := hp_9
          have hab : ab.toInt = zabs ((sg s1).2.2.2 j) := by rw [hp_9.1 (by omega), hdj]
          refine lv_iload_n hx hb dX10_system_41 rfl (lv_at hl 3 rfl) ?_
          refine lv_icmp_le (tgt := 63) hx hb dX10_system_42 (by decide) (fun c_10 => ?_) (fun c_10 => ?_)
          · have i_10 := z_le c_10
            have hmo2 : mo.toInt = zab (sg s1).2.2.2 (j + 1) := by rw [zab_next, if_neg (by omega)]; exact hmo
            refine lv_iload_n hx hb dX10_system_63 rfl (lv_at hl 3 rfl) ?_
            skip
            refine lv_istore_n (lv' := [(3, .int mo), (0, .ref (Z.2.1 41)), (1, .int (nI s1)), (2, .int y), (4, .int (nI j))]) hx hb dX10_system_64 rfl hl (by decide) rfl (fun ls hl => ?_)
            refine lv_iinc (v := (nI (j + 1))) (lv' := [(4, .int (nI (j + 1))), (3, .int mo), (0, .ref (Z.2.1 41)), (1, .int (nI s1)), (2, .int y)]) hx hb dX10_system_65 hl (k := 4) rfl (nI_1 _) (by decide) rfl (fun ls hl => ?_)
            refine lv_goto (tgt := 15) hx hb dX10_system_68 (by decide) ?_
            exact ih_15 (j + 1) mo (by omega) hmo2 (by omega) _ _ _ hS (lv_sub hl [2, 3, 4, 1, 0] rfl)
          · have i_10 := z_nle c_10
            have hlt : zab (sg s1).2.2.2 j < zabs ((sg s1).2.2.2 j) := by omega
            refine lv_aload_n hx hb dX10_system_45 rfl (lv_at hl 0 rfl) ?_
            refine z_get (own := RX10) (C := RX10) (T := TX10) (N := 21) hx hb hts in_X10_system_10 hown hK hS h_m hM41 rfl 3 (by decide) (List.mem_of_getElem? (i := 3) rfl) rfl rfl dX10_system_46 ?_
            refine lv_bipush (v := 12) hx hb dX10_system_49 (by decide) ?_
            refine lv_iload_n hx hb dX10_system_51 rfl (lv_at hl 1 rfl) ?_
            refine lv_imul hx hb dX10_system_52 ?_
            refine lv_iload hx hb dX10_system_53 (lv_at hl 4 rfl) ?_
            refine lv_iadd hx hb dX10_system_55 ?_
            rw [show (12 * (nI s1)) + (nI j) = nI (12 * s1 + j) from zm_ix (by omega) (by omega)]
            refine z_iald hx hb hK hS h_g hM45 (vp_in_nI (by omega) (by omega)) dX10_system_56 ?_
            rw [show fd (nI (12 * s1 + j)).toNatClampNeg = fd (12 * s1 + j) from by rw [nI_clamp (by omega)]]
            refine z_calli (z_runS (As := [.int (fd (12 * s1 + j))]) (rest := []) ⟨hx, hb, hml, hown, hts⟩ hK hS ((m_absolute Z g (fd (12 * s1 + j))) l _) gX10_system_X10_absolute rfl 1 (by decide +kernel) ⟨Nat.le_of_ble_eq_true rfl, Nat.le_of_ble_eq_true rfl⟩ rfl hl.1 rfl (Nat.le_of_ble_eq_true rfl) dX10_system_57 ⟨Nat.le_of_ble_eq_true rfl, Nat.le_of_ble_eq_true rfl⟩) hS (fun ab2 g_11 H locs hp_12 hS => ?_)
            obtain ⟨rfl, hp_12⟩ := hp_12
            have hab2 : ab2.toInt = zabs ((sg s1).2.2.2 j) := by rw [hp_12.1 (by omega), hdj]
            refine lv_goto (tgt := 64) hx hb dX10_system_60 (by decide) ?_
            have hmo2 : ab2.toInt = zab (sg s1).2.2.2 (j + 1) := by rw [zab_next, if_pos hlt]; exact hab2
            refine lv_istore_n (lv' := [(3, .int ab2), (0, .ref (Z.2.1 41)), (1, .int (nI s1)), (2, .int y), (4, .int (nI j))]) hx hb dX10_system_64 rfl hl (by decide) rfl (fun ls hl => ?_)
            refine lv_iinc (v := (nI (j + 1))) (lv' := [(4, .int (nI (j + 1))), (3, .int ab2), (0, .ref (Z.2.1 41)), (1, .int (nI s1)), (2, .int y)]) hx hb dX10_system_65 hl (k := 4) rfl (nI_1 _) (by decide) rfl (fun ls hl => ?_)
            refine lv_goto (tgt := 15) hx hb dX10_system_68 (by decide) ?_
            exact ih_15 (j + 1) ab2 (by omega) hmo2 (by omega) _ _ _ hS (lv_sub hl [2, 3, 4, 1, 0] rfl)
    exact hcut_15 ((sg s1).2.2.1 - 0 + 1) 0 0 (by omega) rfl (Nat.lt_succ_self _) _ _ _ hS (lv_sub hl [2, 3, 4, 1, 0] rfl)
  · have i_3 := z_ne c_3
    rw [tI_0] at i_3
    have hnv := zbo_t hrn c_3
    refine lv_ldc (v := (-1000001)) hx hb hown (hts _ (List.mem_of_getElem? (i := 1) rfl)) dX10_system_7 ?_
    refine z_iret hx hb hr hlocks hS ?_ dX10_system_9
    show z_pm Z g (sp_system (sg, rw9) x.toInt y.toInt) _ _
    unfold sp_system
    rw [zite_f hnv]
    exact ⟨rfl, hW, z_fr.rf⟩

