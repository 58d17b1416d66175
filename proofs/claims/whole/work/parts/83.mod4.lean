/-! the reference's whole state -/
def z_mx (Z : zT) (g : Nat → va_E) (rw9 : Nat → zr) : Prop := (∃ f, g 46 = .inl (Z.2.2.2 0, 64, .inl f)) ∧ (∃ f, g 47 = .inl (Z.2.2.2 0, 64, .inl f)) ∧ (∃ f, g 48 = .inl (Z.2.2.2 0, 64, .inl f)) ∧ (∃ f, g 49 = .inl (Z.2.2.2 0, 13, .inl f)) ∧ (∃ f, g 50 = .inl (Z.2.2.2 0, 1664, .inl f)) ∧ (∃ f, g 51 = .inl (Z.2.2.2 0, 1664, .inl f)) ∧ (∃ fl, g 52 = .inl (Z.2.2.2 0, 3, .inl fl) ∧ ∀ r, r < 3 → fl r = nI (rw9 r).1 ∧ (rw9 r).1 ≤ 12) ∧ (∃ fe : Nat → Int32, g 53 = .inl (Z.2.2.2 0, 36, .inl fe) ∧ ∀ r, r < 3 → ∀ i, i < (rw9 r).1 → (fe (12 * r + i)).toInt = (rw9 r).2 i ∧ -20 ≤ (rw9 r).2 i ∧ (rw9 r).2 i ≤ 20) ∧ (∃ f, g 54 = .inl (Z.2.2.2 0, 12, .inl f)) ∧ (∃ f, g 55 = .inl (Z.2.2.2 0, 12, .inl f)) ∧ ∃ f, g 56 = .inl (Z.2.2.2 2, 129, .inl f)
theorem z_mx.congr {Z : zT} {g g1 : Nat → va_E} {rw9 : Nat → zr} (h : z_mx Z g rw9) (h0 : ∀ j, 46 ≤ j → j < 57 → g1 j = g j) : z_mx Z g1 rw9 := by
  obtain ⟨⟨f1, a1⟩, ⟨f2, a2⟩, ⟨f3, a3⟩, ⟨f4, a4⟩, ⟨f5, a5⟩, ⟨f6, a6⟩, ⟨f7, a7, b7⟩, ⟨f8, a8, b8⟩, ⟨f9, a9⟩, ⟨f10, a10⟩, f11, a11⟩ := h
  exact ⟨⟨f1, (h0 _ (by omega) (by omega)).trans a1⟩, ⟨f2, (h0 _ (by omega) (by omega)).trans a2⟩, ⟨f3, (h0 _ (by omega) (by omega)).trans a3⟩, ⟨f4, (h0 _ (by omega) (by omega)).trans a4⟩, ⟨f5, (h0 _ (by omega) (by omega)).trans a5⟩, ⟨f6, (h0 _ (by omega) (by omega)).trans a6⟩, ⟨f7, (h0 _ (by omega) (by omega)).trans a7, b7⟩, ⟨f8, (h0 _ (by omega) (by omega)).trans a8, b8⟩, ⟨f9, (h0 _ (by omega) (by omega)).trans a9⟩, ⟨f10, (h0 _ (by omega) (by omega)).trans a10⟩, f11, (h0 _ (by omega) (by omega)).trans a11⟩
def z_mw (Z : zT) (g : Nat → va_E) (sg : Nat → zb) (rw9 : Nat → zr) : Prop := z_mr Z g sg ∧ z_mx Z g rw9
abbrev z_pm (Z : zT) (g : Nat → va_E) (R : Int × zS) (r : Int32) (g1 : Nat → va_E) : Prop := r.toInt = R.1 ∧ z_mw Z g1 R.2.1 R.2.2 ∧ z_fr 41 16 g g1
set_option maxHeartbeats 4000000 in
set_option maxRecDepth 100000 in
theorem m_digit (Z : zT) (g : Nat → va_E) (sg : Nat → zb) (rw9 : Nat → zr) (hW : z_mw Z g sg rw9) (x y z u : Int32) : z_Mi Z yX10_digit wsX10_digit 5 120 [.ref (Z.2.1 41), .int x, .int y, .int z, .int u] g (fun r g1 => z_pm Z g (sp_tell 0 (sg, rw9) x.toInt y.toInt z.toInt u.toInt) r g1) := by
  intro l sz
  obtain ⟨v4, v5, v6, v15, v16, v17, hM9⟩ := hW.1.mp
  have hM := hM9.mr
  obtain ⟨fu, fq, fm, fd, h_m, h_u, h_q, h_n9, h_g, hMN, hSg⟩ := id hM9
  have hM41 : 41 < Z.1 := by omega
  have hM42 : 42 < Z.1 := by omega
  have hM43 : 43 < Z.1 := by omega
  have hM44 : 44 < Z.1 := by omega
  have hM45 : 45 < Z.1 := by omega
  refine z_enter (maxL := 6) (ret := (some .int)) (lv := [(0, .ref (Z.2.1 41)), (1, .int x), (2, .int y), (3, .int z), (4, .int u)]) (plainFor_of_name (by decide +kernel)) rfl (fun ls h => by subst h; exact lv_entry [.ref (Z.2.1 41), .int x, .int y, .int z, .int u] (n := 6) (Nat.le_of_ble_eq_true rfl)) ?_
  intro p e s m args below meth c hx hb hml hr hlocks hown hts hK hS hsz ls hl
  refine lv_aload_n hx hb dX10_digit_0 rfl (lv_at hl 0 rfl) ?_
  refine lv_iload_n hx hb dX10_digit_1 rfl (lv_at hl 1 rfl) ?_
  refine lv_iload_n hx hb dX10_digit_2 rfl (lv_at hl 2 rfl) ?_
  refine lv_iload_n hx hb dX10_digit_3 rfl (lv_at hl 3 rfl) ?_
  refine lv_iload hx hb dX10_digit_4 (lv_at hl 4 rfl) ?_
  refine z_calli (z_runV (As := [.int x, .int y, .int z, .int u]) (rest := []) ⟨hx, hb, hml, hown, hts⟩ hK hS ((m_fractionBarred Z g sg rw9 hM x y z u) l _) gX10_digit_X10_fractionBarred rfl 4 (by decide +kernel) ⟨Nat.le_of_ble_eq_true rfl, Nat.le_of_ble_eq_true rfl⟩ h_m hM41 rfl rfl hl.1 rfl (Nat.le_of_ble_eq_true rfl) dX10_digit_6 ⟨Nat.le_of_ble_eq_true rfl, Nat.le_of_ble_eq_true rfl⟩) hS (fun rc g_1 H locs hp_2 hS => ?_)
  obtain ⟨rfl, hp_2⟩ := hp_2
  have hrc := hp_2
  refine lv_istore (lv' := [(5, .int rc), (0, .ref (Z.2.1 41)), (1, .int x), (2, .int y), (3, .int z), (4, .int u)]) hx hb dX10_digit_9 hl (by decide) rfl (fun ls hl => ?_)
  refine lv_iload hx hb dX10_digit_11 (lv_at hl 0 rfl) ?_
  refine lv_if_ge (tgt := 21) hx hb dX10_digit_13 (by decide) (fun c_3 => ?_) (fun c_3 => ?_)
  · have i_3 := z_le c_3
    rw [tI_0] at i_3
    rcases z_fb_cases (sg, rw9) x.toInt y.toInt z.toInt u.toInt with ⟨h1, -⟩ | ⟨-, hzs, ⟨hym, hzn, hpl⟩, hcm, hgc, htl⟩
    · exfalso; omega
    have htl := htl 0
    dsimp only at hcm hgc htl
    obtain ⟨s1, es1, hs1x, -⟩ := z_nI_of (x := x) hzs.1
    subst es1
    have hs1 : s1 < 2 := by have := hzs.2; omega
    have htn1 : (nI s1).toInt.toNat = s1 := by omega
    rw [htn1] at hcm hgc htl
    obtain ⟨hok, hp, hq, hm, hd⟩ := hSg s1 hs1
    have hPb := zP_bd hok
    have hn12 := hok.2.2.2.1
    have hq1 := hok.2.1
    obtain ⟨t9, et9, ht9, -⟩ := z_nI_of (x := u) hpl.1
    subst et9
    have ht91 : (nI t9).toInt.toNat = t9 := by omega
    refine lv_aload_n hx hb dX10_digit_21 rfl (lv_at hl 1 rfl) ?_
    refine lv_iload_n hx hb dX10_digit_22 rfl (lv_at hl 2 rfl) ?_
    refine lv_aload_n hx hb dX10_digit_23 rfl (lv_at hl 1 rfl) ?_
    refine lv_iload_n hx hb dX10_digit_24 rfl (lv_at hl 2 rfl) ?_
    refine lv_iload_n hx hb dX10_digit_25 rfl (lv_at hl 3 rfl) ?_
    refine lv_iload_n hx hb dX10_digit_26 rfl (lv_at hl 4 rfl) ?_
    refine lv_iload hx hb dX10_digit_27 (lv_at hl 5 rfl) ?_
    refine z_calli (z_runV (As := [.int (nI s1), .int y, .int z, .int (nI t9)]) (rest := [.int (nI s1), .ref (Z.2.1 41)]) ⟨hx, hb, hml, hown, hts⟩ hK hS ((m_numeratorAt Z g sg v4 v5 v6 v15 v16 v17 hM9 s1 hs1 y z hym hzn (zmu (sg s1) z.toInt y.toInt) (zla (sg s1) z.toInt y.toInt) (zmula hok hzn hym).1 (zmula hok hzn hym).2 t9 (by omega)) l _) gX10_digit_X10_numeratorAt rfl 4 (by decide +kernel) ⟨Nat.le_of_ble_eq_true rfl, Nat.le_of_ble_eq_true rfl⟩ h_m hM41 rfl rfl hl.1 rfl (Nat.le_of_ble_eq_true rfl) dX10_digit_29 ⟨Nat.le_of_ble_eq_true rfl, Nat.le_of_ble_eq_true rfl⟩) hS (fun rn g_4 H locs hp_5 hS => ?_)
    obtain ⟨hnu, ⟨fu, fq, fm, fd, h_m, h_u, h_q, h_n9, h_g, -, hSg2⟩, hfr_6⟩ := hp_5
    have hSg := hSg2
    have hnb := zor_bd hok hzn hym t9
    rw [← hnu] at hnb
    refine lv_iload_n hx hb dX10_digit_32 rfl (lv_at hl 4 rfl) ?_
    refine z_calli (z_runV (As := [.int (nI s1), .int rn, .int z]) (rest := []) ⟨hx, hb, hml, hown, hts⟩ hK hS ((m_stepDigit Z g_4 sg ⟨_, _, _, _, _, _, fu, fq, fm, fd, h_m, h_u, h_q, h_n9, h_g, hMN, hSg⟩ s1 hs1 rn z hnb hzn) l _) gX10_digit_X10_stepDigit rfl 3 (by decide +kernel) ⟨Nat.le_of_ble_eq_true rfl, Nat.le_of_ble_eq_true rfl⟩ h_m hM41 rfl rfl hl.1 rfl (Nat.le_of_ble_eq_true rfl) dX10_digit_33 ⟨Nat.le_of_ble_eq_true rfl, Nat.le_of_ble_eq_true rfl⟩) hS (fun rd g_7 H locs hp_8 hS => ?_)
    obtain ⟨rfl, hp_8⟩ := hp_8
    have hrd := hp_8
    refine z_iret hx hb hr hlocks hS ?_ dX10_digit_36
    show z_pm Z g (sp_tell 0 (sg, rw9) (nI s1).toInt y.toInt z.toInt (nI t9).toInt) _ _
    rw [htl]
    have hfz : z_fr 41 1 g g_4 := (z_fr.rf.tr (hfr_6.wide (by omega) (by omega)))
    refine ⟨?_, ⟨⟨_, _, _, _, _, _, fu, fq, fm, fd, h_m, h_u, h_q, h_n9, h_g, hMN, hSg⟩, hW.2.congr (fun j h1 h2 => hfz j (by omega))⟩, hfz.wide (by omega) (by omega)⟩
    show _ = ztv 0 (sg s1) y.toInt z.toInt (nI t9).toInt
    unfold ztv
    try dsimp only
    rw [ht91, ← hnu]; exact hrd
  · have i_3 := z_nle c_3
    rw [tI_0] at i_3
    refine lv_iload hx hb dX10_digit_16 (lv_at hl 0 rfl) ?_
    refine lv_goto (tgt := 36) hx hb dX10_digit_18 (by decide) ?_
    refine z_iret hx hb hr hlocks hS ?_ dX10_digit_36
    show z_pm Z g (sp_tell 0 (sg, rw9) x.toInt y.toInt z.toInt u.toInt) _ _
    rcases z_fb_cases (sg, rw9) x.toInt y.toInt z.toInt u.toInt with ⟨-, htl⟩ | ⟨h1, -⟩
    · rw [htl]; exact ⟨hrc, hW, z_fr.rf⟩
    · exfalso; omega

set_option maxHeartbeats 4000000 in
set_option maxRecDepth 100000 in
theorem m_numerator (Z : zT) (g : Nat → va_E) (sg : Nat → zb) (rw9 : Nat → zr) (hW : z_mw Z g sg rw9) (x y z u : Int32) : z_Mi Z yX10_numerator wsX10_numerator 5 120 [.ref (Z.2.1 41), .int x, .int y, .int z, .int u] g (fun r g1 => z_pm Z g (sp_tell 1 (sg, rw9) x.toInt y.toInt z.toInt u.toInt) r g1) := by
  intro l sz
  obtain ⟨v4, v5, v6, v15, v16, v17, hM9⟩ := hW.1.mp
  have hM := hM9.mr
  obtain ⟨fu, fq, fm, fd, h_m, h_u, h_q, h_n9, h_g, hMN, hSg⟩ := id hM9
  have hM41 : 41 < Z.1 := by omega
  have hM42 : 42 < Z.1 := by omega
  have hM43 : 43 < Z.1 := by omega
  have hM44 : 44 < Z.1 := by omega
  have hM45 : 45 < Z.1 := by omega
  refine z_enter (maxL := 6) (ret := (some .int)) (lv := [(0, .ref (Z.2.1 41)), (1, .int x), (2, .int y), (3, .int z), (4, .int u)]) (plainFor_of_name (by decide +kernel)) rfl (fun ls h => by subst h; exact lv_entry [.ref (Z.2.1 41), .int x, .int y, .int z, .int u] (n := 6) (Nat.le_of_ble_eq_true rfl)) ?_
  intro p e s m args below meth c hx hb hml hr hlocks hown hts hK hS hsz ls hl
  refine lv_aload_n hx hb dX10_numerator_0 rfl (lv_at hl 0 rfl) ?_
  refine lv_iload_n hx hb dX10_numerator_1 rfl (lv_at hl 1 rfl) ?_
  refine lv_iload_n hx hb dX10_numerator_2 rfl (lv_at hl 2 rfl) ?_
  refine lv_iload_n hx hb dX10_numerator_3 rfl (lv_at hl 3 rfl) ?_
  refine lv_iload hx hb dX10_numerator_4 (lv_at hl 4 rfl) ?_
  refine z_calli (z_runV (As := [.int x, .int y, .int z, .int u]) (rest := []) ⟨hx, hb, hml, hown, hts⟩ hK hS ((m_fractionBarred Z g sg rw9 hM x y z u) l _) gX10_numerator_X10_fractionBarred rfl 4 (by decide +kernel) ⟨Nat.le_of_ble_eq_true rfl, Nat.le_of_ble_eq_true rfl⟩ h_m hM41 rfl rfl hl.1 rfl (Nat.le_of_ble_eq_true rfl) dX10_numerator_6 ⟨Nat.le_of_ble_eq_true rfl, Nat.le_of_ble_eq_true rfl⟩) hS (fun rc g_1 H locs hp_2 hS => ?_)
  obtain ⟨rfl, hp_2⟩ := hp_2
  have hrc := hp_2
  refine lv_istore (lv' := [(5, .int rc), (0, .ref (Z.2.1 41)), (1, .int x), (2, .int y), (3, .int z), (4, .int u)]) hx hb dX10_numerator_9 hl (by decide) rfl (fun ls hl => ?_)
  refine lv_iload hx hb dX10_numerator_11 (lv_at hl 0 rfl) ?_
  refine lv_if_ge (tgt := 21) hx hb dX10_numerator_13 (by decide) (fun c_3 => ?_) (fun c_3 => ?_)
  · have i_3 := z_le c_3
    rw [tI_0] at i_3
    rcases z_fb_cases (sg, rw9) x.toInt y.toInt z.toInt u.toInt with ⟨h1, -⟩ | ⟨-, hzs, ⟨hym, hzn, hpl⟩, hcm, hgc, htl⟩
    · exfalso; omega
    have htl := htl 1
    dsimp only at hcm hgc htl
    obtain ⟨s1, es1, hs1x, -⟩ := z_nI_of (x := x) hzs.1
    subst es1
    have hs1 : s1 < 2 := by have := hzs.2; omega
    have htn1 : (nI s1).toInt.toNat = s1 := by omega
    rw [htn1] at hcm hgc htl
    obtain ⟨hok, hp, hq, hm, hd⟩ := hSg s1 hs1
    have hPb := zP_bd hok
    have hn12 := hok.2.2.2.1
    have hq1 := hok.2.1
    obtain ⟨t9, et9, ht9, -⟩ := z_nI_of (x := u) hpl.1
    subst et9
    have ht91 : (nI t9).toInt.toNat = t9 := by omega
    refine lv_aload_n hx hb dX10_numerator_21 rfl (lv_at hl 1 rfl) ?_
    refine lv_iload_n hx hb dX10_numerator_22 rfl (lv_at hl 2 rfl) ?_
    refine lv_iload_n hx hb dX10_numerator_23 rfl (lv_at hl 3 rfl) ?_
    refine lv_iload_n hx hb dX10_numerator_24 rfl (lv_at hl 4 rfl) ?_
    refine lv_iload hx hb dX10_numerator_25 (lv_at hl 5 rfl) ?_
    refine z_calli (z_runV (As := [.int (nI s1), .int y, .int z, .int (nI t9)]) (rest := []) ⟨hx, hb, hml, hown, hts⟩ hK hS ((m_numeratorAt Z g sg v4 v5 v6 v15 v16 v17 hM9 s1 hs1 y z hym hzn (zmu (sg s1) z.toInt y.toInt) (zla (sg s1) z.toInt y.toInt) (zmula hok hzn hym).1 (zmula hok hzn hym).2 t9 (by omega)) l _) gX10_numerator_X10_numeratorAt rfl 4 (by decide +kernel) ⟨Nat.le_of_ble_eq_true rfl, Nat.le_of_ble_eq_true rfl⟩ h_m hM41 rfl rfl hl.1 rfl (Nat.le_of_ble_eq_true rfl) dX10_numerator_27 ⟨Nat.le_of_ble_eq_true rfl, Nat.le_of_ble_eq_true rfl⟩) hS (fun rn g_4 H locs hp_5 hS => ?_)
    obtain ⟨hnu, ⟨fu, fq, fm, fd, h_m, h_u, h_q, h_n9, h_g, -, hSg2⟩, hfr_6⟩ := hp_5
    have hSg := hSg2
    have hnb := zor_bd hok hzn hym t9
    rw [← hnu] at hnb
    refine z_iret hx hb hr hlocks hS ?_ dX10_numerator_30
    show z_pm Z g (sp_tell 1 (sg, rw9) (nI s1).toInt y.toInt z.toInt (nI t9).toInt) _ _
    rw [htl]
    have hfz : z_fr 41 1 g g_4 := (z_fr.rf.tr (hfr_6.wide (by omega) (by omega)))
    refine ⟨?_, ⟨⟨_, _, _, _, _, _, fu, fq, fm, fd, h_m, h_u, h_q, h_n9, h_g, hMN, hSg⟩, hW.2.congr (fun j h1 h2 => hfz j (by omega))⟩, hfz.wide (by omega) (by omega)⟩
    show _ = ztv 1 (sg s1) y.toInt z.toInt (nI t9).toInt
    unfold ztv
    try dsimp only
    rw [ht91]; exact hnu
  · have i_3 := z_nle c_3
    rw [tI_0] at i_3
    refine lv_iload hx hb dX10_numerator_16 (lv_at hl 0 rfl) ?_
    refine lv_goto (tgt := 30) hx hb dX10_numerator_18 (by decide) ?_
    refine z_iret hx hb hr hlocks hS ?_ dX10_numerator_30
    show z_pm Z g (sp_tell 1 (sg, rw9) x.toInt y.toInt z.toInt u.toInt) _ _
    rcases z_fb_cases (sg, rw9) x.toInt y.toInt z.toInt u.toInt with ⟨-, htl⟩ | ⟨h1, -⟩
    · rw [htl]; exact ⟨hrc, hW, z_fr.rf⟩
    · exfalso; omega

theorem in_X10_preperiod_10 : ∀ w ∈ wsX100, w ∈ wsX10_preperiod := by decide +kernel
set_option maxHeartbeats 4000000 in
set_option maxRecDepth 100000 in
theorem m_preperiod (Z : zT) (g : Nat → va_E) (sg : Nat → zb) (rw9 : Nat → zr) (hW : z_mw Z g sg rw9) (x y z : Int32) : z_Mi Z yX10_preperiod wsX10_preperiod 5 113 [.ref (Z.2.1 41), .int x, .int y, .int z] g (fun r g1 => z_pm Z g (sp_tell 2 (sg, rw9) x.toInt y.toInt z.toInt 0) r g1) := by
  intro l sz
  obtain ⟨v4, v5, v6, v15, v16, v17, hM9⟩ := hW.1.mp
  have hM := hM9.mr
  obtain ⟨fu, fq, fm, fd, h_m, h_u, h_q, h_n9, h_g, hMN, hSg⟩ := id hM9
  have hM41 : 41 < Z.1 := by omega
  have hM42 : 42 < Z.1 := by omega
  have hM43 : 43 < Z.1 := by omega
  have hM44 : 44 < Z.1 := by omega
  have hM45 : 45 < Z.1 := by omega
  refine z_enter (maxL := 5) (ret := (some .int)) (lv := [(0, .ref (Z.2.1 41)), (1, .int x), (2, .int y), (3, .int z)]) (plainFor_of_name (by decide +kernel)) rfl (fun ls h => by subst h; exact lv_entry [.ref (Z.2.1 41), .int x, .int y, .int z] (n := 5) (Nat.le_of_ble_eq_true rfl)) ?_
  intro p e s m args below meth c hx hb hml hr hlocks hown hts hK hS hsz ls hl
  refine lv_aload_n hx hb dX10_preperiod_0 rfl (lv_at hl 0 rfl) ?_
  refine lv_iload_n hx hb dX10_preperiod_1 rfl (lv_at hl 1 rfl) ?_
  refine lv_iload_n hx hb dX10_preperiod_2 rfl (lv_at hl 2 rfl) ?_
  refine lv_iload_n hx hb dX10_preperiod_3 rfl (lv_at hl 3 rfl) ?_
  refine lv_iconst (v := 0) hx hb dX10_preperiod_4 (by decide) ?_
  refine z_calli (z_runV (As := [.int x, .int y, .int z, .int 0]) (rest := []) ⟨hx, hb, hml, hown, hts⟩ hK hS ((m_fractionBarred Z g sg rw9 hM x y z 0) l _) gX10_preperiod_X10_fractionBarred rfl 4 (by decide +kernel) ⟨Nat.le_of_ble_eq_true rfl, Nat.le_of_ble_eq_true rfl⟩ h_m hM41 rfl rfl hl.1 rfl (Nat.le_of_ble_eq_true rfl) dX10_preperiod_5 ⟨Nat.le_of_ble_eq_true rfl, Nat.le_of_ble_eq_true rfl⟩) hS (fun rc g_1 H locs hp_2 hS => ?_)
  obtain ⟨rfl, hp_2⟩ := hp_2
  have hrc := hp_2
  rw [tI_0] at hrc
  refine lv_istore (lv' := [(4, .int rc), (0, .ref (Z.2.1 41)), (1, .int x), (2, .int y), (3, .int z)]) hx hb dX10_preperiod_8 hl (by decide) rfl (fun ls hl => ?_)
  refine lv_iload hx hb dX10_preperiod_10 (lv_at hl 0 rfl) ?_
  refine lv_if_ge (tgt := 18) hx hb dX10_preperiod_12 (by decide) (fun c_3 => ?_) (fun c_3 => ?_)
  · have i_3 := z_le c_3
    rw [tI_0] at i_3
    rcases z_fb_cases (sg, rw9) x.toInt y.toInt z.toInt 0 with ⟨h1, -⟩ | ⟨-, hzs, ⟨hym, hzn, hpl⟩, hcm, hgc, htl⟩
    · exfalso; omega
    have htl := htl 2
    dsimp only at hcm hgc htl
    obtain ⟨s1, es1, hs1x, -⟩ := z_nI_of (x := x) hzs.1
    subst es1
    have hs1 : s1 < 2 := by have := hzs.2; omega
    have htn1 : (nI s1).toInt.toNat = s1 := by omega
    rw [htn1] at hcm hgc htl
    obtain ⟨hok, hp, hq, hm, hd⟩ := hSg s1 hs1
    have hPb := zP_bd hok
    have hn12 := hok.2.2.2.1
    have hq1 := hok.2.1
    refine lv_aload_n hx hb dX10_preperiod_18 rfl (lv_at hl 1 rfl) ?_
    refine lv_iload_n hx hb dX10_preperiod_19 rfl (lv_at hl 2 rfl) ?_
    refine lv_iload_n hx hb dX10_preperiod_20 rfl (lv_at hl 3 rfl) ?_
    refine lv_iload_n hx hb dX10_preperiod_21 rfl (lv_at hl 4 rfl) ?_
    refine z_callv (z_runV (As := [.int (nI s1), .int y, .int z]) (rest := []) ⟨hx, hb, hml, hown, hts⟩ hK hS ((m_findPeriod Z g sg v4 v5 v6 v15 v16 v17 hM9 s1 hs1 y z hym hzn (zmu (sg s1) z.toInt y.toInt) (zla (sg s1) z.toInt y.toInt) (zmula hok hzn hym).1 (zmula hok hzn hym).2) l _) gX10_preperiod_X10_findPeriod rfl 3 (by decide +kernel) ⟨Nat.le_of_ble_eq_true rfl, Nat.le_of_ble_eq_true rfl⟩ h_m hM41 rfl rfl hl.1 rfl (Nat.le_of_ble_eq_true rfl) dX10_preperiod_22 ⟨Nat.le_of_ble_eq_true rfl, Nat.le_of_ble_eq_true rfl⟩) hS (fun g_5 H locs hp_6 hS => ?_)
    obtain ⟨⟨fu, fq, fm, fd, h_m, h_u, h_q, h_n9, h_g, -, hSg2⟩, hfr_7⟩ := hp_6
    have hSg := hSg2
    obtain ⟨-, hp, hq, hm, hd⟩ := hSg s1 hs1
    have hper := (zmula hok (nn := z.toInt) (x := y.toInt) hzn hym).1
    have hml9 := (zmula hok (nn := z.toInt) (x := y.toInt) hzn hym).2
    refine lv_aload_n hx hb dX10_preperiod_25 rfl (lv_at hl 1 rfl) ?_
    refine z_get (own := RX10) (C := RX10) (T := TX10) (N := 21) hx hb hts in_X10_preperiod_10 hown hK hS h_m hM41 rfl 4 (by decide) (List.mem_of_getElem? (i := 1) rfl) rfl rfl dX10_preperiod_26 ?_
    refine z_iret hx hb hr hlocks hS ?_ dX10_preperiod_29
    show z_pm Z g (sp_tell 2 (sg, rw9) (nI s1).toInt y.toInt z.toInt 0) _ _
    rw [htl]
    have hfz : z_fr 41 1 g g_5 := (z_fr.rf.tr (hfr_7.wide (by omega) (by omega)))
    refine ⟨?_, ⟨⟨_, _, _, _, _, _, fu, fq, fm, fd, h_m, h_u, h_q, h_n9, h_g, hMN, hSg⟩, hW.2.congr (fun j h1 h2 => hfz j (by omega))⟩, hfz.wide (by omega) (by omega)⟩
    show _ = ztv 2 (sg s1) y.toInt z.toInt 0
    unfold ztv
    try dsimp only
    exact nI_toInt (by omega)
  · have i_3 := z_nle c_3
    rw [tI_0] at i_3
    refine lv_iload hx hb dX10_preperiod_15 (lv_at hl 0 rfl) ?_
    refine z_iret hx hb hr hlocks hS ?_ dX10_preperiod_17
    show z_pm Z g (sp_tell 2 (sg, rw9) x.toInt y.toInt z.toInt 0) _ _
    rcases z_fb_cases (sg, rw9) x.toInt y.toInt z.toInt 0 with ⟨-, htl⟩ | ⟨h1, -⟩
    · rw [htl]; exact ⟨hrc, hW, z_fr.rf⟩
    · exfalso; omega

theorem in_X10_period_10 : ∀ w ∈ wsX100, w ∈ wsX10_period := by decide +kernel
set_option maxHeartbeats 4000000 in
set_option maxRecDepth 100000 in
theorem m_period (Z : zT) (g : Nat → va_E) (sg : Nat → zb) (rw9 : Nat → zr) (hW : z_mw Z g sg rw9) (x y z : Int32) : z_Mi Z yX10_period wsX10_period 5 113 [.ref (Z.2.1 41), .int x, .int y, .int z] g (fun r g1 => z_pm Z g (sp_tell 3 (sg, rw9) x.toInt y.toInt z.toInt 0) r g1) := by
  intro l sz
  obtain ⟨v4, v5, v6, v15, v16, v17, hM9⟩ := hW.1.mp
  have hM := hM9.mr
  obtain ⟨fu, fq, fm, fd, h_m, h_u, h_q, h_n9, h_g, hMN, hSg⟩ := id hM9
  have hM41 : 41 < Z.1 := by omega
  have hM42 : 42 < Z.1 := by omega
  have hM43 : 43 < Z.1 := by omega
  have hM44 : 44 < Z.1 := by omega
  have hM45 : 45 < Z.1 := by omega
  refine z_enter (maxL := 5) (ret := (some .int)) (lv := [(0, .ref (Z.2.1 41)), (1, .int x), (2, .int y), (3, .int z)]) (plainFor_of_name (by decide +kernel)) rfl (fun ls h => by subst h; exact lv_entry [.ref (Z.2.1 41), .int x, .int y, .int z] (n := 5) (Nat.le_of_ble_eq_true rfl)) ?_
  intro p e s m args below meth c hx hb hml hr hlocks hown hts hK hS hsz ls hl
  refine lv_aload_n hx hb dX10_period_0 rfl (lv_at hl 0 rfl) ?_
  refine lv_iload_n hx hb dX10_period_1 rfl (lv_at hl 1 rfl) ?_
  refine lv_iload_n hx hb dX10_period_2 rfl (lv_at hl 2 rfl) ?_
  refine lv_iload_n hx hb dX10_period_3 rfl (lv_at hl 3 rfl) ?_
  refine lv_iconst (v := 0) hx hb dX10_period_4 (by decide) ?_
  refine z_calli (z_runV (As := [.int x, .int y, .int z, .int 0]) (rest := []) ⟨hx, hb, hml, hown, hts⟩ hK hS ((m_fractionBarred Z g sg rw9 hM x y z 0) l _) gX10_period_X10_fractionBarred rfl 4 (by decide +kernel) ⟨Nat.le_of_ble_eq_true rfl, Nat.le_of_ble_eq_true rfl⟩ h_m hM41 rfl rfl hl.1 rfl (Nat.le_of_ble_eq_true rfl) dX10_period_5 ⟨Nat.le_of_ble_eq_true rfl, Nat.le_of_ble_eq_true rfl⟩) hS (fun rc g_1 H locs hp_2 hS => ?_)
  obtain ⟨rfl, hp_2⟩ := hp_2
  have hrc := hp_2
  rw [tI_0] at hrc
  refine lv_istore (lv' := [(4, .int rc), (0, .ref (Z.2.1 41)), (1, .int x), (2, .int y), (3, .int z)]) hx hb dX10_period_8 hl (by decide) rfl (fun ls hl => ?_)
  refine lv_iload hx hb dX10_period_10 (lv_at hl 0 rfl) ?_
  refine lv_if_ge (tgt := 18) hx hb dX10_period_12 (by decide) (fun c_3 => ?_) (fun c_3 => ?_)
  · have i_3 := z_le c_3
    rw [tI_0] at i_3
    rcases z_fb_cases (sg, rw9) x.toInt y.toInt z.toInt 0 with ⟨h1, -⟩ | ⟨-, hzs, ⟨hym, hzn, hpl⟩, hcm, hgc, htl⟩
    · exfalso; omega
    have htl := htl 3
    dsimp only at hcm hgc htl
    obtain ⟨s1, es1, hs1x, -⟩ := z_nI_of (x := x) hzs.1
    subst es1
    have hs1 : s1 < 2 := by have := hzs.2; omega
    have htn1 : (nI s1).toInt.toNat = s1 := by omega
    rw [htn1] at hcm hgc htl
    obtain ⟨hok, hp, hq, hm, hd⟩ := hSg s1 hs1
    have hPb := zP_bd hok
    have hn12 := hok.2.2.2.1
    have hq1 := hok.2.1
    refine lv_aload_n hx hb dX10_period_18 rfl (lv_at hl 1 rfl) ?_
    refine lv_iload_n hx hb dX10_period_19 rfl (lv_at hl 2 rfl) ?_
    refine lv_iload_n hx hb dX10_period_20 rfl (lv_at hl 3 rfl) ?_
    refine lv_iload_n hx hb dX10_period_21 rfl (lv_at hl 4 rfl) ?_
    refine z_callv (z_runV (As := [.int (nI s1), .int y, .int z]) (rest := []) ⟨hx, hb, hml, hown, hts⟩ hK hS ((m_findPeriod Z g sg v4 v5 v6 v15 v16 v17 hM9 s1 hs1 y z hym hzn (zmu (sg s1) z.toInt y.toInt) (zla (sg s1) z.toInt y.toInt) (zmula hok hzn hym).1 (zmula hok hzn hym).2) l _) gX10_period_X10_findPeriod rfl 3 (by decide +kernel) ⟨Nat.le_of_ble_eq_true rfl, Nat.le_of_ble_eq_true rfl⟩ h_m hM41 rfl rfl hl.1 rfl (Nat.le_of_ble_eq_true rfl) dX10_period_22 ⟨Nat.le_of_ble_eq_true rfl, Nat.le_of_ble_eq_true rfl⟩) hS (fun g_5 H locs hp_6 hS => ?_)
    obtain ⟨⟨fu, fq, fm, fd, h_m, h_u, h_q, h_n9, h_g, -, hSg2⟩, hfr_7⟩ := hp_6
    have hSg := hSg2
    obtain ⟨-, hp, hq, hm, hd⟩ := hSg s1 hs1
    have hper := (zmula hok (nn := z.toInt) (x := y.toInt) hzn hym).1
    have hml9 := (zmula hok (nn := z.toInt) (x := y.toInt) hzn hym).2
    refine lv_aload_n hx hb dX10_period_25 rfl (lv_at hl 1 rfl) ?_
    refine z_get (own := RX10) (C := RX10) (T := TX10) (N := 21) hx hb hts in_X10_period_10 hown hK hS h_m hM41 rfl 5 (by decide) (List.mem_of_getElem? (i := 1) rfl) rfl rfl dX10_period_26 ?_
    refine z_iret hx hb hr hlocks hS ?_ dX10_period_29
    show z_pm Z g (sp_tell 3 (sg, rw9) (nI s1).toInt y.toInt z.toInt 0) _ _
    rw [htl]
    have hfz : z_fr 41 1 g g_5 := (z_fr.rf.tr (hfr_7.wide (by omega) (by omega)))
    refine ⟨?_, ⟨⟨_, _, _, _, _, _, fu, fq, fm, fd, h_m, h_u, h_q, h_n9, h_g, hMN, hSg⟩, hW.2.congr (fun j h1 h2 => hfz j (by omega))⟩, hfz.wide (by omega) (by omega)⟩
    show _ = ztv 3 (sg s1) y.toInt z.toInt 0
    unfold ztv
    try dsimp only
    exact nI_toInt (by omega)
  · have i_3 := z_nle c_3
    rw [tI_0] at i_3
    refine lv_iload hx hb dX10_period_15 (lv_at hl 0 rfl) ?_
    refine z_iret hx hb hr hlocks hS ?_ dX10_period_17
    show z_pm Z g (sp_tell 3 (sg, rw9) x.toInt y.toInt z.toInt 0) _ _
    rcases z_fb_cases (sg, rw9) x.toInt y.toInt z.toInt 0 with ⟨-, htl⟩ | ⟨h1, -⟩
    · rw [htl]; exact ⟨hrc, hW, z_fr.rf⟩
    · exfalso; omega

set_option maxHeartbeats 4000000 in
set_option maxRecDepth 100000 in
theorem m_length (Z : zT) (g : Nat → va_E) (sg : Nat → zb) (rw9 : Nat → zr) (hW : z_mw Z g sg rw9) (x y z : Int32) : z_Mi Z yX10_length wsX10_length 5 118 [.ref (Z.2.1 41), .int x, .int y, .int z] g (fun r g1 => z_pm Z g (sp_tell 4 (sg, rw9) x.toInt y.toInt z.toInt 0) r g1) := by
  intro l sz
  obtain ⟨v4, v5, v6, v15, v16, v17, hM9⟩ := hW.1.mp
  have hM := hM9.mr
  obtain ⟨fu, fq, fm, fd, h_m, h_u, h_q, h_n9, h_g, hMN, hSg⟩ := id hM9
  have hM41 : 41 < Z.1 := by omega
  have hM42 : 42 < Z.1 := by omega
  have hM43 : 43 < Z.1 := by omega
  have hM44 : 44 < Z.1 := by omega
  have hM45 : 45 < Z.1 := by omega
  refine z_enter (maxL := 6) (ret := (some .int)) (lv := [(0, .ref (Z.2.1 41)), (1, .int x), (2, .int y), (3, .int z)]) (plainFor_of_name (by decide +kernel)) rfl (fun ls h => by subst h; exact lv_entry [.ref (Z.2.1 41), .int x, .int y, .int z] (n := 6) (Nat.le_of_ble_eq_true rfl)) ?_
  intro p e s m args below meth c hx hb hml hr hlocks hown hts hK hS hsz ls hl
  refine lv_aload_n hx hb dX10_length_0 rfl (lv_at hl 0 rfl) ?_
  refine lv_iload_n hx hb dX10_length_1 rfl (lv_at hl 1 rfl) ?_
  refine lv_iload_n hx hb dX10_length_2 rfl (lv_at hl 2 rfl) ?_
  refine lv_iload_n hx hb dX10_length_3 rfl (lv_at hl 3 rfl) ?_
  refine lv_iconst (v := 0) hx hb dX10_length_4 (by decide) ?_
  refine z_calli (z_runV (As := [.int x, .int y, .int z, .int 0]) (rest := []) ⟨hx, hb, hml, hown, hts⟩ hK hS ((m_fractionBarred Z g sg rw9 hM x y z 0) l _) gX10_length_X10_fractionBarred rfl 4 (by decide +kernel) ⟨Nat.le_of_ble_eq_true rfl, Nat.le_of_ble_eq_true rfl⟩ h_m hM41 rfl rfl hl.1 rfl (Nat.le_of_ble_eq_true rfl) dX10_length_5 ⟨Nat.le_of_ble_eq_true rfl, Nat.le_of_ble_eq_true rfl⟩) hS (fun rc g_1 H locs hp_2 hS => ?_)
  obtain ⟨rfl, hp_2⟩ := hp_2
  have hrc := hp_2
  rw [tI_0] at hrc
  refine lv_istore (lv' := [(4, .int rc), (0, .ref (Z.2.1 41)), (1, .int x), (2, .int y), (3, .int z)]) hx hb dX10_length_8 hl (by decide) rfl (fun ls hl => ?_)
  refine lv_iload hx hb dX10_length_10 (lv_at hl 0 rfl) ?_
  refine lv_if_ge (tgt := 18) hx hb dX10_length_12 (by decide) (fun c_3 => ?_) (fun c_3 => ?_)
  · have i_3 := z_le c_3
    rw [tI_0] at i_3
    rcases z_fb_cases (sg, rw9) x.toInt y.toInt z.toInt 0 with ⟨h1, -⟩ | ⟨-, hzs, ⟨hym, hzn, hpl⟩, hcm, hgc, htl⟩
    · exfalso; omega
    have htl := htl 4
    dsimp only at hcm hgc htl
    obtain ⟨s1, es1, hs1x, -⟩ := z_nI_of (x := x) hzs.1
    subst es1
    have hs1 : s1 < 2 := by have := hzs.2; omega
    have htn1 : (nI s1).toInt.toNat = s1 := by omega
    rw [htn1] at hcm hgc htl
    obtain ⟨hok, hp, hq, hm, hd⟩ := hSg s1 hs1
    have hPb := zP_bd hok
    have hn12 := hok.2.2.2.1
    have hq1 := hok.2.1
    refine lv_aload_n hx hb dX10_length_18 rfl (lv_at hl 1 rfl) ?_
    refine lv_iload_n hx hb dX10_length_19 rfl (lv_at hl 2 rfl) ?_
    refine lv_iload_n hx hb dX10_length_20 rfl (lv_at hl 3 rfl) ?_
    refine lv_iload_n hx hb dX10_length_21 rfl (lv_at hl 4 rfl) ?_
    refine z_calli (z_runV (As := [.int (nI s1), .int y, .int z]) (rest := []) ⟨hx, hb, hml, hown, hts⟩ hK hS ((m_finite Z g sg v4 v5 v6 v15 v16 v17 hM9 s1 hs1 y z hym hzn hcm hgc) l _) gX10_length_X10_finite rfl 3 (by decide +kernel) ⟨Nat.le_of_ble_eq_true rfl, Nat.le_of_ble_eq_true rfl⟩ h_m hM41 rfl rfl hl.1 rfl (Nat.le_of_ble_eq_true rfl) dX10_length_22 ⟨Nat.le_of_ble_eq_true rfl, Nat.le_of_ble_eq_true rfl⟩) hS (fun rf9 g_4 H locs hp_5 hS => ?_)
    obtain ⟨hrf, ⟨_, _, _, _, _, _, fu, fq, fm, fd, h_m, h_u, h_q, h_n9, h_g, -, hSg2⟩, hfr_6⟩ := hp_5
    have hSg := hSg2
    refine lv_istore (lv' := [(5, .int rf9), (4, .int rc), (0, .ref (Z.2.1 41)), (1, .int (nI s1)), (2, .int y), (3, .int z)]) hx hb dX10_length_25 hl (by decide) rfl (fun ls hl => ?_)
    refine lv_iload hx hb dX10_length_27 (lv_at hl 0 rfl) ?_
    refine lv_if_ge (tgt := 37) hx hb dX10_length_29 (by decide) (fun c_7 => ?_) (fun c_7 => ?_)
    · have i_7 := z_le c_7
      rw [tI_0] at i_7
      rw [show zmfin (sg s1) z.toInt y.toInt = (zor (zst (sg s1) z.toInt) y.toInt (zmu (sg s1) z.toInt y.toInt) = 0 ∧ zla (sg s1) z.toInt y.toInt = 1) from rfl] at hrf
      have hyf : zor (zst (sg s1) z.toInt) y.toInt (zmu (sg s1) z.toInt y.toInt) = 0 ∧ zla (sg s1) z.toInt y.toInt = 1 := Classical.byContradiction (fun h9 => by rw [zite_f h9] at hrf; omega)
      rw [zite_t hyf] at hrf
      refine lv_iload hx hb dX10_length_37 (lv_at hl 0 rfl) ?_
      refine z_iret hx hb hr hlocks hS ?_ dX10_length_39
      show z_pm Z g (sp_tell 4 (sg, rw9) (nI s1).toInt y.toInt z.toInt 0) _ _
      rw [htl]
      have hfz : z_fr 41 1 g g_4 := (z_fr.rf.tr (hfr_6.wide (by omega) (by omega)))
      refine ⟨?_, ⟨⟨_, _, _, _, _, _, fu, fq, fm, fd, h_m, h_u, h_q, h_n9, h_g, hMN, hSg⟩, hW.2.congr (fun j h1 h2 => hfz j (by omega))⟩, hfz.wide (by omega) (by omega)⟩
      show _ = ztv 4 (sg s1) y.toInt z.toInt 0
      unfold ztv
      try dsimp only
      rw [zite_t hyf]; exact hrf
    · have i_7 := z_nle c_7
      rw [tI_0] at i_7
      rw [show zmfin (sg s1) z.toInt y.toInt = (zor (zst (sg s1) z.toInt) y.toInt (zmu (sg s1) z.toInt y.toInt) = 0 ∧ zla (sg s1) z.toInt y.toInt = 1) from rfl] at hrf
      have hnf : ¬ (zor (zst (sg s1) z.toInt) y.toInt (zmu (sg s1) z.toInt y.toInt) = 0 ∧ zla (sg s1) z.toInt y.toInt = 1) := fun h9 => by rw [zite_t h9] at hrf; omega
      refine lv_ldc (v := (-1000006)) hx hb hown (hts _ (List.mem_of_getElem? (i := 1) rfl)) dX10_length_32 ?_
      refine lv_goto (tgt := 39) hx hb dX10_length_34 (by decide) ?_
      refine z_iret hx hb hr hlocks hS ?_ dX10_length_39
      show z_pm Z g (sp_tell 4 (sg, rw9) (nI s1).toInt y.toInt z.toInt 0) _ _
      rw [htl]
      have hfz : z_fr 41 1 g g_4 := (z_fr.rf.tr (hfr_6.wide (by omega) (by omega)))
      refine ⟨?_, ⟨⟨_, _, _, _, _, _, fu, fq, fm, fd, h_m, h_u, h_q, h_n9, h_g, hMN, hSg⟩, hW.2.congr (fun j h1 h2 => hfz j (by omega))⟩, hfz.wide (by omega) (by omega)⟩
      show _ = ztv 4 (sg s1) y.toInt z.toInt 0
      unfold ztv
      try dsimp only
      rw [zite_f hnf]; rfl
  · have i_3 := z_nle c_3
    rw [tI_0] at i_3
    refine lv_iload hx hb dX10_length_15 (lv_at hl 0 rfl) ?_
    refine z_iret hx hb hr hlocks hS ?_ dX10_length_17
    show z_pm Z g (sp_tell 4 (sg, rw9) x.toInt y.toInt z.toInt 0) _ _
    rcases z_fb_cases (sg, rw9) x.toInt y.toInt z.toInt 0 with ⟨-, htl⟩ | ⟨h1, -⟩
    · rw [htl]; exact ⟨hrc, hW, z_fr.rf⟩
    · exfalso; omega

