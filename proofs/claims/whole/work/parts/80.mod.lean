/-! the reference: its cells lie behind those of the class, from 41 on -/
def z_mo (Z : zT) (v4 v5 v6 : Int32) (v15 v16 : Int64) (v17 : Int32) : va_E := .inr (10, [.ref (Z.2.1 42), .ref (Z.2.1 43), .ref (Z.2.1 44), .ref (Z.2.1 45), .int v4, .int v5, .int v6, .ref (Z.2.1 46), .ref (Z.2.1 47), .ref (Z.2.1 48), .ref (Z.2.1 49), .ref (Z.2.1 50), .ref (Z.2.1 51), .ref (Z.2.1 52), .ref (Z.2.1 53), .long v15, .long v16, .int v17, .ref (Z.2.1 54), .ref (Z.2.1 55), .ref (Z.2.1 56)])
def z_ms (sg : Nat → zb) (fu fq fm fd : Nat → Int32) : Prop := ∀ s, s < 2 → zb_ok (sg s) ∧ (fu s).toInt = (sg s).1 ∧ (fq s).toInt = (sg s).2.1 ∧ fm s = nI (sg s).2.2.1 ∧ ∀ i, i < (sg s).2.2.1 → (fd (12 * s + i)).toInt = (sg s).2.2.2 i
def z_mr (Z : zT) (g : Nat → va_E) (sg : Nat → zb) : Prop := ∃ (v4 v5 v6 : Int32) (v15 v16 : Int64) (v17 : Int32) (fu fq fm fd : Nat → Int32), g 41 = .inr (10, [.ref (Z.2.1 42), .ref (Z.2.1 43), .ref (Z.2.1 44), .ref (Z.2.1 45), .int v4, .int v5, .int v6, .ref (Z.2.1 46), .ref (Z.2.1 47), .ref (Z.2.1 48), .ref (Z.2.1 49), .ref (Z.2.1 50), .ref (Z.2.1 51), .ref (Z.2.1 52), .ref (Z.2.1 53), .long v15, .long v16, .int v17, .ref (Z.2.1 54), .ref (Z.2.1 55), .ref (Z.2.1 56)]) ∧ g 42 = .inl (Z.2.2.2 0, 2, .inl fu) ∧ g 43 = .inl (Z.2.2.2 0, 2, .inl fq) ∧ g 44 = .inl (Z.2.2.2 0, 2, .inl fm) ∧ g 45 = .inl (Z.2.2.2 0, 24, .inl fd) ∧ 57 ≤ Z.1 ∧ z_ms sg fu fq fm fd
theorem zm_ix {a j : Nat} (h : a < 1000) (hj : j < 1000) : ((12 : Int32) * nI a) + nI j = nI (12 * a + j) := by
  have e1 : ((12 : Int32) * nI a).toInt = 12 * (a : Int) := by
    rw [fb_mulI (by rw [show (12 : Int32).toInt = 12 from rfl, nI_toInt (by omega)]; omega) (by rw [show (12 : Int32).toInt = 12 from rfl, nI_toInt (by omega)]; omega), show (12 : Int32).toInt = 12 from rfl, nI_toInt (by omega)]
  exact z_inj (by rw [fb_addI (by rw [e1, nI_toInt (by omega)]; omega) (by rw [e1, nI_toInt (by omega)]; omega), e1, nI_toInt (by omega), nI_toInt (by omega)]; omega)
def zabs (x : Int) : Int := if x < 0 then -x else x
theorem zbo_c {r : Int32} {P Q : Prop} (h : zbo r P) (he : P ↔ Q) : zbo r Q := h.imp (fun q => ⟨he.mp q.1, q.2⟩) (fun q => ⟨fun k => q.1 (he.mpr k), q.2⟩)
theorem zbo_n {r : Int32} {P : Prop} (h : zbo r P) : narrow .boolean (.int r) = .int r := by
  rcases h with ⟨-, rfl⟩ | ⟨-, rfl⟩ <;> rfl
set_option maxHeartbeats 4000000 in
set_option maxRecDepth 100000 in
theorem m_in (Z : zT) (g : Nat → va_E) (x y z : Int32) : z_Mi Z yX10_in wsX10_in 0 0 [.int x, .int y, .int z] g (fun r g1 => g = g1 ∧ zbo r (y.toInt ≤ x.toInt ∧ x.toInt ≤ z.toInt)) := by
  intro l sz
  refine z_enter (maxL := 3) (ret := (some .boolean)) (lv := [(0, .int x), (1, .int y), (2, .int z)]) (plainFor_of_name (by decide +kernel)) rfl (fun ls h => by subst h; exact lv_entry [.int x, .int y, .int z] (n := 3) (Nat.le_of_ble_eq_true rfl)) ?_
  intro p e s m args below meth c hx hb hml hr hlocks hown hts hK hS hsz ls hl
  refine lv_iload_n hx hb dX10_in_0 rfl (lv_at hl 0 rfl) ?_
  refine lv_iload_n hx hb dX10_in_1 rfl (lv_at hl 1 rfl) ?_
  refine lv_icmp_lt (tgt := 14) hx hb dX10_in_2 (by decide) (fun c_1 => ?_) (fun c_1 => ?_)
  · have i_1 := z_lt c_1
    refine lv_iconst (v := 0) hx hb dX10_in_14 (by decide) ?_
    refine z_zret hx hb hr hlocks hS (by decide) ?_ dX10_in_15
    exact ⟨rfl, zbo_0 (fun h9 => by omega)⟩
  · have i_1 := z_nlt c_1
    refine lv_iload_n hx hb dX10_in_5 rfl (lv_at hl 0 rfl) ?_
    refine lv_iload_n hx hb dX10_in_6 rfl (lv_at hl 2 rfl) ?_
    refine lv_icmp_gt (tgt := 14) hx hb dX10_in_7 (by decide) (fun c_2 => ?_) (fun c_2 => ?_)
    · have i_2 := z_lt c_2
      refine lv_iconst (v := 0) hx hb dX10_in_14 (by decide) ?_
      refine z_zret hx hb hr hlocks hS (by decide) ?_ dX10_in_15
      exact ⟨rfl, zbo_0 (fun h9 => by omega)⟩
    · have i_2 := z_nlt c_2
      refine lv_iconst (v := 1) hx hb dX10_in_10 (by decide) ?_
      refine lv_goto (tgt := 15) hx hb dX10_in_11 (by decide) ?_
      refine z_zret hx hb hr hlocks hS (by decide) ?_ dX10_in_15
      exact ⟨rfl, zbo_1 ⟨by omega, by omega⟩⟩

set_option maxHeartbeats 4000000 in
set_option maxRecDepth 100000 in
theorem m_absolute (Z : zT) (g : Nat → va_E) (x : Int32) : z_Mi Z yX10_absolute wsX10_absolute 0 0 [.int x] g (fun r g1 => g = g1 ∧ (x.toInt ≠ -2147483648 → r.toInt = zabs x.toInt) ∧ (x.toInt = -2147483648 → r.toInt = -2147483648)) := by
  intro l sz
  refine z_enter (maxL := 1) (ret := (some .int)) (lv := [(0, .int x)]) (plainFor_of_name (by decide +kernel)) rfl (fun ls h => by subst h; exact lv_entry [.int x] (n := 1) (Nat.le_of_ble_eq_true rfl)) ?_
  intro p e s m args below meth c hx hb hml hr hlocks hown hts hK hS hsz ls hl
  refine lv_iload_n hx hb dX10_absolute_0 rfl (lv_at hl 0 rfl) ?_
  refine lv_if_ge (tgt := 9) hx hb dX10_absolute_1 (by decide) (fun c_1 => ?_) (fun c_1 => ?_)
  · have i_1 := z_le c_1
    rw [tI_0] at i_1
    refine lv_iload_n hx hb dX10_absolute_9 rfl (lv_at hl 0 rfl) ?_
    refine z_iret hx hb hr hlocks hS ?_ dX10_absolute_10
    refine ⟨rfl, fun h9 => ?_, fun h9 => ?_⟩
    · unfold zabs; rw [if_neg (by omega)]
    · exact h9
  · have i_1 := z_nle c_1
    rw [tI_0] at i_1
    refine lv_iload_n hx hb dX10_absolute_4 rfl (lv_at hl 0 rfl) ?_
    refine lv_ineg hx hb dX10_absolute_5 ?_
    refine lv_goto (tgt := 10) hx hb dX10_absolute_6 (by decide) ?_
    refine z_iret hx hb hr hlocks hS ?_ dX10_absolute_10
    refine ⟨rfl, fun h9 => ?_, fun h9 => ?_⟩
    · unfold zabs; rw [if_pos (by omega), fb_negI h9]
    · rw [show x = -2147483648 from z_inj h9]; rfl

set_option maxHeartbeats 4000000 in
set_option maxRecDepth 100000 in
theorem m_lost (Z : zT) (g : Nat → va_E) : z_Ml Z yX10_lost wsX10_lost 0 0 [] g (fun r g1 => g = g1 ∧ r.toInt = -9223372036854775808) := by
  intro l sz
  refine z_enter (maxL := 0) (ret := (some .long)) (lv := []) (plainFor_of_name (by decide +kernel)) rfl (fun ls h => by subst h; exact lv_entry [] (n := 0) (Nat.le_of_ble_eq_true rfl)) ?_
  intro p e s m args below meth c hx hb hml hr hlocks hown hts hK hS hsz ls hl
  refine lv_ldc2 (v := (-9223372036854775808)) hx hb hown (hts _ (List.mem_of_getElem? (i := 1) rfl)) dX10_lost_0 ?_
  refine z_lret hx hb hr hlocks hS ?_ dX10_lost_3
  exact ⟨rfl, rfl⟩

set_option maxHeartbeats 4000000 in
set_option maxRecDepth 100000 in
theorem m_noSystem (Z : zT) (g : Nat → va_E) (x : Int32) : z_Mi Z yX10_noSystem wsX10_noSystem 1 22 [.int x] g (fun r g1 => g = g1 ∧ zbo r (¬ zsy x.toInt)) := by
  intro l sz
  refine z_enter (maxL := 1) (ret := (some .boolean)) (lv := [(0, .int x)]) (plainFor_of_name (by decide +kernel)) rfl (fun ls h => by subst h; exact lv_entry [.int x] (n := 1) (Nat.le_of_ble_eq_true rfl)) ?_
  intro p e s m args below meth c hx hb hml hr hlocks hown hts hK hS hsz ls hl
  refine lv_iload_n hx hb dX10_noSystem_0 rfl (lv_at hl 0 rfl) ?_
  refine lv_iconst (v := 0) hx hb dX10_noSystem_1 (by decide) ?_
  refine lv_iconst (v := 1) hx hb dX10_noSystem_2 (by decide) ?_
  refine z_calli (z_runS (As := [.int x, .int 0, .int 1]) (rest := []) ⟨hx, hb, hml, hown, hts⟩ hK hS ((m_in Z g x 0 1) l _) gX10_noSystem_X10_in rfl 3 (by decide +kernel) ⟨Nat.le_of_ble_eq_true rfl, Nat.le_of_ble_eq_true rfl⟩ rfl hl.1 rfl (Nat.le_of_ble_eq_true rfl) dX10_noSystem_3 ⟨Nat.le_of_ble_eq_true rfl, Nat.le_of_ble_eq_true rfl⟩) hS (fun ri g_1 H locs hp_2 hS => ?_)
  obtain ⟨rfl, hp_2⟩ := hp_2
  have hri := hp_2
  rw [tI_0, tI_1] at hri
  refine lv_if_ne (tgt := 13) hx hb dX10_noSystem_6 (by decide) (fun c_3 => ?_) (fun c_3 => ?_)
  · have i_3 := z_ne c_3
    rw [tI_0] at i_3
    have hin := zbo_t hri c_3
    refine lv_iconst (v := 0) hx hb dX10_noSystem_13 (by decide) ?_
    refine z_zret hx hb hr hlocks hS (by decide) ?_ dX10_noSystem_14
    exact ⟨rfl, zbo_0 (fun h9 => h9 ⟨hin.1, by have := hin.2; omega⟩)⟩
  · have i_3 := z_eq c_3
    rw [tI_0] at i_3
    have hin := zbo_f hri c_3
    refine lv_iconst (v := 1) hx hb dX10_noSystem_9 (by decide) ?_
    refine lv_goto (tgt := 14) hx hb dX10_noSystem_10 (by decide) ?_
    refine z_zret hx hb hr hlocks hS (by decide) ?_ dX10_noSystem_14
    exact ⟨rfl, zbo_1 (fun h9 => hin ⟨h9.1, by have := h9.2; omega⟩)⟩

set_option maxHeartbeats 4000000 in
set_option maxRecDepth 100000 in
theorem m_noRow (Z : zT) (g : Nat → va_E) (x : Int32) : z_Mi Z yX10_noRow wsX10_noRow 1 22 [.int x] g (fun r g1 => g = g1 ∧ zbo r (¬ zro x.toInt)) := by
  intro l sz
  refine z_enter (maxL := 1) (ret := (some .boolean)) (lv := [(0, .int x)]) (plainFor_of_name (by decide +kernel)) rfl (fun ls h => by subst h; exact lv_entry [.int x] (n := 1) (Nat.le_of_ble_eq_true rfl)) ?_
  intro p e s m args below meth c hx hb hml hr hlocks hown hts hK hS hsz ls hl
  refine lv_iload_n hx hb dX10_noRow_0 rfl (lv_at hl 0 rfl) ?_
  refine lv_iconst (v := 0) hx hb dX10_noRow_1 (by decide) ?_
  refine lv_iconst (v := 2) hx hb dX10_noRow_2 (by decide) ?_
  refine z_calli (z_runS (As := [.int x, .int 0, .int 2]) (rest := []) ⟨hx, hb, hml, hown, hts⟩ hK hS ((m_in Z g x 0 2) l _) gX10_noRow_X10_in rfl 3 (by decide +kernel) ⟨Nat.le_of_ble_eq_true rfl, Nat.le_of_ble_eq_true rfl⟩ rfl hl.1 rfl (Nat.le_of_ble_eq_true rfl) dX10_noRow_3 ⟨Nat.le_of_ble_eq_true rfl, Nat.le_of_ble_eq_true rfl⟩) hS (fun ri g_1 H locs hp_2 hS => ?_)
  obtain ⟨rfl, hp_2⟩ := hp_2
  have hri := hp_2
  rw [tI_0, tI_2] at hri
  refine lv_if_ne (tgt := 13) hx hb dX10_noRow_6 (by decide) (fun c_3 => ?_) (fun c_3 => ?_)
  · have i_3 := z_ne c_3
    rw [tI_0] at i_3
    have hin := zbo_t hri c_3
    refine lv_iconst (v := 0) hx hb dX10_noRow_13 (by decide) ?_
    refine z_zret hx hb hr hlocks hS (by decide) ?_ dX10_noRow_14
    exact ⟨rfl, zbo_0 (fun h9 => h9 ⟨hin.1, by have := hin.2; omega⟩)⟩
  · have i_3 := z_eq c_3
    rw [tI_0] at i_3
    have hin := zbo_f hri c_3
    refine lv_iconst (v := 1) hx hb dX10_noRow_9 (by decide) ?_
    refine lv_goto (tgt := 14) hx hb dX10_noRow_10 (by decide) ?_
    refine z_zret hx hb hr hlocks hS (by decide) ?_ dX10_noRow_14
    exact ⟨rfl, zbo_1 (fun h9 => hin ⟨h9.1, by have := h9.2; omega⟩)⟩

theorem in_X10_residue_10 : ∀ w ∈ wsX100, w ∈ wsX10_residue := by decide +kernel
set_option maxHeartbeats 4000000 in
set_option maxRecDepth 100000 in
theorem m_residue (Z : zT) (g : Nat → va_E) (sg : Nat → zb) (hM : z_mr Z g sg) (s1 : Nat) (hs1 : s1 < 2) (x : Int32) : z_Mi Z yX10_residue wsX10_residue 1 20 [.ref (Z.2.1 41), .int (nI s1), .int x] g (fun r g1 => g = g1 ∧ r.toInt = x.toInt % zP (sg s1)) := by
  intro l sz
  obtain ⟨v4, v5, v6, v15, v16, v17, fu, fq, fm, fd, h_m, h_u, h_q, h_n9, h_g, hMN, hSg⟩ := id hM
  have hM41 : 41 < Z.1 := by omega
  have hM42 : 42 < Z.1 := by omega
  have hM43 : 43 < Z.1 := by omega
  have hM44 : 44 < Z.1 := by omega
  have hM45 : 45 < Z.1 := by omega
  obtain ⟨hok, hp, hq, hm, hd⟩ := hSg s1 hs1
  have hPb := zP_bd hok
  have hn12 := hok.2.2.2.1
  have hq1 := hok.2.1
  refine z_enter (maxL := 4) (ret := (some .int)) (lv := [(0, .ref (Z.2.1 41)), (1, .int (nI s1)), (2, .int x)]) (plainFor_of_name (by decide +kernel)) rfl (fun ls h => by subst h; exact lv_entry [.ref (Z.2.1 41), .int (nI s1), .int x] (n := 4) (Nat.le_of_ble_eq_true rfl)) ?_
  intro p e s m args below meth c hx hb hml hr hlocks hown hts hK hS hsz ls hl
  refine lv_iload_n hx hb dX10_residue_0 rfl (lv_at hl 2 rfl) ?_
  refine lv_aload_n hx hb dX10_residue_1 rfl (lv_at hl 0 rfl) ?_
  refine z_get (own := RX10) (C := RX10) (T := TX10) (N := 21) hx hb hts in_X10_residue_10 hown hK hS h_m hM41 rfl 0 (by decide) (List.mem_of_getElem? (i := 1) rfl) rfl rfl dX10_residue_2 ?_
  refine lv_iload_n hx hb dX10_residue_5 rfl (lv_at hl 1 rfl) ?_
  refine z_iald hx hb hK hS h_u hM42 (vp_in_nI (by omega) (by omega)) dX10_residue_6 ?_
  rw [show fu (nI s1).toNatClampNeg = fu s1 from by rw [nI_clamp (by omega)]]
  refine lv_irem hx hb dX10_residue_7 (fun h => by rw [h] at hp; have : (0 : Int32).toInt = 0 := rfl; omega) ?_
  refine lv_topi (fun tm etm => ?_)
  have htm : tm.toInt = x.toInt.tmod (sg s1).1 := by rw [etm, z_rem (by omega), hp]
  have htp : x.toInt.tmod (zP (sg s1)) = x.toInt.tmod (sg s1).1 := by
    rcases hPb.2.2.1 with h9 | h9
    · rw [h9]
    · rw [h9, Int.tmod_neg]
  have hem := z_emod_tmod (a := x.toInt) (y := zP (sg s1)) (by omega)
  have hlt := z_tmod_sign x.toInt (zP (sg s1)) (by omega)
  rw [htp] at hem hlt
  refine lv_istore_n (lv' := [(3, .int tm), (0, .ref (Z.2.1 41)), (1, .int (nI s1)), (2, .int x)]) hx hb dX10_residue_8 rfl hl (by decide) rfl (fun ls hl => ?_)
  refine lv_iload_n hx hb dX10_residue_9 rfl (lv_at hl 0 rfl) ?_
  refine lv_if_ge (tgt := 27) hx hb dX10_residue_10 (by decide) (fun c_1 => ?_) (fun c_1 => ?_)
  · have i_1 := z_le c_1
    rw [tI_0] at i_1
    refine lv_iload_n hx hb dX10_residue_27 rfl (lv_at hl 0 rfl) ?_
    refine z_iret hx hb hr hlocks hS ?_ dX10_residue_28
    exact ⟨rfl, by split at hem <;> omega⟩
  · have i_1 := z_nle c_1
    rw [tI_0] at i_1
    refine lv_iload_n hx hb dX10_residue_13 rfl (lv_at hl 0 rfl) ?_
    refine lv_aload_n hx hb dX10_residue_14 rfl (lv_at hl 1 rfl) ?_
    refine z_get (own := RX10) (C := RX10) (T := TX10) (N := 21) hx hb hts in_X10_residue_10 hown hK hS h_m hM41 rfl 0 (by decide) (List.mem_of_getElem? (i := 1) rfl) rfl rfl dX10_residue_15 ?_
    refine lv_iload_n hx hb dX10_residue_18 rfl (lv_at hl 2 rfl) ?_
    refine z_iald hx hb hK hS h_u hM42 (vp_in_nI (by omega) (by omega)) dX10_residue_19 ?_
    rw [show fu (nI s1).toNatClampNeg = fu s1 from by rw [nI_clamp (by omega)]]
    refine z_calli (z_runS (As := [.int (fu s1)]) (rest := [.int tm]) ⟨hx, hb, hml, hown, hts⟩ hK hS ((m_absolute Z g (fu s1)) l _) gX10_residue_X10_absolute rfl 1 (by decide +kernel) ⟨Nat.le_of_ble_eq_true rfl, Nat.le_of_ble_eq_true rfl⟩ rfl hl.1 rfl (Nat.le_of_ble_eq_true rfl) dX10_residue_20 ⟨Nat.le_of_ble_eq_true rfl, Nat.le_of_ble_eq_true rfl⟩) hS (fun ab_2 g_3 H locs hp_4 hS => ?_)
    obtain ⟨rfl, hp_4⟩ := hp_4
    have hab : ab_2.toInt = zP (sg s1) := by rw [hp_4.1 (by omega), hp]; rfl
    refine lv_iadd hx hb dX10_residue_23 ?_
    refine lv_goto (tgt := 28) hx hb dX10_residue_24 (by decide) ?_
    refine z_iret hx hb hr hlocks hS ?_ dX10_residue_28
    exact ⟨rfl, by rw [fb_addI (by omega) (by omega)]; split at hem <;> omega⟩

theorem in_X10_chosenAt_10 : ∀ w ∈ wsX100, w ∈ wsX10_chosenAt := by decide +kernel
set_option maxHeartbeats 4000000 in
set_option maxRecDepth 100000 in
theorem m_chosenAt (Z : zT) (g : Nat → va_E) (sg : Nat → zb) (hM : z_mr Z g sg) (s1 : Nat) (hs1 : s1 < 2) (x : Int32) (hx9 : 0 ≤ x.toInt ∧ x.toInt < zP (sg s1)) : z_Mi Z yX10_chosenAt wsX10_chosenAt 2 43 [.ref (Z.2.1 41), .int (nI s1), .int x] g (fun r g1 => g = g1 ∧ ((zci (sg s1) x.toInt < (sg s1).2.2.1 ∧ r = nI (zci (sg s1) x.toInt)) ∨ (¬ zci (sg s1) x.toInt < (sg s1).2.2.1 ∧ r = -1))) := by
  intro l sz
  obtain ⟨v4, v5, v6, v15, v16, v17, fu, fq, fm, fd, h_m, h_u, h_q, h_n9, h_g, hMN, hSg⟩ := id hM
  have hM41 : 41 < Z.1 := by omega
  have hM42 : 42 < Z.1 := by omega
  have hM43 : 43 < Z.1 := by omega
  have hM44 : 44 < Z.1 := by omega
  have hM45 : 45 < Z.1 := by omega
  obtain ⟨hok, hp, hq, hm, hd⟩ := hSg s1 hs1
  have hPb := zP_bd hok
  have hn12 := hok.2.2.2.1
  have hq1 := hok.2.1
  have hxm : x.toInt % zP (sg s1) = x.toInt := Int.emod_eq_of_lt hx9.1 hx9.2
  refine z_enter (maxL := 4) (ret := (some .int)) (lv := [(0, .ref (Z.2.1 41)), (1, .int (nI s1)), (2, .int x)]) (plainFor_of_name (by decide +kernel)) rfl (fun ls h => by subst h; exact lv_entry [.ref (Z.2.1 41), .int (nI s1), .int x] (n := 4) (Nat.le_of_ble_eq_true rfl)) ?_
  intro p e s m args below meth c hx hb hml hr hlocks hown hts hK hS hsz ls hl
  refine lv_iconst (v := 0) hx hb dX10_chosenAt_0 (by decide) ?_
  refine lv_istore_n (lv' := [(3, .int 0), (0, .ref (Z.2.1 41)), (1, .int (nI s1)), (2, .int x)]) hx hb dX10_chosenAt_1 rfl hl (by decide) rfl (fun ls hl => ?_)
  have hcut_2 : ∀ (nn_2 : Nat) (j : Nat) (hj : j ≤ (sg s1).2.2.1) (hno : ∀ t, t < j → decide ((sg s1).2.2.2 t % zP (sg s1) = x.toInt % zP (sg s1)) = false) (hm_2 : (sg s1).2.2.1 - j < nn_2) (H : Heap) (locs : List Loc) (ls : Array Slot), z_S Z (z_A Z sz) s.heap g H locs → lv_has ls 4 [(0, .ref (Z.2.1 41)), (1, .int (nI s1)), (2, .int x), (3, .int (nI j))] → W p l e (headSpec wsX10_chosenAt (z_rm 2 43)).room s m args below meth c H locs 0 0 (MQ below (va_Qi (fun r g1 => g = g1 ∧ ((zci (sg s1) x.toInt < (sg s1).2.2.1 ∧ r = nI (zci (sg s1) x.toInt)) ∨ (¬ zci (sg s1) x.toInt < (sg s1).2.2.1 ∧ r = -1))) (z_B Z) (z_A Z sz)) args s 0 0 (z_A Z sz)) (F0 m 2 ls []) := by
    intro nn_2
    induction nn_2 with
    | zero => intro j hj hno hm_2 H locs ls hS hl; exact absurd hm_2 (Nat.not_lt_zero _)
    | succ nn_2 ih_2 =>
      intro j hj hno hm_2 H locs ls hS hl
      refine lv_iload_n hx hb dX10_chosenAt_2 rfl (lv_at hl 3 rfl) ?_
      refine lv_aload_n hx hb dX10_chosenAt_3 rfl (lv_at hl 0 rfl) ?_
      refine z_get (own := RX10) (C := RX10) (T := TX10) (N := 21) hx hb hts in_X10_chosenAt_10 hown hK hS h_m hM41 rfl 2 (by decide) (List.mem_of_getElem? (i := 1) rfl) rfl rfl dX10_chosenAt_4 ?_
      refine lv_iload_n hx hb dX10_chosenAt_7 rfl (lv_at hl 1 rfl) ?_
      refine z_iald hx hb hK hS h_n9 hM44 (vp_in_nI (by omega) (by omega)) dX10_chosenAt_8 ?_
      rw [show fm (nI s1).toNatClampNeg = nI (sg s1).2.2.1 from by rw [nI_clamp (by omega)]; exact hm]
      refine lv_icmp_ge (tgt := 40) hx hb dX10_chosenAt_9 (by decide) (fun c_1 => ?_) (fun c_1 => ?_)
      · have i_1 := z_le c_1
        rw [nI_toInt (by omega)] at i_1
        rw [nI_toInt (by omega)] at i_1
        have hzn : zci (sg s1) x.toInt = (sg s1).2.2.1 := zfi_none (fun t ht => hno t (by omega))
        refine lv_iconst (v := (-1)) hx hb dX10_chosenAt_40 (by decide) ?_
        refine z_iret hx hb hr hlocks hS ?_ dX10_chosenAt_41
        exact ⟨rfl, Or.inr ⟨by omega, rfl⟩⟩
      · have i_1 := z_nle c_1
        rw [nI_toInt (by omega)] at i_1
        rw [nI_toInt (by omega)] at i_1
        have hdj := hd j (by omega)
        refine lv_aload_n hx hb dX10_chosenAt_12 rfl (lv_at hl 0 rfl) ?_
        refine lv_iload_n hx hb dX10_chosenAt_13 rfl (lv_at hl 1 rfl) ?_
        refine lv_aload_n hx hb dX10_chosenAt_14 rfl (lv_at hl 0 rfl) ?_
        refine z_get (own := RX10) (C := RX10) (T := TX10) (N := 21) hx hb hts in_X10_chosenAt_10 hown hK hS h_m hM41 rfl 3 (by decide) (List.mem_of_getElem? (i := 2) rfl) rfl rfl dX10_chosenAt_15 ?_
        refine lv_bipush (v := 12) hx hb dX10_chosenAt_18 (by decide) ?_
        refine lv_iload_n hx hb dX10_chosenAt_20 rfl (lv_at hl 1 rfl) ?_
        refine lv_imul hx hb dX10_chosenAt_21 ?_
        refine lv_iload_n hx hb dX10_chosenAt_22 rfl (lv_at hl 3 rfl) ?_
        refine lv_iadd hx hb dX10_chosenAt_23 ?_
        rw [show (12 * (nI s1)) + (nI j) = nI (12 * s1 + j) from zm_ix (by omega) (by omega)]
        refine z_iald hx hb hK hS h_g hM45 (vp_in_nI (by omega) (by omega)) dX10_chosenAt_24 ?_
        rw [show fd (nI (12 * s1 + j)).toNatClampNeg = fd (12 * s1 + j) from by rw [nI_clamp (by omega)]]
        refine z_calli (z_runV (As := [.int (nI s1), .int (fd (12 * s1 + j))]) (rest := []) ⟨hx, hb, hml, hown, hts⟩ hK hS ((m_residue Z g sg hM s1 hs1 (fd (12 * s1 + j))) l _) gX10_chosenAt_X10_residue rfl 2 (by decide +kernel) ⟨Nat.le_of_ble_eq_true rfl, Nat.le_of_ble_eq_true rfl⟩ h_m hM41 rfl rfl hl.1 rfl (Nat.le_of_ble_eq_true rfl) dX10_chosenAt_25 ⟨Nat.le_of_ble_eq_true rfl, Nat.le_of_ble_eq_true rfl⟩) hS (fun rr g_2 H locs hp_3 hS => ?_)
        obtain ⟨rfl, hp_3⟩ := hp_3
        have hrr := hp_3
        refine lv_iload_n hx hb dX10_chosenAt_28 rfl (lv_at hl 2 rfl) ?_
        refine lv_icmp_ne (tgt := 34) hx hb dX10_chosenAt_29 (by decide) (fun c_4 => ?_) (fun c_4 => ?_)
        · have i_4 := z_ne c_4
          have hne : ¬ (sg s1).2.2.2 j % zP (sg s1) = x.toInt % zP (sg s1) := by rw [hxm, ← hdj, ← hrr]; exact i_4
          refine lv_iinc (v := (nI (j + 1))) (lv' := [(3, .int (nI (j + 1))), (0, .ref (Z.2.1 41)), (1, .int (nI s1)), (2, .int x)]) hx hb dX10_chosenAt_34 hl (k := 3) rfl (nI_1 _) (by decide) rfl (fun ls hl => ?_)
          refine lv_goto (tgt := 2) hx hb dX10_chosenAt_37 (by decide) ?_
          exact ih_2 (j + 1) (by omega) (fun t ht => by
              rcases Nat.lt_or_ge t j with q9 | q9
              · exact hno t q9
              · have : t = j := by omega
                subst this; exact decide_eq_false hne) (by omega) _ _ _ hS (lv_sub hl [1, 2, 3, 0] rfl)
        · have i_4 := z_eq c_4
          have hye : (sg s1).2.2.2 j % zP (sg s1) = x.toInt % zP (sg s1) := by rw [hxm, ← hdj, ← hrr]; exact i_4
          have hzi : zci (sg s1) x.toInt = j := zfi_is (by omega) (decide_eq_true hye) hno
          refine lv_iload_n hx hb dX10_chosenAt_32 rfl (lv_at hl 3 rfl) ?_
          refine z_iret hx hb hr hlocks hS ?_ dX10_chosenAt_33
          exact ⟨rfl, Or.inl ⟨by omega, by rw [hzi]⟩⟩
  exact hcut_2 ((sg s1).2.2.1 - 0 + 1) 0 (by omega) (fun t ht => absurd ht (Nat.not_lt_zero t)) (Nat.lt_succ_self _) _ _ _ hS (lv_sub hl [1, 2, 3, 0] rfl)

theorem in_X10_chosenDigit_10 : ∀ w ∈ wsX100, w ∈ wsX10_chosenDigit := by decide +kernel
set_option maxHeartbeats 4000000 in
set_option maxRecDepth 100000 in
theorem m_chosenDigit (Z : zT) (g : Nat → va_E) (sg : Nat → zb) (hM : z_mr Z g sg) (s1 : Nat) (hs1 : s1 < 2) (x : Int32) (hx9 : 0 ≤ x.toInt ∧ x.toInt < zP (sg s1)) (hz : zci (sg s1) x.toInt < (sg s1).2.2.1) : z_Mi Z yX10_chosenDigit wsX10_chosenDigit 3 66 [.ref (Z.2.1 41), .int (nI s1), .int x] g (fun r g1 => g = g1 ∧ r.toInt = zch (sg s1) x.toInt) := by
  intro l sz
  obtain ⟨v4, v5, v6, v15, v16, v17, fu, fq, fm, fd, h_m, h_u, h_q, h_n9, h_g, hMN, hSg⟩ := id hM
  have hM41 : 41 < Z.1 := by omega
  have hM42 : 42 < Z.1 := by omega
  have hM43 : 43 < Z.1 := by omega
  have hM44 : 44 < Z.1 := by omega
  have hM45 : 45 < Z.1 := by omega
  obtain ⟨hok, hp, hq, hm, hd⟩ := hSg s1 hs1
  have hPb := zP_bd hok
  have hn12 := hok.2.2.2.1
  have hq1 := hok.2.1
  have hdz := hd _ hz
  refine z_enter (maxL := 3) (ret := (some .int)) (lv := [(0, .ref (Z.2.1 41)), (1, .int (nI s1)), (2, .int x)]) (plainFor_of_name (by decide +kernel)) rfl (fun ls h => by subst h; exact lv_entry [.ref (Z.2.1 41), .int (nI s1), .int x] (n := 3) (Nat.le_of_ble_eq_true rfl)) ?_
  intro p e s m args below meth c hx hb hml hr hlocks hown hts hK hS hsz ls hl
  refine lv_aload_n hx hb dX10_chosenDigit_0 rfl (lv_at hl 0 rfl) ?_
  refine z_get (own := RX10) (C := RX10) (T := TX10) (N := 21) hx hb hts in_X10_chosenDigit_10 hown hK hS h_m hM41 rfl 3 (by decide) (List.mem_of_getElem? (i := 1) rfl) rfl rfl dX10_chosenDigit_1 ?_
  refine lv_bipush (v := 12) hx hb dX10_chosenDigit_4 (by decide) ?_
  refine lv_iload_n hx hb dX10_chosenDigit_6 rfl (lv_at hl 1 rfl) ?_
  refine lv_imul hx hb dX10_chosenDigit_7 ?_
  refine lv_aload_n hx hb dX10_chosenDigit_8 rfl (lv_at hl 0 rfl) ?_
  refine lv_iload_n hx hb dX10_chosenDigit_9 rfl (lv_at hl 1 rfl) ?_
  refine lv_iload_n hx hb dX10_chosenDigit_10 rfl (lv_at hl 2 rfl) ?_
  refine z_calli (z_runV (As := [.int (nI s1), .int x]) (rest := [.int (12 * (nI s1)), .ref (Z.2.1 45)]) ⟨hx, hb, hml, hown, hts⟩ hK hS ((m_chosenAt Z g sg hM s1 hs1 x hx9) l _) gX10_chosenDigit_X10_chosenAt rfl 2 (by decide +kernel) ⟨Nat.le_of_ble_eq_true rfl, Nat.le_of_ble_eq_true rfl⟩ h_m hM41 rfl rfl hl.1 rfl (Nat.le_of_ble_eq_true rfl) dX10_chosenDigit_11 ⟨Nat.le_of_ble_eq_true rfl, Nat.le_of_ble_eq_true rfl⟩) hS (fun ra g_1 H locs hp_2 hS => ?_)
  obtain ⟨rfl, hp_2⟩ := hp_2
  have hra : ra = nI (zci (sg s1) x.toInt) := by
    rcases hp_2 with h9 | h9
    · exact h9.2
    · exact absurd hz h9.1
  subst hra
  refine lv_iadd hx hb dX10_chosenDigit_14 ?_
  rw [show (12 * (nI s1)) + (nI (zci (sg s1) x.toInt)) = nI (12 * s1 + zci (sg s1) x.toInt) from zm_ix (by omega) (by omega)]
  refine z_iald hx hb hK hS h_g hM45 (vp_in_nI (by omega) (by omega)) dX10_chosenDigit_15 ?_
  rw [show fd (nI (12 * s1 + zci (sg s1) x.toInt)).toNatClampNeg = fd (12 * s1 + zci (sg s1) x.toInt) from by rw [nI_clamp (by omega)]]
  refine z_iret hx hb hr hlocks hS ?_ dX10_chosenDigit_16
  exact ⟨rfl, by rw [hdz, (zch_of hz).1]⟩

theorem in_X10_isComplete_10 : ∀ w ∈ wsX100, w ∈ wsX10_isComplete := by decide +kernel
set_option maxHeartbeats 4000000 in
set_option maxRecDepth 100000 in
theorem m_isComplete (Z : zT) (g : Nat → va_E) (sg : Nat → zb) (hM : z_mr Z g sg) (s1 : Nat) (hs1 : s1 < 2) : z_Mi Z yX10_isComplete wsX10_isComplete 3 66 [.ref (Z.2.1 41), .int (nI s1)] g (fun r g1 => g = g1 ∧ zbo r (zcm (sg s1))) := by
  intro l sz
  obtain ⟨v4, v5, v6, v15, v16, v17, fu, fq, fm, fd, h_m, h_u, h_q, h_n9, h_g, hMN, hSg⟩ := id hM
  have hM41 : 41 < Z.1 := by omega
  have hM42 : 42 < Z.1 := by omega
  have hM43 : 43 < Z.1 := by omega
  have hM44 : 44 < Z.1 := by omega
  have hM45 : 45 < Z.1 := by omega
  obtain ⟨hok, hp, hq, hm, hd⟩ := hSg s1 hs1
  have hPb := zP_bd hok
  have hn12 := hok.2.2.2.1
  have hq1 := hok.2.1
  refine z_enter (maxL := 4) (ret := (some .boolean)) (lv := [(0, .ref (Z.2.1 41)), (1, .int (nI s1))]) (plainFor_of_name (by decide +kernel)) rfl (fun ls h => by subst h; exact lv_entry [.ref (Z.2.1 41), .int (nI s1)] (n := 4) (Nat.le_of_ble_eq_true rfl)) ?_
  intro p e s m args below meth c hx hb hml hr hlocks hown hts hK hS hsz ls hl
  refine lv_iconst (v := 1) hx hb dX10_isComplete_0 (by decide) ?_
  refine lv_istore_n (lv' := [(2, .int 1), (0, .ref (Z.2.1 41)), (1, .int (nI s1))]) hx hb dX10_isComplete_1 rfl hl (by decide) rfl (fun ls hl => ?_)
  refine lv_iconst (v := 0) hx hb dX10_isComplete_2 (by decide) ?_
  refine lv_istore_n (lv' := [(3, .int 0), (2, .int 1), (0, .ref (Z.2.1 41)), (1, .int (nI s1))]) hx hb dX10_isComplete_3 rfl hl (by decide) rfl (fun ls hl => ?_)
  have hcut_4 : ∀ (nn_4 : Nat) (al : Int32) (j : Nat) (hj : (j : Int) ≤ zP (sg s1)) (hal : zbo al (∀ t : Nat, t < j → zci (sg s1) t < (sg s1).2.2.1)) (hm_4 : (zP (sg s1)).toNat - j < nn_4) (H : Heap) (locs : List Loc) (ls : Array Slot), z_S Z (z_A Z sz) s.heap g H locs → lv_has ls 4 [(0, .ref (Z.2.1 41)), (1, .int (nI s1)), (2, .int al), (3, .int (nI j))] → W p l e (headSpec wsX10_isComplete (z_rm 3 66)).room s m args below meth c H locs 0 0 (MQ below (va_Qi (fun r g1 => g = g1 ∧ zbo r (zcm (sg s1))) (z_B Z) (z_A Z sz)) args s 0 0 (z_A Z sz)) (F0 m 4 ls []) := by
    intro nn_4
    induction nn_4 with
    | zero => intro al j hj hal hm_4 H locs ls hS hl; exact absurd hm_4 (Nat.not_lt_zero _)
    | succ nn_4 ih_4 =>
      intro al j hj hal hm_4 H locs ls hS hl
      refine lv_iload_n hx hb dX10_isComplete_4 rfl (lv_at hl 3 rfl) ?_
      refine lv_aload_n hx hb dX10_isComplete_5 rfl (lv_at hl 0 rfl) ?_
      refine z_get (own := RX10) (C := RX10) (T := TX10) (N := 21) hx hb hts in_X10_isComplete_10 hown hK hS h_m hM41 rfl 0 (by decide) (List.mem_of_getElem? (i := 1) rfl) rfl rfl dX10_isComplete_6 ?_
      refine lv_iload_n hx hb dX10_isComplete_9 rfl (lv_at hl 1 rfl) ?_
      refine z_iald hx hb hK hS h_u hM42 (vp_in_nI (by omega) (by omega)) dX10_isComplete_10 ?_
      rw [show fu (nI s1).toNatClampNeg = fu s1 from by rw [nI_clamp (by omega)]]
      refine z_calli (z_runS (As := [.int (fu s1)]) (rest := [.int (nI j)]) ⟨hx, hb, hml, hown, hts⟩ hK hS ((m_absolute Z g (fu s1)) l _) gX10_isComplete_X10_absolute rfl 1 (by decide +kernel) ⟨Nat.le_of_ble_eq_true rfl, Nat.le_of_ble_eq_true rfl⟩ rfl hl.1 rfl (Nat.le_of_ble_eq_true rfl) dX10_isComplete_11 ⟨Nat.le_of_ble_eq_true rfl, Nat.le_of_ble_eq_true rfl⟩) hS (fun ab_1 g_2 H locs hp_3 hS => ?_)
      obtain ⟨rfl, hp_3⟩ := hp_3
      have hab : ab_1.toInt = zP (sg s1) := by rw [hp_3.1 (by omega), hp]; rfl
      refine lv_icmp_ge (tgt := 42) hx hb dX10_isComplete_14 (by decide) (fun c_4 => ?_) (fun c_4 => ?_)
      · have i_4 := z_le c_4
        rw [nI_toInt (by omega)] at i_4
        have hjP : (j : Int) = zP (sg s1) := by omega
        have hfin : zbo al (zcm (sg s1)) := zbo_c hal ⟨fun h9 r9 => by
          have h1 := Int.emod_nonneg r9 (b := zP (sg s1)) (by omega)
          have h2 := Int.emod_lt_of_pos r9 (b := zP (sg s1)) (by omega)
          have h3 := h9 (r9 % zP (sg s1)).toNat (by omega)
          rw [Int.toNat_of_nonneg h1, zci_mod] at h3; exact h3, fun h9 t ht => h9 t⟩
        refine lv_iload_n hx hb dX10_isComplete_42 rfl (lv_at hl 2 rfl) ?_
        refine z_zret hx hb hr hlocks hS (zbo_n hal) ?_ dX10_isComplete_43
        exact ⟨rfl, hfin⟩
      · have i_4 := z_nle c_4
        rw [nI_toInt (by omega)] at i_4
        refine lv_iload_n hx hb dX10_isComplete_17 rfl (lv_at hl 2 rfl) ?_
        refine lv_if_eq (tgt := 34) hx hb dX10_isComplete_18 (by decide) (fun c_5 => ?_) (fun c_5 => ?_)
        · have i_5 := z_eq c_5
          rw [tI_0] at i_5
          have hz9 := zbo_f hal c_5
          have hal2 : zbo 0 (∀ t : Nat, t < j + 1 → zci (sg s1) t < (sg s1).2.2.1) := zbo_0 (fun h9 => hz9 (fun t ht => h9 t (by omega)))
          refine lv_iconst (v := 0) hx hb dX10_isComplete_34 (by decide) ?_
          refine lv_istore_n (lv' := [(2, .int 0), (0, .ref (Z.2.1 41)), (1, .int (nI s1)), (3, .int (nI j))]) hx hb dX10_isComplete_35 rfl hl (by decide) rfl (fun ls hl => ?_)
          refine lv_iinc (v := (nI (j + 1))) (lv' := [(3, .int (nI (j + 1))), (2, .int 0), (0, .ref (Z.2.1 41)), (1, .int (nI s1))]) hx hb dX10_isComplete_36 hl (k := 3) rfl (nI_1 _) (by decide) rfl (fun ls hl => ?_)
          refine lv_goto (tgt := 4) hx hb dX10_isComplete_39 (by decide) ?_
          exact ih_4 0 (j + 1) (by omega) hal2 (by omega) _ _ _ hS (lv_sub hl [2, 3, 1, 0] rfl)
        · have i_5 := z_ne c_5
          rw [tI_0] at i_5
          have hz9 := zbo_t hal c_5
          refine lv_aload_n hx hb dX10_isComplete_21 rfl (lv_at hl 0 rfl) ?_
          refine lv_iload_n hx hb dX10_isComplete_22 rfl (lv_at hl 1 rfl) ?_
          refine lv_iload_n hx hb dX10_isComplete_23 rfl (lv_at hl 3 rfl) ?_
          refine z_calli (z_runV (As := [.int (nI s1), .int (nI j)]) (rest := []) ⟨hx, hb, hml, hown, hts⟩ hK hS ((m_chosenAt Z g sg hM s1 hs1 (nI j) (by rw [nI_toInt (by omega)]; omega)) l _) gX10_isComplete_X10_chosenAt rfl 2 (by decide +kernel) ⟨Nat.le_of_ble_eq_true rfl, Nat.le_of_ble_eq_true rfl⟩ h_m hM41 rfl rfl hl.1 rfl (Nat.le_of_ble_eq_true rfl) dX10_isComplete_24 ⟨Nat.le_of_ble_eq_true rfl, Nat.le_of_ble_eq_true rfl⟩) hS (fun ra g_6 H locs hp_7 hS => ?_)
          obtain ⟨rfl, hp_7⟩ := hp_7
          have hra := hp_7
          rw [nI_toInt (by omega)] at hra
          refine lv_if_lt (tgt := 34) hx hb dX10_isComplete_27 (by decide) (fun c_8 => ?_) (fun c_8 => ?_)
          · have i_8 := z_lt c_8
            rw [tI_0] at i_8
            have hal2 : zbo 0 (∀ t : Nat, t < j + 1 → zci (sg s1) t < (sg s1).2.2.1) := zbo_0 (fun h9 => by
              have h8 := h9 j (by omega)
              rcases hra with ⟨q1, q2⟩ | ⟨q1, q2⟩
              · rw [q2, nI_toInt (by omega)] at i_8; omega
              · exact q1 h8)
            refine lv_iconst (v := 0) hx hb dX10_isComplete_34 (by decide) ?_
            refine lv_istore_n (lv' := [(2, .int 0), (0, .ref (Z.2.1 41)), (1, .int (nI s1)), (3, .int (nI j))]) hx hb dX10_isComplete_35 rfl hl (by decide) rfl (fun ls hl => ?_)
            refine lv_iinc (v := (nI (j + 1))) (lv' := [(3, .int (nI (j + 1))), (2, .int 0), (0, .ref (Z.2.1 41)), (1, .int (nI s1))]) hx hb dX10_isComplete_36 hl (k := 3) rfl (nI_1 _) (by decide) rfl (fun ls hl => ?_)
            refine lv_goto (tgt := 4) hx hb dX10_isComplete_39 (by decide) ?_
            exact ih_4 0 (j + 1) (by omega) hal2 (by omega) _ _ _ hS (lv_sub hl [2, 3, 1, 0] rfl)
          · have i_8 := z_nlt c_8
            rw [tI_0] at i_8
            have hal2 : zbo 1 (∀ t : Nat, t < j + 1 → zci (sg s1) t < (sg s1).2.2.1) := zbo_1 (fun t ht => by
              rcases Nat.lt_or_ge t j with h9 | h9
              · exact hz9 t h9
              · have : t = j := by omega
                subst this
                rcases hra with ⟨q1, q2⟩ | ⟨q1, q2⟩
                · exact q1
                · exfalso; rw [q2, tI_m1] at i_8; omega)
            refine lv_iconst (v := 1) hx hb dX10_isComplete_30 (by decide) ?_
            refine lv_goto (tgt := 35) hx hb dX10_isComplete_31 (by decide) ?_
            refine lv_istore_n (lv' := [(2, .int 1), (0, .ref (Z.2.1 41)), (1, .int (nI s1)), (3, .int (nI j))]) hx hb dX10_isComplete_35 rfl hl (by decide) rfl (fun ls hl => ?_)
            refine lv_iinc (v := (nI (j + 1))) (lv' := [(3, .int (nI (j + 1))), (2, .int 1), (0, .ref (Z.2.1 41)), (1, .int (nI s1))]) hx hb dX10_isComplete_36 hl (k := 3) rfl (nI_1 _) (by decide) rfl (fun ls hl => ?_)
            refine lv_goto (tgt := 4) hx hb dX10_isComplete_39 (by decide) ?_
            exact ih_4 1 (j + 1) (by omega) hal2 (by omega) _ _ _ hS (lv_sub hl [2, 3, 1, 0] rfl)
  exact hcut_4 ((zP (sg s1)).toNat - 0 + 1) 1 0 (by omega) (zbo_1 (fun t ht => absurd ht (Nat.not_lt_zero t))) (Nat.lt_succ_self _) _ _ _ hS (lv_sub hl [2, 3, 1, 0] rfl)

