set_option maxHeartbeats 4000000 in
set_option maxRecDepth 100000 in
theorem k_floorMod (Z : zT) (g : Nat → va_E) (x y : Int32) (hy : 2 ≤ y.toInt) : z_Mi Z yJ9_floorMod_7cf53 wsJ9_floorMod_7cf53 0 0 [.int x, .int y] g (fun r g1 => g = g1 ∧ r.toInt = x.toInt % y.toInt) := by
  intro l sz
  refine z_enter (maxL := 3) (ret := (some .int)) (lv := [(0, .int x), (1, .int y)]) (by decide +kernel) rfl (fun ls h => by subst h; exact lv_entry [.int x, .int y] (n := 3) (Nat.le_of_ble_eq_true rfl)) ?_
  intro p e s m args below meth c hx hb hml hr hlocks hown hts hK hS hsz ls hl
  refine lv_iload_n hx hb dJ9_floorMod_7cf53_0 rfl (lv_at hl 0 rfl) ?_
  refine lv_iload_n hx hb dJ9_floorMod_7cf53_1 rfl (lv_at hl 1 rfl) ?_
  refine lv_irem hx hb dJ9_floorMod_7cf53_2 (fun h => by rw [h] at hy; exact absurd hy (by decide)) ?_
  refine lv_topi (fun tm etm => ?_)
  have htm : tm.toInt = x.toInt.tmod y.toInt := by rw [etm]; exact z_rem (Or.inl hy)
  have hem := z_emod_tmod (a := x.toInt) (y := y.toInt) (by omega)
  have hlt := z_tmod_sign x.toInt y.toInt (by omega)
  have hxn := z_xor_neg x y
  have hyr := fb_rng y
  refine lv_istore_n (lv' := [(2, .int tm), (0, .int x), (1, .int y)]) hx hb dJ9_floorMod_7cf53_3 rfl hl (by decide) rfl (fun ls hl => ?_)
  refine lv_iload_n hx hb dJ9_floorMod_7cf53_4 rfl (lv_at hl 1 rfl) ?_
  refine lv_iload_n hx hb dJ9_floorMod_7cf53_5 rfl (lv_at hl 2 rfl) ?_
  refine lv_ixor hx hb dJ9_floorMod_7cf53_6 ?_
  refine lv_if_ge (tgt := 18) hx hb dJ9_floorMod_7cf53_7 (by decide) (fun c_1 => ?_) (fun c_1 => ?_)
  · have i_1 := z_le c_1
    rw [tI_0] at i_1
    refine lv_iload_n hx hb dJ9_floorMod_7cf53_18 rfl (lv_at hl 0 rfl) ?_
    refine z_iret hx hb hr hlocks hS ?_ dJ9_floorMod_7cf53_19
    exact ⟨rfl, by split at hem <;> omega⟩
  · have i_1 := z_nle c_1
    rw [tI_0] at i_1
    refine lv_iload_n hx hb dJ9_floorMod_7cf53_10 rfl (lv_at hl 0 rfl) ?_
    refine lv_if_eq (tgt := 18) hx hb dJ9_floorMod_7cf53_11 (by decide) (fun c_2 => ?_) (fun c_2 => ?_)
    · have i_2 := z_eq c_2
      rw [tI_0] at i_2
      refine lv_iload_n hx hb dJ9_floorMod_7cf53_18 rfl (lv_at hl 0 rfl) ?_
      refine z_iret hx hb hr hlocks hS ?_ dJ9_floorMod_7cf53_19
      exact ⟨rfl, by split at hem <;> omega⟩
    · have i_2 := z_ne c_2
      rw [tI_0] at i_2
      refine lv_iload_n hx hb dJ9_floorMod_7cf53_14 rfl (lv_at hl 0 rfl) ?_
      refine lv_iload_n hx hb dJ9_floorMod_7cf53_15 rfl (lv_at hl 2 rfl) ?_
      refine lv_iadd hx hb dJ9_floorMod_7cf53_16 ?_
      refine z_iret hx hb hr hlocks hS ?_ dJ9_floorMod_7cf53_17
      exact ⟨rfl, by rw [fb_addI (by omega) (by omega)]; split at hem <;> omega⟩

theorem in_X0_listed_0 : ∀ w ∈ wsX00, w ∈ wsX0_listed := by decide +kernel
set_option maxHeartbeats 4000000 in
set_option maxRecDepth 100000 in
theorem k_listed (Z : zT) (g : Nat → va_E) (k : Nat) (b : zb) (hB : z_b0 Z g k b) (j : Nat) (hj : j < b.2.2.1) : z_Mi Z yX0_listed wsX0_listed 0 0 [.ref (Z.2.1 k), .int (nI j)] g (fun r g1 => g = g1 ∧ r.toInt = b.2.2.2 j) := by
  intro l sz
  obtain ⟨pb, qb, res, cmp, dg, ch, h_b, h_d, h_c, hkN, hok, hp, hq, hres, hdg⟩ := id hB
  have hk0 : k < Z.1 := by omega
  have hk1 : k + 1 < Z.1 := by omega
  have hk2 : k + 2 < Z.1 := by omega
  have hPb := zP_bd hok
  have hn12 := hok.2.2.2.1
  have hq1 := hok.2.1
  refine z_enter (maxL := 2) (ret := (some .int)) (lv := [(0, .ref (Z.2.1 k)), (1, .int (nI j))]) (plainFor_of_name (by decide +kernel)) rfl (fun ls h => by subst h; exact lv_entry [.ref (Z.2.1 k), .int (nI j)] (n := 2) (Nat.le_of_ble_eq_true rfl)) ?_
  intro p e s m args below meth c hx hb hml hr hlocks hown hts hK hS hsz ls hl
  refine lv_iload_n hx hb dX0_listed_0 rfl (lv_at hl 1 rfl) ?_
  refine lv_if_lt (tgt := 22) hx hb dX0_listed_1 (by decide) (fun c_1 => ?_) (fun c_1 => ?_)
  · have i_1 := z_lt c_1
    rw [nI_toInt (by omega)] at i_1
    rw [tI_0] at i_1
    exfalso; omega
  · have i_1 := z_nlt c_1
    rw [nI_toInt (by omega)] at i_1
    rw [tI_0] at i_1
    refine lv_iload_n hx hb dX0_listed_4 rfl (lv_at hl 1 rfl) ?_
    refine lv_aload_n hx hb dX0_listed_5 rfl (lv_at hl 0 rfl) ?_
    refine z_get (own := RX0) (C := RX0) (T := TX0) (N := 7) hx hb hts in_X0_listed_0 hown hK hS h_b hk0 rfl 5 (by decide) (List.mem_of_getElem? (i := 1) rfl) rfl rfl dX0_listed_6 ?_
    refine z_alen (v := 12) hx hb hK hS 0 h_d hk1 rfl rfl dX0_listed_9 ?_
    refine lv_icmp_ge (tgt := 22) hx hb dX0_listed_10 (by decide) (fun c_2 => ?_) (fun c_2 => ?_)
    · have i_2 := z_le c_2
      rw [nI_toInt (by omega)] at i_2
      rw [tI_12] at i_2
      exfalso; omega
    · have i_2 := z_nle c_2
      rw [nI_toInt (by omega)] at i_2
      rw [tI_12] at i_2
      refine lv_aload_n hx hb dX0_listed_13 rfl (lv_at hl 0 rfl) ?_
      refine z_get (own := RX0) (C := RX0) (T := TX0) (N := 7) hx hb hts in_X0_listed_0 hown hK hS h_b hk0 rfl 5 (by decide) (List.mem_of_getElem? (i := 1) rfl) rfl rfl dX0_listed_14 ?_
      refine lv_iload_n hx hb dX0_listed_17 rfl (lv_at hl 1 rfl) ?_
      refine z_iald hx hb hK hS h_d hk1 (vp_in_nI (by omega) (by omega)) dX0_listed_18 ?_
      rw [show dg (nI j).toNatClampNeg = dg j from by rw [nI_clamp (by omega)]]
      refine lv_goto (tgt := 23) hx hb dX0_listed_19 (by decide) ?_
      refine z_iret hx hb hr hlocks hS ?_ dX0_listed_23
      exact ⟨rfl, hdg j hj⟩

theorem in_X0_residueOf_0 : ∀ w ∈ wsX00, w ∈ wsX0_residueOf := by decide +kernel
set_option maxHeartbeats 4000000 in
set_option maxRecDepth 100000 in
theorem k_residueOf (Z : zT) (g : Nat → va_E) (k : Nat) (b : zb) (hB : z_b0 Z g k b) (x : Int32) : z_Mi Z yX0_residueOf wsX0_residueOf 1 22 [.ref (Z.2.1 k), .int x] g (fun r g1 => g = g1 ∧ r.toInt = x.toInt % zP b) := by
  intro l sz
  obtain ⟨pb, qb, res, cmp, dg, ch, h_b, h_d, h_c, hkN, hok, hp, hq, hres, hdg⟩ := id hB
  have hk0 : k < Z.1 := by omega
  have hk1 : k + 1 < Z.1 := by omega
  have hk2 : k + 2 < Z.1 := by omega
  have hPb := zP_bd hok
  have hn12 := hok.2.2.2.1
  have hq1 := hok.2.1
  refine z_enter (maxL := 2) (ret := (some .int)) (lv := [(0, .ref (Z.2.1 k)), (1, .int x)]) (plainFor_of_name (by decide +kernel)) rfl (fun ls h => by subst h; exact lv_entry [.ref (Z.2.1 k), .int x] (n := 2) (Nat.le_of_ble_eq_true rfl)) ?_
  intro p e s m args below meth c hx hb hml hr hlocks hown hts hK hS hsz ls hl
  refine lv_aload_n hx hb dX0_residueOf_0 rfl (lv_at hl 0 rfl) ?_
  refine z_get (own := RX0) (C := RX0) (T := TX0) (N := 7) hx hb hts in_X0_residueOf_0 hown hK hS h_b hk0 rfl 2 (by decide) (List.mem_of_getElem? (i := 1) rfl) rfl rfl dX0_residueOf_1 ?_
  refine lv_if_ne (tgt := 11) hx hb dX0_residueOf_4 (by decide) (fun c_1 => ?_) (fun c_1 => ?_)
  · have i_1 := z_ne c_1
    rw [tI_0] at i_1
    refine lv_iload_n hx hb dX0_residueOf_11 rfl (lv_at hl 1 rfl) ?_
    refine lv_aload_n hx hb dX0_residueOf_12 rfl (lv_at hl 0 rfl) ?_
    refine z_get (own := RX0) (C := RX0) (T := TX0) (N := 7) hx hb hts in_X0_residueOf_0 hown hK hS h_b hk0 rfl 2 (by decide) (List.mem_of_getElem? (i := 1) rfl) rfl rfl dX0_residueOf_13 ?_
    refine z_calli (z_runS (As := [.int x, .int res]) (rest := []) ⟨hx, hb, hml, hown, hts⟩ hK hS ((k_floorMod Z g x res (by omega)) l _) gX0_residueOf_J9_floorMod_7cf53 rfl 2 (by decide +kernel) ⟨Nat.le_of_ble_eq_true rfl, Nat.le_of_ble_eq_true rfl⟩ rfl hl.1 rfl (Nat.le_of_ble_eq_true rfl) dX0_residueOf_16 ⟨Nat.le_of_ble_eq_true rfl, Nat.le_of_ble_eq_true rfl⟩) hS (fun r_2 g_3 H locs hp_4 hS => ?_)
    obtain ⟨rfl, hp_4⟩ := hp_4
    have hfm := hp_4
    refine z_iret hx hb hr hlocks hS ?_ dX0_residueOf_19
    exact ⟨rfl, by rw [hfm, hres]⟩
  · have i_1 := z_eq c_1
    rw [tI_0] at i_1
    exfalso; omega

theorem in_X0_digitFor_0 : ∀ w ∈ wsX00, w ∈ wsX0_digitFor := by decide +kernel
set_option maxHeartbeats 4000000 in
set_option maxRecDepth 100000 in
theorem k_digitFor (Z : zT) (g : Nat → va_E) (k : Nat) (b : zb) (hB : z_b1 Z g k b) (x : Int32) : z_Mi Z yX0_digitFor wsX0_digitFor 1 22 [.ref (Z.2.1 k), .int x] g (fun r g1 => g = g1 ∧ r.toInt = zch b x.toInt) := by
  intro l sz
  obtain ⟨pb, qb, res, cmp, dg, ch, ⟨h_b, h_d, h_c, hkN, hok, hp, hq, hres, hdg⟩, hch⟩ := id hB
  have hk0 : k < Z.1 := by omega
  have hk1 : k + 1 < Z.1 := by omega
  have hk2 : k + 2 < Z.1 := by omega
  have hPb := zP_bd hok
  have hn12 := hok.2.2.2.1
  have hq1 := hok.2.1
  refine z_enter (maxL := 3) (ret := (some .int)) (lv := [(0, .ref (Z.2.1 k)), (1, .int x)]) (plainFor_of_name (by decide +kernel)) rfl (fun ls h => by subst h; exact lv_entry [.ref (Z.2.1 k), .int x] (n := 3) (Nat.le_of_ble_eq_true rfl)) ?_
  intro p e s m args below meth c hx hb hml hr hlocks hown hts hK hS hsz ls hl
  refine lv_aload_n hx hb dX0_digitFor_0 rfl (lv_at hl 0 rfl) ?_
  refine z_get (own := RX0) (C := RX0) (T := TX0) (N := 7) hx hb hts in_X0_digitFor_0 hown hK hS h_b hk0 rfl 2 (by decide) (List.mem_of_getElem? (i := 1) rfl) rfl rfl dX0_digitFor_1 ?_
  refine lv_if_ne (tgt := 11) hx hb dX0_digitFor_4 (by decide) (fun c_1 => ?_) (fun c_1 => ?_)
  · have i_1 := z_ne c_1
    rw [tI_0] at i_1
    refine lv_iload_n hx hb dX0_digitFor_11 rfl (lv_at hl 1 rfl) ?_
    refine lv_aload_n hx hb dX0_digitFor_12 rfl (lv_at hl 0 rfl) ?_
    refine z_get (own := RX0) (C := RX0) (T := TX0) (N := 7) hx hb hts in_X0_digitFor_0 hown hK hS h_b hk0 rfl 2 (by decide) (List.mem_of_getElem? (i := 1) rfl) rfl rfl dX0_digitFor_13 ?_
    refine z_calli (z_runS (As := [.int x, .int res]) (rest := []) ⟨hx, hb, hml, hown, hts⟩ hK hS ((k_floorMod Z g x res (by omega)) l _) gX0_digitFor_J9_floorMod_7cf53 rfl 2 (by decide +kernel) ⟨Nat.le_of_ble_eq_true rfl, Nat.le_of_ble_eq_true rfl⟩ rfl hl.1 rfl (Nat.le_of_ble_eq_true rfl) dX0_digitFor_16 ⟨Nat.le_of_ble_eq_true rfl, Nat.le_of_ble_eq_true rfl⟩) hS (fun rr g_2 H locs hp_3 hS => ?_)
    obtain ⟨rfl, hp_3⟩ := hp_3
    rw [hres] at hp_3
    have h0 := Int.emod_nonneg x.toInt (b := zP b) (by omega)
    have h1 := Int.emod_lt_of_pos x.toInt (b := zP b) (by omega)
    have hcr := hch (x.toInt % zP b).toNat (by omega)
    rw [Int.toNat_of_nonneg h0, if_pos h1, zch_mod] at hcr
    refine lv_istore_n (lv' := [(2, .int rr), (0, .ref (Z.2.1 k)), (1, .int x)]) hx hb dX0_digitFor_19 rfl hl (by decide) rfl (fun ls hl => ?_)
    refine lv_iload_n hx hb dX0_digitFor_20 rfl (lv_at hl 0 rfl) ?_
    refine lv_if_lt (tgt := 42) hx hb dX0_digitFor_21 (by decide) (fun c_4 => ?_) (fun c_4 => ?_)
    · have i_4 := z_lt c_4
      rw [tI_0] at i_4
      exfalso; omega
    · have i_4 := z_nlt c_4
      rw [tI_0] at i_4
      refine lv_iload_n hx hb dX0_digitFor_24 rfl (lv_at hl 0 rfl) ?_
      refine lv_aload_n hx hb dX0_digitFor_25 rfl (lv_at hl 1 rfl) ?_
      refine z_get (own := RX0) (C := RX0) (T := TX0) (N := 7) hx hb hts in_X0_digitFor_0 hown hK hS h_b hk0 rfl 6 (by decide) (List.mem_of_getElem? (i := 2) rfl) rfl rfl dX0_digitFor_26 ?_
      refine z_alen (v := 10) hx hb hK hS 0 h_c hk2 rfl rfl dX0_digitFor_29 ?_
      refine lv_icmp_ge (tgt := 42) hx hb dX0_digitFor_30 (by decide) (fun c_5 => ?_) (fun c_5 => ?_)
      · have i_5 := z_le c_5
        rw [tI_10] at i_5
        exfalso; omega
      · have i_5 := z_nle c_5
        rw [tI_10] at i_5
        refine lv_aload_n hx hb dX0_digitFor_33 rfl (lv_at hl 1 rfl) ?_
        refine z_get (own := RX0) (C := RX0) (T := TX0) (N := 7) hx hb hts in_X0_digitFor_0 hown hK hS h_b hk0 rfl 6 (by decide) (List.mem_of_getElem? (i := 2) rfl) rfl rfl dX0_digitFor_34 ?_
        refine lv_iload_n hx hb dX0_digitFor_37 rfl (lv_at hl 0 rfl) ?_
        refine z_iald hx hb hK hS h_c hk2 (vp_in_iff.mpr (by omega)) dX0_digitFor_38 ?_
        refine lv_goto (tgt := 44) hx hb dX0_digitFor_39 (by decide) ?_
        refine z_iret hx hb hr hlocks hS ?_ dX0_digitFor_44
        exact ⟨rfl, by rw [← hcr]; congr 2; show rr.toInt.toNat = _; omega⟩
  · have i_1 := z_eq c_1
    rw [tI_0] at i_1
    exfalso; omega

theorem in_X0_divides_0 : ∀ w ∈ wsX00, w ∈ wsX0_divides := by decide +kernel
set_option maxHeartbeats 4000000 in
set_option maxRecDepth 100000 in
theorem k_divides (Z : zT) (g : Nat → va_E) (k : Nat) (b : zb) (hB : z_b0 Z g k b) (x : Int32) : z_Mi Z yX0_divides wsX0_divides 0 0 [.ref (Z.2.1 k), .int x] g (fun r g1 => g = g1 ∧ zbo r (b.1 ∣ x.toInt)) := by
  intro l sz
  obtain ⟨pb, qb, res, cmp, dg, ch, h_b, h_d, h_c, hkN, hok, hp, hq, hres, hdg⟩ := id hB
  have hk0 : k < Z.1 := by omega
  have hk1 : k + 1 < Z.1 := by omega
  have hk2 : k + 2 < Z.1 := by omega
  have hPb := zP_bd hok
  have hn12 := hok.2.2.2.1
  have hq1 := hok.2.1
  refine z_enter (maxL := 2) (ret := (some .boolean)) (lv := [(0, .ref (Z.2.1 k)), (1, .int x)]) (plainFor_of_name (by decide +kernel)) rfl (fun ls h => by subst h; exact lv_entry [.ref (Z.2.1 k), .int x] (n := 2) (Nat.le_of_ble_eq_true rfl)) ?_
  intro p e s m args below meth c hx hb hml hr hlocks hown hts hK hS hsz ls hl
  refine lv_aload_n hx hb dX0_divides_0 rfl (lv_at hl 0 rfl) ?_
  refine z_get (own := RX0) (C := RX0) (T := TX0) (N := 7) hx hb hts in_X0_divides_0 hown hK hS h_b hk0 rfl 0 (by decide) (List.mem_of_getElem? (i := 1) rfl) rfl rfl dX0_divides_1 ?_
  refine lv_if_eq (tgt := 20) hx hb dX0_divides_4 (by decide) (fun c_1 => ?_) (fun c_1 => ?_)
  · have i_1 := z_eq c_1
    rw [tI_0] at i_1
    exfalso; omega
  · have i_1 := z_ne c_1
    rw [tI_0] at i_1
    refine lv_iload_n hx hb dX0_divides_7 rfl (lv_at hl 1 rfl) ?_
    refine lv_aload_n hx hb dX0_divides_8 rfl (lv_at hl 0 rfl) ?_
    refine z_get (own := RX0) (C := RX0) (T := TX0) (N := 7) hx hb hts in_X0_divides_0 hown hK hS h_b hk0 rfl 0 (by decide) (List.mem_of_getElem? (i := 1) rfl) rfl rfl dX0_divides_9 ?_
    refine lv_irem hx hb dX0_divides_12 (fun h => by rw [h] at hp; have : (0 : Int32).toInt = 0 := rfl; omega) ?_
    refine lv_if_ne (tgt := 20) hx hb dX0_divides_13 (by decide) (fun c_2 => ?_) (fun c_2 => ?_)
    · have i_2 := z_ne c_2
      rw [tI_0] at i_2
      have hrm := z_rem (x := x) (y := pb) (by omega)
      rw [hrm] at i_2
      have hnd : ¬ b.1 ∣ x.toInt := fun q => i_2 (by rw [hp]; exact z_tmod0.mpr q)
      refine lv_iconst (v := 0) hx hb dX0_divides_20 (by decide) ?_
      refine z_zret hx hb hr hlocks hS (by decide) ?_ dX0_divides_21
      exact ⟨rfl, zbo_0 hnd⟩
    · have i_2 := z_eq c_2
      rw [tI_0] at i_2
      have hrm := z_rem (x := x) (y := pb) (by omega)
      rw [hrm, hp] at i_2
      have hnd : b.1 ∣ x.toInt := z_tmod0.mp i_2
      refine lv_iconst (v := 1) hx hb dX0_divides_16 (by decide) ?_
      refine lv_goto (tgt := 21) hx hb dX0_divides_17 (by decide) ?_
      refine z_zret hx hb hr hlocks hS (by decide) ?_ dX0_divides_21
      exact ⟨rfl, zbo_1 hnd⟩

theorem in_X0_quotient_0 : ∀ w ∈ wsX00, w ∈ wsX0_quotient := by decide +kernel
set_option maxHeartbeats 4000000 in
set_option maxRecDepth 100000 in
theorem k_quotient (Z : zT) (g : Nat → va_E) (k : Nat) (b : zb) (hB : z_b0 Z g k b) (x : Int32) : z_Mi Z yX0_quotient wsX0_quotient 0 0 [.ref (Z.2.1 k), .int x] g (fun r g1 => g = g1 ∧ r.toInt = x.toInt.tdiv b.1) := by
  intro l sz
  obtain ⟨pb, qb, res, cmp, dg, ch, h_b, h_d, h_c, hkN, hok, hp, hq, hres, hdg⟩ := id hB
  have hk0 : k < Z.1 := by omega
  have hk1 : k + 1 < Z.1 := by omega
  have hk2 : k + 2 < Z.1 := by omega
  have hPb := zP_bd hok
  have hn12 := hok.2.2.2.1
  have hq1 := hok.2.1
  refine z_enter (maxL := 2) (ret := (some .int)) (lv := [(0, .ref (Z.2.1 k)), (1, .int x)]) (plainFor_of_name (by decide +kernel)) rfl (fun ls h => by subst h; exact lv_entry [.ref (Z.2.1 k), .int x] (n := 2) (Nat.le_of_ble_eq_true rfl)) ?_
  intro p e s m args below meth c hx hb hml hr hlocks hown hts hK hS hsz ls hl
  refine lv_aload_n hx hb dX0_quotient_0 rfl (lv_at hl 0 rfl) ?_
  refine z_get (own := RX0) (C := RX0) (T := TX0) (N := 7) hx hb hts in_X0_quotient_0 hown hK hS h_b hk0 rfl 0 (by decide) (List.mem_of_getElem? (i := 1) rfl) rfl rfl dX0_quotient_1 ?_
  refine lv_if_ne (tgt := 11) hx hb dX0_quotient_4 (by decide) (fun c_1 => ?_) (fun c_1 => ?_)
  · have i_1 := z_ne c_1
    rw [tI_0] at i_1
    refine lv_iload_n hx hb dX0_quotient_11 rfl (lv_at hl 1 rfl) ?_
    refine lv_aload_n hx hb dX0_quotient_12 rfl (lv_at hl 0 rfl) ?_
    refine z_get (own := RX0) (C := RX0) (T := TX0) (N := 7) hx hb hts in_X0_quotient_0 hown hK hS h_b hk0 rfl 0 (by decide) (List.mem_of_getElem? (i := 1) rfl) rfl rfl dX0_quotient_13 ?_
    refine lv_idiv hx hb dX0_quotient_16 (fun h => by rw [h] at hp; have : (0 : Int32).toInt = 0 := rfl; omega) ?_
    refine z_iret hx hb hr hlocks hS ?_ dX0_quotient_17
    exact ⟨rfl, by rw [z_div (by omega), hp]⟩
  · have i_1 := z_eq c_1
    rw [tI_0] at i_1
    exfalso; omega

theorem in_X0_carryBehind_0 : ∀ w ∈ wsX00, w ∈ wsX0_carryBehind := by decide +kernel
set_option maxHeartbeats 4000000 in
set_option maxRecDepth 100000 in
theorem k_carryBehind (Z : zT) (g : Nat → va_E) (k : Nat) (b : zb) (hB : z_b1 Z g k b) (x t : Int32) (hcm : zcm b) (hx : -200000 ≤ x.toInt ∧ x.toInt ≤ 200000) (ht : -4000 ≤ t.toInt ∧ t.toInt ≤ 4000) : z_Mi Z yX0_carryBehind wsX0_carryBehind 2 44 [.ref (Z.2.1 k), .int x, .int t] g (fun r g1 => g = g1 ∧ r.toInt = zcr b x.toInt t.toInt) := by
  intro l sz
  obtain ⟨pb, qb, res, cmp, dg, ch, ⟨h_b, h_d, h_c, hkN, hok, hp, hq, hres, hdg⟩, hch⟩ := id hB
  have hk0 : k < Z.1 := by omega
  have hk1 : k + 1 < Z.1 := by omega
  have hk2 : k + 2 < Z.1 := by omega
  have hPb := zP_bd hok
  have hn12 := hok.2.2.2.1
  have hq1 := hok.2.1
  refine z_enter (maxL := 4) (ret := (some .int)) (lv := [(0, .ref (Z.2.1 k)), (1, .int x), (2, .int t)]) (plainFor_of_name (by decide +kernel)) rfl (fun ls h => by subst h; exact lv_entry [.ref (Z.2.1 k), .int x, .int t] (n := 4) (Nat.le_of_ble_eq_true rfl)) ?_
  intro p e s m args below meth c hx hb hml hr hlocks hown hts hK hS hsz ls hl
  refine lv_iload_n hx hb dX0_carryBehind_0 rfl (lv_at hl 2 rfl) ?_
  refine lv_aload_n hx hb dX0_carryBehind_1 rfl (lv_at hl 0 rfl) ?_
  refine z_get (own := RX0) (C := RX0) (T := TX0) (N := 7) hx hb hts in_X0_carryBehind_0 hown hK hS h_b hk0 rfl 1 (by decide) (List.mem_of_getElem? (i := 1) rfl) rfl rfl dX0_carryBehind_2 ?_
  refine lv_iload_n hx hb dX0_carryBehind_5 rfl (lv_at hl 1 rfl) ?_
  refine lv_imul hx hb dX0_carryBehind_6 ?_
  refine lv_iadd hx hb dX0_carryBehind_7 ?_
  refine lv_topi (fun u eu => ?_)
  have hmb := z_mul_bd (x := b.2.1) (y := x.toInt) (a := 9) (b := 200000) (by omega) (by omega) (by omega) (by omega)
  have hu1 : (qb * x).toInt = b.2.1 * x.toInt := by rw [fb_mulI (by rw [hq]; omega) (by rw [hq]; omega), hq]
  have hu : u.toInt = t.toInt + b.2.1 * x.toInt := by rw [eu, fb_addI (by omega) (by omega), hu1]
  refine lv_istore_n (lv' := [(3, .int u), (0, .ref (Z.2.1 k)), (1, .int x), (2, .int t)]) hx hb dX0_carryBehind_8 rfl hl (by decide) rfl (fun ls hl => ?_)
  refine lv_aload_n hx hb dX0_carryBehind_9 rfl (lv_at hl 1 rfl) ?_
  refine lv_iload_n hx hb dX0_carryBehind_10 rfl (lv_at hl 0 rfl) ?_
  refine lv_aload_n hx hb dX0_carryBehind_11 rfl (lv_at hl 1 rfl) ?_
  refine lv_iload_n hx hb dX0_carryBehind_12 rfl (lv_at hl 0 rfl) ?_
  refine z_calli (z_runV (As := [.int u]) (rest := [.int u, .ref (Z.2.1 k)]) ⟨hx, hb, hml, hown, hts⟩ hK hS ((k_digitFor Z g k b hB u) l _) gX0_carryBehind_X0_digitFor rfl 1 (by decide +kernel) ⟨Nat.le_of_ble_eq_true rfl, Nat.le_of_ble_eq_true rfl⟩ h_b hk0 rfl rfl hl.1 rfl (Nat.le_of_ble_eq_true rfl) dX0_carryBehind_13 ⟨Nat.le_of_ble_eq_true rfl, Nat.le_of_ble_eq_true rfl⟩) hS (fun dd g_1 H locs hp_2 hS => ?_)
  obtain ⟨rfl, hp_2⟩ := hp_2
  rw [hu] at hp_2
  have hbd := zch_bd hok (hcm (t.toInt + b.2.1 * x.toInt))
  refine lv_isub hx hb dX0_carryBehind_16 ?_
  have hsb : (u - dd).toInt = t.toInt + b.2.1 * x.toInt - zch b (t.toInt + b.2.1 * x.toInt) := by rw [fb_subI (by omega) (by omega)]; omega
  refine z_calli (z_runV (As := [.int (u - dd)]) (rest := []) ⟨hx, hb, hml, hown, hts⟩ hK hS ((k_quotient Z g k b hB.b0 (u - dd)) l _) gX0_carryBehind_X0_quotient rfl 1 (by decide +kernel) ⟨Nat.le_of_ble_eq_true rfl, Nat.le_of_ble_eq_true rfl⟩ h_b hk0 rfl rfl hl.1 rfl (Nat.le_of_ble_eq_true rfl) dX0_carryBehind_17 ⟨Nat.le_of_ble_eq_true rfl, Nat.le_of_ble_eq_true rfl⟩) hS (fun rr g_3 H locs hp_4 hS => ?_)
  obtain ⟨rfl, hp_4⟩ := hp_4
  rw [hsb] at hp_4
  refine z_iret hx hb hr hlocks hS ?_ dX0_carryBehind_20
  exact ⟨rfl, by assumption⟩

set_option maxHeartbeats 4000000 in
set_option maxRecDepth 100000 in
theorem k_keepsZero (Z : zT) (g : Nat → va_E) (k : Nat) (b : zb) (hB : z_b1 Z g k b) : z_Mi Z yX0_keepsZero wsX0_keepsZero 2 44 [.ref (Z.2.1 k)] g (fun r g1 => g = g1 ∧ zbo r (zch b 0 = 0)) := by
  intro l sz
  obtain ⟨pb, qb, res, cmp, dg, ch, ⟨h_b, h_d, h_c, hkN, hok, hp, hq, hres, hdg⟩, hch⟩ := id hB
  have hk0 : k < Z.1 := by omega
  have hk1 : k + 1 < Z.1 := by omega
  have hk2 : k + 2 < Z.1 := by omega
  have hPb := zP_bd hok
  have hn12 := hok.2.2.2.1
  have hq1 := hok.2.1
  refine z_enter (maxL := 1) (ret := (some .boolean)) (lv := [(0, .ref (Z.2.1 k))]) (plainFor_of_name (by decide +kernel)) rfl (fun ls h => by subst h; exact lv_entry [.ref (Z.2.1 k)] (n := 1) (Nat.le_of_ble_eq_true rfl)) ?_
  intro p e s m args below meth c hx hb hml hr hlocks hown hts hK hS hsz ls hl
  refine lv_aload_n hx hb dX0_keepsZero_0 rfl (lv_at hl 0 rfl) ?_
  refine lv_iconst (v := 0) hx hb dX0_keepsZero_1 (by decide) ?_
  refine z_calli (z_runV (As := [.int 0]) (rest := []) ⟨hx, hb, hml, hown, hts⟩ hK hS ((k_digitFor Z g k b hB 0) l _) gX0_keepsZero_X0_digitFor rfl 1 (by decide +kernel) ⟨Nat.le_of_ble_eq_true rfl, Nat.le_of_ble_eq_true rfl⟩ h_b hk0 rfl rfl hl.1 rfl (Nat.le_of_ble_eq_true rfl) dX0_keepsZero_2 ⟨Nat.le_of_ble_eq_true rfl, Nat.le_of_ble_eq_true rfl⟩) hS (fun rr g_1 H locs hp_2 hS => ?_)
  obtain ⟨rfl, hp_2⟩ := hp_2
  rw [tI_0] at hp_2
  refine lv_if_ne (tgt := 12) hx hb dX0_keepsZero_5 (by decide) (fun c_3 => ?_) (fun c_3 => ?_)
  · have i_3 := z_ne c_3
    rw [tI_0] at i_3
    refine lv_iconst (v := 0) hx hb dX0_keepsZero_12 (by decide) ?_
    refine z_zret hx hb hr hlocks hS (by decide) ?_ dX0_keepsZero_13
    exact ⟨rfl, zbo_0 (by omega)⟩
  · have i_3 := z_eq c_3
    rw [tI_0] at i_3
    refine lv_iconst (v := 1) hx hb dX0_keepsZero_8 (by decide) ?_
    refine lv_goto (tgt := 13) hx hb dX0_keepsZero_9 (by decide) ?_
    refine z_zret hx hb hr hlocks hS (by decide) ?_ dX0_keepsZero_13
    exact ⟨rfl, zbo_1 (by omega)⟩

theorem in_X0_placeOf_0 : ∀ w ∈ wsX00, w ∈ wsX0_placeOf := by decide +kernel
set_option maxHeartbeats 4000000 in
set_option maxRecDepth 100000 in
theorem k_placeOf (Z : zT) (g : Nat → va_E) (k : Nat) (b : zb) (hB : z_b0 Z g k b) (x : Int32) : z_Mi Z yX0_placeOf wsX0_placeOf 0 0 [.ref (Z.2.1 k), .int x] g (fun r g1 => g = g1 ∧ r.toInt = if zfi (fun i => decide (b.2.2.2 i = x.toInt)) b.2.2.1 < b.2.2.1 then (zfi (fun i => decide (b.2.2.2 i = x.toInt)) b.2.2.1 : Int) else -1) := by
  intro l sz
  obtain ⟨pb, qb, res, cmp, dg, ch, h_b, h_d, h_c, hkN, hok, hp, hq, hres, hdg⟩ := id hB
  have hk0 : k < Z.1 := by omega
  have hk1 : k + 1 < Z.1 := by omega
  have hk2 : k + 2 < Z.1 := by omega
  have hPb := zP_bd hok
  have hn12 := hok.2.2.2.1
  have hq1 := hok.2.1
  refine z_enter (maxL := 3) (ret := (some .int)) (lv := [(0, .ref (Z.2.1 k)), (1, .int x)]) (plainFor_of_name (by decide +kernel)) rfl (fun ls h => by subst h; exact lv_entry [.ref (Z.2.1 k), .int x] (n := 3) (Nat.le_of_ble_eq_true rfl)) ?_
  intro p e s m args below meth c hx hb hml hr hlocks hown hts hK hS hsz ls hl
  refine lv_iconst (v := 0) hx hb dX0_placeOf_0 (by decide) ?_
  refine lv_istore_n (lv' := [(2, .int 0), (0, .ref (Z.2.1 k)), (1, .int x)]) hx hb dX0_placeOf_1 rfl hl (by decide) rfl (fun ls hl => ?_)
  have hcut_2 : ∀ (nn_2 : Nat) (j : Nat) (hj : j ≤ b.2.2.1) (hno : ∀ i, i < j → decide (b.2.2.2 i = x.toInt) = false) (hm_2 : b.2.2.1 - j < nn_2) (H : Heap) (locs : List Loc) (ls : Array Slot), z_S Z (z_A Z sz) s.heap g H locs → lv_has ls 3 [(0, .ref (Z.2.1 k)), (1, .int x), (2, .int (nI j))] → W p l e (headSpec wsX0_placeOf (z_rm 0 0)).room s m args below meth c H locs 0 0 (MQ below (va_Qi (fun r g1 => g = g1 ∧ r.toInt = if zfi (fun i => decide (b.2.2.2 i = x.toInt)) b.2.2.1 < b.2.2.1 then (zfi (fun i => decide (b.2.2.2 i = x.toInt)) b.2.2.1 : Int) else -1) (z_B Z) (z_A Z sz)) args s 0 0 (z_A Z sz)) (F0 m 2 ls []) := by
    intro nn_2
    induction nn_2 with
    | zero => intro j hj hno hm_2 H locs ls hS hl; exact absurd hm_2 (Nat.not_lt_zero _)
    | succ nn_2 ih_2 =>
      intro j hj hno hm_2 H locs ls hS hl
      refine lv_iload_n hx hb dX0_placeOf_2 rfl (lv_at hl 2 rfl) ?_
      refine lv_aload_n hx hb dX0_placeOf_3 rfl (lv_at hl 0 rfl) ?_
      refine z_get (own := RX0) (C := RX0) (T := TX0) (N := 7) hx hb hts in_X0_placeOf_0 hown hK hS h_b hk0 rfl 3 (by decide) (List.mem_of_getElem? (i := 1) rfl) rfl rfl dX0_placeOf_4 ?_
      refine lv_icmp_ge (tgt := 37) hx hb dX0_placeOf_7 (by decide) (fun c_1 => ?_) (fun c_1 => ?_)
      · have i_1 := z_le c_1
        rw [nI_toInt (by omega)] at i_1
        rw [nI_toInt (by omega)] at i_1
        have hjn : j = b.2.2.1 := by omega
        refine lv_iconst (v := (-1)) hx hb dX0_placeOf_37 (by decide) ?_
        refine z_iret hx hb hr hlocks hS ?_ dX0_placeOf_38
        rw [zfi_none (fun i h => hno i (by omega)), if_neg (by omega)]
        exact ⟨rfl, rfl⟩
      · have i_1 := z_nle c_1
        rw [nI_toInt (by omega)] at i_1
        rw [nI_toInt (by omega)] at i_1
        refine lv_iload_n hx hb dX0_placeOf_10 rfl (lv_at hl 2 rfl) ?_
        refine lv_aload_n hx hb dX0_placeOf_11 rfl (lv_at hl 0 rfl) ?_
        refine z_get (own := RX0) (C := RX0) (T := TX0) (N := 7) hx hb hts in_X0_placeOf_0 hown hK hS h_b hk0 rfl 5 (by decide) (List.mem_of_getElem? (i := 2) rfl) rfl rfl dX0_placeOf_12 ?_
        refine z_alen (v := 12) hx hb hK hS 0 h_d hk1 rfl rfl dX0_placeOf_15 ?_
        refine lv_icmp_ge (tgt := 37) hx hb dX0_placeOf_16 (by decide) (fun c_2 => ?_) (fun c_2 => ?_)
        · have i_2 := z_le c_2
          rw [nI_toInt (by omega)] at i_2
          rw [tI_12] at i_2
          exfalso; omega
        · have i_2 := z_nle c_2
          rw [nI_toInt (by omega)] at i_2
          rw [tI_12] at i_2
          refine lv_aload_n hx hb dX0_placeOf_19 rfl (lv_at hl 0 rfl) ?_
          refine z_get (own := RX0) (C := RX0) (T := TX0) (N := 7) hx hb hts in_X0_placeOf_0 hown hK hS h_b hk0 rfl 5 (by decide) (List.mem_of_getElem? (i := 2) rfl) rfl rfl dX0_placeOf_20 ?_
          refine lv_iload_n hx hb dX0_placeOf_23 rfl (lv_at hl 2 rfl) ?_
          refine z_iald hx hb hK hS h_d hk1 (vp_in_nI (by omega) (by omega)) dX0_placeOf_24 ?_
          rw [show dg (nI j).toNatClampNeg = dg j from by rw [nI_clamp (by omega)]]
          refine lv_iload_n hx hb dX0_placeOf_25 rfl (lv_at hl 1 rfl) ?_
          refine lv_icmp_ne (tgt := 31) hx hb dX0_placeOf_26 (by decide) (fun c_3 => ?_) (fun c_3 => ?_)
          · have i_3 := z_ne c_3
            refine lv_iinc (v := (nI (j + 1))) (lv' := [(2, .int (nI (j + 1))), (0, .ref (Z.2.1 k)), (1, .int x)]) hx hb dX0_placeOf_31 hl (k := 2) rfl (nI_1 _) (by decide) rfl (fun ls hl => ?_)
            refine lv_goto (tgt := 2) hx hb dX0_placeOf_34 (by decide) ?_
            exact ih_2 (j + 1) (by omega) (fun i h => by
                rcases Nat.lt_or_ge i j with hh | hh
                · exact hno i hh
                · have : i = j := by omega
                  subst this; exact decide_eq_false (by rw [← hdg i (by omega)]; assumption)) (by omega) _ _ _ hS (lv_sub hl [1, 2, 0] rfl)
          · have i_3 := z_eq c_3
            refine lv_iload_n hx hb dX0_placeOf_29 rfl (lv_at hl 2 rfl) ?_
            refine z_iret hx hb hr hlocks hS ?_ dX0_placeOf_30
            have hdj := hdg j (by omega)
            rw [show zfi (fun i => decide (b.2.2.2 i = x.toInt)) b.2.2.1 = j from zfi_is (by omega) (decide_eq_true (by omega)) hno, if_pos (by omega), nI_toInt (by omega)]
            exact ⟨rfl, rfl⟩
  exact hcut_2 (b.2.2.1 - 0 + 1) 0 (by omega) (fun i h => absurd h (Nat.not_lt_zero i)) (Nat.lt_succ_self _) _ _ _ hS (lv_sub hl [1, 2, 0] rfl)

theorem in_X0_leastDigit_0 : ∀ w ∈ wsX00, w ∈ wsX0_leastDigit := by decide +kernel
set_option maxHeartbeats 4000000 in
set_option maxRecDepth 100000 in
theorem k_leastDigit (Z : zT) (g : Nat → va_E) (k : Nat) (b : zb) (hB : z_b0 Z g k b) : z_Mi Z yX0_leastDigit wsX0_leastDigit 1 21 [.ref (Z.2.1 k)] g (fun r g1 => g = g1 ∧ r.toInt = zmn b.2.2.2 b.2.2.1) := by
  intro l sz
  obtain ⟨pb, qb, res, cmp, dg, ch, h_b, h_d, h_c, hkN, hok, hp, hq, hres, hdg⟩ := id hB
  have hk0 : k < Z.1 := by omega
  have hk1 : k + 1 < Z.1 := by omega
  have hk2 : k + 2 < Z.1 := by omega
  have hPb := zP_bd hok
  have hn12 := hok.2.2.2.1
  have hq1 := hok.2.1
  refine z_enter (maxL := 3) (ret := (some .int)) (lv := [(0, .ref (Z.2.1 k))]) (plainFor_of_name (by decide +kernel)) rfl (fun ls h => by subst h; exact lv_entry [.ref (Z.2.1 k)] (n := 3) (Nat.le_of_ble_eq_true rfl)) ?_
  intro p e s m args below meth c hx hb hml hr hlocks hown hts hK hS hsz ls hl
  refine lv_bipush (v := 20) hx hb dX0_leastDigit_0 (by decide) ?_
  refine lv_istore_n (lv' := [(1, .int 20), (0, .ref (Z.2.1 k))]) hx hb dX0_leastDigit_2 rfl hl (by decide) rfl (fun ls hl => ?_)
  refine lv_iconst (v := 0) hx hb dX0_leastDigit_3 (by decide) ?_
  refine lv_istore_n (lv' := [(2, .int 0), (1, .int 20), (0, .ref (Z.2.1 k))]) hx hb dX0_leastDigit_4 rfl hl (by decide) rfl (fun ls hl => ?_)
  have hcut_5 : ∀ (nn_5 : Nat) (a : Int32) (j : Nat) (hj : j ≤ b.2.2.1) (ha : a.toInt = zmn b.2.2.2 j) (hm_5 : b.2.2.1 - j < nn_5) (H : Heap) (locs : List Loc) (ls : Array Slot), z_S Z (z_A Z sz) s.heap g H locs → lv_has ls 3 [(0, .ref (Z.2.1 k)), (1, .int a), (2, .int (nI j))] → W p l e (headSpec wsX0_leastDigit (z_rm 1 21)).room s m args below meth c H locs 0 0 (MQ below (va_Qi (fun r g1 => g = g1 ∧ r.toInt = zmn b.2.2.2 b.2.2.1) (z_B Z) (z_A Z sz)) args s 0 0 (z_A Z sz)) (F0 m 5 ls []) := by
    intro nn_5
    induction nn_5 with
    | zero => intro a j hj ha hm_5 H locs ls hS hl; exact absurd hm_5 (Nat.not_lt_zero _)
    | succ nn_5 ih_5 =>
      intro a j hj ha hm_5 H locs ls hS hl
      refine lv_iload_n hx hb dX0_leastDigit_5 rfl (lv_at hl 2 rfl) ?_
      refine lv_aload_n hx hb dX0_leastDigit_6 rfl (lv_at hl 0 rfl) ?_
      refine z_get (own := RX0) (C := RX0) (T := TX0) (N := 7) hx hb hts in_X0_leastDigit_0 hown hK hS h_b hk0 rfl 3 (by decide) (List.mem_of_getElem? (i := 1) rfl) rfl rfl dX0_leastDigit_7 ?_
      refine lv_icmp_ge (tgt := 29) hx hb dX0_leastDigit_10 (by decide) (fun c_1 => ?_) (fun c_1 => ?_)
      · have i_1 := z_le c_1
        rw [nI_toInt (by omega)] at i_1
        rw [nI_toInt (by omega)] at i_1
        have hjn : j = b.2.2.1 := by omega
        subst hjn
        refine lv_iload_n hx hb dX0_leastDigit_29 rfl (lv_at hl 1 rfl) ?_
        refine z_iret hx hb hr hlocks hS ?_ dX0_leastDigit_30
        exact ⟨rfl, ha⟩
      · have i_1 := z_nle c_1
        rw [nI_toInt (by omega)] at i_1
        rw [nI_toInt (by omega)] at i_1
        refine lv_iload_n hx hb dX0_leastDigit_13 rfl (lv_at hl 1 rfl) ?_
        refine lv_aload_n hx hb dX0_leastDigit_14 rfl (lv_at hl 0 rfl) ?_
        refine lv_iload_n hx hb dX0_leastDigit_15 rfl (lv_at hl 2 rfl) ?_
        refine z_calli (z_runV (As := [.int (nI j)]) (rest := [.int a]) ⟨hx, hb, hml, hown, hts⟩ hK hS ((k_listed Z g k b hB j (by omega)) l _) gX0_leastDigit_X0_listed rfl 1 (by decide +kernel) ⟨Nat.le_of_ble_eq_true rfl, Nat.le_of_ble_eq_true rfl⟩ h_b hk0 rfl rfl hl.1 rfl (Nat.le_of_ble_eq_true rfl) dX0_leastDigit_16 ⟨Nat.le_of_ble_eq_true rfl, Nat.le_of_ble_eq_true rfl⟩) hS (fun dd g_2 H locs hp_3 hS => ?_)
        obtain ⟨rfl, hp_3⟩ := hp_3
        have hdd := hp_3
        refine va_mmin hx hb (hml.trans hl.1.symm) hown (hts _ (List.mem_of_getElem? (i := 2) rfl)) (hts _ (List.mem_of_getElem? (i := 3) rfl)) (hts _ (List.mem_of_getElem? (i := 4) rfl)) (hts _ (List.mem_of_getElem? (i := 5) rfl)) (Nat.le_of_ble_eq_true rfl) (Nat.le_of_ble_eq_true rfl) (Nat.le_of_ble_eq_true rfl) (Nat.le_of_ble_eq_true rfl) dX0_leastDigit_19 ?_
        refine lv_topi (fun a2 ea2 => ?_)
        have ha2 : a2.toInt = zmn b.2.2.2 (j + 1) := by
          rw [ea2]; unfold zmn; rw [← ha, ← hdd]
          by_cases hc : dd < a
          · have := z_lt hc; rw [if_pos hc, if_pos this]
          · have := z_nlt hc; rw [if_neg hc, if_neg (by omega)]
        refine lv_istore_n (lv' := [(1, .int a2), (0, .ref (Z.2.1 k)), (2, .int (nI j))]) hx hb dX0_leastDigit_22 rfl hl (by decide) rfl (fun ls hl => ?_)
        refine lv_iinc (v := (nI (j + 1))) (lv' := [(2, .int (nI (j + 1))), (1, .int a2), (0, .ref (Z.2.1 k))]) hx hb dX0_leastDigit_23 hl (k := 2) rfl (nI_1 _) (by decide) rfl (fun ls hl => ?_)
        refine lv_goto (tgt := 5) hx hb dX0_leastDigit_26 (by decide) ?_
        exact ih_5 a2 (j + 1) (by omega) (by assumption) (by omega) _ _ _ hS (lv_sub hl [2, 1, 0] rfl)
  exact hcut_5 (b.2.2.1 - 0 + 1) 20 0 (by omega) (by rw [tI_20]; rfl) (Nat.lt_succ_self _) _ _ _ hS (lv_sub hl [2, 1, 0] rfl)

theorem in_X0_greatestDigit_0 : ∀ w ∈ wsX00, w ∈ wsX0_greatestDigit := by decide +kernel
set_option maxHeartbeats 4000000 in
set_option maxRecDepth 100000 in
theorem k_greatestDigit (Z : zT) (g : Nat → va_E) (k : Nat) (b : zb) (hB : z_b0 Z g k b) : z_Mi Z yX0_greatestDigit wsX0_greatestDigit 1 21 [.ref (Z.2.1 k)] g (fun r g1 => g = g1 ∧ r.toInt = zmx b.2.2.2 b.2.2.1) := by
  intro l sz
  obtain ⟨pb, qb, res, cmp, dg, ch, h_b, h_d, h_c, hkN, hok, hp, hq, hres, hdg⟩ := id hB
  have hk0 : k < Z.1 := by omega
  have hk1 : k + 1 < Z.1 := by omega
  have hk2 : k + 2 < Z.1 := by omega
  have hPb := zP_bd hok
  have hn12 := hok.2.2.2.1
  have hq1 := hok.2.1
  refine z_enter (maxL := 3) (ret := (some .int)) (lv := [(0, .ref (Z.2.1 k))]) (plainFor_of_name (by decide +kernel)) rfl (fun ls h => by subst h; exact lv_entry [.ref (Z.2.1 k)] (n := 3) (Nat.le_of_ble_eq_true rfl)) ?_
  intro p e s m args below meth c hx hb hml hr hlocks hown hts hK hS hsz ls hl
  refine lv_bipush (v := (-20)) hx hb dX0_greatestDigit_0 (by decide) ?_
  refine lv_istore_n (lv' := [(1, .int (-20)), (0, .ref (Z.2.1 k))]) hx hb dX0_greatestDigit_2 rfl hl (by decide) rfl (fun ls hl => ?_)
  refine lv_iconst (v := 0) hx hb dX0_greatestDigit_3 (by decide) ?_
  refine lv_istore_n (lv' := [(2, .int 0), (1, .int (-20)), (0, .ref (Z.2.1 k))]) hx hb dX0_greatestDigit_4 rfl hl (by decide) rfl (fun ls hl => ?_)
  have hcut_5 : ∀ (nn_5 : Nat) (a : Int32) (j : Nat) (hj : j ≤ b.2.2.1) (ha : a.toInt = zmx b.2.2.2 j) (hm_5 : b.2.2.1 - j < nn_5) (H : Heap) (locs : List Loc) (ls : Array Slot), z_S Z (z_A Z sz) s.heap g H locs → lv_has ls 3 [(0, .ref (Z.2.1 k)), (1, .int a), (2, .int (nI j))] → W p l e (headSpec wsX0_greatestDigit (z_rm 1 21)).room s m args below meth c H locs 0 0 (MQ below (va_Qi (fun r g1 => g = g1 ∧ r.toInt = zmx b.2.2.2 b.2.2.1) (z_B Z) (z_A Z sz)) args s 0 0 (z_A Z sz)) (F0 m 5 ls []) := by
    intro nn_5
    induction nn_5 with
    | zero => intro a j hj ha hm_5 H locs ls hS hl; exact absurd hm_5 (Nat.not_lt_zero _)
    | succ nn_5 ih_5 =>
      intro a j hj ha hm_5 H locs ls hS hl
      refine lv_iload_n hx hb dX0_greatestDigit_5 rfl (lv_at hl 2 rfl) ?_
      refine lv_aload_n hx hb dX0_greatestDigit_6 rfl (lv_at hl 0 rfl) ?_
      refine z_get (own := RX0) (C := RX0) (T := TX0) (N := 7) hx hb hts in_X0_greatestDigit_0 hown hK hS h_b hk0 rfl 3 (by decide) (List.mem_of_getElem? (i := 1) rfl) rfl rfl dX0_greatestDigit_7 ?_
      refine lv_icmp_ge (tgt := 29) hx hb dX0_greatestDigit_10 (by decide) (fun c_1 => ?_) (fun c_1 => ?_)
      · have i_1 := z_le c_1
        rw [nI_toInt (by omega)] at i_1
        rw [nI_toInt (by omega)] at i_1
        have hjn : j = b.2.2.1 := by omega
        subst hjn
        refine lv_iload_n hx hb dX0_greatestDigit_29 rfl (lv_at hl 1 rfl) ?_
        refine z_iret hx hb hr hlocks hS ?_ dX0_greatestDigit_30
        exact ⟨rfl, ha⟩
      · have i_1 := z_nle c_1
        rw [nI_toInt (by omega)] at i_1
        rw [nI_toInt (by omega)] at i_1
        refine lv_iload_n hx hb dX0_greatestDigit_13 rfl (lv_at hl 1 rfl) ?_
        refine lv_aload_n hx hb dX0_greatestDigit_14 rfl (lv_at hl 0 rfl) ?_
        refine lv_iload_n hx hb dX0_greatestDigit_15 rfl (lv_at hl 2 rfl) ?_
        refine z_calli (z_runV (As := [.int (nI j)]) (rest := [.int a]) ⟨hx, hb, hml, hown, hts⟩ hK hS ((k_listed Z g k b hB j (by omega)) l _) gX0_greatestDigit_X0_listed rfl 1 (by decide +kernel) ⟨Nat.le_of_ble_eq_true rfl, Nat.le_of_ble_eq_true rfl⟩ h_b hk0 rfl rfl hl.1 rfl (Nat.le_of_ble_eq_true rfl) dX0_greatestDigit_16 ⟨Nat.le_of_ble_eq_true rfl, Nat.le_of_ble_eq_true rfl⟩) hS (fun dd g_2 H locs hp_3 hS => ?_)
        obtain ⟨rfl, hp_3⟩ := hp_3
        have hdd := hp_3
        refine va_mmax hx hb (hml.trans hl.1.symm) hown (hts _ (List.mem_of_getElem? (i := 2) rfl)) (hts _ (List.mem_of_getElem? (i := 3) rfl)) (hts _ (List.mem_of_getElem? (i := 4) rfl)) (hts _ (List.mem_of_getElem? (i := 5) rfl)) (Nat.le_of_ble_eq_true rfl) (Nat.le_of_ble_eq_true rfl) (Nat.le_of_ble_eq_true rfl) (Nat.le_of_ble_eq_true rfl) dX0_greatestDigit_19 ?_
        refine lv_topi (fun a2 ea2 => ?_)
        have ha2 : a2.toInt = zmx b.2.2.2 (j + 1) := by
          rw [ea2]; unfold zmx; rw [← ha, ← hdd]
          by_cases hc : a < dd
          · have := z_lt hc; rw [if_pos hc, if_pos this]
          · have := z_nlt hc; rw [if_neg hc, if_neg (by omega)]
        refine lv_istore_n (lv' := [(1, .int a2), (0, .ref (Z.2.1 k)), (2, .int (nI j))]) hx hb dX0_greatestDigit_22 rfl hl (by decide) rfl (fun ls hl => ?_)
        refine lv_iinc (v := (nI (j + 1))) (lv' := [(2, .int (nI (j + 1))), (1, .int a2), (0, .ref (Z.2.1 k))]) hx hb dX0_greatestDigit_23 hl (k := 2) rfl (nI_1 _) (by decide) rfl (fun ls hl => ?_)
        refine lv_goto (tgt := 5) hx hb dX0_greatestDigit_26 (by decide) ?_
        exact ih_5 a2 (j + 1) (by omega) (by assumption) (by omega) _ _ _ hS (lv_sub hl [2, 1, 0] rfl)
  exact hcut_5 (b.2.2.1 - 0 + 1) (-20) 0 (by omega) (by rw [tI_m20]; rfl) (Nat.lt_succ_self _) _ _ _ hS (lv_sub hl [2, 1, 0] rfl)

theorem in_X0_greatestAbsoluteDigit_0 : ∀ w ∈ wsX00, w ∈ wsX0_greatestAbsoluteDigit := by decide +kernel
set_option maxHeartbeats 4000000 in
set_option maxRecDepth 100000 in
theorem k_greatestAbsoluteDigit (Z : zT) (g : Nat → va_E) (k : Nat) (b : zb) (hB : z_b0 Z g k b) : z_Mi Z yX0_greatestAbsoluteDigit wsX0_greatestAbsoluteDigit 1 21 [.ref (Z.2.1 k)] g (fun r g1 => g = g1 ∧ r.toInt = zab b.2.2.2 b.2.2.1) := by
  intro l sz
  obtain ⟨pb, qb, res, cmp, dg, ch, h_b, h_d, h_c, hkN, hok, hp, hq, hres, hdg⟩ := id hB
  have hk0 : k < Z.1 := by omega
  have hk1 : k + 1 < Z.1 := by omega
  have hk2 : k + 2 < Z.1 := by omega
  have hPb := zP_bd hok
  have hn12 := hok.2.2.2.1
  have hq1 := hok.2.1
  refine z_enter (maxL := 3) (ret := (some .int)) (lv := [(0, .ref (Z.2.1 k))]) (plainFor_of_name (by decide +kernel)) rfl (fun ls h => by subst h; exact lv_entry [.ref (Z.2.1 k)] (n := 3) (Nat.le_of_ble_eq_true rfl)) ?_
  intro p e s m args below meth c hx hb hml hr hlocks hown hts hK hS hsz ls hl
  refine lv_iconst (v := 0) hx hb dX0_greatestAbsoluteDigit_0 (by decide) ?_
  refine lv_istore_n (lv' := [(1, .int 0), (0, .ref (Z.2.1 k))]) hx hb dX0_greatestAbsoluteDigit_1 rfl hl (by decide) rfl (fun ls hl => ?_)
  refine lv_iconst (v := 0) hx hb dX0_greatestAbsoluteDigit_2 (by decide) ?_
  refine lv_istore_n (lv' := [(2, .int 0), (1, .int 0), (0, .ref (Z.2.1 k))]) hx hb dX0_greatestAbsoluteDigit_3 rfl hl (by decide) rfl (fun ls hl => ?_)
  have hcut_4 : ∀ (nn_4 : Nat) (a : Int32) (j : Nat) (hj : j ≤ b.2.2.1) (ha : a.toInt = zab b.2.2.2 j) (hm_4 : b.2.2.1 - j < nn_4) (H : Heap) (locs : List Loc) (ls : Array Slot), z_S Z (z_A Z sz) s.heap g H locs → lv_has ls 3 [(0, .ref (Z.2.1 k)), (1, .int a), (2, .int (nI j))] → W p l e (headSpec wsX0_greatestAbsoluteDigit (z_rm 1 21)).room s m args below meth c H locs 0 0 (MQ below (va_Qi (fun r g1 => g = g1 ∧ r.toInt = zab b.2.2.2 b.2.2.1) (z_B Z) (z_A Z sz)) args s 0 0 (z_A Z sz)) (F0 m 4 ls []) := by
    intro nn_4
    induction nn_4 with
    | zero => intro a j hj ha hm_4 H locs ls hS hl; exact absurd hm_4 (Nat.not_lt_zero _)
    | succ nn_4 ih_4 =>
      intro a j hj ha hm_4 H locs ls hS hl
      refine lv_iload_n hx hb dX0_greatestAbsoluteDigit_4 rfl (lv_at hl 2 rfl) ?_
      refine lv_aload_n hx hb dX0_greatestAbsoluteDigit_5 rfl (lv_at hl 0 rfl) ?_
      refine z_get (own := RX0) (C := RX0) (T := TX0) (N := 7) hx hb hts in_X0_greatestAbsoluteDigit_0 hown hK hS h_b hk0 rfl 3 (by decide) (List.mem_of_getElem? (i := 1) rfl) rfl rfl dX0_greatestAbsoluteDigit_6 ?_
      refine lv_icmp_ge (tgt := 31) hx hb dX0_greatestAbsoluteDigit_9 (by decide) (fun c_1 => ?_) (fun c_1 => ?_)
      · have i_1 := z_le c_1
        rw [nI_toInt (by omega)] at i_1
        rw [nI_toInt (by omega)] at i_1
        have hjn : j = b.2.2.1 := by omega
        subst hjn
        refine lv_iload_n hx hb dX0_greatestAbsoluteDigit_31 rfl (lv_at hl 1 rfl) ?_
        refine z_iret hx hb hr hlocks hS ?_ dX0_greatestAbsoluteDigit_32
        exact ⟨rfl, ha⟩
      · have i_1 := z_nle c_1
        rw [nI_toInt (by omega)] at i_1
        rw [nI_toInt (by omega)] at i_1
        refine lv_iload_n hx hb dX0_greatestAbsoluteDigit_12 rfl (lv_at hl 1 rfl) ?_
        refine lv_aload_n hx hb dX0_greatestAbsoluteDigit_13 rfl (lv_at hl 0 rfl) ?_
        refine lv_iload_n hx hb dX0_greatestAbsoluteDigit_14 rfl (lv_at hl 2 rfl) ?_
        refine z_calli (z_runV (As := [.int (nI j)]) (rest := [.int a]) ⟨hx, hb, hml, hown, hts⟩ hK hS ((k_listed Z g k b hB j (by omega)) l _) gX0_greatestAbsoluteDigit_X0_listed rfl 1 (by decide +kernel) ⟨Nat.le_of_ble_eq_true rfl, Nat.le_of_ble_eq_true rfl⟩ h_b hk0 rfl rfl hl.1 rfl (Nat.le_of_ble_eq_true rfl) dX0_greatestAbsoluteDigit_15 ⟨Nat.le_of_ble_eq_true rfl, Nat.le_of_ble_eq_true rfl⟩) hS (fun dd g_2 H locs hp_3 hS => ?_)
        obtain ⟨rfl, hp_3⟩ := hp_3
        have hdd := hp_3
        have hddb := hok.2.2.2.2 j (by omega)
        refine va_mabs hx hb (hml.trans hl.1.symm) hown (hts _ (List.mem_of_getElem? (i := 2) rfl)) (hts _ (List.mem_of_getElem? (i := 3) rfl)) (hts _ (List.mem_of_getElem? (i := 4) rfl)) (hts _ (List.mem_of_getElem? (i := 5) rfl)) (Nat.le_of_ble_eq_true rfl) (Nat.le_of_ble_eq_true rfl) (Nat.le_of_ble_eq_true rfl) (Nat.le_of_ble_eq_true rfl) dX0_greatestAbsoluteDigit_18 ?_
        refine lv_topi (fun ab eab => ?_)
        have hab : ab.toInt = if 0 ≤ b.2.2.2 j then b.2.2.2 j else -b.2.2.2 j := by
          rw [eab]
          by_cases hc : 0 ≤ dd
          · have := z_le hc; rw [tI_0] at this; rw [if_pos hc, if_pos (by omega), hdd]
          · have := z_nle hc; rw [tI_0] at this; rw [if_neg hc, if_neg (by omega), fb_subI (by rw [tI_0]; omega) (by rw [tI_0]; omega), tI_0]; omega
        refine va_mmax hx hb (hml.trans hl.1.symm) hown (hts _ (List.mem_of_getElem? (i := 6) rfl)) (hts _ (List.mem_of_getElem? (i := 7) rfl)) (hts _ (List.mem_of_getElem? (i := 4) rfl)) (hts _ (List.mem_of_getElem? (i := 8) rfl)) (Nat.le_of_ble_eq_true rfl) (Nat.le_of_ble_eq_true rfl) (Nat.le_of_ble_eq_true rfl) (Nat.le_of_ble_eq_true rfl) dX0_greatestAbsoluteDigit_21 ?_
        refine lv_topi (fun a2 ea2 => ?_)
        have ha2 : a2.toInt = zab b.2.2.2 (j + 1) := by
          rw [ea2]; unfold zab; rw [← ha, ← hab]
          by_cases hc : a < ab
          · have := z_lt hc; rw [if_pos hc, if_pos this]
          · have := z_nlt hc; rw [if_neg hc, if_neg (by omega)]
        refine lv_istore_n (lv' := [(1, .int a2), (0, .ref (Z.2.1 k)), (2, .int (nI j))]) hx hb dX0_greatestAbsoluteDigit_24 rfl hl (by decide) rfl (fun ls hl => ?_)
        refine lv_iinc (v := (nI (j + 1))) (lv' := [(2, .int (nI (j + 1))), (1, .int a2), (0, .ref (Z.2.1 k))]) hx hb dX0_greatestAbsoluteDigit_25 hl (k := 2) rfl (nI_1 _) (by decide) rfl (fun ls hl => ?_)
        refine lv_goto (tgt := 4) hx hb dX0_greatestAbsoluteDigit_28 (by decide) ?_
        exact ih_4 a2 (j + 1) (by omega) (by assumption) (by omega) _ _ _ hS (lv_sub hl [2, 1, 0] rfl)
  exact hcut_4 (b.2.2.1 - 0 + 1) 0 0 (by omega) (by rw [tI_0]; rfl) (Nat.lt_succ_self _) _ _ _ hS (lv_sub hl [2, 1, 0] rfl)

