theorem zbd_step {b : zb} (hok : zb_ok b) {lo hi nl nh : Int} (h40 : hi ≤ lo + 40) (hlo : -100000 ≤ lo ∧ lo ≤ 100000) (hhi : -100000 ≤ hi ∧ hi ≤ 100000) (h1 : (0 < b.1 → zfd (-(b.2.1 * lo - zmx b.2.2.2 b.2.2.1)) b.1 (-nl)) ∧ (b.1 < 0 → zfd (-(b.2.1 * hi - zmn b.2.2.2 b.2.2.1)) b.1 (-nl))) (h2 : (0 < b.1 → zfd (b.2.1 * hi - zmn b.2.2.2 b.2.2.1) b.1 nh) ∧ (b.1 < 0 → zfd (b.2.1 * lo - zmx b.2.2.2 b.2.2.1) b.1 nh)) : nh ≤ nl + 40 ∧ (-100000 ≤ nl ∧ nl ≤ 100000) ∧ (-100000 ≤ nh ∧ nh ≤ 100000) ∧ ∀ v, lo ≤ v → v ≤ hi → ∀ i, i < b.2.2.1 → b.1 ∣ (b.2.1 * v - b.2.2.2 i) → nl ≤ (b.2.1 * v - b.2.2.2 i).tdiv b.1 ∧ (b.2.1 * v - b.2.2.2 i).tdiv b.1 ≤ nh := by
  have hP := zP_bd hok
  have hq1 := hok.2.1
  have hqP := hok.2.2.1
  have hmm := zmnx_bd hok.2.2.2.2
  have e1 := z_mul_bd (x := b.2.1) (y := lo) (a := b.2.1) (b := 100000) (by omega) (by omega) (by omega) (by omega)
  have e2 := z_mul_bd (x := b.2.1) (y := hi) (a := b.2.1) (b := 100000) (by omega) (by omega) (by omega) (by omega)
  have e3 : b.2.1 * hi ≤ b.2.1 * (lo + 40) := Int.mul_le_mul_of_nonneg_left h40 (by omega)
  rw [Int.mul_add] at e3
  have hcl : ∀ v, lo ≤ v → v ≤ hi → ∀ i, i < b.2.2.1 → b.2.1 * lo - zmx b.2.2.2 b.2.2.1 ≤ b.2.1 * v - b.2.2.2 i ∧ b.2.1 * v - b.2.2.2 i ≤ b.2.1 * hi - zmn b.2.2.2 b.2.2.1 := fun v a1 a2 i hi' => by
    have f1 : b.2.1 * lo ≤ b.2.1 * v := Int.mul_le_mul_of_nonneg_left a1 (by omega)
    have f2 : b.2.1 * v ≤ b.2.1 * hi := Int.mul_le_mul_of_nonneg_left a2 (by omega)
    have f3 := zmn_le (d := b.2.2.2) hi'
    have f4 := zmx_ge (d := b.2.2.2) hi'
    omega
  have lt : ∀ {x y : Int}, 0 < b.1 → b.1 * x < b.1 * y → x < y := fun hp h => Int.lt_of_mul_lt_mul_left h (by omega)
  have lt2 : ∀ {x y : Int}, b.1 < 0 → b.1 * x < b.1 * y → y < x := fun hp h => by
    refine Int.lt_of_mul_lt_mul_left (a := -b.1) ?_ (by omega)
    rw [Int.neg_mul, Int.neg_mul]; omega
  rcases Int.lt_trichotomy b.1 0 with hp | hp | hp
  · have g1 := (h1.2 hp).2 hp
    have g2 := (h2.2 hp).2 hp
    rw [Int.mul_neg] at g1
    have k1 : nh < nl + 41 := lt2 hp (by rw [Int.mul_add]; omega)
    have k2 : nl < 100001 := lt2 hp (by omega)
    have k3 : -100001 < nl := lt2 hp (by omega)
    have k4 : nh < 100001 := lt2 hp (by omega)
    have k5 : -100001 < nh := lt2 hp (by omega)
    refine ⟨by omega, by omega, by omega, fun v a1 a2 i hi' hd => ?_⟩
    have f := hcl v a1 a2 i hi'
    have f5 := Int.mul_tdiv_cancel' hd
    have k6 : nl - 1 < (b.2.1 * v - b.2.2.2 i).tdiv b.1 := lt2 hp (by rw [f5, Int.mul_sub]; omega)
    have k7 : (b.2.1 * v - b.2.2.2 i).tdiv b.1 < nh + 1 := lt2 hp (by rw [f5, Int.mul_add]; omega)
    omega
  · exfalso; have := hok.1; omega
  · have g1 := (h1.1 hp).1 hp
    have g2 := (h2.1 hp).1 hp
    rw [Int.mul_neg] at g1
    have k1 : nh < nl + 41 := lt hp (by rw [Int.mul_add]; omega)
    have k2 : nl < 100001 := lt hp (by omega)
    have k3 : -100001 < nl := lt hp (by omega)
    have k4 : nh < 100001 := lt hp (by omega)
    have k5 : -100001 < nh := lt hp (by omega)
    refine ⟨by omega, by omega, by omega, fun v a1 a2 i hi' hd => ?_⟩
    have f := hcl v a1 a2 i hi'
    have f5 := Int.mul_tdiv_cancel' hd
    have k6 : nl - 1 < (b.2.1 * v - b.2.2.2 i).tdiv b.1 := lt hp (by rw [f5, Int.mul_sub]; omega)
    have k7 : (b.2.1 * v - b.2.2.2 i).tdiv b.1 < nh + 1 := lt hp (by rw [f5, Int.mul_add]; omega)
    omega
theorem in_X8_quotientBelow_0 : ∀ w ∈ wsX00, w ∈ wsX8_quotientBelow := by decide +kernel
theorem in_X8_quotientBelow_8 : ∀ w ∈ wsX80, w ∈ wsX8_quotientBelow := by decide +kernel
set_option maxHeartbeats 4000000 in
set_option maxRecDepth 100000 in
theorem k_quotientBelow (Z : zT) (g : Nat → va_E) (k kb : Nat) (b : zb) (lw hw : Nat → Int32) (tb : Nat → Int64) (v1 v2 : Int32) (v3 : Int64) (hO : zo_ways Z g k kb lw hw tb v1 v2 v3) (hB : z_b0 Z g kb b) (x : Int32) (hx9 : -2000000 ≤ x.toInt ∧ x.toInt ≤ 2000000) : z_Mi Z yX8_quotientBelow wsX8_quotientBelow 1 22 [.ref (Z.2.1 k), .int x] g (fun r g1 => g = g1 ∧ zfd x.toInt b.1 r.toInt) := by
  intro l sz
  obtain ⟨pb, qb, res, cmp, dg, ch, h_b, h_d, h_c, hkN, hok, hp, hq, hres, hdg⟩ := id hB
  have hk0 : kb < Z.1 := by omega
  have hk1 : kb + 1 < Z.1 := by omega
  have hk2 : kb + 2 < Z.1 := by omega
  have hn12 := hok.2.2.2.1
  have hPb := zP_bd hok
  have hq1 := hok.2.1
  have hp2 := hok.1
  obtain ⟨h_w, h_l, h_h, h_t, hkM, hsep⟩ := id hO
  have hkw : k < Z.1 := by omega
  have hkw1 : k + 1 < Z.1 := by omega
  have hkw2 : k + 2 < Z.1 := by omega
  have hkw3 : k + 3 < Z.1 := by omega
  
  refine z_enter (maxL := 2) (ret := (some .int)) (lv := [(0, .ref (Z.2.1 k)), (1, .int x)]) (plainFor_of_name (by decide +kernel)) rfl (fun ls h => by subst h; exact lv_entry [.ref (Z.2.1 k), .int x] (n := 2) (Nat.le_of_ble_eq_true rfl)) ?_
  intro p e s m args below meth c hx hb hml hr hlocks hown hts hK hS hsz ls hl
  refine lv_aload_n hx hb dX8_quotientBelow_0 rfl (lv_at hl 0 rfl) ?_
  refine z_get (own := RX8) (C := RX8) (T := TX8) (N := 7) hx hb hts in_X8_quotientBelow_8 hown hK hS h_w hkw rfl 0 (by decide) (List.mem_of_getElem? (i := 1) rfl) rfl rfl dX8_quotientBelow_1 ?_
  refine z_getN (own := RX8) (C := RX0) (T := TX0) (N := 7) hx hb hts in_X8_quotientBelow_0 hown hK hS h_b hk0 rfl 0 (by decide) 28 rfl rfl rfl dX8_quotientBelow_4 ?_
  refine lv_if_ne (tgt := 14) hx hb dX8_quotientBelow_7 (by decide) (fun c_1 => ?_) (fun c_1 => ?_)
  · have i_1 := z_ne c_1
    rw [tI_0] at i_1
    refine lv_iload_n hx hb dX8_quotientBelow_14 rfl (lv_at hl 1 rfl) ?_
    refine lv_aload_n hx hb dX8_quotientBelow_15 rfl (lv_at hl 0 rfl) ?_
    refine z_get (own := RX8) (C := RX8) (T := TX8) (N := 7) hx hb hts in_X8_quotientBelow_8 hown hK hS h_w hkw rfl 0 (by decide) (List.mem_of_getElem? (i := 1) rfl) rfl rfl dX8_quotientBelow_16 ?_
    refine z_getN (own := RX8) (C := RX0) (T := TX0) (N := 7) hx hb hts in_X8_quotientBelow_0 hown hK hS h_b hk0 rfl 0 (by decide) 28 rfl rfl rfl dX8_quotientBelow_19 ?_
    refine z_calli (z_runS (As := [.int x, .int pb]) (rest := []) ⟨hx, hb, hml, hown, hts⟩ hK hS ((k_floorDiv Z g x pb (by omega)) l _) gX8_quotientBelow_J9_floorDiv_7cf53 rfl 2 (by decide +kernel) ⟨Nat.le_of_ble_eq_true rfl, Nat.le_of_ble_eq_true rfl⟩ rfl hl.1 rfl (Nat.le_of_ble_eq_true rfl) dX8_quotientBelow_22 ⟨Nat.le_of_ble_eq_true rfl, Nat.le_of_ble_eq_true rfl⟩) hS (fun rr g_2 H locs hp_3 hS => ?_)
    obtain ⟨rfl, hp_3⟩ := hp_3
    have hrr := hp_3
    rw [hp] at hrr
    refine z_iret hx hb hr hlocks hS ?_ dX8_quotientBelow_25
    exact ⟨rfl, hrr⟩
  · have i_1 := z_eq c_1
    rw [tI_0] at i_1
    exfalso; omega

theorem in_X8_quotientAbove_0 : ∀ w ∈ wsX00, w ∈ wsX8_quotientAbove := by decide +kernel
theorem in_X8_quotientAbove_8 : ∀ w ∈ wsX80, w ∈ wsX8_quotientAbove := by decide +kernel
set_option maxHeartbeats 4000000 in
set_option maxRecDepth 100000 in
theorem k_quotientAbove (Z : zT) (g : Nat → va_E) (k kb : Nat) (b : zb) (lw hw : Nat → Int32) (tb : Nat → Int64) (v1 v2 : Int32) (v3 : Int64) (hO : zo_ways Z g k kb lw hw tb v1 v2 v3) (hB : z_b0 Z g kb b) (x : Int32) (hx9 : -2000000 ≤ x.toInt ∧ x.toInt ≤ 2000000) : z_Mi Z yX8_quotientAbove wsX8_quotientAbove 1 22 [.ref (Z.2.1 k), .int x] g (fun r g1 => g = g1 ∧ zfd (-x.toInt) b.1 (-r.toInt)) := by
  intro l sz
  obtain ⟨pb, qb, res, cmp, dg, ch, h_b, h_d, h_c, hkN, hok, hp, hq, hres, hdg⟩ := id hB
  have hk0 : kb < Z.1 := by omega
  have hk1 : kb + 1 < Z.1 := by omega
  have hk2 : kb + 2 < Z.1 := by omega
  have hn12 := hok.2.2.2.1
  have hPb := zP_bd hok
  have hq1 := hok.2.1
  have hp2 := hok.1
  obtain ⟨h_w, h_l, h_h, h_t, hkM, hsep⟩ := id hO
  have hkw : k < Z.1 := by omega
  have hkw1 : k + 1 < Z.1 := by omega
  have hkw2 : k + 2 < Z.1 := by omega
  have hkw3 : k + 3 < Z.1 := by omega
  
  refine z_enter (maxL := 2) (ret := (some .int)) (lv := [(0, .ref (Z.2.1 k)), (1, .int x)]) (plainFor_of_name (by decide +kernel)) rfl (fun ls h => by subst h; exact lv_entry [.ref (Z.2.1 k), .int x] (n := 2) (Nat.le_of_ble_eq_true rfl)) ?_
  intro p e s m args below meth c hx hb hml hr hlocks hown hts hK hS hsz ls hl
  refine lv_aload_n hx hb dX8_quotientAbove_0 rfl (lv_at hl 0 rfl) ?_
  refine z_get (own := RX8) (C := RX8) (T := TX8) (N := 7) hx hb hts in_X8_quotientAbove_8 hown hK hS h_w hkw rfl 0 (by decide) (List.mem_of_getElem? (i := 1) rfl) rfl rfl dX8_quotientAbove_1 ?_
  refine z_getN (own := RX8) (C := RX0) (T := TX0) (N := 7) hx hb hts in_X8_quotientAbove_0 hown hK hS h_b hk0 rfl 0 (by decide) 28 rfl rfl rfl dX8_quotientAbove_4 ?_
  refine lv_if_ne (tgt := 14) hx hb dX8_quotientAbove_7 (by decide) (fun c_1 => ?_) (fun c_1 => ?_)
  · have i_1 := z_ne c_1
    rw [tI_0] at i_1
    refine lv_iload_n hx hb dX8_quotientAbove_14 rfl (lv_at hl 1 rfl) ?_
    refine lv_ineg hx hb dX8_quotientAbove_15 ?_
    refine lv_aload_n hx hb dX8_quotientAbove_16 rfl (lv_at hl 0 rfl) ?_
    refine z_get (own := RX8) (C := RX8) (T := TX8) (N := 7) hx hb hts in_X8_quotientAbove_8 hown hK hS h_w hkw rfl 0 (by decide) (List.mem_of_getElem? (i := 1) rfl) rfl rfl dX8_quotientAbove_17 ?_
    refine z_getN (own := RX8) (C := RX0) (T := TX0) (N := 7) hx hb hts in_X8_quotientAbove_0 hown hK hS h_b hk0 rfl 0 (by decide) 28 rfl rfl rfl dX8_quotientAbove_20 ?_
    have hnx : (-x).toInt = -x.toInt := fb_negI (by omega)
    refine z_calli (z_runS (As := [.int (-x), .int pb]) (rest := []) ⟨hx, hb, hml, hown, hts⟩ hK hS ((k_floorDiv Z g (-x) pb (by omega)) l _) gX8_quotientAbove_J9_floorDiv_7cf53 rfl 2 (by decide +kernel) ⟨Nat.le_of_ble_eq_true rfl, Nat.le_of_ble_eq_true rfl⟩ rfl hl.1 rfl (Nat.le_of_ble_eq_true rfl) dX8_quotientAbove_23 ⟨Nat.le_of_ble_eq_true rfl, Nat.le_of_ble_eq_true rfl⟩) hS (fun rr g_2 H locs hp_3 hS => ?_)
    obtain ⟨rfl, hp_3⟩ := hp_3
    have hrr := hp_3
    rw [hp, hnx] at hrr
    refine lv_ineg hx hb dX8_quotientAbove_26 ?_
    refine z_iret hx hb hr hlocks hS ?_ dX8_quotientAbove_27
    refine ⟨rfl, ?_⟩
    have hmi : rr.toInt ≠ -2147483648 := by
      intro h9
      rw [h9] at hrr
      rcases Int.lt_trichotomy b.1 0 with h8 | h8 | h8
      · have := (hrr.2 h8); omega
      · omega
      · have := (hrr.1 h8); omega
    rw [fb_negI hmi, Int.neg_neg]; exact hrr
  · have i_1 := z_eq c_1
    rw [tI_0] at i_1
    exfalso; omega

theorem in_X8_findBounds_0 : ∀ w ∈ wsX00, w ∈ wsX8_findBounds := by decide +kernel
theorem in_X8_findBounds_8 : ∀ w ∈ wsX80, w ∈ wsX8_findBounds := by decide +kernel
set_option maxHeartbeats 4000000 in
set_option maxRecDepth 100000 in
theorem k_findBounds (Z : zT) (g : Nat → va_E) (k kb : Nat) (b : zb) (lw hw : Nat → Int32) (tb : Nat → Int64) (v1 v2 : Int32) (v3 : Int64) (hO : zo_ways Z g k kb lw hw tb v1 v2 v3) (hB : z_b0 Z g kb b) (x : Int32) (hx5 : -100000 ≤ x.toInt ∧ x.toInt ≤ 100000) : z_Mv Z yX8_findBounds wsX8_findBounds 2 43 [.ref (Z.2.1 k), .int x] g (fun g1 => ∃ lo hi A, z_wy Z g1 k kb lo hi A v1 v2 v3 ∧ zbd b x.toInt lo hi ∧ z_fr k 4 g g1) := by
  intro l sz
  obtain ⟨pb, qb, res, cmp, dg, ch, h_b, h_d, h_c, hkN, hok, hp, hq, hres, hdg⟩ := id hB
  have hk0 : kb < Z.1 := by omega
  have hk1 : kb + 1 < Z.1 := by omega
  have hk2 : kb + 2 < Z.1 := by omega
  have hn12 := hok.2.2.2.1
  have hPb := zP_bd hok
  have hq1 := hok.2.1
  have hp2 := hok.1
  obtain ⟨h_w, h_l, h_h, h_t, hkM, hsep⟩ := id hO
  have hkw : k < Z.1 := by omega
  have hkw1 : k + 1 < Z.1 := by omega
  have hkw2 : k + 2 < Z.1 := by omega
  have hkw3 : k + 3 < Z.1 := by omega
  have hmm := zmnx_bd hok.2.2.2.2
  refine z_enter (maxL := 9) (ret := none) (lv := [(0, .ref (Z.2.1 k)), (1, .int x)]) (plainFor_of_name (by decide +kernel)) rfl (fun ls h => by subst h; exact lv_entry [.ref (Z.2.1 k), .int x] (n := 9) (Nat.le_of_ble_eq_true rfl)) ?_
  intro p e s m args below meth c hx hb hml hr hlocks hown hts hK hS hsz ls hl
  refine lv_aload_n hx hb dX8_findBounds_0 rfl (lv_at hl 0 rfl) ?_
  refine z_get (own := RX8) (C := RX8) (T := TX8) (N := 7) hx hb hts in_X8_findBounds_8 hown hK hS h_w hkw rfl 0 (by decide) (List.mem_of_getElem? (i := 1) rfl) rfl rfl dX8_findBounds_1 ?_
  refine z_calli (z_runVN (As := []) (rest := []) (C := RX0) ⟨hx, hb, hml, hown, hts⟩ hK hS ((k_leastDigit Z g kb b ⟨pb, qb, res, cmp, dg, ch, h_b, h_d, h_c, hkN, hok, hp, hq, hres, hdg⟩) l _) gX8_findBounds_X0_leastDigit_n92 rfl 0 60 rfl (List.mem_of_getElem? (i := 9) rfl) (List.mem_of_getElem? (i := 8) rfl) (List.mem_of_getElem? (i := 10) rfl) (by decide +kernel) ⟨Nat.le_of_ble_eq_true rfl, Nat.le_of_ble_eq_true rfl⟩ h_b hk0 rfl rfl hl.1 rfl (Nat.le_of_ble_eq_true rfl) dX8_findBounds_4 ⟨Nat.le_of_ble_eq_true rfl, Nat.le_of_ble_eq_true rfl⟩) hS (fun mn9 g_1 H locs hp_2 hS => ?_)
  obtain ⟨rfl, hp_2⟩ := hp_2
  have hmn := hp_2
  refine lv_istore_n (lv' := [(2, .int mn9), (0, .ref (Z.2.1 k)), (1, .int x)]) hx hb dX8_findBounds_7 rfl hl (by decide) rfl (fun ls hl => ?_)
  refine lv_aload_n hx hb dX8_findBounds_8 rfl (lv_at hl 1 rfl) ?_
  refine z_get (own := RX8) (C := RX8) (T := TX8) (N := 7) hx hb hts in_X8_findBounds_8 hown hK hS h_w hkw rfl 0 (by decide) (List.mem_of_getElem? (i := 1) rfl) rfl rfl dX8_findBounds_9 ?_
  refine z_calli (z_runVN (As := []) (rest := []) (C := RX0) ⟨hx, hb, hml, hown, hts⟩ hK hS ((k_greatestDigit Z g kb b ⟨pb, qb, res, cmp, dg, ch, h_b, h_d, h_c, hkN, hok, hp, hq, hres, hdg⟩) l _) gX8_findBounds_X0_greatestDigit_n96 rfl 0 61 rfl (List.mem_of_getElem? (i := 9) rfl) (List.mem_of_getElem? (i := 19) rfl) (List.mem_of_getElem? (i := 20) rfl) (by decide +kernel) ⟨Nat.le_of_ble_eq_true rfl, Nat.le_of_ble_eq_true rfl⟩ h_b hk0 rfl rfl hl.1 rfl (Nat.le_of_ble_eq_true rfl) dX8_findBounds_12 ⟨Nat.le_of_ble_eq_true rfl, Nat.le_of_ble_eq_true rfl⟩) hS (fun mx9 g_3 H locs hp_4 hS => ?_)
  obtain ⟨rfl, hp_4⟩ := hp_4
  have hmx := hp_4
  refine lv_istore_n (lv' := [(3, .int mx9), (2, .int mn9), (0, .ref (Z.2.1 k)), (1, .int x)]) hx hb dX8_findBounds_15 rfl hl (by decide) rfl (fun ls hl => ?_)
  refine lv_aload_n hx hb dX8_findBounds_16 rfl (lv_at hl 2 rfl) ?_
  refine z_get (own := RX8) (C := RX8) (T := TX8) (N := 7) hx hb hts in_X8_findBounds_8 hown hK hS h_w hkw rfl 1 (by decide) (List.mem_of_getElem? (i := 2) rfl) rfl rfl dX8_findBounds_17 ?_
  refine lv_iconst (v := 0) hx hb dX8_findBounds_20 (by decide) ?_
  refine lv_iload_n hx hb dX8_findBounds_21 rfl (lv_at hl 3 rfl) ?_
  refine z_iast hx hb hK hS h_l hkw1 (vp_in_iff.mpr (by rw [tI_0]; omega)) dX8_findBounds_22 (fun g_5 H locs hg_5 hS => ?_)
  have h_l : g_5 (k + 1) = .inl (Z.2.2.2 0, 13, .inl (upd lw (0 : Int32).toNatClampNeg x)) := z_up_s hg_5
  have h_b := z_up_n hg_5 h_b (by omega)
  have h_d := z_up_n hg_5 h_d (by omega)
  have h_c := z_up_n hg_5 h_c (by omega)
  have h_w := z_up_n hg_5 h_w (by omega)
  have h_h := z_up_n hg_5 h_h (by omega)
  have h_t := z_up_n hg_5 h_t (by omega)
  refine lv_aload_n hx hb dX8_findBounds_23 rfl (lv_at hl 2 rfl) ?_
  refine z_get (own := RX8) (C := RX8) (T := TX8) (N := 7) hx hb hts in_X8_findBounds_8 hown hK hS h_w hkw rfl 2 (by decide) (List.mem_of_getElem? (i := 3) rfl) rfl rfl dX8_findBounds_24 ?_
  refine lv_iconst (v := 0) hx hb dX8_findBounds_27 (by decide) ?_
  refine lv_iload_n hx hb dX8_findBounds_28 rfl (lv_at hl 3 rfl) ?_
  refine z_iast hx hb hK hS h_h hkw2 (vp_in_iff.mpr (by rw [tI_0]; omega)) dX8_findBounds_29 (fun g_6 H locs hg_6 hS => ?_)
  have h_h : g_6 (k + 2) = .inl (Z.2.2.2 0, 13, .inl (upd hw (0 : Int32).toNatClampNeg x)) := z_up_s hg_6
  have h_b := z_up_n hg_6 h_b (by omega)
  have h_d := z_up_n hg_6 h_d (by omega)
  have h_c := z_up_n hg_6 h_c (by omega)
  have h_w := z_up_n hg_6 h_w (by omega)
  have h_l := z_up_n hg_6 h_l (by omega)
  have h_t := z_up_n hg_6 h_t (by omega)
  refine lv_iconst (v := 0) hx hb dX8_findBounds_30 (by decide) ?_
  refine lv_istore (lv' := [(4, .int 0), (3, .int mx9), (2, .int mn9), (0, .ref (Z.2.1 k)), (1, .int x)]) hx hb dX8_findBounds_31 hl (by decide) rfl (fun ls hl => ?_)
  have hcut_33 : ∀ (nn_33 : Nat) (i : Nat) (lv : Nat → Int32) (hv : Nat → Int32) (ga : Nat → va_E) (h_b : ga kb = .inr (0, [.int pb, .int qb, .int res, .int (nI b.2.2.1), .int cmp, .ref (Z.2.1 (kb + 1)), .ref (Z.2.1 (kb + 2))])) (h_d : ga (kb + 1) = .inl (Z.2.2.2 0, 12, .inl dg)) (h_c : ga (kb + 2) = .inl (Z.2.2.2 0, 10, .inl ch)) (h_w : ga k = .inr (8, [.ref (Z.2.1 kb), .ref (Z.2.1 (k + 1)), .ref (Z.2.1 (k + 2)), .ref (Z.2.1 (k + 3)), .int v1, .int v2, .long v3])) (h_l : ga (k + 1) = .inl (Z.2.2.2 0, 13, .inl lv)) (h_h : ga (k + 2) = .inl (Z.2.2.2 0, 13, .inl hv)) (h_t : ga (k + 3) = .inl (Z.2.2.2 1, 533, .inr (.inl tb))) (hfr_ga : z_fr k 4 g ga) (hi12 : i ≤ 12) (hl0 : (lv 0).toInt = x.toInt ∧ (hv 0).toInt = x.toInt) (hbb : ∀ l, l ≤ i → (hv l).toInt ≤ (lv l).toInt + 40 ∧ -100000 ≤ (lv l).toInt ∧ (lv l).toInt ≤ 100000 ∧ -100000 ≤ (hv l).toInt ∧ (hv l).toInt ≤ 100000) (hcl : ∀ l, l < i → ∀ v, (lv l).toInt ≤ v → v ≤ (hv l).toInt → ∀ i, i < b.2.2.1 → b.1 ∣ (b.2.1 * v - b.2.2.2 i) → (lv (l + 1)).toInt ≤ (b.2.1 * v - b.2.2.2 i).tdiv b.1 ∧ (b.2.1 * v - b.2.2.2 i).tdiv b.1 ≤ (hv (l + 1)).toInt) (hm_33 : 12 - i < nn_33) (H : Heap) (locs : List Loc) (ls : Array Slot), z_S Z (z_A Z sz) s.heap ga H locs → lv_has ls 9 [(0, .ref (Z.2.1 k)), (1, .int x), (2, .int mn9), (3, .int mx9), (4, .int (nI i))] → W p l e (headSpec wsX8_findBounds (z_rm 2 43)).room s m args below meth c H locs 0 0 (MQ below (va_Qv (fun g1 => ∃ lo hi A, z_wy Z g1 k kb lo hi A v1 v2 v3 ∧ zbd b x.toInt lo hi ∧ z_fr k 4 g g1) (z_B Z) (z_A Z sz)) args s 0 0 (z_A Z sz)) (F0 m 33 ls []) := by
    intro nn_33
    induction nn_33 with
    | zero => intro i lv hv ga h_b h_d h_c h_w h_l h_h h_t hfr_ga hi12 hl0 hbb hcl hm_33 H locs ls hS hl; exact absurd hm_33 (Nat.not_lt_zero _)
    | succ nn_33 ih_33 =>
      intro i lv hv ga h_b h_d h_c h_w h_l h_h h_t hfr_ga hi12 hl0 hbb hcl hm_33 H locs ls hS hl
      refine lv_iload hx hb dX8_findBounds_33 (lv_at hl 4 rfl) ?_
      refine lv_iconst (v := 1) hx hb dX8_findBounds_35 (by decide) ?_
      refine lv_iadd hx hb dX8_findBounds_36 ?_
      rw [show (nI i) + 1 = nI (i + 1) from nI_1 _]
      refine lv_aload_n hx hb dX8_findBounds_37 rfl (lv_at hl 0 rfl) ?_
      refine z_get (own := RX8) (C := RX8) (T := TX8) (N := 7) hx hb hts in_X8_findBounds_8 hown hK hS h_w hkw rfl 1 (by decide) (List.mem_of_getElem? (i := 2) rfl) rfl rfl dX8_findBounds_38 ?_
      refine z_alen (v := 13) hx hb hK hS 0 h_l hkw1 rfl rfl dX8_findBounds_41 ?_
      refine lv_icmp_ge (tgt := 179) hx hb dX8_findBounds_42 (by decide) (fun c_7 => ?_) (fun c_7 => ?_)
      · have i_7 := z_le c_7
        rw [nI_toInt (by omega)] at i_7
        rw [tI_13] at i_7
        have hi12e : i = 12 := by omega
        subst hi12e
        refine z_vret hx hb hr hlocks hS ?_ dX8_findBounds_179
        exact ⟨fun l => (lv l).toInt, fun l => (hv l).toInt, _, ⟨lv, hv, tb, ⟨h_w, h_l, h_h, h_t, hkM, hsep⟩, fun l hl9 => by have := hbb l hl9; simp only; omega, fun l hl9 => ⟨rfl, rfl⟩, fun l v => rfl⟩, ⟨hl0.1, hl0.2, hcl⟩, hfr_ga⟩
      · have i_7 := z_nle c_7
        rw [nI_toInt (by omega)] at i_7
        rw [tI_13] at i_7
        refine lv_iload hx hb dX8_findBounds_45 (lv_at hl 4 rfl) ?_
        refine lv_iconst (v := 1) hx hb dX8_findBounds_47 (by decide) ?_
        refine lv_iadd hx hb dX8_findBounds_48 ?_
        rw [show (nI i) + 1 = nI (i + 1) from nI_1 _]
        refine lv_aload_n hx hb dX8_findBounds_49 rfl (lv_at hl 0 rfl) ?_
        refine z_get (own := RX8) (C := RX8) (T := TX8) (N := 7) hx hb hts in_X8_findBounds_8 hown hK hS h_w hkw rfl 2 (by decide) (List.mem_of_getElem? (i := 3) rfl) rfl rfl dX8_findBounds_50 ?_
        refine z_alen (v := 13) hx hb hK hS 0 h_h hkw2 rfl rfl dX8_findBounds_53 ?_
        refine lv_icmp_ge (tgt := 179) hx hb dX8_findBounds_54 (by decide) (fun c_8 => ?_) (fun c_8 => ?_)
        · have i_8 := z_le c_8
          rw [nI_toInt (by omega)] at i_8
          rw [tI_13] at i_8
          exfalso; omega
        · have i_8 := z_nle c_8
          rw [nI_toInt (by omega)] at i_8
          rw [tI_13] at i_8
          refine lv_aload_n hx hb dX8_findBounds_57 rfl (lv_at hl 0 rfl) ?_
          refine z_get (own := RX8) (C := RX8) (T := TX8) (N := 7) hx hb hts in_X8_findBounds_8 hown hK hS h_w hkw rfl 0 (by decide) (List.mem_of_getElem? (i := 1) rfl) rfl rfl dX8_findBounds_58 ?_
          refine z_getN (own := RX8) (C := RX0) (T := TX0) (N := 7) hx hb hts in_X8_findBounds_0 hown hK hS h_b hk0 rfl 1 (by decide) 26 rfl rfl rfl dX8_findBounds_61 ?_
          refine lv_aload_n hx hb dX8_findBounds_64 rfl (lv_at hl 0 rfl) ?_
          refine z_get (own := RX8) (C := RX8) (T := TX8) (N := 7) hx hb hts in_X8_findBounds_8 hown hK hS h_w hkw rfl 1 (by decide) (List.mem_of_getElem? (i := 2) rfl) rfl rfl dX8_findBounds_65 ?_
          refine lv_iload hx hb dX8_findBounds_68 (lv_at hl 4 rfl) ?_
          refine z_iald hx hb hK hS h_l hkw1 (vp_in_nI (by omega) (by omega)) dX8_findBounds_70 ?_
          rw [show lv (nI i).toNatClampNeg = lv i from by rw [nI_clamp (by omega)]]
          refine lv_imul hx hb dX8_findBounds_71 ?_
          refine lv_iload_n hx hb dX8_findBounds_72 rfl (lv_at hl 3 rfl) ?_
          refine lv_isub hx hb dX8_findBounds_73 ?_
          refine lv_topi (fun sm esm => ?_)
          have hbi := hbb i (Nat.le_refl i)
          have hm1 := z_mul_bd (x := b.2.1) (y := (lv i).toInt) (a := 9) (b := 100000) (by omega) (by omega) (by omega) (by omega)
          have hm2 := z_mul_bd (x := b.2.1) (y := (hv i).toInt) (a := 9) (b := 100000) (by omega) (by omega) (by omega) (by omega)
          have hs1 : (qb * lv i).toInt = b.2.1 * (lv i).toInt := by rw [fb_mulI (by rw [hq]; omega) (by rw [hq]; omega), hq]
          have hs2 : (qb * hv i).toInt = b.2.1 * (hv i).toInt := by rw [fb_mulI (by rw [hq]; omega) (by rw [hq]; omega), hq]
          have hsm : sm.toInt = b.2.1 * (lv i).toInt - zmx b.2.2.2 b.2.2.1 := by rw [esm, fb_subI (by omega) (by omega), hs1, hmx]
          refine lv_istore (lv' := [(5, .int sm), (0, .ref (Z.2.1 k)), (1, .int x), (2, .int mn9), (3, .int mx9), (4, .int (nI i))]) hx hb dX8_findBounds_74 hl (by decide) rfl (fun ls hl => ?_)
          refine lv_aload_n hx hb dX8_findBounds_76 rfl (lv_at hl 1 rfl) ?_
          refine z_get (own := RX8) (C := RX8) (T := TX8) (N := 7) hx hb hts in_X8_findBounds_8 hown hK hS h_w hkw rfl 0 (by decide) (List.mem_of_getElem? (i := 1) rfl) rfl rfl dX8_findBounds_77 ?_
          refine z_getN (own := RX8) (C := RX0) (T := TX0) (N := 7) hx hb hts in_X8_findBounds_0 hown hK hS h_b hk0 rfl 1 (by decide) 26 rfl rfl rfl dX8_findBounds_80 ?_
          refine lv_aload_n hx hb dX8_findBounds_83 rfl (lv_at hl 1 rfl) ?_
          refine z_get (own := RX8) (C := RX8) (T := TX8) (N := 7) hx hb hts in_X8_findBounds_8 hown hK hS h_w hkw rfl 2 (by decide) (List.mem_of_getElem? (i := 3) rfl) rfl rfl dX8_findBounds_84 ?_
          refine lv_iload hx hb dX8_findBounds_87 (lv_at hl 5 rfl) ?_
          refine z_iald hx hb hK hS h_h hkw2 (vp_in_nI (by omega) (by omega)) dX8_findBounds_89 ?_
          rw [show hv (nI i).toNatClampNeg = hv i from by rw [nI_clamp (by omega)]]
          refine lv_imul hx hb dX8_findBounds_90 ?_
          refine lv_iload_n hx hb dX8_findBounds_91 rfl (lv_at hl 3 rfl) ?_
          refine lv_isub hx hb dX8_findBounds_92 ?_
          refine lv_topi (fun lg elg => ?_)
          have hlg : lg.toInt = b.2.1 * (hv i).toInt - zmn b.2.2.2 b.2.2.1 := by rw [elg, fb_subI (by omega) (by omega), hs2, hmn]
          refine lv_istore (lv' := [(6, .int lg), (5, .int sm), (0, .ref (Z.2.1 k)), (1, .int x), (2, .int mn9), (3, .int mx9), (4, .int (nI i))]) hx hb dX8_findBounds_93 hl (by decide) rfl (fun ls hl => ?_)
          refine lv_aload_n hx hb dX8_findBounds_95 rfl (lv_at hl 2 rfl) ?_
          refine lv_aload_n hx hb dX8_findBounds_96 rfl (lv_at hl 2 rfl) ?_
          refine z_get (own := RX8) (C := RX8) (T := TX8) (N := 7) hx hb hts in_X8_findBounds_8 hown hK hS h_w hkw rfl 0 (by decide) (List.mem_of_getElem? (i := 1) rfl) rfl rfl dX8_findBounds_97 ?_
          refine z_getN (own := RX8) (C := RX0) (T := TX0) (N := 7) hx hb hts in_X8_findBounds_0 hown hK hS h_b hk0 rfl 0 (by decide) 28 rfl rfl rfl dX8_findBounds_100 ?_
          refine lv_if_le (tgt := 111) hx hb dX8_findBounds_103 (by decide) (fun c_9 => ?_) (fun c_9 => ?_)
          · have i_9 := z_le c_9
            rw [tI_0] at i_9
            skip
            refine lv_iload hx hb dX8_findBounds_111 (lv_at hl 0 rfl) ?_
            refine z_calli (z_runV (As := [.int lg]) (rest := []) ⟨hx, hb, hml, hown, hts⟩ hK hS ((k_quotientAbove Z ga k kb b _ _ _ v1 v2 v3 ⟨h_w, h_l, h_h, h_t, hkM, hsep⟩ ⟨pb, qb, res, cmp, dg, ch, h_b, h_d, h_c, hkN, hok, hp, hq, hres, hdg⟩ lg (by omega)) l _) gX8_findBounds_X8_quotientAbove rfl 1 (by decide +kernel) ⟨Nat.le_of_ble_eq_true rfl, Nat.le_of_ble_eq_true rfl⟩ h_w hkw rfl rfl hl.1 rfl (Nat.le_of_ble_eq_true rfl) dX8_findBounds_113 ⟨Nat.le_of_ble_eq_true rfl, Nat.le_of_ble_eq_true rfl⟩) hS (fun nl g_10 H locs hp_11 hS => ?_)
            obtain ⟨rfl, hp_11⟩ := hp_11
            have hnl := hp_11
            refine lv_istore (lv' := [(7, .int nl), (6, .int lg), (5, .int sm), (0, .ref (Z.2.1 k)), (1, .int x), (2, .int mn9), (3, .int mx9), (4, .int (nI i))]) hx hb dX8_findBounds_116 hl (by decide) rfl (fun ls hl => ?_)
            refine lv_aload_n hx hb dX8_findBounds_118 rfl (lv_at hl 3 rfl) ?_
            refine lv_aload_n hx hb dX8_findBounds_119 rfl (lv_at hl 3 rfl) ?_
            refine z_get (own := RX8) (C := RX8) (T := TX8) (N := 7) hx hb hts in_X8_findBounds_8 hown hK hS h_w hkw rfl 0 (by decide) (List.mem_of_getElem? (i := 1) rfl) rfl rfl dX8_findBounds_120 ?_
            refine z_getN (own := RX8) (C := RX0) (T := TX0) (N := 7) hx hb hts in_X8_findBounds_0 hown hK hS h_b hk0 rfl 0 (by decide) 28 rfl rfl rfl dX8_findBounds_123 ?_
            refine lv_if_le (tgt := 134) hx hb dX8_findBounds_126 (by decide) (fun c_12 => ?_) (fun c_12 => ?_)
            · have i_12 := z_le c_12
              rw [tI_0] at i_12
              skip
              refine lv_iload hx hb dX8_findBounds_134 (lv_at hl 2 rfl) ?_
              refine z_calli (z_runV (As := [.int sm]) (rest := []) ⟨hx, hb, hml, hown, hts⟩ hK hS ((k_quotientBelow Z ga k kb b _ _ _ v1 v2 v3 ⟨h_w, h_l, h_h, h_t, hkM, hsep⟩ ⟨pb, qb, res, cmp, dg, ch, h_b, h_d, h_c, hkN, hok, hp, hq, hres, hdg⟩ sm (by omega)) l _) gX8_findBounds_X8_quotientBelow rfl 1 (by decide +kernel) ⟨Nat.le_of_ble_eq_true rfl, Nat.le_of_ble_eq_true rfl⟩ h_w hkw rfl rfl hl.1 rfl (Nat.le_of_ble_eq_true rfl) dX8_findBounds_136 ⟨Nat.le_of_ble_eq_true rfl, Nat.le_of_ble_eq_true rfl⟩) hS (fun nh g_13 H locs hp_14 hS => ?_)
              obtain ⟨rfl, hp_14⟩ := hp_14
              have hnh := hp_14
              have hst := zbd_step hok (lo := (lv i).toInt) (hi := (hv i).toInt) (nl := nl.toInt) (nh := nh.toInt) hbi.1 ⟨hbi.2.1, hbi.2.2.1⟩ hbi.2.2.2 ⟨fun h9 => by first | (rw [← hsm]; exact hnl) | (exfalso; omega), fun h9 => by first | (rw [← hlg]; exact hnl) | (exfalso; omega)⟩ ⟨fun h9 => by first | (rw [← hlg]; exact hnh) | (exfalso; omega), fun h9 => by first | (rw [← hsm]; exact hnh) | (exfalso; omega)⟩
              refine lv_istore (lv' := [(8, .int nh), (7, .int nl), (6, .int lg), (5, .int sm), (0, .ref (Z.2.1 k)), (1, .int x), (2, .int mn9), (3, .int mx9), (4, .int (nI i))]) hx hb dX8_findBounds_139 hl (by decide) rfl (fun ls hl => ?_)
              refine lv_aload_n hx hb dX8_findBounds_141 rfl (lv_at hl 4 rfl) ?_
              refine z_get (own := RX8) (C := RX8) (T := TX8) (N := 7) hx hb hts in_X8_findBounds_8 hown hK hS h_w hkw rfl 1 (by decide) (List.mem_of_getElem? (i := 2) rfl) rfl rfl dX8_findBounds_142 ?_
              refine lv_iload hx hb dX8_findBounds_145 (lv_at hl 8 rfl) ?_
              refine lv_iconst (v := 1) hx hb dX8_findBounds_147 (by decide) ?_
              refine lv_iadd hx hb dX8_findBounds_148 ?_
              rw [show (nI i) + 1 = nI (i + 1) from nI_1 _]
              refine lv_iload hx hb dX8_findBounds_149 (lv_at hl 1 rfl) ?_
              refine z_iast hx hb hK hS h_l hkw1 (vp_in_nI (by omega) (by omega)) dX8_findBounds_151 (fun g_15 H locs hg_15 hS => ?_)
              have h_l : g_15 (k + 1) = .inl (Z.2.2.2 0, 13, .inl (upd lv (nI (i + 1)).toNatClampNeg nl)) := z_up_s hg_15
              have h_b := z_up_n hg_15 h_b (by omega)
              have h_d := z_up_n hg_15 h_d (by omega)
              have h_c := z_up_n hg_15 h_c (by omega)
              have h_w := z_up_n hg_15 h_w (by omega)
              have h_h := z_up_n hg_15 h_h (by omega)
              have h_t := z_up_n hg_15 h_t (by omega)
              refine lv_aload_n hx hb dX8_findBounds_152 rfl (lv_at hl 4 rfl) ?_
              refine z_get (own := RX8) (C := RX8) (T := TX8) (N := 7) hx hb hts in_X8_findBounds_8 hown hK hS h_w hkw rfl 2 (by decide) (List.mem_of_getElem? (i := 3) rfl) rfl rfl dX8_findBounds_153 ?_
              refine lv_iload hx hb dX8_findBounds_156 (lv_at hl 8 rfl) ?_
              refine lv_iconst (v := 1) hx hb dX8_findBounds_158 (by decide) ?_
              refine lv_iadd hx hb dX8_findBounds_159 ?_
              rw [show (nI i) + 1 = nI (i + 1) from nI_1 _]
              refine lv_iload hx hb dX8_findBounds_160 (lv_at hl 0 rfl) ?_
              refine lv_iload hx hb dX8_findBounds_162 (lv_at hl 1 rfl) ?_
              refine lv_bipush (v := 41) hx hb dX8_findBounds_164 (by decide) ?_
              refine lv_iadd hx hb dX8_findBounds_166 ?_
              refine lv_iconst (v := 1) hx hb dX8_findBounds_167 (by decide) ?_
              refine lv_isub hx hb dX8_findBounds_168 ?_
              refine va_mmin hx hb (hml.trans hl.1.symm) hown (hts _ (List.mem_of_getElem? (i := 4) rfl)) (hts _ (List.mem_of_getElem? (i := 5) rfl)) (hts _ (List.mem_of_getElem? (i := 6) rfl)) (hts _ (List.mem_of_getElem? (i := 7) rfl)) (Nat.le_of_ble_eq_true rfl) (Nat.le_of_ble_eq_true rfl) (Nat.le_of_ble_eq_true rfl) (Nat.le_of_ble_eq_true rfl) dX8_findBounds_169 ?_
              refine lv_topi (fun mi emi => ?_)
              have hb1 : (nl + 41).toInt = nl.toInt + 41 := by rw [fb_addI (by rw [tI_41]; omega) (by rw [tI_41]; omega), tI_41]
              have hb2 : (nl + 41 - 1).toInt = nl.toInt + 40 := by rw [fb_subI (by rw [hb1, tI_1]; omega) (by rw [hb1, tI_1]; omega), hb1, tI_1]; omega
              have hmin : mi.toInt = nh.toInt := by
                rw [emi]
                by_cases h9 : nl + 41 - 1 < nh
                · have := z_lt h9; omega
                · rw [if_neg h9]
              refine z_iast hx hb hK hS h_h hkw2 (vp_in_nI (by omega) (by omega)) dX8_findBounds_172 (fun g_16 H locs hg_16 hS => ?_)
              have h_h : g_16 (k + 2) = .inl (Z.2.2.2 0, 13, .inl (upd hv (nI (i + 1)).toNatClampNeg mi)) := z_up_s hg_16
              have h_b := z_up_n hg_16 h_b (by omega)
              have h_d := z_up_n hg_16 h_d (by omega)
              have h_c := z_up_n hg_16 h_c (by omega)
              have h_w := z_up_n hg_16 h_w (by omega)
              have h_l := z_up_n hg_16 h_l (by omega)
              have h_t := z_up_n hg_16 h_t (by omega)
              refine lv_iinc (v := (nI (i + 1))) (lv' := [(4, .int (nI (i + 1))), (8, .int nh), (7, .int nl), (6, .int lg), (5, .int sm), (0, .ref (Z.2.1 k)), (1, .int x), (2, .int mn9), (3, .int mx9)]) hx hb dX8_findBounds_173 hl (k := 8) rfl (nI_1 _) (by decide) rfl (fun ls hl => ?_)
              refine lv_goto (tgt := 33) hx hb dX8_findBounds_176 (by decide) ?_
              exact ih_33 (i + 1) (upd lv (nI (i + 1)).toNatClampNeg nl) (upd hv (nI (i + 1)).toNatClampNeg mi) g_16 h_b h_d h_c h_w h_l h_h h_t ((hfr_ga.up hg_15 (by omega)).up hg_16 (by omega)) (by omega) (by rw [nI_clamp (by omega), pk_un (by omega), pk_un (by omega)]; exact hl0) (fun l hl9 => by
                  rw [nI_clamp (by omega)]
                  by_cases h9 : l = i + 1
                  · subst h9; rw [pk_us, pk_us, hmin]; omega
                  · rw [pk_un h9, pk_un h9]; exact hbb l (by omega)) (fun l hl9 => by
                  rw [nI_clamp (by omega), pk_un (show l ≠ i + 1 by omega), pk_un (show l ≠ i + 1 by omega)]
                  by_cases h9 : l = i
                  · subst h9; rw [pk_us, pk_us, hmin]; exact hst.2.2.2
                  · rw [pk_un (show l + 1 ≠ i + 1 by omega), pk_un (show l + 1 ≠ i + 1 by omega)]; exact hcl l (by omega)) (by omega) _ _ _ hS (lv_sub hl [5, 6, 7, 8, 0] rfl)
            · have i_12 := z_nle c_12
              rw [tI_0] at i_12
              exfalso; omega
          · have i_9 := z_nle c_9
            rw [tI_0] at i_9
            skip
            refine lv_iload hx hb dX8_findBounds_106 (lv_at hl 1 rfl) ?_
            refine lv_goto (tgt := 113) hx hb dX8_findBounds_108 (by decide) ?_
            refine z_calli (z_runV (As := [.int sm]) (rest := []) ⟨hx, hb, hml, hown, hts⟩ hK hS ((k_quotientAbove Z ga k kb b _ _ _ v1 v2 v3 ⟨h_w, h_l, h_h, h_t, hkM, hsep⟩ ⟨pb, qb, res, cmp, dg, ch, h_b, h_d, h_c, hkN, hok, hp, hq, hres, hdg⟩ sm (by omega)) l _) gX8_findBounds_X8_quotientAbove rfl 1 (by decide +kernel) ⟨Nat.le_of_ble_eq_true rfl, Nat.le_of_ble_eq_true rfl⟩ h_w hkw rfl rfl hl.1 rfl (Nat.le_of_ble_eq_true rfl) dX8_findBounds_113 ⟨Nat.le_of_ble_eq_true rfl, Nat.le_of_ble_eq_true rfl⟩) hS (fun nl g_17 H locs hp_18 hS => ?_)
            obtain ⟨rfl, hp_18⟩ := hp_18
            have hnl := hp_18
            refine lv_istore (lv' := [(7, .int nl), (6, .int lg), (5, .int sm), (0, .ref (Z.2.1 k)), (1, .int x), (2, .int mn9), (3, .int mx9), (4, .int (nI i))]) hx hb dX8_findBounds_116 hl (by decide) rfl (fun ls hl => ?_)
            refine lv_aload_n hx hb dX8_findBounds_118 rfl (lv_at hl 3 rfl) ?_
            refine lv_aload_n hx hb dX8_findBounds_119 rfl (lv_at hl 3 rfl) ?_
            refine z_get (own := RX8) (C := RX8) (T := TX8) (N := 7) hx hb hts in_X8_findBounds_8 hown hK hS h_w hkw rfl 0 (by decide) (List.mem_of_getElem? (i := 1) rfl) rfl rfl dX8_findBounds_120 ?_
            refine z_getN (own := RX8) (C := RX0) (T := TX0) (N := 7) hx hb hts in_X8_findBounds_0 hown hK hS h_b hk0 rfl 0 (by decide) 28 rfl rfl rfl dX8_findBounds_123 ?_
            refine lv_if_le (tgt := 134) hx hb dX8_findBounds_126 (by decide) (fun c_19 => ?_) (fun c_19 => ?_)
            · have i_19 := z_le c_19
              rw [tI_0] at i_19
              exfalso; omega
            · have i_19 := z_nle c_19
              rw [tI_0] at i_19
              skip
              refine lv_iload hx hb dX8_findBounds_129 (lv_at hl 1 rfl) ?_
              refine lv_goto (tgt := 136) hx hb dX8_findBounds_131 (by decide) ?_
              refine z_calli (z_runV (As := [.int lg]) (rest := []) ⟨hx, hb, hml, hown, hts⟩ hK hS ((k_quotientBelow Z ga k kb b _ _ _ v1 v2 v3 ⟨h_w, h_l, h_h, h_t, hkM, hsep⟩ ⟨pb, qb, res, cmp, dg, ch, h_b, h_d, h_c, hkN, hok, hp, hq, hres, hdg⟩ lg (by omega)) l _) gX8_findBounds_X8_quotientBelow rfl 1 (by decide +kernel) ⟨Nat.le_of_ble_eq_true rfl, Nat.le_of_ble_eq_true rfl⟩ h_w hkw rfl rfl hl.1 rfl (Nat.le_of_ble_eq_true rfl) dX8_findBounds_136 ⟨Nat.le_of_ble_eq_true rfl, Nat.le_of_ble_eq_true rfl⟩) hS (fun nh g_20 H locs hp_21 hS => ?_)
              obtain ⟨rfl, hp_21⟩ := hp_21
              have hnh := hp_21
              have hst := zbd_step hok (lo := (lv i).toInt) (hi := (hv i).toInt) (nl := nl.toInt) (nh := nh.toInt) hbi.1 ⟨hbi.2.1, hbi.2.2.1⟩ hbi.2.2.2 ⟨fun h9 => by first | (rw [← hsm]; exact hnl) | (exfalso; omega), fun h9 => by first | (rw [← hlg]; exact hnl) | (exfalso; omega)⟩ ⟨fun h9 => by first | (rw [← hlg]; exact hnh) | (exfalso; omega), fun h9 => by first | (rw [← hsm]; exact hnh) | (exfalso; omega)⟩
              refine lv_istore (lv' := [(8, .int nh), (7, .int nl), (6, .int lg), (5, .int sm), (0, .ref (Z.2.1 k)), (1, .int x), (2, .int mn9), (3, .int mx9), (4, .int (nI i))]) hx hb dX8_findBounds_139 hl (by decide) rfl (fun ls hl => ?_)
              refine lv_aload_n hx hb dX8_findBounds_141 rfl (lv_at hl 4 rfl) ?_
              refine z_get (own := RX8) (C := RX8) (T := TX8) (N := 7) hx hb hts in_X8_findBounds_8 hown hK hS h_w hkw rfl 1 (by decide) (List.mem_of_getElem? (i := 2) rfl) rfl rfl dX8_findBounds_142 ?_
              refine lv_iload hx hb dX8_findBounds_145 (lv_at hl 8 rfl) ?_
              refine lv_iconst (v := 1) hx hb dX8_findBounds_147 (by decide) ?_
              refine lv_iadd hx hb dX8_findBounds_148 ?_
              rw [show (nI i) + 1 = nI (i + 1) from nI_1 _]
              refine lv_iload hx hb dX8_findBounds_149 (lv_at hl 1 rfl) ?_
              refine z_iast hx hb hK hS h_l hkw1 (vp_in_nI (by omega) (by omega)) dX8_findBounds_151 (fun g_22 H locs hg_22 hS => ?_)
              have h_l : g_22 (k + 1) = .inl (Z.2.2.2 0, 13, .inl (upd lv (nI (i + 1)).toNatClampNeg nl)) := z_up_s hg_22
              have h_b := z_up_n hg_22 h_b (by omega)
              have h_d := z_up_n hg_22 h_d (by omega)
              have h_c := z_up_n hg_22 h_c (by omega)
              have h_w := z_up_n hg_22 h_w (by omega)
              have h_h := z_up_n hg_22 h_h (by omega)
              have h_t := z_up_n hg_22 h_t (by omega)
              refine lv_aload_n hx hb dX8_findBounds_152 rfl (lv_at hl 4 rfl) ?_
              refine z_get (own := RX8) (C := RX8) (T := TX8) (N := 7) hx hb hts in_X8_findBounds_8 hown hK hS h_w hkw rfl 2 (by decide) (List.mem_of_getElem? (i := 3) rfl) rfl rfl dX8_findBounds_153 ?_
              refine lv_iload hx hb dX8_findBounds_156 (lv_at hl 8 rfl) ?_
              refine lv_iconst (v := 1) hx hb dX8_findBounds_158 (by decide) ?_
              refine lv_iadd hx hb dX8_findBounds_159 ?_
              rw [show (nI i) + 1 = nI (i + 1) from nI_1 _]
              refine lv_iload hx hb dX8_findBounds_160 (lv_at hl 0 rfl) ?_
              refine lv_iload hx hb dX8_findBounds_162 (lv_at hl 1 rfl) ?_
              refine lv_bipush (v := 41) hx hb dX8_findBounds_164 (by decide) ?_
              refine lv_iadd hx hb dX8_findBounds_166 ?_
              refine lv_iconst (v := 1) hx hb dX8_findBounds_167 (by decide) ?_
              refine lv_isub hx hb dX8_findBounds_168 ?_
              refine va_mmin hx hb (hml.trans hl.1.symm) hown (hts _ (List.mem_of_getElem? (i := 4) rfl)) (hts _ (List.mem_of_getElem? (i := 5) rfl)) (hts _ (List.mem_of_getElem? (i := 6) rfl)) (hts _ (List.mem_of_getElem? (i := 7) rfl)) (Nat.le_of_ble_eq_true rfl) (Nat.le_of_ble_eq_true rfl) (Nat.le_of_ble_eq_true rfl) (Nat.le_of_ble_eq_true rfl) dX8_findBounds_169 ?_
              refine lv_topi (fun mi emi => ?_)
              have hb1 : (nl + 41).toInt = nl.toInt + 41 := by rw [fb_addI (by rw [tI_41]; omega) (by rw [tI_41]; omega), tI_41]
              have hb2 : (nl + 41 - 1).toInt = nl.toInt + 40 := by rw [fb_subI (by rw [hb1, tI_1]; omega) (by rw [hb1, tI_1]; omega), hb1, tI_1]; omega
              have hmin : mi.toInt = nh.toInt := by
                rw [emi]
                by_cases h9 : nl + 41 - 1 < nh
                · have := z_lt h9; omega
                · rw [if_neg h9]
              refine z_iast hx hb hK hS h_h hkw2 (vp_in_nI (by omega) (by omega)) dX8_findBounds_172 (fun g_23 H locs hg_23 hS => ?_)
              have h_h : g_23 (k + 2) = .inl (Z.2.2.2 0, 13, .inl (upd hv (nI (i + 1)).toNatClampNeg mi)) := z_up_s hg_23
              have h_b := z_up_n hg_23 h_b (by omega)
              have h_d := z_up_n hg_23 h_d (by omega)
              have h_c := z_up_n hg_23 h_c (by omega)
              have h_w := z_up_n hg_23 h_w (by omega)
              have h_l := z_up_n hg_23 h_l (by omega)
              have h_t := z_up_n hg_23 h_t (by omega)
              refine lv_iinc (v := (nI (i + 1))) (lv' := [(4, .int (nI (i + 1))), (8, .int nh), (7, .int nl), (6, .int lg), (5, .int sm), (0, .ref (Z.2.1 k)), (1, .int x), (2, .int mn9), (3, .int mx9)]) hx hb dX8_findBounds_173 hl (k := 8) rfl (nI_1 _) (by decide) rfl (fun ls hl => ?_)
              refine lv_goto (tgt := 33) hx hb dX8_findBounds_176 (by decide) ?_
              exact ih_33 (i + 1) (upd lv (nI (i + 1)).toNatClampNeg nl) (upd hv (nI (i + 1)).toNatClampNeg mi) g_23 h_b h_d h_c h_w h_l h_h h_t ((hfr_ga.up hg_22 (by omega)).up hg_23 (by omega)) (by omega) (by rw [nI_clamp (by omega), pk_un (by omega), pk_un (by omega)]; exact hl0) (fun l hl9 => by
                  rw [nI_clamp (by omega)]
                  by_cases h9 : l = i + 1
                  · subst h9; rw [pk_us, pk_us, hmin]; omega
                  · rw [pk_un h9, pk_un h9]; exact hbb l (by omega)) (fun l hl9 => by
                  rw [nI_clamp (by omega), pk_un (show l ≠ i + 1 by omega), pk_un (show l ≠ i + 1 by omega)]
                  by_cases h9 : l = i
                  · subst h9; rw [pk_us, pk_us, hmin]; exact hst.2.2.2
                  · rw [pk_un (show l + 1 ≠ i + 1 by omega), pk_un (show l + 1 ≠ i + 1 by omega)]; exact hcl l (by omega)) (by omega) _ _ _ hS (lv_sub hl [5, 6, 7, 8, 0] rfl)
  exact hcut_33 (12 - 0 + 1) 0 (upd lw (0 : Int32).toNatClampNeg x) (upd hw (0 : Int32).toNatClampNeg x) g_6 h_b h_d h_c h_w h_l h_h h_t ((z_fr.rf.up hg_5 (by omega)).up hg_6 (by omega)) (by omega) ⟨rfl, rfl⟩ (fun l hl9 => by
      have : l = 0 := by omega
      subst this
      show x.toInt ≤ x.toInt + 40 ∧ -100000 ≤ x.toInt ∧ x.toInt ≤ 100000 ∧ -100000 ≤ x.toInt ∧ x.toInt ≤ 100000
      omega) (fun l hl9 => absurd hl9 (Nat.not_lt_zero l)) (Nat.lt_succ_self _) _ _ _ hS (lv_sub hl [3, 4, 2, 1, 0] rfl)

