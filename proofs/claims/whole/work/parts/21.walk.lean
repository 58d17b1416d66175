/-! the walk of an expansion -/
def zo_walk (Z : zT) (g : Nat → va_E) (k kb : Nat) (v1 v2 v3 v4 v5 v6 : Int32) : Prop := g k = .inr (7, [.ref (Z.2.1 kb), .int v1, .int v2, .int v3, .int v4, .int v5, .int v6]) ∧ k < Z.1 ∧ (k < kb ∨ kb + 3 ≤ k)
def zw_ok (b : zb) (nn : Int) (v2 v3 : Int32) : Prop := zb_ok b ∧ zcm b ∧ v2.toInt = nn ∧ 1 ≤ nn ∧ nn ≤ 60 ∧ 1 ≤ v3.toInt ∧ v3.toInt ≤ 9 ∧ (v3.toInt * nn) % zP b = 1
theorem in_X7_digitOf_0 : ∀ w ∈ wsX00, w ∈ wsX7_digitOf := by decide +kernel
theorem in_X7_digitOf_7 : ∀ w ∈ wsX70, w ∈ wsX7_digitOf := by decide +kernel
set_option maxHeartbeats 4000000 in
set_option maxRecDepth 100000 in
theorem k_digitOf (Z : zT) (g : Nat → va_E) (k kb : Nat) (b : zb) (v1 v2 v3 v4 v5 v6 : Int32) (hW : zo_walk Z g k kb v1 v2 v3 v4 v5 v6) (hB : z_b1 Z g kb b) (nn : Int) (hok2 : zw_ok b nn v2 v3) (x : Int32) (hx5 : -100000 ≤ x.toInt ∧ x.toInt ≤ 100000) : z_Mi Z yX7_digitOf wsX7_digitOf 2 44 [.ref (Z.2.1 k), .int x] g (fun r g1 => g = g1 ∧ r.toInt = zsd b nn x.toInt) := by
  intro l sz
  obtain ⟨pb, qb, res, cmp, dg, ch, ⟨h_b, h_d, h_c, hkN, hok, hp, hq, hres, hdg⟩, hch⟩ := id hB
  have hk0 : kb < Z.1 := by omega
  have hk1 : kb + 1 < Z.1 := by omega
  have hk2 : kb + 2 < Z.1 := by omega
  have hPb := zP_bd hok
  have hn12 := hok.2.2.2.1
  have hq1 := hok.2.1
  obtain ⟨h_w, hkw, hsep⟩ := id hW
  obtain ⟨-, hcm, hv2, hn1, hn60, hi1, hi9, hinv⟩ := id hok2
  refine z_enter (maxL := 2) (ret := (some .int)) (lv := [(0, .ref (Z.2.1 k)), (1, .int x)]) (plainFor_of_name (by decide +kernel)) rfl (fun ls h => by subst h; exact lv_entry [.ref (Z.2.1 k), .int x] (n := 2) (Nat.le_of_ble_eq_true rfl)) ?_
  intro p e s m args below meth c hx hb hml hr hlocks hown hts hK hS hsz ls hl
  refine lv_aload_n hx hb dX7_digitOf_0 rfl (lv_at hl 0 rfl) ?_
  refine z_get (own := RX7) (C := RX7) (T := TX7) (N := 7) hx hb hts in_X7_digitOf_7 hown hK hS h_w hkw rfl 0 (by decide) (List.mem_of_getElem? (i := 1) rfl) rfl rfl dX7_digitOf_1 ?_
  refine lv_aload_n hx hb dX7_digitOf_4 rfl (lv_at hl 0 rfl) ?_
  refine z_get (own := RX7) (C := RX7) (T := TX7) (N := 7) hx hb hts in_X7_digitOf_7 hown hK hS h_w hkw rfl 0 (by decide) (List.mem_of_getElem? (i := 1) rfl) rfl rfl dX7_digitOf_5 ?_
  refine z_getN (own := RX7) (C := RX0) (T := TX0) (N := 7) hx hb hts in_X7_digitOf_0 hown hK hS h_b hk0 rfl 1 (by decide) 25 rfl rfl rfl dX7_digitOf_8 ?_
  refine lv_iload_n hx hb dX7_digitOf_11 rfl (lv_at hl 1 rfl) ?_
  refine lv_imul hx hb dX7_digitOf_12 ?_
  refine lv_aload_n hx hb dX7_digitOf_13 rfl (lv_at hl 0 rfl) ?_
  refine z_get (own := RX7) (C := RX7) (T := TX7) (N := 7) hx hb hts in_X7_digitOf_7 hown hK hS h_w hkw rfl 3 (by decide) (List.mem_of_getElem? (i := 2) rfl) rfl rfl dX7_digitOf_14 ?_
  refine lv_imul hx hb dX7_digitOf_17 ?_
  have hmb := z_mul_bd (x := b.2.1) (y := x.toInt) (a := 9) (b := 100000) (by omega) (by omega) (by omega) (by omega)
  have hqx : (qb * x).toInt = b.2.1 * x.toInt := by rw [fb_mulI (by rw [hq]; omega) (by rw [hq]; omega), hq]
  have hmb2 := z_mul_bd (x := b.2.1 * x.toInt) (y := v3.toInt) (a := 900000) (b := 9) (by omega) (by omega) (by omega) (by omega)
  have hqi : (qb * x * v3).toInt = b.2.1 * x.toInt * v3.toInt := by rw [fb_mulI (by rw [hqx]; omega) (by rw [hqx]; omega), hqx]
  refine z_calli (z_runVN (As := [.int ((qb * x) * v3)]) (rest := []) (C := RX0) ⟨hx, hb, hml, hown, hts⟩ hK hS ((k_digitFor Z g kb b hB (qb * x * v3)) l _) gX7_digitOf_X0_digitFor_n55 rfl 1 55 rfl (List.mem_of_getElem? (i := 4) rfl) (List.mem_of_getElem? (i := 3) rfl) (List.mem_of_getElem? (i := 5) rfl) (by decide +kernel) ⟨Nat.le_of_ble_eq_true rfl, Nat.le_of_ble_eq_true rfl⟩ h_b hk0 rfl rfl hl.1 rfl (Nat.le_of_ble_eq_true rfl) dX7_digitOf_18 ⟨Nat.le_of_ble_eq_true rfl, Nat.le_of_ble_eq_true rfl⟩) hS (fun rr g_1 H locs hp_2 hS => ?_)
  obtain ⟨rfl, hp_2⟩ := hp_2
  have hrr := hp_2
  rw [hqi, ← zsd_inv hcm hinv] at hrr
  refine z_iret hx hb hr hlocks hS ?_ dX7_digitOf_21
  exact ⟨rfl, hrr⟩

theorem in_X7_after_0 : ∀ w ∈ wsX00, w ∈ wsX7_after := by decide +kernel
theorem in_X7_after_7 : ∀ w ∈ wsX70, w ∈ wsX7_after := by decide +kernel
set_option maxHeartbeats 4000000 in
set_option maxRecDepth 100000 in
theorem k_after (Z : zT) (g : Nat → va_E) (k kb : Nat) (b : zb) (v1 v2 v3 v4 v5 v6 : Int32) (hW : zo_walk Z g k kb v1 v2 v3 v4 v5 v6) (hB : z_b1 Z g kb b) (nn : Int) (hok2 : zw_ok b nn v2 v3) (x : Int32) (hx5 : -100000 ≤ x.toInt ∧ x.toInt ≤ 100000) : z_Mi Z yX7_after wsX7_after 2 44 [.ref (Z.2.1 k), .int x] g (fun r g1 => g = g1 ∧ r.toInt = zst b nn x.toInt) := by
  intro l sz
  obtain ⟨pb, qb, res, cmp, dg, ch, ⟨h_b, h_d, h_c, hkN, hok, hp, hq, hres, hdg⟩, hch⟩ := id hB
  have hk0 : kb < Z.1 := by omega
  have hk1 : kb + 1 < Z.1 := by omega
  have hk2 : kb + 2 < Z.1 := by omega
  have hPb := zP_bd hok
  have hn12 := hok.2.2.2.1
  have hq1 := hok.2.1
  obtain ⟨h_w, hkw, hsep⟩ := id hW
  obtain ⟨-, hcm, hv2, hn1, hn60, hi1, hi9, hinv⟩ := id hok2
  refine z_enter (maxL := 3) (ret := (some .int)) (lv := [(0, .ref (Z.2.1 k)), (1, .int x)]) (plainFor_of_name (by decide +kernel)) rfl (fun ls h => by subst h; exact lv_entry [.ref (Z.2.1 k), .int x] (n := 3) (Nat.le_of_ble_eq_true rfl)) ?_
  intro p e s m args below meth c hx hb hml hr hlocks hown hts hK hS hsz ls hl
  refine lv_aload_n hx hb dX7_after_0 rfl (lv_at hl 0 rfl) ?_
  refine z_get (own := RX7) (C := RX7) (T := TX7) (N := 7) hx hb hts in_X7_after_7 hown hK hS h_w hkw rfl 0 (by decide) (List.mem_of_getElem? (i := 1) rfl) rfl rfl dX7_after_1 ?_
  refine z_getN (own := RX7) (C := RX0) (T := TX0) (N := 7) hx hb hts in_X7_after_0 hown hK hS h_b hk0 rfl 1 (by decide) 25 rfl rfl rfl dX7_after_4 ?_
  refine lv_iload_n hx hb dX7_after_7 rfl (lv_at hl 1 rfl) ?_
  refine lv_imul hx hb dX7_after_8 ?_
  refine lv_topi (fun u eu => ?_)
  have hmb := z_mul_bd (x := b.2.1) (y := x.toInt) (a := 9) (b := 100000) (by omega) (by omega) (by omega) (by omega)
  have hqx : (qb * x).toInt = b.2.1 * x.toInt := by rw [fb_mulI (by rw [hq]; omega) (by rw [hq]; omega), hq]
  have hmb2 := z_mul_bd (x := b.2.1 * x.toInt) (y := v3.toInt) (a := 900000) (b := 9) (by omega) (by omega) (by omega) (by omega)
  have hu : u.toInt = b.2.1 * x.toInt := by rw [eu]; exact hqx
  have hqi : (u * v3).toInt = b.2.1 * x.toInt * v3.toInt := by rw [fb_mulI (by rw [hu]; omega) (by rw [hu]; omega), hu]
  refine lv_istore_n (lv' := [(2, .int u), (0, .ref (Z.2.1 k)), (1, .int x)]) hx hb dX7_after_9 rfl hl (by decide) rfl (fun ls hl => ?_)
  refine lv_aload_n hx hb dX7_after_10 rfl (lv_at hl 1 rfl) ?_
  refine z_get (own := RX7) (C := RX7) (T := TX7) (N := 7) hx hb hts in_X7_after_7 hown hK hS h_w hkw rfl 0 (by decide) (List.mem_of_getElem? (i := 1) rfl) rfl rfl dX7_after_11 ?_
  refine lv_iload_n hx hb dX7_after_14 rfl (lv_at hl 0 rfl) ?_
  refine lv_aload_n hx hb dX7_after_15 rfl (lv_at hl 1 rfl) ?_
  refine z_get (own := RX7) (C := RX7) (T := TX7) (N := 7) hx hb hts in_X7_after_7 hown hK hS h_w hkw rfl 0 (by decide) (List.mem_of_getElem? (i := 1) rfl) rfl rfl dX7_after_16 ?_
  refine lv_iload_n hx hb dX7_after_19 rfl (lv_at hl 0 rfl) ?_
  refine lv_aload_n hx hb dX7_after_20 rfl (lv_at hl 1 rfl) ?_
  refine z_get (own := RX7) (C := RX7) (T := TX7) (N := 7) hx hb hts in_X7_after_7 hown hK hS h_w hkw rfl 3 (by decide) (List.mem_of_getElem? (i := 2) rfl) rfl rfl dX7_after_21 ?_
  refine lv_imul hx hb dX7_after_24 ?_
  refine z_calli (z_runVN (As := [.int (u * v3)]) (rest := [.int u, .ref (Z.2.1 kb)]) (C := RX0) ⟨hx, hb, hml, hown, hts⟩ hK hS ((k_digitFor Z g kb b hB (u * v3)) l _) gX7_after_X0_digitFor_n55 rfl 1 55 rfl (List.mem_of_getElem? (i := 5) rfl) (List.mem_of_getElem? (i := 4) rfl) (List.mem_of_getElem? (i := 6) rfl) (by decide +kernel) ⟨Nat.le_of_ble_eq_true rfl, Nat.le_of_ble_eq_true rfl⟩ h_b hk0 rfl rfl hl.1 rfl (Nat.le_of_ble_eq_true rfl) dX7_after_25 ⟨Nat.le_of_ble_eq_true rfl, Nat.le_of_ble_eq_true rfl⟩) hS (fun dd g_1 H locs hp_2 hS => ?_)
  obtain ⟨rfl, hp_2⟩ := hp_2
  have hdd := hp_2
  rw [hqi, ← zsd_inv hcm hinv] at hdd
  have hbd := zsd_bd hok nn x.toInt
  have hmb3 := z_mul_bd (x := zsd b nn x.toInt) (y := nn) (a := 20) (b := 60) (by omega) (by omega) (by omega) (by omega)
  have hdn : (dd * v2).toInt = zsd b nn x.toInt * nn := by rw [fb_mulI (by rw [hdd, hv2]; omega) (by rw [hdd, hv2]; omega), hdd, hv2]
  have hud : (u - dd * v2).toInt = b.2.1 * x.toInt - zsd b nn x.toInt * nn := by rw [fb_subI (by rw [hu, hdn]; omega) (by rw [hu, hdn]; omega), hu, hdn]
  refine lv_aload_n hx hb dX7_after_28 rfl (lv_at hl 1 rfl) ?_
  refine z_get (own := RX7) (C := RX7) (T := TX7) (N := 7) hx hb hts in_X7_after_7 hown hK hS h_w hkw rfl 2 (by decide) (List.mem_of_getElem? (i := 3) rfl) rfl rfl dX7_after_29 ?_
  refine lv_imul hx hb dX7_after_32 ?_
  refine lv_isub hx hb dX7_after_33 ?_
  refine z_calli (z_runVN (As := [.int (u - (dd * v2))]) (rest := []) (C := RX0) ⟨hx, hb, hml, hown, hts⟩ hK hS ((k_quotient Z g kb b hB.b0 (u - dd * v2)) l _) gX7_after_X0_quotient_n58 rfl 1 56 rfl (List.mem_of_getElem? (i := 5) rfl) (List.mem_of_getElem? (i := 15) rfl) (List.mem_of_getElem? (i := 16) rfl) (by decide +kernel) ⟨Nat.le_of_ble_eq_true rfl, Nat.le_of_ble_eq_true rfl⟩ h_b hk0 rfl rfl hl.1 rfl (Nat.le_of_ble_eq_true rfl) dX7_after_34 ⟨Nat.le_of_ble_eq_true rfl, Nat.le_of_ble_eq_true rfl⟩) hS (fun rr g_3 H locs hp_4 hS => ?_)
  obtain ⟨rfl, hp_4⟩ := hp_4
  have hrr := hp_4
  rw [hud] at hrr
  refine z_iret hx hb hr hlocks hS ?_ dX7_after_37
  exact ⟨rfl, hrr⟩

set_option maxHeartbeats 4000000 in
set_option maxRecDepth 100000 in
theorem k_ahead (Z : zT) (g : Nat → va_E) (k kb : Nat) (b : zb) (v1 v2 v3 v4 v5 v6 : Int32) (hW : zo_walk Z g k kb v1 v2 v3 v4 v5 v6) (hB : z_b1 Z g kb b) (nn : Int) (hok2 : zw_ok b nn v2 v3) (x : Int32) (hx5 : -100000 ≤ x.toInt ∧ x.toInt ≤ 100000) (t : Nat) (ht : t < 2147483647) : z_Mi Z yX7_ahead wsX7_ahead 3 66 [.ref (Z.2.1 k), .int x, .int (nI t)] g (fun r g1 => g = g1 ∧ r.toInt = zor (zst b nn) x.toInt t) := by
  intro l sz
  obtain ⟨pb, qb, res, cmp, dg, ch, ⟨h_b, h_d, h_c, hkN, hok, hp, hq, hres, hdg⟩, hch⟩ := id hB
  have hk0 : kb < Z.1 := by omega
  have hk1 : kb + 1 < Z.1 := by omega
  have hk2 : kb + 2 < Z.1 := by omega
  have hPb := zP_bd hok
  have hn12 := hok.2.2.2.1
  have hq1 := hok.2.1
  obtain ⟨h_w, hkw, hsep⟩ := id hW
  obtain ⟨-, hcm, hv2, hn1, hn60, hi1, hi9, hinv⟩ := id hok2
  refine z_enter (maxL := 5) (ret := (some .int)) (lv := [(0, .ref (Z.2.1 k)), (1, .int x), (2, .int (nI t))]) (plainFor_of_name (by decide +kernel)) rfl (fun ls h => by subst h; exact lv_entry [.ref (Z.2.1 k), .int x, .int (nI t)] (n := 5) (Nat.le_of_ble_eq_true rfl)) ?_
  intro p e s m args below meth c hx hb hml hr hlocks hown hts hK hS hsz ls hl
  refine lv_iload_n hx hb dX7_ahead_0 rfl (lv_at hl 1 rfl) ?_
  refine lv_istore_n (lv' := [(3, .int x), (0, .ref (Z.2.1 k)), (1, .int x), (2, .int (nI t))]) hx hb dX7_ahead_1 rfl hl (by decide) rfl (fun ls hl => ?_)
  refine lv_iconst (v := 0) hx hb dX7_ahead_2 (by decide) ?_
  refine lv_istore (lv' := [(4, .int 0), (3, .int x), (0, .ref (Z.2.1 k)), (1, .int x), (2, .int (nI t))]) hx hb dX7_ahead_3 hl (by decide) rfl (fun ls hl => ?_)
  have hcut_5 : ∀ (nn_5 : Nat) (y : Int32) (j : Nat) (hj : j ≤ t) (hy : y.toInt = zor (zst b nn) x.toInt j) (hm_5 : t - j < nn_5) (H : Heap) (locs : List Loc) (ls : Array Slot), z_S Z (z_A Z sz) s.heap g H locs → lv_has ls 5 [(0, .ref (Z.2.1 k)), (1, .int x), (2, .int (nI t)), (3, .int y), (4, .int (nI j))] → W p l e (headSpec wsX7_ahead (z_rm 3 66)).room s m args below meth c H locs 0 0 (MQ below (va_Qi (fun r g1 => g = g1 ∧ r.toInt = zor (zst b nn) x.toInt t) (z_B Z) (z_A Z sz)) args s 0 0 (z_A Z sz)) (F0 m 5 ls []) := by
    intro nn_5
    induction nn_5 with
    | zero => intro y j hj hy hm_5 H locs ls hS hl; exact absurd hm_5 (Nat.not_lt_zero _)
    | succ nn_5 ih_5 =>
      intro y j hj hy hm_5 H locs ls hS hl
      refine lv_iload hx hb dX7_ahead_5 (lv_at hl 4 rfl) ?_
      refine lv_iload_n hx hb dX7_ahead_7 rfl (lv_at hl 2 rfl) ?_
      refine lv_icmp_ge (tgt := 23) hx hb dX7_ahead_8 (by decide) (fun c_1 => ?_) (fun c_1 => ?_)
      · have i_1 := z_le c_1
        rw [nI_toInt (by omega)] at i_1
        rw [nI_toInt (by omega)] at i_1
        have hjt : j = t := by omega
        subst hjt
        refine lv_iload_n hx hb dX7_ahead_23 rfl (lv_at hl 3 rfl) ?_
        refine z_iret hx hb hr hlocks hS ?_ dX7_ahead_24
        exact ⟨rfl, hy⟩
      · have i_1 := z_nle c_1
        rw [nI_toInt (by omega)] at i_1
        rw [nI_toInt (by omega)] at i_1
        refine lv_aload_n hx hb dX7_ahead_11 rfl (lv_at hl 0 rfl) ?_
        refine lv_iload_n hx hb dX7_ahead_12 rfl (lv_at hl 3 rfl) ?_
        have hyb := zor_bd hok (nn := nn) ⟨hn1, hn60⟩ hx5 j
        rw [← hy] at hyb
        refine z_calli (z_runV (As := [.int y]) (rest := []) ⟨hx, hb, hml, hown, hts⟩ hK hS ((k_after Z g k kb b v1 v2 v3 v4 v5 v6 hW hB nn hok2 y hyb) l _) gX7_ahead_X7_after rfl 1 (by decide +kernel) ⟨Nat.le_of_ble_eq_true rfl, Nat.le_of_ble_eq_true rfl⟩ h_w hkw rfl rfl hl.1 rfl (Nat.le_of_ble_eq_true rfl) dX7_ahead_13 ⟨Nat.le_of_ble_eq_true rfl, Nat.le_of_ble_eq_true rfl⟩) hS (fun y2 g_2 H locs hp_3 hS => ?_)
        obtain ⟨rfl, hp_3⟩ := hp_3
        have hy2 : y2.toInt = zor (zst b nn) x.toInt (j + 1) := by rw [hp_3, hy]; rfl
        refine lv_istore_n (lv' := [(3, .int y2), (0, .ref (Z.2.1 k)), (1, .int x), (2, .int (nI t)), (4, .int (nI j))]) hx hb dX7_ahead_16 rfl hl (by decide) rfl (fun ls hl => ?_)
        refine lv_iinc (v := (nI (j + 1))) (lv' := [(4, .int (nI (j + 1))), (3, .int y2), (0, .ref (Z.2.1 k)), (1, .int x), (2, .int (nI t))]) hx hb dX7_ahead_17 hl (k := 4) rfl (nI_1 _) (by decide) rfl (fun ls hl => ?_)
        refine lv_goto (tgt := 5) hx hb dX7_ahead_20 (by decide) ?_
        exact ih_5 y2 (j + 1) (by omega) (by assumption) (by omega) _ _ _ hS (lv_sub hl [2, 3, 4, 1, 0] rfl)
  exact hcut_5 (t - 0 + 1) x 0 (by omega) rfl (Nat.lt_succ_self _) _ _ _ hS (lv_sub hl [2, 3, 4, 1, 0] rfl)

theorem in_X7_inverseOf_0 : ∀ w ∈ wsX00, w ∈ wsX7_inverseOf := by decide +kernel
theorem in_X7_inverseOf_7 : ∀ w ∈ wsX70, w ∈ wsX7_inverseOf := by decide +kernel
set_option maxHeartbeats 4000000 in
set_option maxRecDepth 100000 in
theorem k_inverseOf (Z : zT) (g : Nat → va_E) (k kb : Nat) (b : zb) (v1 v2 v3 v4 v5 v6 : Int32) (hW : zo_walk Z g k kb v1 v2 v3 v4 v5 v6) (hB : z_b1 Z g kb b) (x : Int32) (hx6 : 1 ≤ x.toInt ∧ x.toInt ≤ 60) (hex : ∃ iv : Nat, 1 ≤ iv ∧ (iv : Int) < zP b ∧ ((iv : Int) * x.toInt) % zP b = 1) : z_Mi Z yX7_inverseOf wsX7_inverseOf 2 43 [.ref (Z.2.1 k), .int x] g (fun r g1 => g = g1 ∧ 1 ≤ r.toInt ∧ r.toInt ≤ 9 ∧ (r.toInt * x.toInt) % zP b = 1) := by
  intro l sz
  obtain ⟨pb, qb, res, cmp, dg, ch, ⟨h_b, h_d, h_c, hkN, hok, hp, hq, hres, hdg⟩, hch⟩ := id hB
  have hk0 : kb < Z.1 := by omega
  have hk1 : kb + 1 < Z.1 := by omega
  have hk2 : kb + 2 < Z.1 := by omega
  have hPb := zP_bd hok
  have hn12 := hok.2.2.2.1
  have hq1 := hok.2.1
  obtain ⟨h_w, hkw, hsep⟩ := id hW
  obtain ⟨iv, hv1, hv9, hvv⟩ := hex
  refine z_enter (maxL := 3) (ret := (some .int)) (lv := [(0, .ref (Z.2.1 k)), (1, .int x)]) (plainFor_of_name (by decide +kernel)) rfl (fun ls h => by subst h; exact lv_entry [.ref (Z.2.1 k), .int x] (n := 3) (Nat.le_of_ble_eq_true rfl)) ?_
  intro p e s m args below meth c hx hb hml hr hlocks hown hts hK hS hsz ls hl
  refine lv_iconst (v := 1) hx hb dX7_inverseOf_0 (by decide) ?_
  refine lv_istore_n (lv' := [(2, .int 1), (0, .ref (Z.2.1 k)), (1, .int x)]) hx hb dX7_inverseOf_1 rfl hl (by decide) rfl (fun ls hl => ?_)
  have hcut_2 : ∀ (nn_2 : Nat) (j : Nat) (hj1 : 1 ≤ j) (hj : j ≤ iv) (hm_2 : 10 - j < nn_2) (H : Heap) (locs : List Loc) (ls : Array Slot), z_S Z (z_A Z sz) s.heap g H locs → lv_has ls 3 [(0, .ref (Z.2.1 k)), (1, .int x), (2, .int (nI j))] → W p l e (headSpec wsX7_inverseOf (z_rm 2 43)).room s m args below meth c H locs 0 0 (MQ below (va_Qi (fun r g1 => g = g1 ∧ 1 ≤ r.toInt ∧ r.toInt ≤ 9 ∧ (r.toInt * x.toInt) % zP b = 1) (z_B Z) (z_A Z sz)) args s 0 0 (z_A Z sz)) (F0 m 2 ls []) := by
    intro nn_2
    induction nn_2 with
    | zero => intro j hj1 hj hm_2 H locs ls hS hl; exact absurd hm_2 (Nat.not_lt_zero _)
    | succ nn_2 ih_2 =>
      intro j hj1 hj hm_2 H locs ls hS hl
      refine lv_iload_n hx hb dX7_inverseOf_2 rfl (lv_at hl 2 rfl) ?_
      refine lv_aload_n hx hb dX7_inverseOf_3 rfl (lv_at hl 0 rfl) ?_
      refine z_get (own := RX7) (C := RX7) (T := TX7) (N := 7) hx hb hts in_X7_inverseOf_7 hown hK hS h_w hkw rfl 0 (by decide) (List.mem_of_getElem? (i := 1) rfl) rfl rfl dX7_inverseOf_4 ?_
      refine z_getN (own := RX7) (C := RX0) (T := TX0) (N := 7) hx hb hts in_X7_inverseOf_0 hown hK hS h_b hk0 rfl 2 (by decide) 24 rfl rfl rfl dX7_inverseOf_7 ?_
      refine lv_icmp_ge (tgt := 35) hx hb dX7_inverseOf_10 (by decide) (fun c_1 => ?_) (fun c_1 => ?_)
      · have i_1 := z_le c_1
        rw [nI_toInt (by omega)] at i_1
        exfalso; omega
      · have i_1 := z_nle c_1
        rw [nI_toInt (by omega)] at i_1
        refine lv_aload_n hx hb dX7_inverseOf_13 rfl (lv_at hl 0 rfl) ?_
        refine z_get (own := RX7) (C := RX7) (T := TX7) (N := 7) hx hb hts in_X7_inverseOf_7 hown hK hS h_w hkw rfl 0 (by decide) (List.mem_of_getElem? (i := 1) rfl) rfl rfl dX7_inverseOf_14 ?_
        refine lv_iload_n hx hb dX7_inverseOf_17 rfl (lv_at hl 2 rfl) ?_
        refine lv_iload_n hx hb dX7_inverseOf_18 rfl (lv_at hl 1 rfl) ?_
        refine lv_imul hx hb dX7_inverseOf_19 ?_
        have hmb := z_mul_bd (x := (j : Int)) (y := x.toInt) (a := 10) (b := 60) (by omega) (by omega) (by omega) (by omega)
        have hjx : (nI j * x).toInt = (j : Int) * x.toInt := by rw [fb_mulI (by rw [nI_toInt (by omega)]; omega) (by rw [nI_toInt (by omega)]; omega), nI_toInt (by omega)]
        refine z_calli (z_runVN (As := [.int ((nI j) * x)]) (rest := []) (C := RX0) ⟨hx, hb, hml, hown, hts⟩ hK hS ((k_residueOf Z g kb b hB.b0 (nI j * x)) l _) gX7_inverseOf_X0_residueOf_n49 rfl 1 54 rfl (List.mem_of_getElem? (i := 3) rfl) (List.mem_of_getElem? (i := 2) rfl) (List.mem_of_getElem? (i := 4) rfl) (by decide +kernel) ⟨Nat.le_of_ble_eq_true rfl, Nat.le_of_ble_eq_true rfl⟩ h_b hk0 rfl rfl hl.1 rfl (Nat.le_of_ble_eq_true rfl) dX7_inverseOf_20 ⟨Nat.le_of_ble_eq_true rfl, Nat.le_of_ble_eq_true rfl⟩) hS (fun rr g_2 H locs hp_3 hS => ?_)
        obtain ⟨rfl, hp_3⟩ := hp_3
        have hrr := hp_3
        rw [hjx] at hrr
        refine lv_iconst (v := 1) hx hb dX7_inverseOf_23 (by decide) ?_
        refine lv_icmp_ne (tgt := 29) hx hb dX7_inverseOf_24 (by decide) (fun c_4 => ?_) (fun c_4 => ?_)
        · have i_4 := z_ne c_4
          rw [tI_1] at i_4
          refine lv_iinc (v := (nI (j + 1))) (lv' := [(2, .int (nI (j + 1))), (0, .ref (Z.2.1 k)), (1, .int x)]) hx hb dX7_inverseOf_29 hl (k := 2) rfl (nI_1 _) (by decide) rfl (fun ls hl => ?_)
          refine lv_goto (tgt := 2) hx hb dX7_inverseOf_32 (by decide) ?_
          exact ih_2 (j + 1) (by omega) (by
              rcases Nat.lt_or_ge j iv with q9 | q9
              · omega
              · have : j = iv := by omega
                subst this; omega) (by omega) _ _ _ hS (lv_sub hl [1, 2, 0] rfl)
        · have i_4 := z_eq c_4
          rw [tI_1] at i_4
          refine lv_iload_n hx hb dX7_inverseOf_27 rfl (lv_at hl 2 rfl) ?_
          refine z_iret hx hb hr hlocks hS ?_ dX7_inverseOf_28
          exact ⟨rfl, by rw [nI_toInt (by omega)]; omega, by rw [nI_toInt (by omega)]; omega, by rw [nI_toInt (by omega)]; omega⟩
  exact hcut_2 (10 - 1 + 1) 1 (by omega) (by omega) (Nat.lt_succ_self _) _ _ _ hS (lv_sub hl [1, 2, 0] rfl)

theorem in_X7_distanceAround_7 : ∀ w ∈ wsX70, w ∈ wsX7_distanceAround := by decide +kernel
set_option maxHeartbeats 4000000 in
set_option maxRecDepth 100000 in
theorem k_distanceAround (Z : zT) (g : Nat → va_E) (k kb : Nat) (b : zb) (v1 v2 v3 v4 v5 v6 : Int32) (hW : zo_walk Z g k kb v1 v2 v3 v4 v5 v6) (hB : z_b1 Z g kb b) (nn : Int) (hok2 : zw_ok b nn v2 v3) (mu la : Nat) (hper : zper (zor (zst b nn) v1.toInt) mu la) (hmu9 : mu + la ≤ 200001) (hv1 : -100000 ≤ v1.toInt ∧ v1.toInt ≤ 100000) : z_Mi Z yX7_distanceAround wsX7_distanceAround 3 66 [.ref (Z.2.1 k)] g (fun r g1 => g = g1 ∧ r = nI la) := by
  intro l sz
  obtain ⟨pb, qb, res, cmp, dg, ch, ⟨h_b, h_d, h_c, hkN, hok, hp, hq, hres, hdg⟩, hch⟩ := id hB
  have hk0 : kb < Z.1 := by omega
  have hk1 : kb + 1 < Z.1 := by omega
  have hk2 : kb + 2 < Z.1 := by omega
  have hPb := zP_bd hok
  have hn12 := hok.2.2.2.1
  have hq1 := hok.2.1
  obtain ⟨h_w, hkw, hsep⟩ := id hW
  obtain ⟨-, hcm, hv2, hn1, hn60, hi1, hi9, hinv⟩ := id hok2
  have hob := zor_bd hok (nn := nn) ⟨hn1, hn60⟩ hv1
  have hla := hper.1
  refine z_enter (maxL := 6) (ret := (some .int)) (lv := [(0, .ref (Z.2.1 k))]) (plainFor_of_name (by decide +kernel)) rfl (fun ls h => by subst h; exact lv_entry [.ref (Z.2.1 k)] (n := 6) (Nat.le_of_ble_eq_true rfl)) ?_
  intro p e s m args below meth c hx hb hml hr hlocks hown hts hK hS hsz ls hl
  refine lv_aload_n hx hb dX7_distanceAround_0 rfl (lv_at hl 0 rfl) ?_
  refine z_get (own := RX7) (C := RX7) (T := TX7) (N := 7) hx hb hts in_X7_distanceAround_7 hown hK hS h_w hkw rfl 1 (by decide) (List.mem_of_getElem? (i := 1) rfl) rfl rfl dX7_distanceAround_1 ?_
  refine lv_istore_n (lv' := [(1, .int v1), (0, .ref (Z.2.1 k))]) hx hb dX7_distanceAround_4 rfl hl (by decide) rfl (fun ls hl => ?_)
  refine lv_aload_n hx hb dX7_distanceAround_5 rfl (lv_at hl 1 rfl) ?_
  refine z_get (own := RX7) (C := RX7) (T := TX7) (N := 7) hx hb hts in_X7_distanceAround_7 hown hK hS h_w hkw rfl 1 (by decide) (List.mem_of_getElem? (i := 1) rfl) rfl rfl dX7_distanceAround_6 ?_
  refine lv_istore_n (lv' := [(2, .int v1), (1, .int v1), (0, .ref (Z.2.1 k))]) hx hb dX7_distanceAround_9 rfl hl (by decide) rfl (fun ls hl => ?_)
  refine lv_iconst (v := 1) hx hb dX7_distanceAround_10 (by decide) ?_
  refine lv_istore_n (lv' := [(3, .int 1), (2, .int v1), (1, .int v1), (0, .ref (Z.2.1 k))]) hx hb dX7_distanceAround_11 rfl hl (by decide) rfl (fun ls hl => ?_)
  refine lv_iconst (v := 0) hx hb dX7_distanceAround_12 (by decide) ?_
  refine lv_istore (lv' := [(4, .int 0), (3, .int 1), (2, .int v1), (1, .int v1), (0, .ref (Z.2.1 k))]) hx hb dX7_distanceAround_13 hl (by decide) rfl (fun ls hl => ?_)
  refine lv_iconst (v := 0) hx hb dX7_distanceAround_15 (by decide) ?_
  refine lv_istore (lv' := [(5, .int 0), (4, .int 0), (3, .int 1), (2, .int v1), (1, .int v1), (0, .ref (Z.2.1 k))]) hx hb dX7_distanceAround_16 hl (by decide) rfl (fun ls hl => ?_)
  have hcut_18 : ∀ (nn_18 : Nat) (a : Int32) (y : Int32) (T : Nat) (dd : Nat) (j : Nat) (ha : a.toInt = zor (zst b nn) v1.toInt (T)) (hy : y.toInt = zor (zst b nn) v1.toInt (T + dd)) (hjT : j = T + dd) (hdT : dd ≤ T) (hTk : ∃ e : Nat, e ≤ 18 ∧ T + 1 = 2 ^ e) (hno : ∀ t, 0 < t → t ≤ dd → zor (zst b nn) v1.toInt (T + t) ≠ zor (zst b nn) v1.toInt (T)) (hm_18 : 1000000 - j < nn_18) (H : Heap) (locs : List Loc) (ls : Array Slot), z_S Z (z_A Z sz) s.heap g H locs → lv_has ls 6 [(0, .ref (Z.2.1 k)), (1, .int a), (2, .int y), (3, .int (nI (T + 1))), (4, .int (nI dd)), (5, .int (nI j))] → W p l e (headSpec wsX7_distanceAround (z_rm 3 66)).room s m args below meth c H locs 0 0 (MQ below (va_Qi (fun r g1 => g = g1 ∧ r = nI la) (z_B Z) (z_A Z sz)) args s 0 0 (z_A Z sz)) (F0 m 18 ls []) := by
    intro nn_18
    induction nn_18 with
    | zero => intro a y T dd j ha hy hjT hdT hTk hno hm_18 H locs ls hS hl; exact absurd hm_18 (Nat.not_lt_zero _)
    | succ nn_18 ih_18 =>
      intro a y T dd j ha hy hjT hdT hTk hno hm_18 H locs ls hS hl
      have hT18 : T ≤ 262143 := by
        obtain ⟨e1, he1, he2⟩ := hTk
        have := Nat.pow_le_pow_right (n := 2) (by omega) he1
        omega
      refine lv_iload hx hb dX7_distanceAround_18 (lv_at hl 5 rfl) ?_
      refine lv_ldc (v := 1000000) hx hb hown (hts _ (List.mem_of_getElem? (i := 2) rfl)) dX7_distanceAround_20 ?_
      refine lv_icmp_ge (tgt := 63) hx hb dX7_distanceAround_22 (by decide) (fun c_1 => ?_) (fun c_1 => ?_)
      · have i_1 := z_le c_1
        rw [nI_toInt (by omega)] at i_1
        rw [tI_1000000] at i_1
        exfalso; omega
      · have i_1 := z_nle c_1
        rw [nI_toInt (by omega)] at i_1
        rw [tI_1000000] at i_1
        refine lv_aload_n hx hb dX7_distanceAround_25 rfl (lv_at hl 0 rfl) ?_
        refine lv_iload_n hx hb dX7_distanceAround_26 rfl (lv_at hl 2 rfl) ?_
        refine z_calli (z_runV (As := [.int y]) (rest := []) ⟨hx, hb, hml, hown, hts⟩ hK hS ((k_after Z g k kb b v1 v2 v3 v4 v5 v6 hW hB nn hok2 y (by rw [hy]; exact hob _)) l _) gX7_distanceAround_X7_after rfl 1 (by decide +kernel) ⟨Nat.le_of_ble_eq_true rfl, Nat.le_of_ble_eq_true rfl⟩ h_w hkw rfl rfl hl.1 rfl (Nat.le_of_ble_eq_true rfl) dX7_distanceAround_27 ⟨Nat.le_of_ble_eq_true rfl, Nat.le_of_ble_eq_true rfl⟩) hS (fun y2 g_2 H locs hp_3 hS => ?_)
        obtain ⟨rfl, hp_3⟩ := hp_3
        have hy2 : y2.toInt = zor (zst b nn) v1.toInt (T + dd + 1) := by rw [hp_3, hy]; rfl
        refine lv_istore_n (lv' := [(2, .int y2), (0, .ref (Z.2.1 k)), (1, .int a), (3, .int (nI (T + 1))), (4, .int (nI dd)), (5, .int (nI j))]) hx hb dX7_distanceAround_30 rfl hl (by decide) rfl (fun ls hl => ?_)
        refine lv_iinc (v := (nI (dd + 1))) (lv' := [(4, .int (nI (dd + 1))), (2, .int y2), (0, .ref (Z.2.1 k)), (1, .int a), (3, .int (nI (T + 1))), (5, .int (nI j))]) hx hb dX7_distanceAround_31 hl (k := 4) rfl (nI_1 _) (by decide) rfl (fun ls hl => ?_)
        refine lv_iload_n hx hb dX7_distanceAround_34 rfl (lv_at hl 1 rfl) ?_
        refine lv_iload_n hx hb dX7_distanceAround_35 rfl (lv_at hl 3 rfl) ?_
        refine lv_icmp_ne (tgt := 42) hx hb dX7_distanceAround_36 (by decide) (fun c_4 => ?_) (fun c_4 => ?_)
        · have i_4 := z_ne c_4
          have hno2 : ∀ t, 0 < t → t ≤ dd + 1 → zor (zst b nn) v1.toInt (T + t) ≠ zor (zst b nn) v1.toInt (T) := by
            intro t h1 h2
            rcases Nat.lt_or_ge dd t with q9 | q9
            · have : t = dd + 1 := by omega
              subst this; rw [← ha]; show zor (zst b nn) v1.toInt (T + dd + 1) ≠ _; rw [← hy2]; exact i_4
            · exact hno t h1 q9
          refine lv_iload hx hb dX7_distanceAround_42 (lv_at hl 0 rfl) ?_
          refine lv_iload_n hx hb dX7_distanceAround_44 rfl (lv_at hl 4 rfl) ?_
          refine lv_icmp_ne (tgt := 57) hx hb dX7_distanceAround_45 (by decide) (fun c_5 => ?_) (fun c_5 => ?_)
          · have i_5 := z_ne c_5
            rw [nI_toInt (by omega)] at i_5
            rw [nI_toInt (by omega)] at i_5
            have hne : dd + 1 ≠ T + 1 := by omega
            refine lv_iinc (v := (nI (j + 1))) (lv' := [(5, .int (nI (j + 1))), (4, .int (nI (dd + 1))), (2, .int y2), (0, .ref (Z.2.1 k)), (1, .int a), (3, .int (nI (T + 1)))]) hx hb dX7_distanceAround_57 hl (k := 5) rfl (nI_1 _) (by decide) rfl (fun ls hl => ?_)
            refine lv_goto (tgt := 18) hx hb dX7_distanceAround_60 (by decide) ?_
            exact ih_18 a y2 T (dd + 1) (j + 1) ha (by rw [hy2]; congr 1) (by omega) (by omega) hTk hno2 (by omega) _ _ _ hS (lv_sub hl [3, 4, 2, 5, 1, 0] rfl)
          · have i_5 := z_eq c_5
            rw [nI_toInt (by omega)] at i_5
            rw [nI_toInt (by omega)] at i_5
            have hdT2 : dd = T := by omega
            subst hdT2
            have hTk2 : ∃ e : Nat, e ≤ 18 ∧ dd + (dd + 1) + 1 = 2 ^ e := by
              obtain ⟨e1, he1, he2⟩ := hTk
              rcases Nat.lt_or_ge e1 18 with q9 | q9
              · exact ⟨e1 + 1, by omega, by rw [Nat.pow_succ]; omega⟩
              · exfalso
                have : e1 = 18 := by omega
                subst this
                have hd : dd + 1 = 262144 := he2
                exact hno2 la hla (by omega) ((zper_iff hper (i := dd) (j := dd + la) (by omega)).mpr ⟨by omega, by rw [Nat.add_sub_cancel_left]; exact Nat.dvd_refl _⟩).symm
            refine lv_iload_n hx hb dX7_distanceAround_48 rfl (lv_at hl 1 rfl) ?_
            refine lv_istore_n (lv' := [(1, .int y2), (4, .int (nI (dd + 1))), (2, .int y2), (0, .ref (Z.2.1 k)), (3, .int (nI (dd + 1))), (5, .int (nI j))]) hx hb dX7_distanceAround_49 rfl hl (by decide) rfl (fun ls hl => ?_)
            refine lv_iconst (v := 2) hx hb dX7_distanceAround_50 (by decide) ?_
            refine lv_iload_n hx hb dX7_distanceAround_51 rfl (lv_at hl 4 rfl) ?_
            refine lv_imul hx hb dX7_distanceAround_52 ?_
            rw [show 2 * (nI (dd + 1)) = nI (dd + (dd + 1) + 1) from (by have h9 := pk_mul 2 (dd + 1); rw [show 2 * (dd + 1) = dd + (dd + 1) + 1 by omega] at h9; exact h9)]
            refine lv_istore_n (lv' := [(3, .int (nI (dd + (dd + 1) + 1))), (1, .int y2), (4, .int (nI (dd + 1))), (2, .int y2), (0, .ref (Z.2.1 k)), (5, .int (nI j))]) hx hb dX7_distanceAround_53 rfl hl (by decide) rfl (fun ls hl => ?_)
            refine lv_iconst (v := 0) hx hb dX7_distanceAround_54 (by decide) ?_
            refine lv_istore (lv' := [(4, .int 0), (3, .int (nI (dd + (dd + 1) + 1))), (1, .int y2), (2, .int y2), (0, .ref (Z.2.1 k)), (5, .int (nI j))]) hx hb dX7_distanceAround_55 hl (by decide) rfl (fun ls hl => ?_)
            refine lv_iinc (v := (nI (j + 1))) (lv' := [(5, .int (nI (j + 1))), (4, .int 0), (3, .int (nI (dd + (dd + 1) + 1))), (1, .int y2), (2, .int y2), (0, .ref (Z.2.1 k))]) hx hb dX7_distanceAround_57 hl (k := 5) rfl (nI_1 _) (by decide) rfl (fun ls hl => ?_)
            refine lv_goto (tgt := 18) hx hb dX7_distanceAround_60 (by decide) ?_
            exact ih_18 y2 y2 (dd + (dd + 1)) 0 (j + 1) hy2 hy2 (by omega) (by omega) hTk2 (fun t h1 h2 => absurd h2 (by omega)) (by omega) _ _ _ hS (lv_sub hl [5, 3, 4, 2, 1, 0] rfl)
        · have i_4 := z_eq c_4
          have hfin : dd + 1 = la := zper_hit hper (T := T) (dd := dd + 1) (by omega) (by rw [← ha, ← i_4, hy2]; rfl) (fun t h1 h2 => hno t h1 (by omega))
          refine lv_iload hx hb dX7_distanceAround_39 (lv_at hl 0 rfl) ?_
          refine z_iret hx hb hr hlocks hS ?_ dX7_distanceAround_41
          exact ⟨rfl, by rw [hfin]⟩
  exact hcut_18 (1000000 - 0 + 1) v1 v1 0 0 0 rfl rfl rfl (Nat.le_refl _) ⟨0, by omega, rfl⟩ (fun t h1 h2 => absurd h2 (by omega)) (Nat.lt_succ_self _) _ _ _ hS (lv_sub hl [5, 4, 3, 2, 1, 0] rfl)

theorem in_X7_findEntrance_7 : ∀ w ∈ wsX70, w ∈ wsX7_findEntrance := by decide +kernel
set_option maxHeartbeats 4000000 in
set_option maxRecDepth 100000 in
theorem k_findEntrance (Z : zT) (g : Nat → va_E) (k kb : Nat) (b : zb) (v1 v2 v3 v4 v5 v6 : Int32) (hW : zo_walk Z g k kb v1 v2 v3 v4 v5 v6) (hB : z_b1 Z g kb b) (nn : Int) (hok2 : zw_ok b nn v2 v3) (mu la : Nat) (hper : zper (zor (zst b nn) v1.toInt) mu la) (hmu9 : mu + la ≤ 200001) (hv1 : -100000 ≤ v1.toInt ∧ v1.toInt ≤ 100000) (y0 : Int32) (hy0 : y0.toInt = zor (zst b nn) v1.toInt la) : z_Mv Z yX7_findEntrance wsX7_findEntrance 3 66 [.ref (Z.2.1 k), .int y0] g (fun g1 => ∃ en : Int32, en.toInt = zor (zst b nn) v1.toInt mu ∧ z_fr k 1 g g1 ∧ g1 k = .inr (7, [.ref (Z.2.1 kb), .int v1, .int v2, .int v3, .int (nI mu), .int v5, .int en])) := by
  intro l sz
  obtain ⟨pb, qb, res, cmp, dg, ch, ⟨h_b, h_d, h_c, hkN, hok, hp, hq, hres, hdg⟩, hch⟩ := id hB
  have hk0 : kb < Z.1 := by omega
  have hk1 : kb + 1 < Z.1 := by omega
  have hk2 : kb + 2 < Z.1 := by omega
  have hPb := zP_bd hok
  have hn12 := hok.2.2.2.1
  have hq1 := hok.2.1
  obtain ⟨h_w, hkw, hsep⟩ := id hW
  obtain ⟨-, hcm, hv2, hn1, hn60, hi1, hi9, hinv⟩ := id hok2
  have hob := zor_bd hok (nn := nn) ⟨hn1, hn60⟩ hv1
  have hla := hper.1
  refine z_enter (maxL := 5) (ret := none) (lv := [(0, .ref (Z.2.1 k)), (1, .int y0)]) (plainFor_of_name (by decide +kernel)) rfl (fun ls h => by subst h; exact lv_entry [.ref (Z.2.1 k), .int y0] (n := 5) (Nat.le_of_ble_eq_true rfl)) ?_
  intro p e s m args below meth c hx hb hml hr hlocks hown hts hK hS hsz ls hl
  refine lv_aload_n hx hb dX7_findEntrance_0 rfl (lv_at hl 0 rfl) ?_
  refine z_get (own := RX7) (C := RX7) (T := TX7) (N := 7) hx hb hts in_X7_findEntrance_7 hown hK hS h_w hkw rfl 1 (by decide) (List.mem_of_getElem? (i := 1) rfl) rfl rfl dX7_findEntrance_1 ?_
  refine lv_istore_n (lv' := [(2, .int v1), (0, .ref (Z.2.1 k)), (1, .int y0)]) hx hb dX7_findEntrance_4 rfl hl (by decide) rfl (fun ls hl => ?_)
  refine lv_iload_n hx hb dX7_findEntrance_5 rfl (lv_at hl 2 rfl) ?_
  refine lv_istore_n (lv' := [(3, .int y0), (2, .int v1), (0, .ref (Z.2.1 k)), (1, .int y0)]) hx hb dX7_findEntrance_6 rfl hl (by decide) rfl (fun ls hl => ?_)
  refine lv_aload_n hx hb dX7_findEntrance_7 rfl (lv_at hl 2 rfl) ?_
  refine lv_iconst (v := 0) hx hb dX7_findEntrance_8 (by decide) ?_
  refine z_put (fs' := [.ref (Z.2.1 kb), .int v1, .int v2, .int v3, .int 0, .int v5, .int v6]) (own := RX7) (C := RX7) (T := TX7) (N := 7) hx hb hts in_X7_findEntrance_7 tyX7 tyX7_ok nmX7 hown hK hS h_w hkw rfl 4 (by decide) (List.mem_of_getElem? (i := 2) rfl) rfl rfl rfl rfl (Nat.le_of_ble_eq_true rfl) rfl dX7_findEntrance_9 (fun g_1 H locs hg_1 hS => ?_)
  have h_w : g_1 k = .inr (7, [.ref (Z.2.1 kb), .int v1, .int v2, .int v3, .int 0, .int v5, .int v6]) := z_up_s hg_1
  have h_b := z_up_n hg_1 h_b (by omega)
  have h_d := z_up_n hg_1 h_d (by omega)
  have h_c := z_up_n hg_1 h_c (by omega)
  refine lv_iconst (v := 0) hx hb dX7_findEntrance_12 (by decide) ?_
  refine lv_istore (lv' := [(4, .int 0), (3, .int y0), (2, .int v1), (0, .ref (Z.2.1 k)), (1, .int y0)]) hx hb dX7_findEntrance_13 hl (by decide) rfl (fun ls hl => ?_)
  have hcut_15 : ∀ (nn_15 : Nat) (a : Int32) (y : Int32) (t : Nat) (ga : Nat → va_E) (h_b : ga kb = .inr (0, [.int pb, .int qb, .int res, .int (nI b.2.2.1), .int cmp, .ref (Z.2.1 (kb + 1)), .ref (Z.2.1 (kb + 2))])) (h_d : ga (kb + 1) = .inl (Z.2.2.2 0, 12, .inl dg)) (h_c : ga (kb + 2) = .inl (Z.2.2.2 0, 10, .inl ch)) (h_w : ga k = .inr (7, [.ref (Z.2.1 kb), .int v1, .int v2, .int v3, .int (nI t), .int v5, .int v6])) (hfr_ga : z_fr k 1 g ga) (ha : a.toInt = zor (zst b nn) v1.toInt (t)) (hy : y.toInt = zor (zst b nn) v1.toInt (t + la)) (hno : ∀ i, i < t → zor (zst b nn) v1.toInt (i) ≠ zor (zst b nn) v1.toInt (i + la)) (hm_15 : mu - t < nn_15) (H : Heap) (locs : List Loc) (ls : Array Slot), z_S Z (z_A Z sz) s.heap ga H locs → lv_has ls 5 [(0, .ref (Z.2.1 k)), (1, .int y0), (2, .int a), (3, .int y), (4, .int (nI t))] → W p l e (headSpec wsX7_findEntrance (z_rm 3 66)).room s m args below meth c H locs 0 0 (MQ below (va_Qv (fun g1 => ∃ en : Int32, en.toInt = zor (zst b nn) v1.toInt mu ∧ z_fr k 1 g g1 ∧ g1 k = .inr (7, [.ref (Z.2.1 kb), .int v1, .int v2, .int v3, .int (nI mu), .int v5, .int en])) (z_B Z) (z_A Z sz)) args s 0 0 (z_A Z sz)) (F0 m 15 ls []) := by
    intro nn_15
    induction nn_15 with
    | zero => intro a y t ga h_b h_d h_c h_w hfr_ga ha hy hno hm_15 H locs ls hS hl; exact absurd hm_15 (Nat.not_lt_zero _)
    | succ nn_15 ih_15 =>
      intro a y t ga h_b h_d h_c h_w hfr_ga ha hy hno hm_15 H locs ls hS hl
      have htm : t ≤ mu := by
        rcases Nat.lt_or_ge mu t with q9 | q9
        · exact absurd hper.2.1.symm (hno mu q9)
        · exact q9
      refine lv_iload hx hb dX7_findEntrance_15 (lv_at hl 4 rfl) ?_
      refine lv_ldc (v := 1000000) hx hb hown (hts _ (List.mem_of_getElem? (i := 3) rfl)) dX7_findEntrance_17 ?_
      refine lv_icmp_ge (tgt := 55) hx hb dX7_findEntrance_19 (by decide) (fun c_2 => ?_) (fun c_2 => ?_)
      · have i_2 := z_le c_2
        rw [nI_toInt (by omega)] at i_2
        rw [tI_1000000] at i_2
        exfalso; omega
      · have i_2 := z_nle c_2
        rw [nI_toInt (by omega)] at i_2
        rw [tI_1000000] at i_2
        refine lv_iload_n hx hb dX7_findEntrance_22 rfl (lv_at hl 2 rfl) ?_
        refine lv_iload_n hx hb dX7_findEntrance_23 rfl (lv_at hl 3 rfl) ?_
        refine lv_icmp_eq (tgt := 55) hx hb dX7_findEntrance_24 (by decide) (fun c_3 => ?_) (fun c_3 => ?_)
        · have i_3 := z_eq c_3
          have hmt : mu = t := by
            have h9 : zor (zst b nn) v1.toInt (t) = zor (zst b nn) v1.toInt (t + la) := by rw [← ha, ← hy]; exact i_3
            have := ((zper_iff hper (i := t) (j := t + la) (by omega)).mp h9).1
            omega
          subst hmt
          refine lv_aload_n hx hb dX7_findEntrance_55 rfl (lv_at hl 0 rfl) ?_
          refine lv_iload_n hx hb dX7_findEntrance_56 rfl (lv_at hl 2 rfl) ?_
          refine z_put (fs' := [.ref (Z.2.1 kb), .int v1, .int v2, .int v3, .int (nI mu), .int v5, .int a]) (own := RX7) (C := RX7) (T := TX7) (N := 7) hx hb hts in_X7_findEntrance_7 tyX7 tyX7_ok nmX7 hown hK hS h_w hkw rfl 6 (by decide) (List.mem_of_getElem? (i := 4) rfl) rfl rfl rfl rfl (Nat.le_of_ble_eq_true rfl) rfl dX7_findEntrance_57 (fun g_4 H locs hg_4 hS => ?_)
          have h_w : g_4 k = .inr (7, [.ref (Z.2.1 kb), .int v1, .int v2, .int v3, .int (nI mu), .int v5, .int a]) := z_up_s hg_4
          have h_b := z_up_n hg_4 h_b (by omega)
          have h_d := z_up_n hg_4 h_d (by omega)
          have h_c := z_up_n hg_4 h_c (by omega)
          refine z_vret hx hb hr hlocks hS ?_ dX7_findEntrance_60
          exact ⟨_, ha, (hfr_ga.up hg_4 (by omega)), h_w⟩
        · have i_3 := z_ne c_3
          have htm2 : t < mu := by
            rcases Nat.lt_or_ge t mu with q9 | q9
            · exact q9
            · have : t = mu := by omega
              subst this; exact absurd (by rw [ha, hy]; exact hper.2.1.symm) i_3
          refine lv_aload_n hx hb dX7_findEntrance_27 rfl (lv_at hl 0 rfl) ?_
          refine lv_iload_n hx hb dX7_findEntrance_28 rfl (lv_at hl 2 rfl) ?_
          refine z_calli (z_runV (As := [.int a]) (rest := []) ⟨hx, hb, hml, hown, hts⟩ hK hS ((k_after Z ga k kb b v1 v2 v3 (nI t) v5 v6 ⟨h_w, hkw, hsep⟩ ⟨pb, qb, res, cmp, dg, ch, ⟨h_b, h_d, h_c, hkN, hok, hp, hq, hres, hdg⟩, hch⟩ nn hok2 a (by rw [ha]; exact hob _)) l _) gX7_findEntrance_X7_after rfl 1 (by decide +kernel) ⟨Nat.le_of_ble_eq_true rfl, Nat.le_of_ble_eq_true rfl⟩ h_w hkw rfl rfl hl.1 rfl (Nat.le_of_ble_eq_true rfl) dX7_findEntrance_29 ⟨Nat.le_of_ble_eq_true rfl, Nat.le_of_ble_eq_true rfl⟩) hS (fun a2 g_5 H locs hp_6 hS => ?_)
          obtain ⟨rfl, hp_6⟩ := hp_6
          have ha2 : a2.toInt = zor (zst b nn) v1.toInt (t + 1) := by rw [hp_6, ha]; rfl
          refine lv_istore_n (lv' := [(2, .int a2), (0, .ref (Z.2.1 k)), (1, .int y0), (3, .int y), (4, .int (nI t))]) hx hb dX7_findEntrance_32 rfl hl (by decide) rfl (fun ls hl => ?_)
          refine lv_aload_n hx hb dX7_findEntrance_33 rfl (lv_at hl 1 rfl) ?_
          refine lv_iload_n hx hb dX7_findEntrance_34 rfl (lv_at hl 3 rfl) ?_
          refine z_calli (z_runV (As := [.int y]) (rest := []) ⟨hx, hb, hml, hown, hts⟩ hK hS ((k_after Z ga k kb b v1 v2 v3 (nI t) v5 v6 ⟨h_w, hkw, hsep⟩ ⟨pb, qb, res, cmp, dg, ch, ⟨h_b, h_d, h_c, hkN, hok, hp, hq, hres, hdg⟩, hch⟩ nn hok2 y (by rw [hy]; exact hob _)) l _) gX7_findEntrance_X7_after rfl 1 (by decide +kernel) ⟨Nat.le_of_ble_eq_true rfl, Nat.le_of_ble_eq_true rfl⟩ h_w hkw rfl rfl hl.1 rfl (Nat.le_of_ble_eq_true rfl) dX7_findEntrance_35 ⟨Nat.le_of_ble_eq_true rfl, Nat.le_of_ble_eq_true rfl⟩) hS (fun y2 g_7 H locs hp_8 hS => ?_)
          obtain ⟨rfl, hp_8⟩ := hp_8
          have hy2 : y2.toInt = zor (zst b nn) v1.toInt (t + 1 + la) := by rw [hp_8, hy, show t + 1 + la = t + la + 1 by omega]; rfl
          refine lv_istore_n (lv' := [(3, .int y2), (2, .int a2), (0, .ref (Z.2.1 k)), (1, .int y0), (4, .int (nI t))]) hx hb dX7_findEntrance_38 rfl hl (by decide) rfl (fun ls hl => ?_)
          refine lv_aload_n hx hb dX7_findEntrance_39 rfl (lv_at hl 2 rfl) ?_
          refine lv_dup hx hb dX7_findEntrance_40 rfl ?_
          refine z_get (own := RX7) (C := RX7) (T := TX7) (N := 7) hx hb hts in_X7_findEntrance_7 hown hK hS h_w hkw rfl 4 (by decide) (List.mem_of_getElem? (i := 2) rfl) rfl rfl dX7_findEntrance_41 ?_
          refine lv_iconst (v := 1) hx hb dX7_findEntrance_44 (by decide) ?_
          refine lv_iadd hx hb dX7_findEntrance_45 ?_
          rw [show (nI t) + 1 = nI (t + 1) from nI_1 _]
          refine z_put (fs' := [.ref (Z.2.1 kb), .int v1, .int v2, .int v3, .int (nI (t + 1)), .int v5, .int v6]) (own := RX7) (C := RX7) (T := TX7) (N := 7) hx hb hts in_X7_findEntrance_7 tyX7 tyX7_ok nmX7 hown hK hS h_w hkw rfl 4 (by decide) (List.mem_of_getElem? (i := 2) rfl) rfl rfl rfl rfl (Nat.le_of_ble_eq_true rfl) rfl dX7_findEntrance_46 (fun g_9 H locs hg_9 hS => ?_)
          have h_w : g_9 k = .inr (7, [.ref (Z.2.1 kb), .int v1, .int v2, .int v3, .int (nI (t + 1)), .int v5, .int v6]) := z_up_s hg_9
          have h_b := z_up_n hg_9 h_b (by omega)
          have h_d := z_up_n hg_9 h_d (by omega)
          have h_c := z_up_n hg_9 h_c (by omega)
          refine lv_iinc (v := (nI (t + 1))) (lv' := [(4, .int (nI (t + 1))), (3, .int y2), (2, .int a2), (0, .ref (Z.2.1 k)), (1, .int y0)]) hx hb dX7_findEntrance_49 hl (k := 4) rfl (nI_1 _) (by decide) rfl (fun ls hl => ?_)
          refine lv_goto (tgt := 15) hx hb dX7_findEntrance_52 (by decide) ?_
          exact ih_15 a2 y2 (t + 1) g_9 h_b h_d h_c h_w (hfr_ga.up hg_9 (by omega)) ha2 hy2 (fun i h => by
              rcases Nat.lt_or_ge i t with q9 | q9
              · exact hno i q9
              · have : i = t := by omega
                subst this; rw [← ha, ← hy]; assumption) (by omega) _ _ _ hS (lv_sub hl [3, 4, 2, 1, 0] rfl)
  exact hcut_15 (mu - 0 + 1) v1 y0 0 g_1 h_b h_d h_c h_w (z_fr.rf.up hg_1 (by omega)) rfl (by rw [hy0, Nat.zero_add]) (fun i h => absurd h (Nat.not_lt_zero i)) (Nat.lt_succ_self _) _ _ _ hS (lv_sub hl [3, 4, 2, 1, 0] rfl)

theorem in_X7_begin_7 : ∀ w ∈ wsX70, w ∈ wsX7_begin := by decide +kernel
set_option maxHeartbeats 4000000 in
set_option maxRecDepth 100000 in
theorem k_begin (Z : zT) (g : Nat → va_E) (k kb : Nat) (b : zb) (v1 v2 v3 v4 v5 v6 : Int32) (hW : zo_walk Z g k kb v1 v2 v3 v4 v5 v6) (hB : z_b1 Z g kb b) (hcm : zcm b) (x y : Int32) (hx5 : -100000 ≤ x.toInt ∧ x.toInt ≤ 100000) (hy6 : 1 ≤ y.toInt ∧ y.toInt ≤ 60) (hex : ∃ iv : Nat, 1 ≤ iv ∧ (iv : Int) < zP b ∧ ((iv : Int) * y.toInt) % zP b = 1) (mu la : Nat) (hper : zper (zor (zst b y.toInt) x.toInt) mu la) (hmu9 : mu + la ≤ 200001) : z_Mv Z yX7_begin wsX7_begin 4 91 [.ref (Z.2.1 k), .int x, .int y] g (fun g1 => ∃ iv en : Int32, zw_ok b y.toInt y iv ∧ en.toInt = zor (zst b y.toInt) x.toInt mu ∧ z_fr k 1 g g1 ∧ g1 k = .inr (7, [.ref (Z.2.1 kb), .int x, .int y, .int iv, .int (nI mu), .int (nI la), .int en])) := by
  intro l sz
  obtain ⟨pb, qb, res, cmp, dg, ch, ⟨h_b, h_d, h_c, hkN, hok, hp, hq, hres, hdg⟩, hch⟩ := id hB
  have hk0 : kb < Z.1 := by omega
  have hk1 : kb + 1 < Z.1 := by omega
  have hk2 : kb + 2 < Z.1 := by omega
  have hPb := zP_bd hok
  have hn12 := hok.2.2.2.1
  have hq1 := hok.2.1
  obtain ⟨h_w, hkw, hsep⟩ := id hW
  refine z_enter (maxL := 3) (ret := none) (lv := [(0, .ref (Z.2.1 k)), (1, .int x), (2, .int y)]) (plainFor_of_name (by decide +kernel)) rfl (fun ls h => by subst h; exact lv_entry [.ref (Z.2.1 k), .int x, .int y] (n := 3) (Nat.le_of_ble_eq_true rfl)) ?_
  intro p e s m args below meth c hx hb hml hr hlocks hown hts hK hS hsz ls hl
  refine lv_aload_n hx hb dX7_begin_0 rfl (lv_at hl 0 rfl) ?_
  refine lv_iload_n hx hb dX7_begin_1 rfl (lv_at hl 1 rfl) ?_
  refine z_put (fs' := [.ref (Z.2.1 kb), .int x, .int v2, .int v3, .int v4, .int v5, .int v6]) (own := RX7) (C := RX7) (T := TX7) (N := 7) hx hb hts in_X7_begin_7 tyX7 tyX7_ok nmX7 hown hK hS h_w hkw rfl 1 (by decide) (List.mem_of_getElem? (i := 1) rfl) rfl rfl rfl rfl (Nat.le_of_ble_eq_true rfl) rfl dX7_begin_2 (fun g_1 H locs hg_1 hS => ?_)
  have h_w : g_1 k = .inr (7, [.ref (Z.2.1 kb), .int x, .int v2, .int v3, .int v4, .int v5, .int v6]) := z_up_s hg_1
  have h_b := z_up_n hg_1 h_b (by omega)
  have h_d := z_up_n hg_1 h_d (by omega)
  have h_c := z_up_n hg_1 h_c (by omega)
  refine lv_aload_n hx hb dX7_begin_5 rfl (lv_at hl 0 rfl) ?_
  refine lv_iload_n hx hb dX7_begin_6 rfl (lv_at hl 2 rfl) ?_
  refine z_put (fs' := [.ref (Z.2.1 kb), .int x, .int y, .int v3, .int v4, .int v5, .int v6]) (own := RX7) (C := RX7) (T := TX7) (N := 7) hx hb hts in_X7_begin_7 tyX7 tyX7_ok nmX7 hown hK hS h_w hkw rfl 2 (by decide) (List.mem_of_getElem? (i := 2) rfl) rfl rfl rfl rfl (Nat.le_of_ble_eq_true rfl) rfl dX7_begin_7 (fun g_2 H locs hg_2 hS => ?_)
  have h_w : g_2 k = .inr (7, [.ref (Z.2.1 kb), .int x, .int y, .int v3, .int v4, .int v5, .int v6]) := z_up_s hg_2
  have h_b := z_up_n hg_2 h_b (by omega)
  have h_d := z_up_n hg_2 h_d (by omega)
  have h_c := z_up_n hg_2 h_c (by omega)
  refine lv_aload_n hx hb dX7_begin_10 rfl (lv_at hl 0 rfl) ?_
  refine lv_aload_n hx hb dX7_begin_11 rfl (lv_at hl 0 rfl) ?_
  refine lv_iload_n hx hb dX7_begin_12 rfl (lv_at hl 2 rfl) ?_
  refine z_calli (z_runV (As := [.int y]) (rest := [.ref (Z.2.1 k)]) ⟨hx, hb, hml, hown, hts⟩ hK hS ((k_inverseOf Z g_2 k kb b x y v3 v4 v5 v6 ⟨h_w, hkw, hsep⟩ ⟨pb, qb, res, cmp, dg, ch, ⟨h_b, h_d, h_c, hkN, hok, hp, hq, hres, hdg⟩, hch⟩ y hy6 hex) l _) gX7_begin_X7_inverseOf rfl 1 (by decide +kernel) ⟨Nat.le_of_ble_eq_true rfl, Nat.le_of_ble_eq_true rfl⟩ h_w hkw rfl rfl hl.1 rfl (Nat.le_of_ble_eq_true rfl) dX7_begin_13 ⟨Nat.le_of_ble_eq_true rfl, Nat.le_of_ble_eq_true rfl⟩) hS (fun iv g_3 H locs hp_4 hS => ?_)
  obtain ⟨rfl, hp_4⟩ := hp_4
  have hok2 : zw_ok b y.toInt y iv := ⟨hok, hcm, rfl, hy6.1, hy6.2, hp_4⟩
  refine z_put (fs' := [.ref (Z.2.1 kb), .int x, .int y, .int iv, .int v4, .int v5, .int v6]) (own := RX7) (C := RX7) (T := TX7) (N := 7) hx hb hts in_X7_begin_7 tyX7 tyX7_ok nmX7 hown hK hS h_w hkw rfl 3 (by decide) (List.mem_of_getElem? (i := 3) rfl) rfl rfl rfl rfl (Nat.le_of_ble_eq_true rfl) rfl dX7_begin_16 (fun g_5 H locs hg_5 hS => ?_)
  have h_w : g_5 k = .inr (7, [.ref (Z.2.1 kb), .int x, .int y, .int iv, .int v4, .int v5, .int v6]) := z_up_s hg_5
  have h_b := z_up_n hg_5 h_b (by omega)
  have h_d := z_up_n hg_5 h_d (by omega)
  have h_c := z_up_n hg_5 h_c (by omega)
  refine lv_aload_n hx hb dX7_begin_19 rfl (lv_at hl 0 rfl) ?_
  refine lv_aload_n hx hb dX7_begin_20 rfl (lv_at hl 0 rfl) ?_
  refine z_calli (z_runV (As := []) (rest := [.ref (Z.2.1 k)]) ⟨hx, hb, hml, hown, hts⟩ hK hS ((k_distanceAround Z g_5 k kb b x y iv v4 v5 v6 ⟨h_w, hkw, hsep⟩ ⟨pb, qb, res, cmp, dg, ch, ⟨h_b, h_d, h_c, hkN, hok, hp, hq, hres, hdg⟩, hch⟩ y.toInt hok2 mu la hper hmu9 hx5) l _) gX7_begin_X7_distanceAround rfl 0 (by decide +kernel) ⟨Nat.le_of_ble_eq_true rfl, Nat.le_of_ble_eq_true rfl⟩ h_w hkw rfl rfl hl.1 rfl (Nat.le_of_ble_eq_true rfl) dX7_begin_21 ⟨Nat.le_of_ble_eq_true rfl, Nat.le_of_ble_eq_true rfl⟩) hS (fun dd g_6 H locs hp_7 hS => ?_)
  obtain ⟨rfl, hp_7⟩ := hp_7
  subst hp_7
  refine z_put (fs' := [.ref (Z.2.1 kb), .int x, .int y, .int iv, .int v4, .int (nI la), .int v6]) (own := RX7) (C := RX7) (T := TX7) (N := 7) hx hb hts in_X7_begin_7 tyX7 tyX7_ok nmX7 hown hK hS h_w hkw rfl 5 (by decide) (List.mem_of_getElem? (i := 4) rfl) rfl rfl rfl rfl (Nat.le_of_ble_eq_true rfl) rfl dX7_begin_24 (fun g_8 H locs hg_8 hS => ?_)
  have h_w : g_8 k = .inr (7, [.ref (Z.2.1 kb), .int x, .int y, .int iv, .int v4, .int (nI la), .int v6]) := z_up_s hg_8
  have h_b := z_up_n hg_8 h_b (by omega)
  have h_d := z_up_n hg_8 h_d (by omega)
  have h_c := z_up_n hg_8 h_c (by omega)
  refine lv_aload_n hx hb dX7_begin_27 rfl (lv_at hl 0 rfl) ?_
  refine lv_aload_n hx hb dX7_begin_28 rfl (lv_at hl 0 rfl) ?_
  refine lv_iload_n hx hb dX7_begin_29 rfl (lv_at hl 1 rfl) ?_
  refine lv_aload_n hx hb dX7_begin_30 rfl (lv_at hl 0 rfl) ?_
  refine z_get (own := RX7) (C := RX7) (T := TX7) (N := 7) hx hb hts in_X7_begin_7 hown hK hS h_w hkw rfl 5 (by decide) (List.mem_of_getElem? (i := 4) rfl) rfl rfl dX7_begin_31 ?_
  refine z_calli (z_runV (As := [.int x, .int (nI la)]) (rest := [.ref (Z.2.1 k)]) ⟨hx, hb, hml, hown, hts⟩ hK hS ((k_ahead Z g_8 k kb b x y iv v4 (nI la) v6 ⟨h_w, hkw, hsep⟩ ⟨pb, qb, res, cmp, dg, ch, ⟨h_b, h_d, h_c, hkN, hok, hp, hq, hres, hdg⟩, hch⟩ y.toInt hok2 x hx5 la (by omega)) l _) gX7_begin_X7_ahead rfl 2 (by decide +kernel) ⟨Nat.le_of_ble_eq_true rfl, Nat.le_of_ble_eq_true rfl⟩ h_w hkw rfl rfl hl.1 rfl (Nat.le_of_ble_eq_true rfl) dX7_begin_34 ⟨Nat.le_of_ble_eq_true rfl, Nat.le_of_ble_eq_true rfl⟩) hS (fun y0 g_9 H locs hp_10 hS => ?_)
  obtain ⟨rfl, hp_10⟩ := hp_10
  have hy0 := hp_10
  refine z_callv (z_runV (As := [.int y0]) (rest := []) ⟨hx, hb, hml, hown, hts⟩ hK hS ((k_findEntrance Z g_8 k kb b x y iv v4 (nI la) v6 ⟨h_w, hkw, hsep⟩ ⟨pb, qb, res, cmp, dg, ch, ⟨h_b, h_d, h_c, hkN, hok, hp, hq, hres, hdg⟩, hch⟩ y.toInt hok2 mu la hper hmu9 hx5 y0 hy0) l _) gX7_begin_X7_findEntrance rfl 1 (by decide +kernel) ⟨Nat.le_of_ble_eq_true rfl, Nat.le_of_ble_eq_true rfl⟩ h_w hkw rfl rfl hl.1 rfl (Nat.le_of_ble_eq_true rfl) dX7_begin_37 ⟨Nat.le_of_ble_eq_true rfl, Nat.le_of_ble_eq_true rfl⟩) hS (fun g_12 H locs hp_13 hS => ?_)
  obtain ⟨en, hen, hfr_14, hw9⟩ := hp_13
  have h_b := (hfr_14 _ (by omega)).trans h_b
  have h_d := (hfr_14 _ (by omega)).trans h_d
  have h_c := (hfr_14 _ (by omega)).trans h_c
  refine z_vret hx hb hr hlocks hS ?_ dX7_begin_40
  exact ⟨iv, en, hok2, hen, (((((z_fr.rf.up hg_1 (by omega)).up hg_2 (by omega)).up hg_5 (by omega)).up hg_8 (by omega)).tr (hfr_14.wide (by omega) (by omega))), hw9⟩

theorem in_X7_numeratorAt_7 : ∀ w ∈ wsX70, w ∈ wsX7_numeratorAt := by decide +kernel
set_option maxHeartbeats 4000000 in
set_option maxRecDepth 100000 in
theorem k_numeratorAt (Z : zT) (g : Nat → va_E) (k kb : Nat) (b : zb) (v1 v2 v3 v4 v5 v6 : Int32) (hW : zo_walk Z g k kb v1 v2 v3 v4 v5 v6) (hB : z_b1 Z g kb b) (nn : Int) (hok2 : zw_ok b nn v2 v3) (mu la : Nat) (hper : zper (zor (zst b nn) v1.toInt) mu la) (hmu9 : mu + la ≤ 200001) (hv1 : -100000 ≤ v1.toInt ∧ v1.toInt ≤ 100000) (hv4 : v4 = nI mu) (hv5 : v5 = nI la) (hv6 : v6.toInt = zor (zst b nn) v1.toInt mu) (t : Nat) (ht : t ≤ 1000000000) : z_Mi Z yX7_numeratorAt wsX7_numeratorAt 4 90 [.ref (Z.2.1 k), .int (nI t)] g (fun r g1 => g = g1 ∧ r.toInt = zor (zst b nn) v1.toInt t) := by
  intro l sz
  subst hv4
  subst hv5
  obtain ⟨pb, qb, res, cmp, dg, ch, ⟨h_b, h_d, h_c, hkN, hok, hp, hq, hres, hdg⟩, hch⟩ := id hB
  have hk0 : kb < Z.1 := by omega
  have hk1 : kb + 1 < Z.1 := by omega
  have hk2 : kb + 2 < Z.1 := by omega
  have hPb := zP_bd hok
  have hn12 := hok.2.2.2.1
  have hq1 := hok.2.1
  obtain ⟨h_w, hkw, hsep⟩ := id hW
  obtain ⟨-, hcm, hv2, hn1, hn60, hi1, hi9, hinv⟩ := id hok2
  have hob := zor_bd hok (nn := nn) ⟨hn1, hn60⟩ hv1
  have hla := hper.1
  refine z_enter (maxL := 2) (ret := (some .int)) (lv := [(0, .ref (Z.2.1 k)), (1, .int (nI t))]) (plainFor_of_name (by decide +kernel)) rfl (fun ls h => by subst h; exact lv_entry [.ref (Z.2.1 k), .int (nI t)] (n := 2) (Nat.le_of_ble_eq_true rfl)) ?_
  intro p e s m args below meth c hx hb hml hr hlocks hown hts hK hS hsz ls hl
  refine lv_iload_n hx hb dX7_numeratorAt_0 rfl (lv_at hl 1 rfl) ?_
  refine lv_aload_n hx hb dX7_numeratorAt_1 rfl (lv_at hl 0 rfl) ?_
  refine z_get (own := RX7) (C := RX7) (T := TX7) (N := 7) hx hb hts in_X7_numeratorAt_7 hown hK hS h_w hkw rfl 4 (by decide) (List.mem_of_getElem? (i := 1) rfl) rfl rfl dX7_numeratorAt_2 ?_
  refine lv_icmp_lt (tgt := 16) hx hb dX7_numeratorAt_5 (by decide) (fun c_1 => ?_) (fun c_1 => ?_)
  · have i_1 := z_lt c_1
    rw [nI_toInt (by omega)] at i_1
    rw [nI_toInt (by omega)] at i_1
    refine lv_aload_n hx hb dX7_numeratorAt_16 rfl (lv_at hl 0 rfl) ?_
    refine lv_aload_n hx hb dX7_numeratorAt_17 rfl (lv_at hl 0 rfl) ?_
    refine z_get (own := RX7) (C := RX7) (T := TX7) (N := 7) hx hb hts in_X7_numeratorAt_7 hown hK hS h_w hkw rfl 1 (by decide) (List.mem_of_getElem? (i := 3) rfl) rfl rfl dX7_numeratorAt_18 ?_
    refine lv_iload_n hx hb dX7_numeratorAt_21 rfl (lv_at hl 1 rfl) ?_
    refine lv_aload_n hx hb dX7_numeratorAt_22 rfl (lv_at hl 0 rfl) ?_
    refine z_get (own := RX7) (C := RX7) (T := TX7) (N := 7) hx hb hts in_X7_numeratorAt_7 hown hK hS h_w hkw rfl 4 (by decide) (List.mem_of_getElem? (i := 1) rfl) rfl rfl dX7_numeratorAt_23 ?_
    refine va_mmin hx hb (hml.trans hl.1.symm) hown (hts _ (List.mem_of_getElem? (i := 4) rfl)) (hts _ (List.mem_of_getElem? (i := 5) rfl)) (hts _ (List.mem_of_getElem? (i := 6) rfl)) (hts _ (List.mem_of_getElem? (i := 7) rfl)) (Nat.le_of_ble_eq_true rfl) (Nat.le_of_ble_eq_true rfl) (Nat.le_of_ble_eq_true rfl) (Nat.le_of_ble_eq_true rfl) dX7_numeratorAt_26 ?_
    rw [show (if nI mu < nI t then nI mu else nI t) = nI t from (by
      have e1 : ¬ nI mu < nI t := nI_nlt (by omega) (by omega)
      rw [if_neg e1])]
    refine z_calli (z_runV (As := [.int v1, .int (nI t)]) (rest := []) ⟨hx, hb, hml, hown, hts⟩ hK hS ((k_ahead Z g k kb b v1 v2 v3 (nI mu) (nI la) v6 hW hB nn hok2 v1 hv1 t (by omega)) l _) gX7_numeratorAt_X7_ahead rfl 2 (by decide +kernel) ⟨Nat.le_of_ble_eq_true rfl, Nat.le_of_ble_eq_true rfl⟩ h_w hkw rfl rfl hl.1 rfl (Nat.le_of_ble_eq_true rfl) dX7_numeratorAt_29 ⟨Nat.le_of_ble_eq_true rfl, Nat.le_of_ble_eq_true rfl⟩) hS (fun rr g_2 H locs hp_3 hS => ?_)
    obtain ⟨rfl, hp_3⟩ := hp_3
    have hrr := hp_3
    refine z_iret hx hb hr hlocks hS ?_ dX7_numeratorAt_32
    exact ⟨rfl, hrr⟩
  · have i_1 := z_nlt c_1
    rw [nI_toInt (by omega)] at i_1
    rw [nI_toInt (by omega)] at i_1
    refine lv_aload_n hx hb dX7_numeratorAt_8 rfl (lv_at hl 0 rfl) ?_
    refine z_get (own := RX7) (C := RX7) (T := TX7) (N := 7) hx hb hts in_X7_numeratorAt_7 hown hK hS h_w hkw rfl 5 (by decide) (List.mem_of_getElem? (i := 2) rfl) rfl rfl dX7_numeratorAt_9 ?_
    refine lv_iconst (v := 1) hx hb dX7_numeratorAt_12 (by decide) ?_
    refine lv_icmp_ge (tgt := 33) hx hb dX7_numeratorAt_13 (by decide) (fun c_4 => ?_) (fun c_4 => ?_)
    · have i_4 := z_le c_4
      rw [nI_toInt (by omega)] at i_4
      rw [tI_1] at i_4
      refine lv_aload_n hx hb dX7_numeratorAt_33 rfl (lv_at hl 0 rfl) ?_
      refine lv_aload_n hx hb dX7_numeratorAt_34 rfl (lv_at hl 0 rfl) ?_
      refine z_get (own := RX7) (C := RX7) (T := TX7) (N := 7) hx hb hts in_X7_numeratorAt_7 hown hK hS h_w hkw rfl 6 (by decide) (List.mem_of_getElem? (i := 8) rfl) rfl rfl dX7_numeratorAt_35 ?_
      refine lv_iload_n hx hb dX7_numeratorAt_38 rfl (lv_at hl 1 rfl) ?_
      refine lv_aload_n hx hb dX7_numeratorAt_39 rfl (lv_at hl 0 rfl) ?_
      refine z_get (own := RX7) (C := RX7) (T := TX7) (N := 7) hx hb hts in_X7_numeratorAt_7 hown hK hS h_w hkw rfl 4 (by decide) (List.mem_of_getElem? (i := 1) rfl) rfl rfl dX7_numeratorAt_40 ?_
      refine lv_isub hx hb dX7_numeratorAt_43 ?_
      rw [show (nI t) - (nI mu) = nI (t - mu) from (by rw [pk_sub (by omega)])]
      refine lv_aload_n hx hb dX7_numeratorAt_44 rfl (lv_at hl 0 rfl) ?_
      refine z_get (own := RX7) (C := RX7) (T := TX7) (N := 7) hx hb hts in_X7_numeratorAt_7 hown hK hS h_w hkw rfl 5 (by decide) (List.mem_of_getElem? (i := 2) rfl) rfl rfl dX7_numeratorAt_45 ?_
      refine lv_irem hx hb dX7_numeratorAt_48 (nI_ne0 (by omega) (by omega)) ?_
      rw [show (nI (t - mu)) - (nI (t - mu)) / (nI la) * (nI la) = nI ((t - mu) % la) from (by rw [pk_rem (by omega) (by omega) (by omega)])]
      have hmod : (t - mu) % la < la := Nat.mod_lt _ (by omega)
      refine z_calli (z_runV (As := [.int v6, .int (nI ((t - mu) % la))]) (rest := []) ⟨hx, hb, hml, hown, hts⟩ hK hS ((k_ahead Z g k kb b v1 v2 v3 (nI mu) (nI la) v6 hW hB nn hok2 v6 (by rw [hv6]; exact hob _) ((t - mu) % la) (by omega)) l _) gX7_numeratorAt_X7_ahead rfl 2 (by decide +kernel) ⟨Nat.le_of_ble_eq_true rfl, Nat.le_of_ble_eq_true rfl⟩ h_w hkw rfl rfl hl.1 rfl (Nat.le_of_ble_eq_true rfl) dX7_numeratorAt_49 ⟨Nat.le_of_ble_eq_true rfl, Nat.le_of_ble_eq_true rfl⟩) hS (fun rr g_5 H locs hp_6 hS => ?_)
      obtain ⟨rfl, hp_6⟩ := hp_6
      have hrr := hp_6
      refine z_iret hx hb hr hlocks hS ?_ dX7_numeratorAt_52
      exact ⟨rfl, by rw [hrr, hv6, zper_red hper (i := t) (by omega), zor_add]⟩
    · have i_4 := z_nle c_4
      rw [nI_toInt (by omega)] at i_4
      rw [tI_1] at i_4
      exfalso; omega

theorem in_X7_isFinite_7 : ∀ w ∈ wsX70, w ∈ wsX7_isFinite := by decide +kernel
set_option maxHeartbeats 4000000 in
set_option maxRecDepth 100000 in
theorem k_isFinite (Z : zT) (g : Nat → va_E) (k kb : Nat) (v1 v2 v3 v4 v5 v6 : Int32) (hW : zo_walk Z g k kb v1 v2 v3 v4 v5 v6) : z_Mi Z yX7_isFinite wsX7_isFinite 0 0 [.ref (Z.2.1 k)] g (fun r g1 => g = g1 ∧ zbo r (v6.toInt = 0 ∧ v5.toInt = 1)) := by
  intro l sz
  obtain ⟨h_w, hkw, hsep⟩ := id hW
  refine z_enter (maxL := 1) (ret := (some .boolean)) (lv := [(0, .ref (Z.2.1 k))]) (plainFor_of_name (by decide +kernel)) rfl (fun ls h => by subst h; exact lv_entry [.ref (Z.2.1 k)] (n := 1) (Nat.le_of_ble_eq_true rfl)) ?_
  intro p e s m args below meth c hx hb hml hr hlocks hown hts hK hS hsz ls hl
  refine lv_aload_n hx hb dX7_isFinite_0 rfl (lv_at hl 0 rfl) ?_
  refine z_get (own := RX7) (C := RX7) (T := TX7) (N := 7) hx hb hts in_X7_isFinite_7 hown hK hS h_w hkw rfl 6 (by decide) (List.mem_of_getElem? (i := 1) rfl) rfl rfl dX7_isFinite_1 ?_
  refine lv_if_ne (tgt := 19) hx hb dX7_isFinite_4 (by decide) (fun c_1 => ?_) (fun c_1 => ?_)
  · have i_1 := z_ne c_1
    rw [tI_0] at i_1
    refine lv_iconst (v := 0) hx hb dX7_isFinite_19 (by decide) ?_
    refine z_zret hx hb hr hlocks hS (by decide) ?_ dX7_isFinite_20
    exact ⟨rfl, zbo_0 (fun q9 => by omega)⟩
  · have i_1 := z_eq c_1
    rw [tI_0] at i_1
    refine lv_aload_n hx hb dX7_isFinite_7 rfl (lv_at hl 0 rfl) ?_
    refine z_get (own := RX7) (C := RX7) (T := TX7) (N := 7) hx hb hts in_X7_isFinite_7 hown hK hS h_w hkw rfl 5 (by decide) (List.mem_of_getElem? (i := 2) rfl) rfl rfl dX7_isFinite_8 ?_
    refine lv_iconst (v := 1) hx hb dX7_isFinite_11 (by decide) ?_
    refine lv_icmp_ne (tgt := 19) hx hb dX7_isFinite_12 (by decide) (fun c_2 => ?_) (fun c_2 => ?_)
    · have i_2 := z_ne c_2
      rw [tI_1] at i_2
      refine lv_iconst (v := 0) hx hb dX7_isFinite_19 (by decide) ?_
      refine z_zret hx hb hr hlocks hS (by decide) ?_ dX7_isFinite_20
      exact ⟨rfl, zbo_0 (fun q9 => by omega)⟩
    · have i_2 := z_eq c_2
      rw [tI_1] at i_2
      refine lv_iconst (v := 1) hx hb dX7_isFinite_15 (by decide) ?_
      refine lv_goto (tgt := 20) hx hb dX7_isFinite_16 (by decide) ?_
      refine z_zret hx hb hr hlocks hS (by decide) ?_ dX7_isFinite_20
      exact ⟨rfl, zbo_1 ⟨by omega, by omega⟩⟩

