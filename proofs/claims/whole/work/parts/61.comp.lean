/-! a row computed by sums -/
def zcq (b : zb) (s : Nat → Int) : Nat → Int
  | 0 => 0
  | i + 1 => zcr b (zcq b s i) (s i)
def zdq (b : zb) (s : Nat → Int) (i : Nat) : Int := zch b (s i + b.2.1 * zcq b s i)
def zov (b : zb) (n : Nat) (s : Nat → Int) (i : Nat) : Prop := n ≤ i ∧ zcq b s i = 0 ∧ zch b 0 = 0
def zovB (b : zb) (n : Nat) (s : Nat → Int) (i : Nat) : Bool := decide (n ≤ i) && decide (zcq b s i = 0) && decide (zch b 0 = 0)
theorem zovB_iff {b : zb} {n : Nat} {s : Nat → Int} {i : Nat} : zovB b n s i = true ↔ zov b n s i := by
  unfold zovB zov
  simp [and_assoc]
def zcN (b : zb) (n : Nat) (s : Nat → Int) : Nat := zfi (zovB b n s) 13
theorem zcr_bdC {b : zb} (hok : zb_ok b) (hcm : zcm b) {x t : Int} (hx : -2020 ≤ x ∧ x ≤ 2020) (ht : -2000 ≤ t ∧ t ≤ 2000) : -2020 ≤ zcr b x t ∧ zcr b x t ≤ 2020 := by
  have hP := zP_bd hok
  have h1 := zch_bd hok (hcm (t + b.2.1 * x))
  have h4 := hok.2.2.1
  have h5 := hok.2.1
  have h3 := z_mul_bd (x := b.2.1) (y := x) (a := b.2.1) (b := 2020) (by omega) (by omega) (by omega) (by omega)
  exact z_tdiv_le hok (B := 2020) (by omega)
theorem zcq_bd {b : zb} (hok : zb_ok b) (hcm : zcm b) {s : Nat → Int} (hs : ∀ i, i < 12 → -2000 ≤ s i ∧ s i ≤ 2000) : ∀ i, i ≤ 12 → -2020 ≤ zcq b s i ∧ zcq b s i ≤ 2020
  | 0, _ => by unfold zcq; omega
  | i + 1, h => zcr_bdC hok hcm (zcq_bd hok hcm hs i (by omega)) (hs i (by omega))
theorem z_row_ext {Z : zT} {g : Nat → va_E} {k n : Nat} {a c : Nat → Int} (h : z_row Z g k (n, a)) (he : ∀ t, t < n → a t = c t) : z_row Z g k (n, c) := by
  obtain ⟨av, h1, h2, h3, h4, h5⟩ := h
  refine ⟨av, h1, h2, h3, h4, fun i hi => ?_⟩
  have := h5 i hi
  rw [show (n, c).2 i = (n, a).2 i from (he i hi).symm]
  exact this
def z_cp (Z : zT) (g : Nat → va_E) (k n : Nat) (s : Nat → Int) : Prop := ∃ (sv : Nat → Int32) (w : zr), g k = .inr (2, [.ref (Z.2.1 (k + 1)), .int (nI n), .ref (Z.2.1 (k + 2))]) ∧ g (k + 1) = .inl (Z.2.2.2 0, 12, .inl sv) ∧ k + 3 < Z.1 ∧ n ≤ 12 ∧ (∀ i, i < 12 → (sv i).toInt = s i ∧ -2000 ≤ s i ∧ s i ≤ 2000) ∧ z_row Z g (k + 2) w
def z_cr (Z : zT) (g : Nat → va_E) (k : Nat) : Prop := ∃ (v1 : Int32) (sv : Nat → Int32) (w : zr), g k = .inr (2, [.ref (Z.2.1 (k + 1)), .int v1, .ref (Z.2.1 (k + 2))]) ∧ g (k + 1) = .inl (Z.2.2.2 0, 12, .inl sv) ∧ k + 3 < Z.1 ∧ z_row Z g (k + 2) w
theorem z_cp.cr {Z : zT} {g : Nat → va_E} {k n : Nat} {s : Nat → Int} (h : z_cp Z g k n s) : z_cr Z g k := by
  obtain ⟨sv, w, h1, h2, h3, h4, h5, h6⟩ := h
  exact ⟨nI n, sv, w, h1, h2, h3, h6⟩
theorem in_X2_giveSums_2 : ∀ w ∈ wsX20, w ∈ wsX2_giveSums := by decide +kernel
theorem in_X2_giveSums_6 : ∀ w ∈ wsX60, w ∈ wsX2_giveSums := by decide +kernel
set_option maxHeartbeats 4000000 in
set_option maxRecDepth 100000 in
theorem k_giveSums (Z : zT) (g : Nat → va_E) (k : Nat) (hC : z_cr Z g k) (k1 : Nat) (w1 : zr) (hR1 : z_row Z g k1 w1) (hk1 : k1 + 2 ≤ k ∨ k + 4 ≤ k1) (k2 : Nat) (w2 : zr) (hR2 : z_row Z g k2 w2) (hk2 : k2 + 2 ≤ k ∨ k + 4 ≤ k2) : z_Mv Z yX2_giveSums wsX2_giveSums 1 21 [.ref (Z.2.1 k), .ref (Z.2.1 k1), .ref (Z.2.1 k2)] g (fun g1 => z_cp Z g1 k (max w1.1 w2.1) (fun i => zeg w1 i + zeg w2 i) ∧ z_fr k 2 g g1) := by
  intro l sz
  obtain ⟨v1, sv, w0, h_k, h_s, hkN, hw0⟩ := id hC
  have hkk : k < Z.1 := by omega
  have hkk1 : k + 1 < Z.1 := by omega
  obtain ⟨av1, h_r1, h_a1, hkN1, hn121, hav1⟩ := id hR1
  have hk01 : k1 < Z.1 := by omega
  have hk11 : k1 + 1 < Z.1 := by omega
  obtain ⟨av2, h_r2, h_a2, hkN2, hn122, hav2⟩ := id hR2
  have hk02 : k2 < Z.1 := by omega
  have hk12 : k2 + 1 < Z.1 := by omega
  have hz1 := zeg_bd hR1
  have hz2 := zeg_bd hR2
  refine z_enter (maxL := 4) (ret := none) (lv := [(0, .ref (Z.2.1 k)), (1, .ref (Z.2.1 k1)), (2, .ref (Z.2.1 k2))]) (plainFor_of_name (by decide +kernel)) rfl (fun ls h => by subst h; exact lv_entry [.ref (Z.2.1 k), .ref (Z.2.1 k1), .ref (Z.2.1 k2)] (n := 4) (Nat.le_of_ble_eq_true rfl)) ?_
  intro p e s m args below meth c hx hb hml hr hlocks hown hts hK hS hsz ls hl
  refine lv_aload_n hx hb dX2_giveSums_0 rfl (lv_at hl 0 rfl) ?_
  refine lv_aload_n hx hb dX2_giveSums_1 rfl (lv_at hl 1 rfl) ?_
  refine z_getN (own := RX2) (C := RX6) (T := TX6) (N := 2) hx hb hts in_X2_giveSums_6 hown hK hS h_r1 hk01 rfl 1 (by decide) 19 rfl rfl rfl dX2_giveSums_2 ?_
  refine lv_aload_n hx hb dX2_giveSums_5 rfl (lv_at hl 2 rfl) ?_
  refine z_getN (own := RX2) (C := RX6) (T := TX6) (N := 2) hx hb hts in_X2_giveSums_6 hown hK hS h_r2 hk02 rfl 1 (by decide) 19 rfl rfl rfl dX2_giveSums_6 ?_
  refine va_mmax hx hb (hml.trans hl.1.symm) hown (hts _ (List.mem_of_getElem? (i := 1) rfl)) (hts _ (List.mem_of_getElem? (i := 2) rfl)) (hts _ (List.mem_of_getElem? (i := 3) rfl)) (hts _ (List.mem_of_getElem? (i := 4) rfl)) (Nat.le_of_ble_eq_true rfl) (Nat.le_of_ble_eq_true rfl) (Nat.le_of_ble_eq_true rfl) (Nat.le_of_ble_eq_true rfl) dX2_giveSums_9 ?_
  rw [show (if nI w1.1 < nI w2.1 then nI w2.1 else nI w1.1) = nI (max w1.1 w2.1) from (by
    by_cases h9 : nI w1.1 < nI w2.1
    · rw [if_pos h9]; have := z_lt h9; rw [nI_toInt (by omega), nI_toInt (by omega)] at this; rw [Nat.max_eq_right (by omega)]
    · rw [if_neg h9]; have := z_nlt h9; rw [nI_toInt (by omega), nI_toInt (by omega)] at this; rw [Nat.max_eq_left (by omega)])]
  refine z_put (fs' := [.ref (Z.2.1 (k + 1)), .int (nI (max w1.1 w2.1)), .ref (Z.2.1 (k + 2))]) (own := RX2) (C := RX2) (T := TX2) (N := 3) hx hb hts in_X2_giveSums_2 tyX2 tyX2_ok nmX2 hown hK hS h_k hkk rfl 1 (by decide) (List.mem_of_getElem? (i := 5) rfl) rfl rfl rfl rfl (Nat.le_of_ble_eq_true rfl) rfl dX2_giveSums_12 (fun g_1 H locs hg_1 hS => ?_)
  have h_k : g_1 k = .inr (2, [.ref (Z.2.1 (k + 1)), .int (nI (max w1.1 w2.1)), .ref (Z.2.1 (k + 2))]) := z_up_s hg_1
  have h_s := z_up_n hg_1 h_s (by omega)
  have h_r1 := z_up_n hg_1 h_r1 (by omega)
  have h_a1 := z_up_n hg_1 h_a1 (by omega)
  have h_r2 := z_up_n hg_1 h_r2 (by omega)
  have h_a2 := z_up_n hg_1 h_a2 (by omega)
  refine lv_iconst (v := 0) hx hb dX2_giveSums_15 (by decide) ?_
  refine lv_istore_n (lv' := [(3, .int 0), (0, .ref (Z.2.1 k)), (1, .ref (Z.2.1 k1)), (2, .ref (Z.2.1 k2))]) hx hb dX2_giveSums_16 rfl hl (by decide) rfl (fun ls hl => ?_)
  have hcut_17 : ∀ (nn_17 : Nat) (j : Nat) (cv : Nat → Int32) (ga : Nat → va_E) (h_k : ga k = .inr (2, [.ref (Z.2.1 (k + 1)), .int (nI (max w1.1 w2.1)), .ref (Z.2.1 (k + 2))])) (h_s : ga (k + 1) = .inl (Z.2.2.2 0, 12, .inl cv)) (h_r1 : ga k1 = .inr (6, [.ref (Z.2.1 (k1 + 1)), .int (nI w1.1)])) (h_a1 : ga (k1 + 1) = .inl (Z.2.2.2 0, 12, .inl av1)) (h_r2 : ga k2 = .inr (6, [.ref (Z.2.1 (k2 + 1)), .int (nI w2.1)])) (h_a2 : ga (k2 + 1) = .inl (Z.2.2.2 0, 12, .inl av2)) (hfr_ga : z_fr k 2 g ga) (hj : j ≤ 12) (hcv : ∀ i, i < j → (cv i).toInt = (fun i => zeg w1 i + zeg w2 i) i) (hm_17 : 12 - j < nn_17) (H : Heap) (locs : List Loc) (ls : Array Slot), z_S Z (z_A Z sz) s.heap ga H locs → lv_has ls 4 [(0, .ref (Z.2.1 k)), (1, .ref (Z.2.1 k1)), (2, .ref (Z.2.1 k2)), (3, .int (nI j))] → W p l e (headSpec wsX2_giveSums (z_rm 1 21)).room s m args below meth c H locs 0 0 (MQ below (va_Qv (fun g1 => z_cp Z g1 k (max w1.1 w2.1) (fun i => zeg w1 i + zeg w2 i) ∧ z_fr k 2 g g1) (z_B Z) (z_A Z sz)) args s 0 0 (z_A Z sz)) (F0 m 17 ls []) := by
    intro nn_17
    induction nn_17 with
    | zero => intro j cv ga h_k h_s h_r1 h_a1 h_r2 h_a2 hfr_ga hj hcv hm_17 H locs ls hS hl; exact absurd hm_17 (Nat.not_lt_zero _)
    | succ nn_17 ih_17 =>
      intro j cv ga h_k h_s h_r1 h_a1 h_r2 h_a2 hfr_ga hj hcv hm_17 H locs ls hS hl
      refine lv_iload_n hx hb dX2_giveSums_17 rfl (lv_at hl 3 rfl) ?_
      refine lv_aload_n hx hb dX2_giveSums_18 rfl (lv_at hl 0 rfl) ?_
      refine z_get (own := RX2) (C := RX2) (T := TX2) (N := 3) hx hb hts in_X2_giveSums_2 hown hK hS h_k hkk rfl 0 (by decide) (List.mem_of_getElem? (i := 6) rfl) rfl rfl dX2_giveSums_19 ?_
      refine z_alen (v := 12) hx hb hK hS 0 h_s hkk1 rfl rfl dX2_giveSums_22 ?_
      refine lv_icmp_ge (tgt := 49) hx hb dX2_giveSums_23 (by decide) (fun c_2 => ?_) (fun c_2 => ?_)
      · have i_2 := z_le c_2
        rw [nI_toInt (by omega)] at i_2
        rw [tI_12] at i_2
        have hj12 : j = 12 := by omega
        subst hj12
        refine z_vret hx hb hr hlocks hS ?_ dX2_giveSums_49
        exact ⟨⟨cv, w0, h_k, h_s, hkN, by omega, fun i hi => ⟨hcv i hi, by have := hz1 i; have := hz2 i; simp only; omega⟩, hw0.congr (hfr_ga _ (by omega)) (hfr_ga _ (by omega))⟩, hfr_ga⟩
      · have i_2 := z_nle c_2
        rw [nI_toInt (by omega)] at i_2
        rw [tI_12] at i_2
        refine lv_aload_n hx hb dX2_giveSums_26 rfl (lv_at hl 0 rfl) ?_
        refine z_get (own := RX2) (C := RX2) (T := TX2) (N := 3) hx hb hts in_X2_giveSums_2 hown hK hS h_k hkk rfl 0 (by decide) (List.mem_of_getElem? (i := 6) rfl) rfl rfl dX2_giveSums_27 ?_
        refine lv_iload_n hx hb dX2_giveSums_30 rfl (lv_at hl 3 rfl) ?_
        refine lv_aload_n hx hb dX2_giveSums_31 rfl (lv_at hl 1 rfl) ?_
        refine lv_iload_n hx hb dX2_giveSums_32 rfl (lv_at hl 3 rfl) ?_
        refine z_calli (z_runVN (As := [.int (nI j)]) (rest := [.int (nI j), .ref (Z.2.1 (k + 1))]) (C := RX6) ⟨hx, hb, hml, hown, hts⟩ hK hS ((k_entryOrZero Z ga k1 w1 ⟨av1, h_r1, h_a1, hkN1, hn121, hav1⟩ j (by omega)) l _) gX2_giveSums_X6_entryOrZero_n35 rfl 1 45 rfl (List.mem_of_getElem? (i := 8) rfl) (List.mem_of_getElem? (i := 7) rfl) (List.mem_of_getElem? (i := 9) rfl) (by decide +kernel) ⟨Nat.le_of_ble_eq_true rfl, Nat.le_of_ble_eq_true rfl⟩ h_r1 hk01 rfl rfl hl.1 rfl (Nat.le_of_ble_eq_true rfl) dX2_giveSums_33 ⟨Nat.le_of_ble_eq_true rfl, Nat.le_of_ble_eq_true rfl⟩) hS (fun e1 g_3 H locs hp_4 hS => ?_)
        obtain ⟨rfl, hp_4⟩ := hp_4
        have he1 := hp_4
        refine lv_aload_n hx hb dX2_giveSums_36 rfl (lv_at hl 2 rfl) ?_
        refine lv_iload_n hx hb dX2_giveSums_37 rfl (lv_at hl 3 rfl) ?_
        refine z_calli (z_runVN (As := [.int (nI j)]) (rest := [.int e1, .int (nI j), .ref (Z.2.1 (k + 1))]) (C := RX6) ⟨hx, hb, hml, hown, hts⟩ hK hS ((k_entryOrZero Z ga k2 w2 ⟨av2, h_r2, h_a2, hkN2, hn122, hav2⟩ j (by omega)) l _) gX2_giveSums_X6_entryOrZero_n35 rfl 1 45 rfl (List.mem_of_getElem? (i := 8) rfl) (List.mem_of_getElem? (i := 7) rfl) (List.mem_of_getElem? (i := 9) rfl) (by decide +kernel) ⟨Nat.le_of_ble_eq_true rfl, Nat.le_of_ble_eq_true rfl⟩ h_r2 hk02 rfl rfl hl.1 rfl (Nat.le_of_ble_eq_true rfl) dX2_giveSums_38 ⟨Nat.le_of_ble_eq_true rfl, Nat.le_of_ble_eq_true rfl⟩) hS (fun e2 g_5 H locs hp_6 hS => ?_)
        obtain ⟨rfl, hp_6⟩ := hp_6
        have he2 := hp_6
        have hb1 := hz1 j
        have hb2 := hz2 j
        have hee : (e1 + e2).toInt = zeg w1 j + zeg w2 j := by rw [fb_addI (by omega) (by omega), he1, he2]
        refine lv_iadd hx hb dX2_giveSums_41 ?_
        refine z_iast hx hb hK hS h_s hkk1 (vp_in_nI (by omega) (by omega)) dX2_giveSums_42 (fun g_7 H locs hg_7 hS => ?_)
        have h_s : g_7 (k + 1) = .inl (Z.2.2.2 0, 12, .inl (upd cv (nI j).toNatClampNeg (e1 + e2))) := z_up_s hg_7
        have h_k := z_up_n hg_7 h_k (by omega)
        have h_r1 := z_up_n hg_7 h_r1 (by omega)
        have h_a1 := z_up_n hg_7 h_a1 (by omega)
        have h_r2 := z_up_n hg_7 h_r2 (by omega)
        have h_a2 := z_up_n hg_7 h_a2 (by omega)
        refine lv_iinc (v := (nI (j + 1))) (lv' := [(3, .int (nI (j + 1))), (0, .ref (Z.2.1 k)), (1, .ref (Z.2.1 k1)), (2, .ref (Z.2.1 k2))]) hx hb dX2_giveSums_43 hl (k := 3) rfl (nI_1 _) (by decide) rfl (fun ls hl => ?_)
        refine lv_goto (tgt := 17) hx hb dX2_giveSums_46 (by decide) ?_
        exact ih_17 (j + 1) (upd cv (nI j).toNatClampNeg (e1 + e2)) g_7 h_k h_s h_r1 h_a1 h_r2 h_a2 (hfr_ga.up hg_7 (by omega)) (by omega) (fun i h => by
            rw [nI_clamp (by omega)]
            by_cases h1 : i = j
            · subst h1; rw [pk_us]; exact hee
            · rw [pk_un h1]; exact hcv i (by omega)) (by omega) _ _ _ hS (lv_sub hl [1, 2, 3, 0] rfl)
  exact hcut_17 (12 - 0 + 1) 0 sv g_1 h_k h_s h_r1 h_a1 h_r2 h_a2 (z_fr.rf.up hg_1 (by omega)) (by omega) (fun i h => absurd h (Nat.not_lt_zero i)) (Nat.lt_succ_self _) _ _ _ hS (lv_sub hl [1, 2, 3, 0] rfl)

theorem in_X2_giveMultiples_2 : ∀ w ∈ wsX20, w ∈ wsX2_giveMultiples := by decide +kernel
theorem in_X2_giveMultiples_6 : ∀ w ∈ wsX60, w ∈ wsX2_giveMultiples := by decide +kernel
set_option maxHeartbeats 4000000 in
set_option maxRecDepth 100000 in
theorem k_giveMultiples (Z : zT) (g : Nat → va_E) (k : Nat) (hC : z_cr Z g k) (k1 : Nat) (w1 : zr) (hR1 : z_row Z g k1 w1) (hk1 : k1 + 2 ≤ k ∨ k + 4 ≤ k1) (y : Int32) (hy9 : -100 ≤ y.toInt ∧ y.toInt ≤ 100) : z_Mv Z yX2_giveMultiples wsX2_giveMultiples 1 21 [.ref (Z.2.1 k), .ref (Z.2.1 k1), .int y] g (fun g1 => z_cp Z g1 k w1.1 (fun i => zeg w1 i * y.toInt) ∧ z_fr k 2 g g1) := by
  intro l sz
  obtain ⟨v1, sv, w0, h_k, h_s, hkN, hw0⟩ := id hC
  have hkk : k < Z.1 := by omega
  have hkk1 : k + 1 < Z.1 := by omega
  obtain ⟨av1, h_r1, h_a1, hkN1, hn121, hav1⟩ := id hR1
  have hk01 : k1 < Z.1 := by omega
  have hk11 : k1 + 1 < Z.1 := by omega
  have hz1 := zeg_bd hR1
  have hmb : ∀ i, -2000 ≤ zeg w1 i * y.toInt ∧ zeg w1 i * y.toInt ≤ 2000 := fun i => by
    have h9 := hz1 i
    exact z_mul_bd (a := 20) (b := 100) (by omega) (by omega) (by omega) (by omega)
  refine z_enter (maxL := 4) (ret := none) (lv := [(0, .ref (Z.2.1 k)), (1, .ref (Z.2.1 k1)), (2, .int y)]) (plainFor_of_name (by decide +kernel)) rfl (fun ls h => by subst h; exact lv_entry [.ref (Z.2.1 k), .ref (Z.2.1 k1), .int y] (n := 4) (Nat.le_of_ble_eq_true rfl)) ?_
  intro p e s m args below meth c hx hb hml hr hlocks hown hts hK hS hsz ls hl
  refine lv_aload_n hx hb dX2_giveMultiples_0 rfl (lv_at hl 0 rfl) ?_
  refine lv_aload_n hx hb dX2_giveMultiples_1 rfl (lv_at hl 1 rfl) ?_
  refine z_getN (own := RX2) (C := RX6) (T := TX6) (N := 2) hx hb hts in_X2_giveMultiples_6 hown hK hS h_r1 hk01 rfl 1 (by decide) 19 rfl rfl rfl dX2_giveMultiples_2 ?_
  refine z_put (fs' := [.ref (Z.2.1 (k + 1)), .int (nI w1.1), .ref (Z.2.1 (k + 2))]) (own := RX2) (C := RX2) (T := TX2) (N := 3) hx hb hts in_X2_giveMultiples_2 tyX2 tyX2_ok nmX2 hown hK hS h_k hkk rfl 1 (by decide) (List.mem_of_getElem? (i := 1) rfl) rfl rfl rfl rfl (Nat.le_of_ble_eq_true rfl) rfl dX2_giveMultiples_5 (fun g_1 H locs hg_1 hS => ?_)
  have h_k : g_1 k = .inr (2, [.ref (Z.2.1 (k + 1)), .int (nI w1.1), .ref (Z.2.1 (k + 2))]) := z_up_s hg_1
  have h_s := z_up_n hg_1 h_s (by omega)
  have h_r1 := z_up_n hg_1 h_r1 (by omega)
  have h_a1 := z_up_n hg_1 h_a1 (by omega)
  refine lv_iconst (v := 0) hx hb dX2_giveMultiples_8 (by decide) ?_
  refine lv_istore_n (lv' := [(3, .int 0), (0, .ref (Z.2.1 k)), (1, .ref (Z.2.1 k1)), (2, .int y)]) hx hb dX2_giveMultiples_9 rfl hl (by decide) rfl (fun ls hl => ?_)
  have hcut_10 : ∀ (nn_10 : Nat) (j : Nat) (cv : Nat → Int32) (ga : Nat → va_E) (h_k : ga k = .inr (2, [.ref (Z.2.1 (k + 1)), .int (nI w1.1), .ref (Z.2.1 (k + 2))])) (h_s : ga (k + 1) = .inl (Z.2.2.2 0, 12, .inl cv)) (h_r1 : ga k1 = .inr (6, [.ref (Z.2.1 (k1 + 1)), .int (nI w1.1)])) (h_a1 : ga (k1 + 1) = .inl (Z.2.2.2 0, 12, .inl av1)) (hfr_ga : z_fr k 2 g ga) (hj : j ≤ 12) (hcv : ∀ i, i < j → (cv i).toInt = (fun i => zeg w1 i * y.toInt) i) (hm_10 : 12 - j < nn_10) (H : Heap) (locs : List Loc) (ls : Array Slot), z_S Z (z_A Z sz) s.heap ga H locs → lv_has ls 4 [(0, .ref (Z.2.1 k)), (1, .ref (Z.2.1 k1)), (2, .int y), (3, .int (nI j))] → W p l e (headSpec wsX2_giveMultiples (z_rm 1 21)).room s m args below meth c H locs 0 0 (MQ below (va_Qv (fun g1 => z_cp Z g1 k w1.1 (fun i => zeg w1 i * y.toInt) ∧ z_fr k 2 g g1) (z_B Z) (z_A Z sz)) args s 0 0 (z_A Z sz)) (F0 m 10 ls []) := by
    intro nn_10
    induction nn_10 with
    | zero => intro j cv ga h_k h_s h_r1 h_a1 hfr_ga hj hcv hm_10 H locs ls hS hl; exact absurd hm_10 (Nat.not_lt_zero _)
    | succ nn_10 ih_10 =>
      intro j cv ga h_k h_s h_r1 h_a1 hfr_ga hj hcv hm_10 H locs ls hS hl
      refine lv_iload_n hx hb dX2_giveMultiples_10 rfl (lv_at hl 3 rfl) ?_
      refine lv_aload_n hx hb dX2_giveMultiples_11 rfl (lv_at hl 0 rfl) ?_
      refine z_get (own := RX2) (C := RX2) (T := TX2) (N := 3) hx hb hts in_X2_giveMultiples_2 hown hK hS h_k hkk rfl 0 (by decide) (List.mem_of_getElem? (i := 2) rfl) rfl rfl dX2_giveMultiples_12 ?_
      refine z_alen (v := 12) hx hb hK hS 0 h_s hkk1 rfl rfl dX2_giveMultiples_15 ?_
      refine lv_icmp_ge (tgt := 38) hx hb dX2_giveMultiples_16 (by decide) (fun c_2 => ?_) (fun c_2 => ?_)
      · have i_2 := z_le c_2
        rw [nI_toInt (by omega)] at i_2
        rw [tI_12] at i_2
        have hj12 : j = 12 := by omega
        subst hj12
        refine z_vret hx hb hr hlocks hS ?_ dX2_giveMultiples_38
        exact ⟨⟨cv, w0, h_k, h_s, hkN, hn121, fun i hi => ⟨hcv i hi, hmb i⟩, hw0.congr (hfr_ga _ (by omega)) (hfr_ga _ (by omega))⟩, hfr_ga⟩
      · have i_2 := z_nle c_2
        rw [nI_toInt (by omega)] at i_2
        rw [tI_12] at i_2
        refine lv_aload_n hx hb dX2_giveMultiples_19 rfl (lv_at hl 0 rfl) ?_
        refine z_get (own := RX2) (C := RX2) (T := TX2) (N := 3) hx hb hts in_X2_giveMultiples_2 hown hK hS h_k hkk rfl 0 (by decide) (List.mem_of_getElem? (i := 2) rfl) rfl rfl dX2_giveMultiples_20 ?_
        refine lv_iload_n hx hb dX2_giveMultiples_23 rfl (lv_at hl 3 rfl) ?_
        refine lv_aload_n hx hb dX2_giveMultiples_24 rfl (lv_at hl 1 rfl) ?_
        refine lv_iload_n hx hb dX2_giveMultiples_25 rfl (lv_at hl 3 rfl) ?_
        refine z_calli (z_runVN (As := [.int (nI j)]) (rest := [.int (nI j), .ref (Z.2.1 (k + 1))]) (C := RX6) ⟨hx, hb, hml, hown, hts⟩ hK hS ((k_entryOrZero Z ga k1 w1 ⟨av1, h_r1, h_a1, hkN1, hn121, hav1⟩ j (by omega)) l _) gX2_giveMultiples_X6_entryOrZero_n35 rfl 1 45 rfl (List.mem_of_getElem? (i := 4) rfl) (List.mem_of_getElem? (i := 3) rfl) (List.mem_of_getElem? (i := 5) rfl) (by decide +kernel) ⟨Nat.le_of_ble_eq_true rfl, Nat.le_of_ble_eq_true rfl⟩ h_r1 hk01 rfl rfl hl.1 rfl (Nat.le_of_ble_eq_true rfl) dX2_giveMultiples_26 ⟨Nat.le_of_ble_eq_true rfl, Nat.le_of_ble_eq_true rfl⟩) hS (fun e1 g_3 H locs hp_4 hS => ?_)
        obtain ⟨rfl, hp_4⟩ := hp_4
        have he1 := hp_4
        have hb1 := hmb j
        have hee : (e1 * y).toInt = zeg w1 j * y.toInt := by rw [fb_mulI (by rw [he1]; omega) (by rw [he1]; omega), he1]
        refine lv_iload_n hx hb dX2_giveMultiples_29 rfl (lv_at hl 2 rfl) ?_
        refine lv_imul hx hb dX2_giveMultiples_30 ?_
        refine z_iast hx hb hK hS h_s hkk1 (vp_in_nI (by omega) (by omega)) dX2_giveMultiples_31 (fun g_5 H locs hg_5 hS => ?_)
        have h_s : g_5 (k + 1) = .inl (Z.2.2.2 0, 12, .inl (upd cv (nI j).toNatClampNeg (e1 * y))) := z_up_s hg_5
        have h_k := z_up_n hg_5 h_k (by omega)
        have h_r1 := z_up_n hg_5 h_r1 (by omega)
        have h_a1 := z_up_n hg_5 h_a1 (by omega)
        refine lv_iinc (v := (nI (j + 1))) (lv' := [(3, .int (nI (j + 1))), (0, .ref (Z.2.1 k)), (1, .ref (Z.2.1 k1)), (2, .int y)]) hx hb dX2_giveMultiples_32 hl (k := 3) rfl (nI_1 _) (by decide) rfl (fun ls hl => ?_)
        refine lv_goto (tgt := 10) hx hb dX2_giveMultiples_35 (by decide) ?_
        exact ih_10 (j + 1) (upd cv (nI j).toNatClampNeg (e1 * y)) g_5 h_k h_s h_r1 h_a1 (hfr_ga.up hg_5 (by omega)) (by omega) (fun i h => by
            rw [nI_clamp (by omega)]
            by_cases h1 : i = j
            · subst h1; rw [pk_us]; exact hee
            · rw [pk_un h1]; exact hcv i (by omega)) (by omega) _ _ _ hS (lv_sub hl [1, 2, 3, 0] rfl)
  exact hcut_10 (12 - 0 + 1) 0 sv g_1 h_k h_s h_r1 h_a1 (z_fr.rf.up hg_1 (by omega)) (by omega) (fun i h => absurd h (Nat.not_lt_zero i)) (Nat.lt_succ_self _) _ _ _ hS (lv_sub hl [1, 2, 3, 0] rfl)

theorem in_X2_isOver_2 : ∀ w ∈ wsX20, w ∈ wsX2_isOver := by decide +kernel
set_option maxHeartbeats 4000000 in
set_option maxRecDepth 100000 in
theorem k_isOver (Z : zT) (g : Nat → va_E) (k kb : Nat) (b : zb) (n : Nat) (v3 : Nat) (hn12 : n ≤ 12) (h_k : g k = .inr (2, [.ref (Z.2.1 (k + 1)), .int (nI n), .ref (Z.2.1 (k + 2))])) (hkk : k < Z.1) (hB : z_b1 Z g kb b) (c9 : Int32) (hv3 : v3 < 1000) : z_Mi Z yX2_isOver wsX2_isOver 3 64 [.ref (Z.2.1 k), .ref (Z.2.1 kb), .int (nI v3), .int c9] g (fun r g1 => g = g1 ∧ zbo r (n ≤ v3 ∧ c9.toInt = 0 ∧ zch b 0 = 0)) := by
  intro l sz
  obtain ⟨pb, qb, res, cmp, dg, ch, ⟨h_b, h_d, h_c, hkNb, hok, hp, hq, hres, hdg⟩, hch⟩ := id hB
  have hk0 : kb < Z.1 := by omega
  have hk1 : kb + 1 < Z.1 := by omega
  have hk2 : kb + 2 < Z.1 := by omega
  have hPb := zP_bd hok
  have hq1 := hok.2.1
  
  refine z_enter (maxL := 4) (ret := (some .boolean)) (lv := [(0, .ref (Z.2.1 k)), (1, .ref (Z.2.1 kb)), (2, .int (nI v3)), (3, .int c9)]) (plainFor_of_name (by decide +kernel)) rfl (fun ls h => by subst h; exact lv_entry [.ref (Z.2.1 k), .ref (Z.2.1 kb), .int (nI v3), .int c9] (n := 4) (Nat.le_of_ble_eq_true rfl)) ?_
  intro p e s m args below meth c hx hb hml hr hlocks hown hts hK hS hsz ls hl
  refine lv_iload_n hx hb dX2_isOver_0 rfl (lv_at hl 2 rfl) ?_
  refine lv_aload_n hx hb dX2_isOver_1 rfl (lv_at hl 0 rfl) ?_
  refine z_get (own := RX2) (C := RX2) (T := TX2) (N := 3) hx hb hts in_X2_isOver_2 hown hK hS h_k hkk rfl 1 (by decide) (List.mem_of_getElem? (i := 1) rfl) rfl rfl dX2_isOver_2 ?_
  refine lv_icmp_lt (tgt := 23) hx hb dX2_isOver_5 (by decide) (fun c_1 => ?_) (fun c_1 => ?_)
  · have i_1 := z_lt c_1
    rw [nI_toInt (by omega)] at i_1
    rw [nI_toInt (by omega)] at i_1
    refine lv_iconst (v := 0) hx hb dX2_isOver_23 (by decide) ?_
    refine z_zret hx hb hr hlocks hS (by decide) ?_ dX2_isOver_24
    exact ⟨rfl, zbo_0 (fun h9 => by have h8 := h9.2.2; omega)⟩
  · have i_1 := z_nlt c_1
    rw [nI_toInt (by omega)] at i_1
    rw [nI_toInt (by omega)] at i_1
    refine lv_iload_n hx hb dX2_isOver_8 rfl (lv_at hl 3 rfl) ?_
    refine lv_if_ne (tgt := 23) hx hb dX2_isOver_9 (by decide) (fun c_2 => ?_) (fun c_2 => ?_)
    · have i_2 := z_ne c_2
      rw [tI_0] at i_2
      refine lv_iconst (v := 0) hx hb dX2_isOver_23 (by decide) ?_
      refine z_zret hx hb hr hlocks hS (by decide) ?_ dX2_isOver_24
      exact ⟨rfl, zbo_0 (fun h9 => by have h8 := h9.2.2; omega)⟩
    · have i_2 := z_eq c_2
      rw [tI_0] at i_2
      refine lv_aload_n hx hb dX2_isOver_12 rfl (lv_at hl 1 rfl) ?_
      refine z_calli (z_runVN (As := []) (rest := []) (C := RX0) ⟨hx, hb, hml, hown, hts⟩ hK hS ((k_keepsZero Z g kb b hB) l _) gX2_isOver_X0_keepsZero_n61 rfl 0 50 rfl (List.mem_of_getElem? (i := 3) rfl) (List.mem_of_getElem? (i := 2) rfl) (List.mem_of_getElem? (i := 4) rfl) (by decide +kernel) ⟨Nat.le_of_ble_eq_true rfl, Nat.le_of_ble_eq_true rfl⟩ h_b hk0 rfl rfl hl.1 rfl (Nat.le_of_ble_eq_true rfl) dX2_isOver_13 ⟨Nat.le_of_ble_eq_true rfl, Nat.le_of_ble_eq_true rfl⟩) hS (fun rz g_3 H locs hp_4 hS => ?_)
      obtain ⟨rfl, hp_4⟩ := hp_4
      have hrz := hp_4
      refine lv_if_eq (tgt := 23) hx hb dX2_isOver_16 (by decide) (fun c_5 => ?_) (fun c_5 => ?_)
      · have i_5 := z_eq c_5
        rw [tI_0] at i_5
        have hzz := zbo_f hrz c_5
        refine lv_iconst (v := 0) hx hb dX2_isOver_23 (by decide) ?_
        refine z_zret hx hb hr hlocks hS (by decide) ?_ dX2_isOver_24
        exact ⟨rfl, zbo_0 (fun h9 => by have h8 := h9.2.2; omega)⟩
      · have i_5 := z_ne c_5
        rw [tI_0] at i_5
        have hzz := zbo_t hrz c_5
        refine lv_iconst (v := 1) hx hb dX2_isOver_19 (by decide) ?_
        refine lv_goto (tgt := 24) hx hb dX2_isOver_20 (by decide) ?_
        refine z_zret hx hb hr hlocks hS (by decide) ?_ dX2_isOver_24
        exact ⟨rfl, zbo_1 ⟨by omega, by omega, hzz⟩⟩

theorem in_X2_carryThrough_0 : ∀ w ∈ wsX00, w ∈ wsX2_carryThrough := by decide +kernel
theorem in_X2_carryThrough_2 : ∀ w ∈ wsX20, w ∈ wsX2_carryThrough := by decide +kernel
theorem in_X2_carryThrough_6 : ∀ w ∈ wsX60, w ∈ wsX2_carryThrough := by decide +kernel
set_option maxHeartbeats 4000000 in
set_option maxRecDepth 100000 in
theorem k_carryThrough (Z : zT) (g : Nat → va_E) (k kb : Nat) (b : zb) (n : Nat) (s9 : Nat → Int) (hP : z_cp Z g k n s9) (hB : z_b1 Z g kb b) (hcm : zcm b) (hsep : kb + 3 ≤ k ∨ k + 4 ≤ kb) : z_Mi Z yX2_carryThrough wsX2_carryThrough 4 87 [.ref (Z.2.1 k), .ref (Z.2.1 kb)] g (fun r g1 => z_cp Z g1 k n s9 ∧ ((zcN b n s9 < 13 ∧ r = 1 ∧ z_row Z g1 (k + 2) (ztr (zdq b s9) (zcN b n s9), zdq b s9)) ∨ (¬ zcN b n s9 < 13 ∧ r = 0)) ∧ z_fr k 4 g g1) := by
  intro l sz
  obtain ⟨pb, qb, res, cmp, dg, ch, ⟨h_b, h_d, h_c, hkNb, hok, hp, hq, hres, hdg⟩, hch⟩ := id hB
  have hk0 : kb < Z.1 := by omega
  have hk1 : kb + 1 < Z.1 := by omega
  have hk2 : kb + 2 < Z.1 := by omega
  have hPb := zP_bd hok
  have hq1 := hok.2.1
  obtain ⟨sv, w0, h_k, h_s, hkN, hn12, hsv, hw0⟩ := id hP
  have hkk : k < Z.1 := by omega
  have hkk1 : k + 1 < Z.1 := by omega
  obtain ⟨av, h_r, h_a, hkN2, hnw, hav⟩ := id hw0
  have hkk2 : k + 2 < Z.1 := by omega
  have hkk3 : k + 2 + 1 < Z.1 := by omega
  have hqb := zcq_bd hok hcm (s := s9) (fun i hi => (hsv i hi).2)
  
  refine z_enter (maxL := 4) (ret := (some .boolean)) (lv := [(0, .ref (Z.2.1 k)), (1, .ref (Z.2.1 kb))]) (plainFor_of_name (by decide +kernel)) rfl (fun ls h => by subst h; exact lv_entry [.ref (Z.2.1 k), .ref (Z.2.1 kb)] (n := 4) (Nat.le_of_ble_eq_true rfl)) ?_
  intro p e s m args below meth c hx hb hml hr hlocks hown hts hK hS hsz ls hl
  refine lv_iconst (v := 0) hx hb dX2_carryThrough_0 (by decide) ?_
  refine lv_istore_n (lv' := [(2, .int 0), (0, .ref (Z.2.1 k)), (1, .ref (Z.2.1 kb))]) hx hb dX2_carryThrough_1 rfl hl (by decide) rfl (fun ls hl => ?_)
  refine lv_aload_n hx hb dX2_carryThrough_2 rfl (lv_at hl 1 rfl) ?_
  refine z_get (own := RX2) (C := RX2) (T := TX2) (N := 3) hx hb hts in_X2_carryThrough_2 hown hK hS h_k hkk rfl 2 (by decide) (List.mem_of_getElem? (i := 1) rfl) rfl rfl dX2_carryThrough_3 ?_
  refine lv_iconst (v := 0) hx hb dX2_carryThrough_6 (by decide) ?_
  refine z_putN (fs' := [.ref (Z.2.1 (k + 2 + 1)), .int 0]) (own := RX2) (C := RX6) (T := TX6) (N := 2) hx hb hts in_X2_carryThrough_6 tyX6 tyX6_ok nmX6 hown hK hS h_r hkk2 rfl 1 (by decide) 19 rfl rfl rfl rfl rfl (Nat.le_of_ble_eq_true rfl) rfl dX2_carryThrough_7 (fun g_1 H locs hg_1 hS => ?_)
  have h_r : g_1 (k + 2) = .inr (6, [.ref (Z.2.1 (k + 2 + 1)), .int 0]) := z_up_s hg_1
  have h_b := z_up_n hg_1 h_b (by omega)
  have h_d := z_up_n hg_1 h_d (by omega)
  have h_c := z_up_n hg_1 h_c (by omega)
  have h_k := z_up_n hg_1 h_k (by omega)
  have h_s := z_up_n hg_1 h_s (by omega)
  have h_a := z_up_n hg_1 h_a (by omega)
  refine lv_iconst (v := 0) hx hb dX2_carryThrough_10 (by decide) ?_
  refine lv_istore_n (lv' := [(3, .int 0), (2, .int 0), (0, .ref (Z.2.1 k)), (1, .ref (Z.2.1 kb))]) hx hb dX2_carryThrough_11 rfl hl (by decide) rfl (fun ls hl => ?_)
  have hcut_12 : ∀ (nn_12 : Nat) (c9 : Int32) (i : Nat) (ga : Nat → va_E) (h_b : ga kb = .inr (0, [.int pb, .int qb, .int res, .int (nI b.2.2.1), .int cmp, .ref (Z.2.1 (kb + 1)), .ref (Z.2.1 (kb + 2))])) (h_d : ga (kb + 1) = .inl (Z.2.2.2 0, 12, .inl dg)) (h_c : ga (kb + 2) = .inl (Z.2.2.2 0, 10, .inl ch)) (h_k : ga k = .inr (2, [.ref (Z.2.1 (k + 1)), .int (nI n), .ref (Z.2.1 (k + 2))])) (h_s : ga (k + 1) = .inl (Z.2.2.2 0, 12, .inl sv)) (h_r : ga (k + 2) = .inr (6, [.ref (Z.2.1 (k + 2 + 1)), .int (nI i)])) (hfr_ga : z_fr k 4 g ga) (hi : i ≤ 12) (hc : c9.toInt = zcq b s9 i) (hRw : z_row Z ga (k + 2) (i, zdq b s9)) (hno : ∀ t, t < i → zovB b n s9 t = false) (hm_12 : 12 - i < nn_12) (H : Heap) (locs : List Loc) (ls : Array Slot), z_S Z (z_A Z sz) s.heap ga H locs → lv_has ls 4 [(0, .ref (Z.2.1 k)), (1, .ref (Z.2.1 kb)), (2, .int c9), (3, .int (nI i))] → W p l e (headSpec wsX2_carryThrough (z_rm 4 87)).room s m args below meth c H locs 0 0 (MQ below (va_Qi (fun r g1 => z_cp Z g1 k n s9 ∧ ((zcN b n s9 < 13 ∧ r = 1 ∧ z_row Z g1 (k + 2) (ztr (zdq b s9) (zcN b n s9), zdq b s9)) ∨ (¬ zcN b n s9 < 13 ∧ r = 0)) ∧ z_fr k 4 g g1) (z_B Z) (z_A Z sz)) args s 0 0 (z_A Z sz)) (F0 m 12 ls []) := by
    intro nn_12
    induction nn_12 with
    | zero => intro c9 i ga h_b h_d h_c h_k h_s h_r hfr_ga hi hc hRw hno hm_12 H locs ls hS hl; exact absurd hm_12 (Nat.not_lt_zero _)
    | succ nn_12 ih_12 =>
      intro c9 i ga h_b h_d h_c h_k h_s h_r hfr_ga hi hc hRw hno hm_12 H locs ls hS hl
      refine lv_iload_n hx hb dX2_carryThrough_12 rfl (lv_at hl 3 rfl) ?_
      refine lv_aload_n hx hb dX2_carryThrough_13 rfl (lv_at hl 0 rfl) ?_
      refine z_get (own := RX2) (C := RX2) (T := TX2) (N := 3) hx hb hts in_X2_carryThrough_2 hown hK hS h_k hkk rfl 0 (by decide) (List.mem_of_getElem? (i := 2) rfl) rfl rfl dX2_carryThrough_14 ?_
      refine z_alen (v := 12) hx hb hK hS 0 h_s hkk1 rfl rfl dX2_carryThrough_17 ?_
      refine lv_icmp_ge (tgt := 76) hx hb dX2_carryThrough_18 (by decide) (fun c_2 => ?_) (fun c_2 => ?_)
      · have i_2 := z_le c_2
        rw [nI_toInt (by omega)] at i_2
        rw [tI_12] at i_2
        have hi12 : i = 12 := by omega
        have hend : i < zfi (zovB b n s9) 13 → zfi (zovB b n s9) 13 < 13 → False := fun a1 a2 => by omega
        refine lv_aload_n hx hb dX2_carryThrough_76 rfl (lv_at hl 0 rfl) ?_
        refine lv_aload_n hx hb dX2_carryThrough_77 rfl (lv_at hl 1 rfl) ?_
        refine lv_aload_n hx hb dX2_carryThrough_78 rfl (lv_at hl 0 rfl) ?_
        refine z_get (own := RX2) (C := RX2) (T := TX2) (N := 3) hx hb hts in_X2_carryThrough_2 hown hK hS h_k hkk rfl 2 (by decide) (List.mem_of_getElem? (i := 1) rfl) rfl rfl dX2_carryThrough_79 ?_
        refine z_getN (own := RX2) (C := RX6) (T := TX6) (N := 2) hx hb hts in_X2_carryThrough_6 hown hK hS h_r hkk2 rfl 1 (by decide) 19 rfl rfl rfl dX2_carryThrough_82 ?_
        refine lv_iload_n hx hb dX2_carryThrough_85 rfl (lv_at hl 2 rfl) ?_
        refine z_calli (z_runV (As := [.ref (Z.2.1 kb), .int (nI i), .int c9]) (rest := []) ⟨hx, hb, hml, hown, hts⟩ hK hS ((k_isOver Z ga k kb b n i hn12 h_k hkk ⟨pb, qb, res, cmp, dg, ch, ⟨h_b, h_d, h_c, hkNb, hok, hp, hq, hres, hdg⟩, hch⟩ c9 (by omega)) l _) gX2_carryThrough_X2_isOver rfl 3 (by decide +kernel) ⟨Nat.le_of_ble_eq_true rfl, Nat.le_of_ble_eq_true rfl⟩ h_k hkk rfl rfl hl.1 rfl (Nat.le_of_ble_eq_true rfl) dX2_carryThrough_86 ⟨Nat.le_of_ble_eq_true rfl, Nat.le_of_ble_eq_true rfl⟩) hS (fun ro g_3 H locs hp_4 hS => ?_)
        obtain ⟨rfl, hp_4⟩ := hp_4
        have hro := hp_4
        rw [hc] at hro
        refine lv_if_ne (tgt := 94) hx hb dX2_carryThrough_89 (by decide) (fun c_5 => ?_) (fun c_5 => ?_)
        · have i_5 := z_ne c_5
          rw [tI_0] at i_5
          have hov : zovB b n s9 i = true := zovB_iff.mpr (zbo_t hro c_5)
          have hN : zcN b n s9 = i := zfi_is (by omega) hov hno
          refine lv_aload_n hx hb dX2_carryThrough_94 rfl (lv_at hl 0 rfl) ?_
          refine z_get (own := RX2) (C := RX2) (T := TX2) (N := 3) hx hb hts in_X2_carryThrough_2 hown hK hS h_k hkk rfl 2 (by decide) (List.mem_of_getElem? (i := 1) rfl) rfl rfl dX2_carryThrough_95 ?_
          refine z_callv (z_runVN (As := []) (rest := []) (C := RX6) ⟨hx, hb, hml, hown, hts⟩ hK hS ((k_dropZeros Z ga (k + 2) (i, zdq b s9) hRw) l _) gX2_carryThrough_X6_dropZerosAtEnd_n58 rfl 0 49 rfl (List.mem_of_getElem? (i := 25) rfl) (List.mem_of_getElem? (i := 39) rfl) (List.mem_of_getElem? (i := 40) rfl) (by decide +kernel) ⟨Nat.le_of_ble_eq_true rfl, Nat.le_of_ble_eq_true rfl⟩ h_r hkk2 rfl rfl hl.1 rfl (Nat.le_of_ble_eq_true rfl) dX2_carryThrough_98 ⟨Nat.le_of_ble_eq_true rfl, Nat.le_of_ble_eq_true rfl⟩) hS (fun g_7 H locs hp_8 hS => ?_)
          obtain ⟨hR4, hfr_9⟩ := hp_8
          have h_b := (hfr_9 _ (by omega)).trans h_b
          have h_d := (hfr_9 _ (by omega)).trans h_d
          have h_c := (hfr_9 _ (by omega)).trans h_c
          have h_k := (hfr_9 _ (by omega)).trans h_k
          have h_s := (hfr_9 _ (by omega)).trans h_s
          refine lv_iconst (v := 1) hx hb dX2_carryThrough_101 (by decide) ?_
          refine z_zret hx hb hr hlocks hS (by decide) ?_ dX2_carryThrough_102
          exact ⟨⟨sv, _, h_k, h_s, hkN, hn12, hsv, hR4⟩, Or.inl ⟨by omega, rfl, by rw [hN]; exact hR4⟩, (hfr_ga.tr (hfr_9.wide (by omega) (by omega)))⟩
        · have i_5 := z_eq c_5
          rw [tI_0] at i_5
          have hov9 := zbo_f hro c_5
          refine lv_iconst (v := 0) hx hb dX2_carryThrough_92 (by decide) ?_
          refine z_zret hx hb hr hlocks hS (by decide) ?_ dX2_carryThrough_93
          have hi12b : ¬ zcN b n s9 < 13 := by
            intro h9
            have h8 := zfi_yes _ _ h9
            have h7 : zovB b n s9 i = false := by
              cases e9 : zovB b n s9 i
              · rfl
              · exact absurd (zovB_iff.mp e9) hov9
            rcases Nat.lt_trichotomy (zfi (zovB b n s9) 13) i with q9 | q9 | q9
            · rw [hno _ q9] at h8; cases h8
            · rw [q9, h7] at h8; cases h8
            · exact hend q9 h9
          exact ⟨⟨sv, _, h_k, h_s, hkN, hn12, hsv, hRw⟩, Or.inr ⟨hi12b, rfl⟩, hfr_ga⟩
      · have i_2 := z_nle c_2
        rw [nI_toInt (by omega)] at i_2
        rw [tI_12] at i_2
        have hsi := hsv i (by omega)
        have hqi := hqb i (by omega)
        rw [← hc] at hqi
        have hmb := z_mul_bd (x := b.2.1) (y := c9.toInt) (a := 9) (b := 2020) (by omega) (by omega) (by omega) (by omega)
        have hqc : (qb * c9).toInt = b.2.1 * c9.toInt := by rw [fb_mulI (by rw [hq]; omega) (by rw [hq]; omega), hq]
        have hsum : (sv i + qb * c9).toInt = s9 i + b.2.1 * zcq b s9 i := by rw [fb_addI (by rw [hqc]; omega) (by rw [hqc]; omega), hqc, hsi.1, hc]
        refine lv_aload_n hx hb dX2_carryThrough_21 rfl (lv_at hl 0 rfl) ?_
        refine lv_aload_n hx hb dX2_carryThrough_22 rfl (lv_at hl 1 rfl) ?_
        refine lv_iload_n hx hb dX2_carryThrough_23 rfl (lv_at hl 3 rfl) ?_
        refine lv_iload_n hx hb dX2_carryThrough_24 rfl (lv_at hl 2 rfl) ?_
        refine z_calli (z_runV (As := [.ref (Z.2.1 kb), .int (nI i), .int c9]) (rest := []) ⟨hx, hb, hml, hown, hts⟩ hK hS ((k_isOver Z ga k kb b n i hn12 h_k hkk ⟨pb, qb, res, cmp, dg, ch, ⟨h_b, h_d, h_c, hkNb, hok, hp, hq, hres, hdg⟩, hch⟩ c9 (by omega)) l _) gX2_carryThrough_X2_isOver rfl 3 (by decide +kernel) ⟨Nat.le_of_ble_eq_true rfl, Nat.le_of_ble_eq_true rfl⟩ h_k hkk rfl rfl hl.1 rfl (Nat.le_of_ble_eq_true rfl) dX2_carryThrough_25 ⟨Nat.le_of_ble_eq_true rfl, Nat.le_of_ble_eq_true rfl⟩) hS (fun ro g_10 H locs hp_11 hS => ?_)
        obtain ⟨rfl, hp_11⟩ := hp_11
        have hro := hp_11
        rw [hc] at hro
        refine lv_if_eq (tgt := 34) hx hb dX2_carryThrough_28 (by decide) (fun c_12 => ?_) (fun c_12 => ?_)
        · have i_12 := z_eq c_12
          rw [tI_0] at i_12
          have hov : zovB b n s9 i = false := by
            cases e9 : zovB b n s9 i
            · rfl
            · exact absurd (zovB_iff.mp e9) (zbo_f hro c_12)
          refine lv_aload_n hx hb dX2_carryThrough_34 rfl (lv_at hl 0 rfl) ?_
          refine z_get (own := RX2) (C := RX2) (T := TX2) (N := 3) hx hb hts in_X2_carryThrough_2 hown hK hS h_k hkk rfl 2 (by decide) (List.mem_of_getElem? (i := 1) rfl) rfl rfl dX2_carryThrough_35 ?_
          refine lv_aload_n hx hb dX2_carryThrough_38 rfl (lv_at hl 1 rfl) ?_
          refine lv_aload_n hx hb dX2_carryThrough_39 rfl (lv_at hl 0 rfl) ?_
          refine z_get (own := RX2) (C := RX2) (T := TX2) (N := 3) hx hb hts in_X2_carryThrough_2 hown hK hS h_k hkk rfl 0 (by decide) (List.mem_of_getElem? (i := 2) rfl) rfl rfl dX2_carryThrough_40 ?_
          refine lv_iload_n hx hb dX2_carryThrough_43 rfl (lv_at hl 3 rfl) ?_
          refine z_iald hx hb hK hS h_s hkk1 (vp_in_nI (by omega) (by omega)) dX2_carryThrough_44 ?_
          rw [show sv (nI i).toNatClampNeg = sv i from by rw [nI_clamp (by omega)]]
          refine lv_aload_n hx hb dX2_carryThrough_45 rfl (lv_at hl 1 rfl) ?_
          refine z_getN (own := RX2) (C := RX0) (T := TX0) (N := 7) hx hb hts in_X2_carryThrough_0 hown hK hS h_b hk0 rfl 1 (by decide) 20 rfl rfl rfl dX2_carryThrough_46 ?_
          refine lv_iload_n hx hb dX2_carryThrough_49 rfl (lv_at hl 2 rfl) ?_
          refine lv_imul hx hb dX2_carryThrough_50 ?_
          refine lv_iadd hx hb dX2_carryThrough_51 ?_
          refine z_calli (z_runVN (As := [.int ((sv i) + (qb * c9))]) (rest := [.ref (Z.2.1 (k + 2))]) (C := RX0) ⟨hx, hb, hml, hown, hts⟩ hK hS ((k_digitFor Z ga kb b ⟨pb, qb, res, cmp, dg, ch, ⟨h_b, h_d, h_c, hkNb, hok, hp, hq, hres, hdg⟩, hch⟩ (sv i + qb * c9)) l _) gX2_carryThrough_X0_digitFor_n48 rfl 1 46 rfl (List.mem_of_getElem? (i := 10) rfl) (List.mem_of_getElem? (i := 14) rfl) (List.mem_of_getElem? (i := 15) rfl) (by decide +kernel) ⟨Nat.le_of_ble_eq_true rfl, Nat.le_of_ble_eq_true rfl⟩ h_b hk0 rfl rfl hl.1 rfl (Nat.le_of_ble_eq_true rfl) dX2_carryThrough_52 ⟨Nat.le_of_ble_eq_true rfl, Nat.le_of_ble_eq_true rfl⟩) hS (fun dd g_13 H locs hp_14 hS => ?_)
          obtain ⟨rfl, hp_14⟩ := hp_14
          have hdd : dd.toInt = zdq b s9 i := by rw [hp_14, hsum]; rfl
          have hdb : -20 ≤ dd.toInt ∧ dd.toInt ≤ 20 := by rw [hdd]; exact zch_bd hok (hcm _)
          refine z_callv (z_runVN (As := [.int dd]) (rest := []) (C := RX6) ⟨hx, hb, hml, hown, hts⟩ hK hS ((k_rappend Z ga (k + 2) (i, zdq b s9) hRw dd hdb (by show i < 12; omega)) l _) gX2_carryThrough_X6_append_n51 rfl 1 47 rfl (List.mem_of_getElem? (i := 25) rfl) (List.mem_of_getElem? (i := 24) rfl) (List.mem_of_getElem? (i := 26) rfl) (by decide +kernel) ⟨Nat.le_of_ble_eq_true rfl, Nat.le_of_ble_eq_true rfl⟩ h_r hkk2 rfl rfl hl.1 rfl (Nat.le_of_ble_eq_true rfl) dX2_carryThrough_55 ⟨Nat.le_of_ble_eq_true rfl, Nat.le_of_ble_eq_true rfl⟩) hS (fun g_16 H locs hp_17 hS => ?_)
          obtain ⟨hR2, hfr_18⟩ := hp_17
          have h_b := (hfr_18 _ (by omega)).trans h_b
          have h_d := (hfr_18 _ (by omega)).trans h_d
          have h_c := (hfr_18 _ (by omega)).trans h_c
          have h_k := (hfr_18 _ (by omega)).trans h_k
          have h_s := (hfr_18 _ (by omega)).trans h_s
          have hR3 := z_row_ext (c := zdq b s9) hR2 (fun t ht => by
            by_cases h9 : t = i
            · rw [if_pos h9, h9]; exact hdd
            · rw [if_neg h9])
          obtain ⟨av3, h_r, -⟩ := id hR3
          refine lv_aload_n hx hb dX2_carryThrough_58 rfl (lv_at hl 1 rfl) ?_
          refine lv_iload_n hx hb dX2_carryThrough_59 rfl (lv_at hl 2 rfl) ?_
          refine lv_aload_n hx hb dX2_carryThrough_60 rfl (lv_at hl 0 rfl) ?_
          refine z_get (own := RX2) (C := RX2) (T := TX2) (N := 3) hx hb hts in_X2_carryThrough_2 hown hK hS h_k hkk rfl 0 (by decide) (List.mem_of_getElem? (i := 2) rfl) rfl rfl dX2_carryThrough_61 ?_
          refine lv_iload_n hx hb dX2_carryThrough_64 rfl (lv_at hl 3 rfl) ?_
          refine z_iald hx hb hK hS h_s hkk1 (vp_in_nI (by omega) (by omega)) dX2_carryThrough_65 ?_
          rw [show sv (nI i).toNatClampNeg = sv i from by rw [nI_clamp (by omega)]]
          refine z_calli (z_runVN (As := [.int c9, .int (sv i)]) (rest := []) (C := RX0) ⟨hx, hb, hml, hown, hts⟩ hK hS ((k_carryBehind Z g_16 kb b ⟨pb, qb, res, cmp, dg, ch, ⟨h_b, h_d, h_c, hkNb, hok, hp, hq, hres, hdg⟩, hch⟩ c9 (sv i) hcm (by omega) (by omega)) l _) gX2_carryThrough_X0_carryBehind_n55 rfl 2 48 rfl (List.mem_of_getElem? (i := 10) rfl) (List.mem_of_getElem? (i := 30) rfl) (List.mem_of_getElem? (i := 31) rfl) (by decide +kernel) ⟨Nat.le_of_ble_eq_true rfl, Nat.le_of_ble_eq_true rfl⟩ h_b hk0 rfl rfl hl.1 rfl (Nat.le_of_ble_eq_true rfl) dX2_carryThrough_66 ⟨Nat.le_of_ble_eq_true rfl, Nat.le_of_ble_eq_true rfl⟩) hS (fun cn g_19 H locs hp_20 hS => ?_)
          obtain ⟨rfl, hp_20⟩ := hp_20
          have hcn : cn.toInt = zcq b s9 (i + 1) := by rw [hp_20, hc, hsi.1]; rfl
          refine lv_istore_n (lv' := [(2, .int cn), (0, .ref (Z.2.1 k)), (1, .ref (Z.2.1 kb)), (3, .int (nI i))]) hx hb dX2_carryThrough_69 rfl hl (by decide) rfl (fun ls hl => ?_)
          refine lv_iinc (v := (nI (i + 1))) (lv' := [(3, .int (nI (i + 1))), (2, .int cn), (0, .ref (Z.2.1 k)), (1, .ref (Z.2.1 kb))]) hx hb dX2_carryThrough_70 hl (k := 3) rfl (nI_1 _) (by decide) rfl (fun ls hl => ?_)
          refine lv_goto (tgt := 12) hx hb dX2_carryThrough_73 (by decide) ?_
          exact ih_12 cn (i + 1) g_16 h_b h_d h_c h_k h_s h_r (hfr_ga.tr (hfr_18.wide (by omega) (by omega))) (by omega) hcn hR3 (fun t ht => by
              rcases Nat.lt_or_ge t i with q9 | q9
              · exact hno t q9
              · have : t = i := by omega
                subst this; exact hov) (by omega) _ _ _ hS (lv_sub hl [2, 3, 1, 0] rfl)
        · have i_12 := z_ne c_12
          rw [tI_0] at i_12
          have hovt := zbo_t hro c_12
          have hend : i < zfi (zovB b n s9) 13 → zfi (zovB b n s9) 13 < 13 → False := fun a1 a2 => by
            have h9 := zfi_no _ _ _ a1
            rw [zovB_iff.mpr hovt] at h9; cases h9
          refine lv_goto (tgt := 76) hx hb dX2_carryThrough_31 (by decide) ?_
          refine lv_aload_n hx hb dX2_carryThrough_76 rfl (lv_at hl 0 rfl) ?_
          refine lv_aload_n hx hb dX2_carryThrough_77 rfl (lv_at hl 1 rfl) ?_
          refine lv_aload_n hx hb dX2_carryThrough_78 rfl (lv_at hl 0 rfl) ?_
          refine z_get (own := RX2) (C := RX2) (T := TX2) (N := 3) hx hb hts in_X2_carryThrough_2 hown hK hS h_k hkk rfl 2 (by decide) (List.mem_of_getElem? (i := 1) rfl) rfl rfl dX2_carryThrough_79 ?_
          refine z_getN (own := RX2) (C := RX6) (T := TX6) (N := 2) hx hb hts in_X2_carryThrough_6 hown hK hS h_r hkk2 rfl 1 (by decide) 19 rfl rfl rfl dX2_carryThrough_82 ?_
          refine lv_iload_n hx hb dX2_carryThrough_85 rfl (lv_at hl 2 rfl) ?_
          refine z_calli (z_runV (As := [.ref (Z.2.1 kb), .int (nI i), .int c9]) (rest := []) ⟨hx, hb, hml, hown, hts⟩ hK hS ((k_isOver Z ga k kb b n i hn12 h_k hkk ⟨pb, qb, res, cmp, dg, ch, ⟨h_b, h_d, h_c, hkNb, hok, hp, hq, hres, hdg⟩, hch⟩ c9 (by omega)) l _) gX2_carryThrough_X2_isOver rfl 3 (by decide +kernel) ⟨Nat.le_of_ble_eq_true rfl, Nat.le_of_ble_eq_true rfl⟩ h_k hkk rfl rfl hl.1 rfl (Nat.le_of_ble_eq_true rfl) dX2_carryThrough_86 ⟨Nat.le_of_ble_eq_true rfl, Nat.le_of_ble_eq_true rfl⟩) hS (fun ro g_21 H locs hp_22 hS => ?_)
          obtain ⟨rfl, hp_22⟩ := hp_22
          have hro := hp_22
          rw [hc] at hro
          refine lv_if_ne (tgt := 94) hx hb dX2_carryThrough_89 (by decide) (fun c_23 => ?_) (fun c_23 => ?_)
          · have i_23 := z_ne c_23
            rw [tI_0] at i_23
            have hov : zovB b n s9 i = true := zovB_iff.mpr (zbo_t hro c_23)
            have hN : zcN b n s9 = i := zfi_is (by omega) hov hno
            refine lv_aload_n hx hb dX2_carryThrough_94 rfl (lv_at hl 0 rfl) ?_
            refine z_get (own := RX2) (C := RX2) (T := TX2) (N := 3) hx hb hts in_X2_carryThrough_2 hown hK hS h_k hkk rfl 2 (by decide) (List.mem_of_getElem? (i := 1) rfl) rfl rfl dX2_carryThrough_95 ?_
            refine z_callv (z_runVN (As := []) (rest := []) (C := RX6) ⟨hx, hb, hml, hown, hts⟩ hK hS ((k_dropZeros Z ga (k + 2) (i, zdq b s9) hRw) l _) gX2_carryThrough_X6_dropZerosAtEnd_n58 rfl 0 49 rfl (List.mem_of_getElem? (i := 25) rfl) (List.mem_of_getElem? (i := 39) rfl) (List.mem_of_getElem? (i := 40) rfl) (by decide +kernel) ⟨Nat.le_of_ble_eq_true rfl, Nat.le_of_ble_eq_true rfl⟩ h_r hkk2 rfl rfl hl.1 rfl (Nat.le_of_ble_eq_true rfl) dX2_carryThrough_98 ⟨Nat.le_of_ble_eq_true rfl, Nat.le_of_ble_eq_true rfl⟩) hS (fun g_25 H locs hp_26 hS => ?_)
            obtain ⟨hR4, hfr_27⟩ := hp_26
            have h_b := (hfr_27 _ (by omega)).trans h_b
            have h_d := (hfr_27 _ (by omega)).trans h_d
            have h_c := (hfr_27 _ (by omega)).trans h_c
            have h_k := (hfr_27 _ (by omega)).trans h_k
            have h_s := (hfr_27 _ (by omega)).trans h_s
            refine lv_iconst (v := 1) hx hb dX2_carryThrough_101 (by decide) ?_
            refine z_zret hx hb hr hlocks hS (by decide) ?_ dX2_carryThrough_102
            exact ⟨⟨sv, _, h_k, h_s, hkN, hn12, hsv, hR4⟩, Or.inl ⟨by omega, rfl, by rw [hN]; exact hR4⟩, (hfr_ga.tr (hfr_27.wide (by omega) (by omega)))⟩
          · have i_23 := z_eq c_23
            rw [tI_0] at i_23
            have hov9 := zbo_f hro c_23
            refine lv_iconst (v := 0) hx hb dX2_carryThrough_92 (by decide) ?_
            refine z_zret hx hb hr hlocks hS (by decide) ?_ dX2_carryThrough_93
            have hi12b : ¬ zcN b n s9 < 13 := by
              intro h9
              have h8 := zfi_yes _ _ h9
              have h7 : zovB b n s9 i = false := by
                cases e9 : zovB b n s9 i
                · rfl
                · exact absurd (zovB_iff.mp e9) hov9
              rcases Nat.lt_trichotomy (zfi (zovB b n s9) 13) i with q9 | q9 | q9
              · rw [hno _ q9] at h8; cases h8
              · rw [q9, h7] at h8; cases h8
              · exact hend q9 h9
            exact ⟨⟨sv, _, h_k, h_s, hkN, hn12, hsv, hRw⟩, Or.inr ⟨hi12b, rfl⟩, hfr_ga⟩
  exact hcut_12 (12 - 0 + 1) 0 0 g_1 h_b h_d h_c h_k h_s h_r (z_fr.rf.up hg_1 (by omega)) (by omega) rfl ⟨av, h_r, h_a, hkN2, by omega, fun t ht => absurd ht (Nat.not_lt_zero t)⟩ (fun t ht => absurd ht (Nat.not_lt_zero t)) (Nat.lt_succ_self _) _ _ _ hS (lv_sub hl [2, 3, 1, 0] rfl)

