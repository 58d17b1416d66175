theorem zwy_out {Z : zT} {g : Nat → va_E} {k kb : Nat} {lo hi : Nat → Int} {A : Nat → Int → Int} {v1 v2 : Int32} {v3 : Int64} (h : z_wy Z g k kb lo hi A v1 v2 v3) {l : Nat} {v : Int} (hn : ¬ zin lo hi l v) : A l v = 0 := by
  obtain ⟨lw, hw, tb, -, -, -, hA⟩ := h
  rw [hA]; unfold zA
  rw [if_neg hn]
def zfrom (b : zb) (u v : Int) : Prop := ∃ i, i < b.2.2.1 ∧ b.1 ∣ (b.2.1 * u - b.2.2.2 i) ∧ v = (b.2.1 * u - b.2.2.2 i).tdiv b.1
theorem zin_LH {lo hi : Nat → Int} {l : Nat} {v : Int} (hl : l ≤ 13) : zin lo hi l v ↔ (zLO lo l ≤ v ∧ v ≤ zHI hi l) := by
  unfold zin zLO zHI
  by_cases h9 : l ≤ 12
  · rw [if_pos h9, if_pos h9]; omega
  · rw [if_neg h9, if_neg h9]; omega
theorem in_X8_markFrom_0 : ∀ w ∈ wsX00, w ∈ wsX8_markFrom := by decide +kernel
theorem in_X8_markFrom_8 : ∀ w ∈ wsX80, w ∈ wsX8_markFrom := by decide +kernel
set_option maxHeartbeats 4000000 in
set_option maxRecDepth 100000 in
theorem k_markFrom (Z : zT) (g : Nat → va_E) (k kb : Nat) (b : zb) (lo hi : Nat → Int) (A : Nat → Int → Int) (v1 v2 : Int32) (v3 : Int64) (hY : z_wy Z g k kb lo hi A v1 v2 v3) (hB : z_b0 Z g kb b) (l1 : Nat) (hl1 : l1 ≤ 12) (x : Int32) (hx2 : -200000 ≤ x.toInt ∧ x.toInt ≤ 200000) : z_Mv Z yX8_markFrom wsX8_markFrom 3 68 [.ref (Z.2.1 k), .int (nI l1), .int x] g (fun g1 => ∃ A2, z_wy Z g1 k kb lo hi A2 v1 v2 v3 ∧ (∀ l v, l ≠ l1 + 1 → A2 l v = A l v) ∧ (∀ v, A2 (l1 + 1) v ≠ 0 ↔ A (l1 + 1) v ≠ 0 ∨ (zin lo hi (l1 + 1) v ∧ zfrom b x.toInt v)) ∧ z_fr k 4 g g1) := by
  intro l sz
  obtain ⟨pb, qb, res, cmp, dg, ch, h_b, h_d, h_c, hkN, hok, hp, hq, hres, hdg⟩ := id hB
  have hk0 : kb < Z.1 := by omega
  have hk1 : kb + 1 < Z.1 := by omega
  have hk2 : kb + 2 < Z.1 := by omega
  have hn12 := hok.2.2.2.1
  have hPb := zP_bd hok
  have hq1 := hok.2.1
  have hp2 := hok.1
  obtain ⟨lw, hw, tb, ⟨h_w, -, -, -, hkM, hsep⟩, hwb, -, -⟩ := id hY
  have hkw : k < Z.1 := by omega
  
  refine z_enter (maxL := 5) (ret := none) (lv := [(0, .ref (Z.2.1 k)), (1, .int (nI l1)), (2, .int x)]) (plainFor_of_name (by decide +kernel)) rfl (fun ls h => by subst h; exact lv_entry [.ref (Z.2.1 k), .int (nI l1), .int x] (n := 5) (Nat.le_of_ble_eq_true rfl)) ?_
  intro p e s m args below meth c hx hb hml hr hlocks hown hts hK hS hsz ls hl
  refine lv_iconst (v := 0) hx hb dX8_markFrom_0 (by decide) ?_
  refine lv_istore_n (lv' := [(3, .int 0), (0, .ref (Z.2.1 k)), (1, .int (nI l1)), (2, .int x)]) hx hb dX8_markFrom_1 rfl hl (by decide) rfl (fun ls hl => ?_)
  have hcut_2 : ∀ (nn_2 : Nat) (j : Nat) (A1 : Nat → Int → Int) (ga : Nat → va_E) (h_b : ga kb = .inr (0, [.int pb, .int qb, .int res, .int (nI b.2.2.1), .int cmp, .ref (Z.2.1 (kb + 1)), .ref (Z.2.1 (kb + 2))])) (h_d : ga (kb + 1) = .inl (Z.2.2.2 0, 12, .inl dg)) (h_c : ga (kb + 2) = .inl (Z.2.2.2 0, 10, .inl ch)) (h_w : ga k = .inr (8, [.ref (Z.2.1 kb), .ref (Z.2.1 (k + 1)), .ref (Z.2.1 (k + 2)), .ref (Z.2.1 (k + 3)), .int v1, .int v2, .long v3])) (hfr_ga : z_fr k 4 g ga) (hj : j ≤ b.2.2.1) (hY1 : z_wy Z ga k kb lo hi A1 v1 v2 v3) (ho : ∀ l v, l ≠ l1 + 1 → A1 l v = A l v) (hn : ∀ v, A1 (l1 + 1) v ≠ 0 ↔ A (l1 + 1) v ≠ 0 ∨ (zin lo hi (l1 + 1) v ∧ ∃ i, i < j ∧ b.1 ∣ (b.2.1 * x.toInt - b.2.2.2 i) ∧ v = (b.2.1 * x.toInt - b.2.2.2 i).tdiv b.1)) (hm_2 : b.2.2.1 - j < nn_2) (H : Heap) (locs : List Loc) (ls : Array Slot), z_S Z (z_A Z sz) s.heap ga H locs → lv_has ls 5 [(0, .ref (Z.2.1 k)), (1, .int (nI l1)), (2, .int x), (3, .int (nI j))] → W p l e (headSpec wsX8_markFrom (z_rm 3 68)).room s m args below meth c H locs 0 0 (MQ below (va_Qv (fun g1 => ∃ A2, z_wy Z g1 k kb lo hi A2 v1 v2 v3 ∧ (∀ l v, l ≠ l1 + 1 → A2 l v = A l v) ∧ (∀ v, A2 (l1 + 1) v ≠ 0 ↔ A (l1 + 1) v ≠ 0 ∨ (zin lo hi (l1 + 1) v ∧ zfrom b x.toInt v)) ∧ z_fr k 4 g g1) (z_B Z) (z_A Z sz)) args s 0 0 (z_A Z sz)) (F0 m 2 ls []) := by
    intro nn_2
    induction nn_2 with
    | zero => intro j A1 ga h_b h_d h_c h_w hfr_ga hj hY1 ho hn hm_2 H locs ls hS hl; exact absurd hm_2 (Nat.not_lt_zero _)
    | succ nn_2 ih_2 =>
      intro j A1 ga h_b h_d h_c h_w hfr_ga hj hY1 ho hn hm_2 H locs ls hS hl
      refine lv_iload_n hx hb dX8_markFrom_2 rfl (lv_at hl 3 rfl) ?_
      refine lv_aload_n hx hb dX8_markFrom_3 rfl (lv_at hl 0 rfl) ?_
      refine z_get (own := RX8) (C := RX8) (T := TX8) (N := 7) hx hb hts in_X8_markFrom_8 hown hK hS h_w hkw rfl 0 (by decide) (List.mem_of_getElem? (i := 1) rfl) rfl rfl dX8_markFrom_4 ?_
      refine z_getN (own := RX8) (C := RX0) (T := TX0) (N := 7) hx hb hts in_X8_markFrom_0 hown hK hS h_b hk0 rfl 3 (by decide) 27 rfl rfl rfl dX8_markFrom_7 ?_
      refine lv_icmp_ge (tgt := 68) hx hb dX8_markFrom_10 (by decide) (fun c_1 => ?_) (fun c_1 => ?_)
      · have i_1 := z_le c_1
        rw [nI_toInt (by omega)] at i_1
        rw [nI_toInt (by omega)] at i_1
        have hjn : j = b.2.2.1 := by omega
        subst hjn
        refine z_vret hx hb hr hlocks hS ?_ dX8_markFrom_68
        exact ⟨A1, hY1, ho, hn, hfr_ga⟩
      · have i_1 := z_nle c_1
        rw [nI_toInt (by omega)] at i_1
        rw [nI_toInt (by omega)] at i_1
        refine lv_aload_n hx hb dX8_markFrom_13 rfl (lv_at hl 0 rfl) ?_
        refine z_get (own := RX8) (C := RX8) (T := TX8) (N := 7) hx hb hts in_X8_markFrom_8 hown hK hS h_w hkw rfl 0 (by decide) (List.mem_of_getElem? (i := 1) rfl) rfl rfl dX8_markFrom_14 ?_
        refine z_getN (own := RX8) (C := RX0) (T := TX0) (N := 7) hx hb hts in_X8_markFrom_0 hown hK hS h_b hk0 rfl 1 (by decide) 26 rfl rfl rfl dX8_markFrom_17 ?_
        refine lv_iload_n hx hb dX8_markFrom_20 rfl (lv_at hl 2 rfl) ?_
        refine lv_imul hx hb dX8_markFrom_21 ?_
        refine lv_aload_n hx hb dX8_markFrom_22 rfl (lv_at hl 0 rfl) ?_
        refine z_get (own := RX8) (C := RX8) (T := TX8) (N := 7) hx hb hts in_X8_markFrom_8 hown hK hS h_w hkw rfl 0 (by decide) (List.mem_of_getElem? (i := 1) rfl) rfl rfl dX8_markFrom_23 ?_
        refine lv_iload_n hx hb dX8_markFrom_26 rfl (lv_at hl 3 rfl) ?_
        refine z_calli (z_runVN (As := [.int (nI j)]) (rest := [.int (qb * x)]) (C := RX0) ⟨hx, hb, hml, hown, hts⟩ hK hS ((k_listed Z ga kb b ⟨pb, qb, res, cmp, dg, ch, h_b, h_d, h_c, hkN, hok, hp, hq, hres, hdg⟩ j (by omega)) l _) gX8_markFrom_X0_listed_n74 rfl 1 58 rfl (List.mem_of_getElem? (i := 3) rfl) (List.mem_of_getElem? (i := 2) rfl) (List.mem_of_getElem? (i := 4) rfl) (by decide +kernel) ⟨Nat.le_of_ble_eq_true rfl, Nat.le_of_ble_eq_true rfl⟩ h_b hk0 rfl rfl hl.1 rfl (Nat.le_of_ble_eq_true rfl) dX8_markFrom_27 ⟨Nat.le_of_ble_eq_true rfl, Nat.le_of_ble_eq_true rfl⟩) hS (fun dd g_2 H locs hp_3 hS => ?_)
        obtain ⟨rfl, hp_3⟩ := hp_3
        have hdd := hp_3
        have hddb := hok.2.2.2.2 j (by omega)
        refine lv_isub hx hb dX8_markFrom_30 ?_
        refine lv_topi (fun rs ers => ?_)
        have hm1 := z_mul_bd (x := b.2.1) (y := x.toInt) (a := 9) (b := 200000) (by omega) (by omega) (by omega) (by omega)
        have hqx : (qb * x).toInt = b.2.1 * x.toInt := by rw [fb_mulI (by rw [hq]; omega) (by rw [hq]; omega), hq]
        have hrs : rs.toInt = b.2.1 * x.toInt - b.2.2.2 j := by rw [ers, fb_subI (by omega) (by omega), hqx, hdd]
        refine lv_istore (lv' := [(4, .int rs), (0, .ref (Z.2.1 k)), (1, .int (nI l1)), (2, .int x), (3, .int (nI j))]) hx hb dX8_markFrom_31 hl (by decide) rfl (fun ls hl => ?_)
        refine lv_aload_n hx hb dX8_markFrom_33 rfl (lv_at hl 1 rfl) ?_
        refine z_get (own := RX8) (C := RX8) (T := TX8) (N := 7) hx hb hts in_X8_markFrom_8 hown hK hS h_w hkw rfl 0 (by decide) (List.mem_of_getElem? (i := 1) rfl) rfl rfl dX8_markFrom_34 ?_
        refine lv_iload hx hb dX8_markFrom_37 (lv_at hl 0 rfl) ?_
        refine z_calli (z_runVN (As := [.int rs]) (rest := []) (C := RX0) ⟨hx, hb, hml, hown, hts⟩ hK hS ((k_divides Z ga kb b ⟨pb, qb, res, cmp, dg, ch, h_b, h_d, h_c, hkN, hok, hp, hq, hres, hdg⟩ rs) l _) gX8_markFrom_X0_divides_n88 rfl 1 59 rfl (List.mem_of_getElem? (i := 3) rfl) (List.mem_of_getElem? (i := 7) rfl) (List.mem_of_getElem? (i := 8) rfl) (by decide +kernel) ⟨Nat.le_of_ble_eq_true rfl, Nat.le_of_ble_eq_true rfl⟩ h_b hk0 rfl rfl hl.1 rfl (Nat.le_of_ble_eq_true rfl) dX8_markFrom_39 ⟨Nat.le_of_ble_eq_true rfl, Nat.le_of_ble_eq_true rfl⟩) hS (fun rd g_4 H locs hp_5 hS => ?_)
        obtain ⟨rfl, hp_5⟩ := hp_5
        have hrd := hp_5
        rw [hrs] at hrd
        refine lv_if_eq (tgt := 62) hx hb dX8_markFrom_42 (by decide) (fun c_6 => ?_) (fun c_6 => ?_)
        · have i_6 := z_eq c_6
          rw [tI_0] at i_6
          have hnd := zbo_f hrd c_6
          refine lv_iinc (v := (nI (j + 1))) (lv' := [(3, .int (nI (j + 1))), (4, .int rs), (0, .ref (Z.2.1 k)), (1, .int (nI l1)), (2, .int x)]) hx hb dX8_markFrom_62 hl (k := 4) rfl (nI_1 _) (by decide) rfl (fun ls hl => ?_)
          refine lv_goto (tgt := 2) hx hb dX8_markFrom_65 (by decide) ?_
          exact ih_2 (j + 1) A1 ga h_b h_d h_c h_w hfr_ga (by omega) hY1 ho (fun v => by
              rw [hn v]
              constructor
              · rintro (h8 | ⟨h8, i, h7, h6⟩)
                · exact Or.inl h8
                · exact Or.inr ⟨h8, i, by omega, h6⟩
              · rintro (h8 | ⟨h8, i, h7, h6, h5⟩)
                · exact Or.inl h8
                · refine Or.inr ⟨h8, i, ?_, h6, h5⟩
                  rcases Nat.lt_or_ge i j with q9 | q9
                  · exact q9
                  · have : i = j := by omega
                    subst this
                    exact absurd h6 hnd) (by omega) _ _ _ hS (lv_sub hl [2, 3, 4, 0] rfl)
        · have i_6 := z_ne c_6
          rw [tI_0] at i_6
          have hdv := zbo_t hrd c_6
          refine lv_aload_n hx hb dX8_markFrom_45 rfl (lv_at hl 1 rfl) ?_
          refine lv_iload_n hx hb dX8_markFrom_46 rfl (lv_at hl 2 rfl) ?_
          refine lv_iconst (v := 1) hx hb dX8_markFrom_47 (by decide) ?_
          refine lv_iadd hx hb dX8_markFrom_48 ?_
          rw [show (nI l1) + 1 = nI (l1 + 1) from nI_1 _]
          refine lv_aload_n hx hb dX8_markFrom_49 rfl (lv_at hl 1 rfl) ?_
          refine z_get (own := RX8) (C := RX8) (T := TX8) (N := 7) hx hb hts in_X8_markFrom_8 hown hK hS h_w hkw rfl 0 (by decide) (List.mem_of_getElem? (i := 1) rfl) rfl rfl dX8_markFrom_50 ?_
          refine lv_iload hx hb dX8_markFrom_53 (lv_at hl 0 rfl) ?_
          refine z_calli (z_runVN (As := [.int rs]) (rest := [.int (nI (l1 + 1)), .ref (Z.2.1 k)]) (C := RX0) ⟨hx, hb, hml, hown, hts⟩ hK hS ((k_quotient Z ga kb b ⟨pb, qb, res, cmp, dg, ch, h_b, h_d, h_c, hkN, hok, hp, hq, hres, hdg⟩ rs) l _) gX8_markFrom_X0_quotient_n68 rfl 1 57 rfl (List.mem_of_getElem? (i := 3) rfl) (List.mem_of_getElem? (i := 11) rfl) (List.mem_of_getElem? (i := 12) rfl) (by decide +kernel) ⟨Nat.le_of_ble_eq_true rfl, Nat.le_of_ble_eq_true rfl⟩ h_b hk0 rfl rfl hl.1 rfl (Nat.le_of_ble_eq_true rfl) dX8_markFrom_55 ⟨Nat.le_of_ble_eq_true rfl, Nat.le_of_ble_eq_true rfl⟩) hS (fun rq g_7 H locs hp_8 hS => ?_)
          obtain ⟨rfl, hp_8⟩ := hp_8
          have hrq := hp_8
          rw [hrs] at hrq
          have hqb := zquo_bd hok hx2 hddb
          refine lv_lconst (v := 1) hx hb dX8_markFrom_58 rfl ?_
          refine z_callv (z_runV (As := [.int (nI (l1 + 1)), .int rq, .long 1]) (rest := []) ⟨hx, hb, hml, hown, hts⟩ hK hS ((k_put Z ga k kb b lo hi A1 v1 v2 v3 hY1 (l1 + 1) (by omega) rq (by omega) 1) l _) gX8_markFrom_X8_put rfl 3 (by decide +kernel) ⟨Nat.le_of_ble_eq_true rfl, Nat.le_of_ble_eq_true rfl⟩ h_w hkw rfl rfl hl.1 rfl (Nat.le_of_ble_eq_true rfl) dX8_markFrom_59 ⟨Nat.le_of_ble_eq_true rfl, Nat.le_of_ble_eq_true rfl⟩) hS (fun g_10 H locs hp_11 hS => ?_)
          obtain ⟨hA3, hfr_12⟩ := hp_11
          have h_b := (hfr_12 _ (by omega)).trans h_b
          have h_d := (hfr_12 _ (by omega)).trans h_d
          have h_c := (hfr_12 _ (by omega)).trans h_c
          obtain ⟨lw6, hw6, tb6, ⟨h_w, -⟩, -⟩ := id hA3
          
          refine lv_iinc (v := (nI (j + 1))) (lv' := [(3, .int (nI (j + 1))), (4, .int rs), (0, .ref (Z.2.1 k)), (1, .int (nI l1)), (2, .int x)]) hx hb dX8_markFrom_62 hl (k := 4) rfl (nI_1 _) (by decide) rfl (fun ls hl => ?_)
          refine lv_goto (tgt := 2) hx hb dX8_markFrom_65 (by decide) ?_
          exact ih_2 (j + 1) (zput lo hi A1 (l1 + 1) rq.toInt (1 : Int64).toInt) g_10 h_b h_d h_c h_w (hfr_ga.tr (hfr_12.wide (by omega) (by omega))) (by omega) hA3 (fun l v h9 => by rw [zput_n (fun h8 => h9 h8.1)]; exact ho l v h9) (fun v => by
              by_cases h9 : zin lo hi (l1 + 1) rq.toInt ∧ v = rq.toInt
              · obtain ⟨h8, rfl⟩ := h9
                rw [zput_s h8]
                exact ⟨fun _ => Or.inr ⟨h8, j, by omega, hdv, hrq⟩, fun _ => by decide⟩
              · have e9 : zput lo hi A1 (l1 + 1) rq.toInt (1 : Int64).toInt (l1 + 1) v = A1 (l1 + 1) v := by
                  unfold zput
                  rw [if_neg (fun h8 => h9 ⟨h8.2.2, h8.2.1⟩)]
                rw [e9, hn v]
                constructor
                · rintro (h8 | ⟨h8, i, h7, h6⟩)
                  · exact Or.inl h8
                  · exact Or.inr ⟨h8, i, by omega, h6⟩
                · rintro (h8 | ⟨h8, i, h7, h6, h5⟩)
                  · exact Or.inl h8
                  · refine Or.inr ⟨h8, i, ?_, h6, h5⟩
                    rcases Nat.lt_or_ge i j with q9 | q9
                    · exact q9
                    · have : i = j := by omega
                      subst this
                      exact absurd ⟨by rw [hrq, ← h5]; exact h8, by rw [hrq]; exact h5⟩ h9) (by omega) _ _ _ hS (lv_sub hl [2, 3, 4, 0] rfl)
  exact hcut_2 (b.2.2.1 - 0 + 1) 0 A g h_b h_d h_c h_w z_fr.rf (by omega) hY (fun l v _ => rfl) (fun v => ⟨Or.inl, fun h => h.elim id (fun h => by obtain ⟨-, i, hi9, -⟩ := h; exact absurd hi9 (Nat.not_lt_zero i))⟩) (Nat.lt_succ_self _) _ _ _ hS (lv_sub hl [1, 2, 3, 0] rfl)

set_option maxHeartbeats 4000000 in
set_option maxRecDepth 100000 in
theorem k_markBehind (Z : zT) (g : Nat → va_E) (k kb : Nat) (b : zb) (lo hi : Nat → Int) (A : Nat → Int → Int) (v1 v2 : Int32) (v3 : Int64) (hY : z_wy Z g k kb lo hi A v1 v2 v3) (hB : z_b0 Z g kb b) (l1 : Nat) (hl1 : l1 ≤ 12) : z_Mv Z yX8_markBehind wsX8_markBehind 4 92 [.ref (Z.2.1 k), .int (nI l1)] g (fun g1 => ∃ A2, z_wy Z g1 k kb lo hi A2 v1 v2 v3 ∧ (∀ l v, l ≠ l1 + 1 → A2 l v = A l v) ∧ (∀ v, A2 (l1 + 1) v ≠ 0 ↔ zin lo hi (l1 + 1) v ∧ ∃ u, zin lo hi l1 u ∧ A l1 u ≠ 0 ∧ zfrom b u v) ∧ z_fr k 4 g g1) := by
  intro l sz
  obtain ⟨pb, qb, res, cmp, dg, ch, h_b, h_d, h_c, hkN, hok, hp, hq, hres, hdg⟩ := id hB
  have hk0 : kb < Z.1 := by omega
  have hk1 : kb + 1 < Z.1 := by omega
  have hk2 : kb + 2 < Z.1 := by omega
  have hn12 := hok.2.2.2.1
  have hPb := zP_bd hok
  have hq1 := hok.2.1
  have hp2 := hok.1
  obtain ⟨lw, hw, tb, ⟨h_w, -, -, -, hkM, hsep⟩, hwb, -, -⟩ := id hY
  have hkw : k < Z.1 := by omega
  have hwl := hwb l1 hl1
  have hLb : -200000 ≤ zLO lo (l1 + 1) ∧ zLO lo (l1 + 1) ≤ 200000 ∧ -200000 ≤ zHI hi (l1 + 1) ∧ zHI hi (l1 + 1) ≤ 200000 := by
    unfold zLO zHI
    by_cases h9 : l1 + 1 ≤ 12
    · rw [if_pos h9, if_pos h9]; have := hwb (l1 + 1) h9; omega
    · rw [if_neg h9, if_neg h9]; omega
  refine z_enter (maxL := 5) (ret := none) (lv := [(0, .ref (Z.2.1 k)), (1, .int (nI l1))]) (plainFor_of_name (by decide +kernel)) rfl (fun ls h => by subst h; exact lv_entry [.ref (Z.2.1 k), .int (nI l1)] (n := 5) (Nat.le_of_ble_eq_true rfl)) ?_
  intro p e s m args below meth c hx hb hml hr hlocks hown hts hK hS hsz ls hl
  refine lv_aload_n hx hb dX8_markBehind_0 rfl (lv_at hl 0 rfl) ?_
  refine lv_iload_n hx hb dX8_markBehind_1 rfl (lv_at hl 1 rfl) ?_
  refine lv_iconst (v := 1) hx hb dX8_markBehind_2 (by decide) ?_
  refine lv_iadd hx hb dX8_markBehind_3 ?_
  rw [show (nI l1) + 1 = nI (l1 + 1) from nI_1 _]
  refine z_calli (z_runV (As := [.int (nI (l1 + 1))]) (rest := []) ⟨hx, hb, hml, hown, hts⟩ hK hS ((k_highestAt Z g k kb b lo hi A v1 v2 v3 hY (l1 + 1) (by omega)) l _) gX8_markBehind_X8_highestAt rfl 1 (by decide +kernel) ⟨Nat.le_of_ble_eq_true rfl, Nat.le_of_ble_eq_true rfl⟩ h_w hkw rfl rfl hl.1 rfl (Nat.le_of_ble_eq_true rfl) dX8_markBehind_4 ⟨Nat.le_of_ble_eq_true rfl, Nat.le_of_ble_eq_true rfl⟩) hS (fun ra g_1 H locs hp_2 hS => ?_)
  obtain ⟨rfl, hp_2⟩ := hp_2
  have hra := hp_2
  refine lv_istore_n (lv' := [(2, .int ra), (0, .ref (Z.2.1 k)), (1, .int (nI l1))]) hx hb dX8_markBehind_7 rfl hl (by decide) rfl (fun ls hl => ?_)
  refine lv_aload_n hx hb dX8_markBehind_8 rfl (lv_at hl 1 rfl) ?_
  refine lv_iload_n hx hb dX8_markBehind_9 rfl (lv_at hl 2 rfl) ?_
  refine lv_iconst (v := 1) hx hb dX8_markBehind_10 (by decide) ?_
  refine lv_iadd hx hb dX8_markBehind_11 ?_
  rw [show (nI l1) + 1 = nI (l1 + 1) from nI_1 _]
  refine z_calli (z_runV (As := [.int (nI (l1 + 1))]) (rest := []) ⟨hx, hb, hml, hown, hts⟩ hK hS ((k_lowestAt Z g k kb b lo hi A v1 v2 v3 hY (l1 + 1) (by omega)) l _) gX8_markBehind_X8_lowestAt rfl 1 (by decide +kernel) ⟨Nat.le_of_ble_eq_true rfl, Nat.le_of_ble_eq_true rfl⟩ h_w hkw rfl rfl hl.1 rfl (Nat.le_of_ble_eq_true rfl) dX8_markBehind_12 ⟨Nat.le_of_ble_eq_true rfl, Nat.le_of_ble_eq_true rfl⟩) hS (fun rb g_3 H locs hp_4 hS => ?_)
  obtain ⟨rfl, hp_4⟩ := hp_4
  have hrb := hp_4
  refine lv_istore_n (lv' := [(3, .int rb), (2, .int ra), (0, .ref (Z.2.1 k)), (1, .int (nI l1))]) hx hb dX8_markBehind_15 rfl hl (by decide) rfl (fun ls hl => ?_)
  have hcut_16 : ∀ (nn_16 : Nat) (y : Int32) (A1 : Nat → Int → Int) (ga : Nat → va_E) (h_b : ga kb = .inr (0, [.int pb, .int qb, .int res, .int (nI b.2.2.1), .int cmp, .ref (Z.2.1 (kb + 1)), .ref (Z.2.1 (kb + 2))])) (h_d : ga (kb + 1) = .inl (Z.2.2.2 0, 12, .inl dg)) (h_c : ga (kb + 2) = .inl (Z.2.2.2 0, 10, .inl ch)) (h_w : ga k = .inr (8, [.ref (Z.2.1 kb), .ref (Z.2.1 (k + 1)), .ref (Z.2.1 (k + 2)), .ref (Z.2.1 (k + 3)), .int v1, .int v2, .long v3])) (hfr_ga : z_fr k 4 g ga) (hy : zLO lo (l1 + 1) ≤ y.toInt ∧ (y.toInt ≤ zHI hi (l1 + 1) + 1 ∨ y.toInt = zLO lo (l1 + 1))) (hY1 : z_wy Z ga k kb lo hi A1 v1 v2 v3) (ho : ∀ l v, l ≠ l1 + 1 → A1 l v = A l v) (hz : ∀ v, zin lo hi (l1 + 1) v → v < y.toInt → A1 (l1 + 1) v = 0) (hm_16 : (zHI hi (l1 + 1) + 1 - y.toInt).toNat < nn_16) (H : Heap) (locs : List Loc) (ls : Array Slot), z_S Z (z_A Z sz) s.heap ga H locs → lv_has ls 5 [(0, .ref (Z.2.1 k)), (1, .int (nI l1)), (2, .int ra), (3, .int y)] → W p l e (headSpec wsX8_markBehind (z_rm 4 92)).room s m args below meth c H locs 0 0 (MQ below (va_Qv (fun g1 => ∃ A2, z_wy Z g1 k kb lo hi A2 v1 v2 v3 ∧ (∀ l v, l ≠ l1 + 1 → A2 l v = A l v) ∧ (∀ v, A2 (l1 + 1) v ≠ 0 ↔ zin lo hi (l1 + 1) v ∧ ∃ u, zin lo hi l1 u ∧ A l1 u ≠ 0 ∧ zfrom b u v) ∧ z_fr k 4 g g1) (z_B Z) (z_A Z sz)) args s 0 0 (z_A Z sz)) (F0 m 16 ls []) := by
    intro nn_16
    induction nn_16 with
    | zero => intro y A1 ga h_b h_d h_c h_w hfr_ga hy hY1 ho hz hm_16 H locs ls hS hl; exact absurd hm_16 (Nat.not_lt_zero _)
    | succ nn_16 ih_16 =>
      intro y A1 ga h_b h_d h_c h_w hfr_ga hy hY1 ho hz hm_16 H locs ls hS hl
      refine lv_iload_n hx hb dX8_markBehind_16 rfl (lv_at hl 3 rfl) ?_
      refine lv_iload_n hx hb dX8_markBehind_17 rfl (lv_at hl 2 rfl) ?_
      refine lv_icmp_gt (tgt := 36) hx hb dX8_markBehind_18 (by decide) (fun c_5 => ?_) (fun c_5 => ?_)
      · have i_5 := z_lt c_5
        have hz9 : ∀ v, A1 (l1 + 1) v = 0 := fun v => by
          by_cases h9 : zin lo hi (l1 + 1) v
          · have := (zin_LH (by omega)).mp h9
            exact hz v h9 (by omega)
          · exact zwy_out hY1 h9
        refine lv_aload_n hx hb dX8_markBehind_36 rfl (lv_at hl 0 rfl) ?_
        refine lv_iload_n hx hb dX8_markBehind_37 rfl (lv_at hl 1 rfl) ?_
        refine z_calli (z_runV (As := [.int (nI l1)]) (rest := []) ⟨hx, hb, hml, hown, hts⟩ hK hS ((k_highestAt Z ga k kb b lo hi A1 v1 v2 v3 hY1 l1 (by omega)) l _) gX8_markBehind_X8_highestAt rfl 1 (by decide +kernel) ⟨Nat.le_of_ble_eq_true rfl, Nat.le_of_ble_eq_true rfl⟩ h_w hkw rfl rfl hl.1 rfl (Nat.le_of_ble_eq_true rfl) dX8_markBehind_38 ⟨Nat.le_of_ble_eq_true rfl, Nat.le_of_ble_eq_true rfl⟩) hS (fun rc g_6 H locs hp_7 hS => ?_)
        obtain ⟨rfl, hp_7⟩ := hp_7
        have hrc : rc.toInt = hi l1 := by rw [hp_7]; unfold zHI; rw [if_pos hl1]
        refine lv_istore_n (lv' := [(3, .int rc), (0, .ref (Z.2.1 k)), (1, .int (nI l1)), (2, .int ra)]) hx hb dX8_markBehind_41 rfl hl (by decide) rfl (fun ls hl => ?_)
        refine lv_aload_n hx hb dX8_markBehind_42 rfl (lv_at hl 1 rfl) ?_
        refine lv_iload_n hx hb dX8_markBehind_43 rfl (lv_at hl 2 rfl) ?_
        refine z_calli (z_runV (As := [.int (nI l1)]) (rest := []) ⟨hx, hb, hml, hown, hts⟩ hK hS ((k_lowestAt Z ga k kb b lo hi A1 v1 v2 v3 hY1 l1 (by omega)) l _) gX8_markBehind_X8_lowestAt rfl 1 (by decide +kernel) ⟨Nat.le_of_ble_eq_true rfl, Nat.le_of_ble_eq_true rfl⟩ h_w hkw rfl rfl hl.1 rfl (Nat.le_of_ble_eq_true rfl) dX8_markBehind_44 ⟨Nat.le_of_ble_eq_true rfl, Nat.le_of_ble_eq_true rfl⟩) hS (fun re g_8 H locs hp_9 hS => ?_)
        obtain ⟨rfl, hp_9⟩ := hp_9
        have hre : re.toInt = lo l1 := by rw [hp_9]; unfold zLO; rw [if_pos hl1]
        refine lv_istore (lv' := [(4, .int re), (3, .int rc), (0, .ref (Z.2.1 k)), (1, .int (nI l1)), (2, .int ra)]) hx hb dX8_markBehind_47 hl (by decide) rfl (fun ls hl => ?_)
        have hcut_49 : ∀ (nn_49 : Nat) (z : Int32) (A4 : Nat → Int → Int) (gc : Nat → va_E) (h_b : gc kb = .inr (0, [.int pb, .int qb, .int res, .int (nI b.2.2.1), .int cmp, .ref (Z.2.1 (kb + 1)), .ref (Z.2.1 (kb + 2))])) (h_d : gc (kb + 1) = .inl (Z.2.2.2 0, 12, .inl dg)) (h_c : gc (kb + 2) = .inl (Z.2.2.2 0, 10, .inl ch)) (h_w : gc k = .inr (8, [.ref (Z.2.1 kb), .ref (Z.2.1 (k + 1)), .ref (Z.2.1 (k + 2)), .ref (Z.2.1 (k + 3)), .int v1, .int v2, .long v3])) (hfr_gc : z_fr k 4 g gc) (hz1 : lo l1 ≤ z.toInt ∧ (z.toInt ≤ hi l1 + 1 ∨ z.toInt = lo l1)) (hY4 : z_wy Z gc k kb lo hi A4 v1 v2 v3) (ho4 : ∀ l v, l ≠ l1 + 1 → A4 l v = A l v) (hn4 : ∀ v, A4 (l1 + 1) v ≠ 0 ↔ zin lo hi (l1 + 1) v ∧ ∃ u, zin lo hi l1 u ∧ u < z.toInt ∧ A l1 u ≠ 0 ∧ zfrom b u v) (hm_49 : (hi l1 + 1 - z.toInt).toNat < nn_49) (H : Heap) (locs : List Loc) (ls : Array Slot), z_S Z (z_A Z sz) s.heap gc H locs → lv_has ls 5 [(0, .ref (Z.2.1 k)), (1, .int (nI l1)), (2, .int ra), (3, .int rc), (4, .int z)] → W p l e (headSpec wsX8_markBehind (z_rm 4 92)).room s m args below meth c H locs 0 0 (MQ below (va_Qv (fun g1 => ∃ A2, z_wy Z g1 k kb lo hi A2 v1 v2 v3 ∧ (∀ l v, l ≠ l1 + 1 → A2 l v = A l v) ∧ (∀ v, A2 (l1 + 1) v ≠ 0 ↔ zin lo hi (l1 + 1) v ∧ ∃ u, zin lo hi l1 u ∧ A l1 u ≠ 0 ∧ zfrom b u v) ∧ z_fr k 4 g g1) (z_B Z) (z_A Z sz)) args s 0 0 (z_A Z sz)) (F0 m 49 ls []) := by
          intro nn_49
          induction nn_49 with
          | zero => intro z A4 gc h_b h_d h_c h_w hfr_gc hz1 hY4 ho4 hn4 hm_49 H locs ls hS hl; exact absurd hm_49 (Nat.not_lt_zero _)
          | succ nn_49 ih_49 =>
            intro z A4 gc h_b h_d h_c h_w hfr_gc hz1 hY4 ho4 hn4 hm_49 H locs ls hS hl
            refine lv_iload hx hb dX8_markBehind_49 (lv_at hl 4 rfl) ?_
            refine lv_iload_n hx hb dX8_markBehind_51 rfl (lv_at hl 3 rfl) ?_
            refine lv_icmp_gt (tgt := 80) hx hb dX8_markBehind_52 (by decide) (fun c_10 => ?_) (fun c_10 => ?_)
            · have i_10 := z_lt c_10
              have hfin : ∀ v, A4 (l1 + 1) v ≠ 0 ↔ zin lo hi (l1 + 1) v ∧ ∃ u, zin lo hi l1 u ∧ A l1 u ≠ 0 ∧ zfrom b u v := fun v => by
                rw [hn4 v]
                constructor
                · rintro ⟨h8, u, h7, h6, h5⟩
                  exact ⟨h8, u, h7, h5⟩
                · rintro ⟨h8, u, h7, h5⟩
                  exact ⟨h8, u, h7, by have := h7.2; omega, h5⟩
              refine z_vret hx hb hr hlocks hS ?_ dX8_markBehind_80
              exact ⟨A4, hY4, ho4, hfin, hfr_gc⟩
            · have i_10 := z_nlt c_10
              have hzz : zin lo hi l1 z.toInt := ⟨hl1, hz1.1, by omega⟩
              refine lv_aload_n hx hb dX8_markBehind_55 rfl (lv_at hl 0 rfl) ?_
              refine lv_iload_n hx hb dX8_markBehind_56 rfl (lv_at hl 1 rfl) ?_
              refine lv_iload hx hb dX8_markBehind_57 (lv_at hl 4 rfl) ?_
              refine z_calll (z_runV (As := [.int (nI l1), .int z]) (rest := []) ⟨hx, hb, hml, hown, hts⟩ hK hS ((k_at Z gc k kb b lo hi A4 v1 v2 v3 hY4 l1 (by omega) z (by omega)) l _) gX8_markBehind_X8_at rfl 2 (by decide +kernel) ⟨Nat.le_of_ble_eq_true rfl, Nat.le_of_ble_eq_true rfl⟩ h_w hkw rfl rfl hl.1 rfl (Nat.le_of_ble_eq_true rfl) dX8_markBehind_59 ⟨Nat.le_of_ble_eq_true rfl, Nat.le_of_ble_eq_true rfl⟩) hS (fun rt g_11 H locs hp_12 hS => ?_)
              obtain ⟨rfl, hp_12⟩ := hp_12
              have hrt := hp_12
              rw [ho4 l1 z.toInt (by omega)] at hrt
              have hc0 := z_cmp0 (x := rt) (y := 0)
              rw [show (0 : Int64).toInt = 0 from rfl, hrt] at hc0
              refine lv_lconst (v := 0) hx hb dX8_markBehind_62 rfl ?_
              refine W.lcmp hx hb dX8_markBehind_63 ?_
              refine lv_if_eq (tgt := 74) hx hb dX8_markBehind_64 (by decide) (fun c_13 => ?_) (fun c_13 => ?_)
              · have i_13 := z_eq c_13
                rw [tI_0] at i_13
                have hiz := hc0.mp c_13
                obtain ⟨z2, ez2⟩ : ∃ zz9 : Int32, zz9 = z + 1 := ⟨_, rfl⟩
                have hz2 : z2.toInt = z.toInt + 1 := by rw [ez2, fb_addI (by rw [tI_1]; omega) (by rw [tI_1]; omega), tI_1]
                refine lv_iinc (v := z2) (lv' := [(4, .int z2), (0, .ref (Z.2.1 k)), (1, .int (nI l1)), (2, .int ra), (3, .int rc)]) hx hb dX8_markBehind_74 hl (k := 4) rfl (by rw [ez2]; rfl) (by decide) rfl (fun ls hl => ?_)
                refine lv_goto (tgt := 49) hx hb dX8_markBehind_77 (by decide) ?_
                exact ih_49 z2 A4 gc h_b h_d h_c h_w hfr_gc (by omega) hY4 ho4 (fun v => by
                    rw [hn4 v]
                    constructor
                    · rintro ⟨h8, u, h7, h6, h5⟩
                      exact ⟨h8, u, h7, by omega, h5⟩
                    · rintro ⟨h8, u, h7, h6, h5, h4⟩
                      refine ⟨h8, u, h7, ?_, h5, h4⟩
                      rcases Int.lt_or_le u z.toInt with h3 | h3
                      · exact h3
                      · have h2 : u = z.toInt := by omega
                        rw [h2] at h5; exact absurd hiz h5) (by omega) _ _ _ hS (lv_sub hl [1, 2, 3, 4, 0] rfl)
              · have i_13 := z_ne c_13
                rw [tI_0] at i_13
                have hnz : A l1 z.toInt ≠ 0 := fun h9 => c_13 (hc0.mpr h9)
                refine lv_aload_n hx hb dX8_markBehind_67 rfl (lv_at hl 0 rfl) ?_
                refine lv_iload_n hx hb dX8_markBehind_68 rfl (lv_at hl 1 rfl) ?_
                refine lv_iload hx hb dX8_markBehind_69 (lv_at hl 4 rfl) ?_
                refine z_callv (z_runV (As := [.int (nI l1), .int z]) (rest := []) ⟨hx, hb, hml, hown, hts⟩ hK hS ((k_markFrom Z gc k kb b lo hi A4 v1 v2 v3 hY4 ⟨pb, qb, res, cmp, dg, ch, h_b, h_d, h_c, hkN, hok, hp, hq, hres, hdg⟩ l1 hl1 z (by omega)) l _) gX8_markBehind_X8_markFrom rfl 2 (by decide +kernel) ⟨Nat.le_of_ble_eq_true rfl, Nat.le_of_ble_eq_true rfl⟩ h_w hkw rfl rfl hl.1 rfl (Nat.le_of_ble_eq_true rfl) dX8_markBehind_71 ⟨Nat.le_of_ble_eq_true rfl, Nat.le_of_ble_eq_true rfl⟩) hS (fun g_15 H locs hp_16 hS => ?_)
                obtain ⟨A5, hY5, ho5, hn5, hfr_17⟩ := hp_16
                have h_b := (hfr_17 _ (by omega)).trans h_b
                have h_d := (hfr_17 _ (by omega)).trans h_d
                have h_c := (hfr_17 _ (by omega)).trans h_c
                obtain ⟨lw6, hw6, tb6, ⟨h_w, -⟩, -⟩ := id hY5
                obtain ⟨z2, ez2⟩ : ∃ zz9 : Int32, zz9 = z + 1 := ⟨_, rfl⟩
                have hz2 : z2.toInt = z.toInt + 1 := by rw [ez2, fb_addI (by rw [tI_1]; omega) (by rw [tI_1]; omega), tI_1]
                refine lv_iinc (v := z2) (lv' := [(4, .int z2), (0, .ref (Z.2.1 k)), (1, .int (nI l1)), (2, .int ra), (3, .int rc)]) hx hb dX8_markBehind_74 hl (k := 4) rfl (by rw [ez2]; rfl) (by decide) rfl (fun ls hl => ?_)
                refine lv_goto (tgt := 49) hx hb dX8_markBehind_77 (by decide) ?_
                exact ih_49 z2 A5 g_15 h_b h_d h_c h_w (hfr_gc.tr (hfr_17.wide (by omega) (by omega))) (by omega) hY5 (fun l v h9 => by rw [ho5 l v h9]; exact ho4 l v h9) (fun v => by
                    rw [hn5 v, hn4 v]
                    constructor
                    · rintro (⟨h8, u, h7, h6, h5⟩ | ⟨h8, h7⟩)
                      · exact ⟨h8, u, h7, by omega, h5⟩
                      · exact ⟨h8, z.toInt, hzz, by omega, hnz, h7⟩
                    · rintro ⟨h8, u, h7, h6, h5, h4⟩
                      by_cases h3 : u = z.toInt
                      · subst h3; exact Or.inr ⟨h8, h4⟩
                      · exact Or.inl ⟨h8, u, h7, by omega, h5, h4⟩) (by omega) _ _ _ hS (lv_sub hl [1, 2, 3, 4, 0] rfl)
        exact hcut_49 ((hi l1 + 1 - re.toInt).toNat + 1) re A1 ga h_b h_d h_c h_w hfr_ga (by omega) hY1 ho (fun v => ⟨fun h9 => absurd (hz9 v) h9, fun h9 => by
            obtain ⟨-, u, h8, h7, -⟩ := h9
            exfalso
            have := h8.2; omega⟩) (Nat.lt_succ_self _) _ _ _ hS (lv_sub hl [2, 3, 4, 1, 0] rfl)
      · have i_5 := z_nlt c_5
        refine lv_aload_n hx hb dX8_markBehind_21 rfl (lv_at hl 0 rfl) ?_
        refine lv_iload_n hx hb dX8_markBehind_22 rfl (lv_at hl 1 rfl) ?_
        refine lv_iconst (v := 1) hx hb dX8_markBehind_23 (by decide) ?_
        refine lv_iadd hx hb dX8_markBehind_24 ?_
        rw [show (nI l1) + 1 = nI (l1 + 1) from nI_1 _]
        refine lv_iload_n hx hb dX8_markBehind_25 rfl (lv_at hl 3 rfl) ?_
        refine lv_lconst (v := 0) hx hb dX8_markBehind_26 rfl ?_
        refine z_callv (z_runV (As := [.int (nI (l1 + 1)), .int y, .long 0]) (rest := []) ⟨hx, hb, hml, hown, hts⟩ hK hS ((k_put Z ga k kb b lo hi A1 v1 v2 v3 hY1 (l1 + 1) (by omega) y (by omega) 0) l _) gX8_markBehind_X8_put rfl 3 (by decide +kernel) ⟨Nat.le_of_ble_eq_true rfl, Nat.le_of_ble_eq_true rfl⟩ h_w hkw rfl rfl hl.1 rfl (Nat.le_of_ble_eq_true rfl) dX8_markBehind_27 ⟨Nat.le_of_ble_eq_true rfl, Nat.le_of_ble_eq_true rfl⟩) hS (fun g_19 H locs hp_20 hS => ?_)
        obtain ⟨hA3, hfr_21⟩ := hp_20
        have h_b := (hfr_21 _ (by omega)).trans h_b
        have h_d := (hfr_21 _ (by omega)).trans h_d
        have h_c := (hfr_21 _ (by omega)).trans h_c
        obtain ⟨lw6, hw6, tb6, ⟨h_w, -⟩, -⟩ := id hA3
        
        obtain ⟨y2, ey2⟩ : ∃ zz9 : Int32, zz9 = y + 1 := ⟨_, rfl⟩
        have hy2 : y2.toInt = y.toInt + 1 := by rw [ey2, fb_addI (by rw [tI_1]; omega) (by rw [tI_1]; omega), tI_1]
        refine lv_iinc (v := y2) (lv' := [(3, .int y2), (0, .ref (Z.2.1 k)), (1, .int (nI l1)), (2, .int ra)]) hx hb dX8_markBehind_30 hl (k := 3) rfl (by rw [ey2]; rfl) (by decide) rfl (fun ls hl => ?_)
        refine lv_goto (tgt := 16) hx hb dX8_markBehind_33 (by decide) ?_
        exact ih_16 y2 (zput lo hi A1 (l1 + 1) y.toInt (0 : Int64).toInt) g_19 h_b h_d h_c h_w (hfr_ga.tr (hfr_21.wide (by omega) (by omega))) (by omega) hA3 (fun l v h9 => by rw [zput_n (fun h8 => h9 h8.1)]; exact ho l v h9) (fun v h1 h2 => by
            by_cases h9 : v = y.toInt
            · subst h9; rw [zput_s h1]; rfl
            · rw [zput_n (fun h8 => h9 h8.2)]; exact hz v h1 (by omega)) (by omega) _ _ _ hS (lv_sub hl [1, 2, 3, 0] rfl)
  exact hcut_16 ((zHI hi (l1 + 1) + 1 - rb.toInt).toNat + 1) rb A g h_b h_d h_c h_w z_fr.rf (by omega) hY (fun l v _ => rfl) (fun v h1 h2 => by have := (zin_LH (by omega)).mp h1; omega) (Nat.lt_succ_self _) _ _ _ hS (lv_sub hl [2, 3, 1, 0] rfl)

set_option maxHeartbeats 4000000 in
set_option maxRecDepth 100000 in
theorem k_leastLength (Z : zT) (g : Nat → va_E) (k kb : Nat) (b : zb) (lw hw : Nat → Int32) (tb : Nat → Int64) (v1 v2 : Int32) (v3 : Int64) (hO : zo_ways Z g k kb lw hw tb v1 v2 v3) (hB : z_b0 Z g kb b) (x : Int32) (hx5 : -100000 ≤ x.toInt ∧ x.toInt ≤ 100000) : z_Mi Z yX8_leastLength wsX8_leastLength 5 116 [.ref (Z.2.1 k), .int x] g (fun r g1 => (∃ lo hi A, z_wy Z g1 k kb lo hi A v1 v2 v3) ∧ ((∃ l, l ≤ 12 ∧ zrb b x.toInt l 0 ∧ (∀ t, t < l → ¬ zrb b x.toInt t 0) ∧ r = nI l) ∨ ((∀ t, t ≤ 12 → ¬ zrb b x.toInt t 0) ∧ r = -1000006)) ∧ z_fr k 4 g g1) := by
  intro l sz
  obtain ⟨pb, qb, res, cmp, dg, ch, h_b, h_d, h_c, hkN, hok, hp, hq, hres, hdg⟩ := id hB
  have hk0 : kb < Z.1 := by omega
  have hk1 : kb + 1 < Z.1 := by omega
  have hk2 : kb + 2 < Z.1 := by omega
  have hn12 := hok.2.2.2.1
  have hPb := zP_bd hok
  have hq1 := hok.2.1
  have hp2 := hok.1
  obtain ⟨h_w, h_l, h_h, h_t, hkM, hsep⟩ := id hO
  have hkw : k < Z.1 := by omega
  have hkw1 : k + 1 < Z.1 := by omega
  have hkw2 : k + 2 < Z.1 := by omega
  have hkw3 : k + 3 < Z.1 := by omega
  
  refine z_enter (maxL := 3) (ret := (some .int)) (lv := [(0, .ref (Z.2.1 k)), (1, .int x)]) (plainFor_of_name (by decide +kernel)) rfl (fun ls h => by subst h; exact lv_entry [.ref (Z.2.1 k), .int x] (n := 3) (Nat.le_of_ble_eq_true rfl)) ?_
  intro p e s m args below meth c hx hb hml hr hlocks hown hts hK hS hsz ls hl
  refine lv_aload_n hx hb dX8_leastLength_0 rfl (lv_at hl 0 rfl) ?_
  refine lv_iload_n hx hb dX8_leastLength_1 rfl (lv_at hl 1 rfl) ?_
  refine z_callv (z_runV (As := [.int x]) (rest := []) ⟨hx, hb, hml, hown, hts⟩ hK hS ((k_findBounds Z g k kb b _ _ _ v1 v2 v3 hO ⟨pb, qb, res, cmp, dg, ch, h_b, h_d, h_c, hkN, hok, hp, hq, hres, hdg⟩ x hx5) l _) gX8_leastLength_X8_findBounds rfl 1 (by decide +kernel) ⟨Nat.le_of_ble_eq_true rfl, Nat.le_of_ble_eq_true rfl⟩ h_w hkw rfl rfl hl.1 rfl (Nat.le_of_ble_eq_true rfl) dX8_leastLength_2 ⟨Nat.le_of_ble_eq_true rfl, Nat.le_of_ble_eq_true rfl⟩) hS (fun g_2 H locs hp_3 hS => ?_)
  obtain ⟨lo, hi, A0, hY0, hbd, hfr_4⟩ := hp_3
  have h_b := (hfr_4 _ (by omega)).trans h_b
  have h_d := (hfr_4 _ (by omega)).trans h_d
  have h_c := (hfr_4 _ (by omega)).trans h_c
  obtain ⟨lw9, hw9, tb9, ⟨h_w, -⟩, hwb9, -⟩ := id hY0
  refine lv_aload_n hx hb dX8_leastLength_5 rfl (lv_at hl 0 rfl) ?_
  refine lv_iconst (v := 0) hx hb dX8_leastLength_6 (by decide) ?_
  refine lv_iload_n hx hb dX8_leastLength_7 rfl (lv_at hl 1 rfl) ?_
  refine lv_lconst (v := 1) hx hb dX8_leastLength_8 rfl ?_
  refine z_callv (z_runV (As := [.int 0, .int x, .long 1]) (rest := []) ⟨hx, hb, hml, hown, hts⟩ hK hS ((k_put Z g_2 k kb b lo hi A0 v1 v2 v3 hY0 0 (by omega) x (by omega) 1) l _) gX8_leastLength_X8_put rfl 3 (by decide +kernel) ⟨Nat.le_of_ble_eq_true rfl, Nat.le_of_ble_eq_true rfl⟩ h_w hkw rfl rfl hl.1 rfl (Nat.le_of_ble_eq_true rfl) dX8_leastLength_9 ⟨Nat.le_of_ble_eq_true rfl, Nat.le_of_ble_eq_true rfl⟩) hS (fun g_6 H locs hp_7 hS => ?_)
  obtain ⟨hA1, hfr_8⟩ := hp_7
  have h_b := (hfr_8 _ (by omega)).trans h_b
  have h_d := (hfr_8 _ (by omega)).trans h_d
  have h_c := (hfr_8 _ (by omega)).trans h_c
  obtain ⟨lw6, hw6, tb6, ⟨h_w, -⟩, -⟩ := id hA1
  
  refine lv_iconst (v := 0) hx hb dX8_leastLength_12 (by decide) ?_
  refine lv_istore_n (lv' := [(2, .int 0), (0, .ref (Z.2.1 k)), (1, .int x)]) hx hb dX8_leastLength_13 rfl hl (by decide) rfl (fun ls hl => ?_)
  have hcut_14 : ∀ (nn_14 : Nat) (j : Nat) (A2 : Nat → Int → Int) (ga : Nat → va_E) (h_b : ga kb = .inr (0, [.int pb, .int qb, .int res, .int (nI b.2.2.1), .int cmp, .ref (Z.2.1 (kb + 1)), .ref (Z.2.1 (kb + 2))])) (h_d : ga (kb + 1) = .inl (Z.2.2.2 0, 12, .inl dg)) (h_c : ga (kb + 2) = .inl (Z.2.2.2 0, 10, .inl ch)) (h_w : ga k = .inr (8, [.ref (Z.2.1 kb), .ref (Z.2.1 (k + 1)), .ref (Z.2.1 (k + 2)), .ref (Z.2.1 (k + 3)), .int v1, .int v2, .long v3])) (hfr_ga : z_fr k 4 g ga) (hj : j ≤ 13) (hY2 : z_wy Z ga k kb lo hi A2 v1 v2 v3) (hre : j ≤ 12 → ∀ v, A2 j v ≠ 0 ↔ zrb b x.toInt j v) (hno : ∀ t, t < j → ¬ zrb b x.toInt t 0) (hm_14 : 13 - j < nn_14) (H : Heap) (locs : List Loc) (ls : Array Slot), z_S Z (z_A Z sz) s.heap ga H locs → lv_has ls 3 [(0, .ref (Z.2.1 k)), (1, .int x), (2, .int (nI j))] → W p l e (headSpec wsX8_leastLength (z_rm 5 116)).room s m args below meth c H locs 0 0 (MQ below (va_Qi (fun r g1 => (∃ lo hi A, z_wy Z g1 k kb lo hi A v1 v2 v3) ∧ ((∃ l, l ≤ 12 ∧ zrb b x.toInt l 0 ∧ (∀ t, t < l → ¬ zrb b x.toInt t 0) ∧ r = nI l) ∨ ((∀ t, t ≤ 12 → ¬ zrb b x.toInt t 0) ∧ r = -1000006)) ∧ z_fr k 4 g g1) (z_B Z) (z_A Z sz)) args s 0 0 (z_A Z sz)) (F0 m 14 ls []) := by
    intro nn_14
    induction nn_14 with
    | zero => intro j A2 ga h_b h_d h_c h_w hfr_ga hj hY2 hre hno hm_14 H locs ls hS hl; exact absurd hm_14 (Nat.not_lt_zero _)
    | succ nn_14 ih_14 =>
      intro j A2 ga h_b h_d h_c h_w hfr_ga hj hY2 hre hno hm_14 H locs ls hS hl
      refine lv_iload_n hx hb dX8_leastLength_14 rfl (lv_at hl 2 rfl) ?_
      refine lv_bipush (v := 12) hx hb dX8_leastLength_15 (by decide) ?_
      refine lv_icmp_gt (tgt := 44) hx hb dX8_leastLength_17 (by decide) (fun c_9 => ?_) (fun c_9 => ?_)
      · have i_9 := z_lt c_9
        rw [nI_toInt (by omega)] at i_9
        rw [tI_12] at i_9
        have hj13 : j = 13 := by omega
        refine lv_ldc (v := (-1000006)) hx hb hown (hts _ (List.mem_of_getElem? (i := 1) rfl)) dX8_leastLength_44 ?_
        refine z_iret hx hb hr hlocks hS ?_ dX8_leastLength_46
        exact ⟨⟨lo, hi, A2, hY2⟩, Or.inr ⟨fun t ht => hno t (by omega), rfl⟩, hfr_ga⟩
      · have i_9 := z_nlt c_9
        rw [nI_toInt (by omega)] at i_9
        rw [tI_12] at i_9
        refine lv_aload_n hx hb dX8_leastLength_20 rfl (lv_at hl 0 rfl) ?_
        refine lv_iload_n hx hb dX8_leastLength_21 rfl (lv_at hl 2 rfl) ?_
        refine lv_iconst (v := 0) hx hb dX8_leastLength_22 (by decide) ?_
        refine z_calll (z_runV (As := [.int (nI j), .int 0]) (rest := []) ⟨hx, hb, hml, hown, hts⟩ hK hS ((k_at Z ga k kb b lo hi A2 v1 v2 v3 hY2 j (by omega) 0 (by rw [tI_0]; omega)) l _) gX8_leastLength_X8_at rfl 2 (by decide +kernel) ⟨Nat.le_of_ble_eq_true rfl, Nat.le_of_ble_eq_true rfl⟩ h_w hkw rfl rfl hl.1 rfl (Nat.le_of_ble_eq_true rfl) dX8_leastLength_23 ⟨Nat.le_of_ble_eq_true rfl, Nat.le_of_ble_eq_true rfl⟩) hS (fun rt g_10 H locs hp_11 hS => ?_)
        obtain ⟨rfl, hp_11⟩ := hp_11
        have hrt := hp_11
        rw [tI_0] at hrt
        have hc0 := z_cmp0 (x := rt) (y := 0)
        rw [show (0 : Int64).toInt = 0 from rfl, hrt] at hc0
        have hrj := hre (by omega) 0
        refine lv_lconst (v := 0) hx hb dX8_leastLength_26 rfl ?_
        refine W.lcmp hx hb dX8_leastLength_27 ?_
        refine lv_if_eq (tgt := 33) hx hb dX8_leastLength_28 (by decide) (fun c_12 => ?_) (fun c_12 => ?_)
        · have i_12 := z_eq c_12
          rw [tI_0] at i_12
          have hnr : ¬ zrb b x.toInt j 0 := fun h9 => (hrj.mpr h9) (hc0.mp c_12)
          refine lv_aload_n hx hb dX8_leastLength_33 rfl (lv_at hl 0 rfl) ?_
          refine lv_iload_n hx hb dX8_leastLength_34 rfl (lv_at hl 2 rfl) ?_
          refine z_callv (z_runV (As := [.int (nI j)]) (rest := []) ⟨hx, hb, hml, hown, hts⟩ hK hS ((k_markBehind Z ga k kb b lo hi A2 v1 v2 v3 hY2 ⟨pb, qb, res, cmp, dg, ch, h_b, h_d, h_c, hkN, hok, hp, hq, hres, hdg⟩ j (by omega)) l _) gX8_leastLength_X8_markBehind rfl 1 (by decide +kernel) ⟨Nat.le_of_ble_eq_true rfl, Nat.le_of_ble_eq_true rfl⟩ h_w hkw rfl rfl hl.1 rfl (Nat.le_of_ble_eq_true rfl) dX8_leastLength_35 ⟨Nat.le_of_ble_eq_true rfl, Nat.le_of_ble_eq_true rfl⟩) hS (fun g_14 H locs hp_15 hS => ?_)
          obtain ⟨A3, hY3, ho3, hn3, hfr_16⟩ := hp_15
          have h_b := (hfr_16 _ (by omega)).trans h_b
          have h_d := (hfr_16 _ (by omega)).trans h_d
          have h_c := (hfr_16 _ (by omega)).trans h_c
          obtain ⟨lw6, hw6, tb6, ⟨h_w, -⟩, -⟩ := id hY3
          refine lv_iinc (v := (nI (j + 1))) (lv' := [(2, .int (nI (j + 1))), (0, .ref (Z.2.1 k)), (1, .int x)]) hx hb dX8_leastLength_38 hl (k := 2) rfl (nI_1 _) (by decide) rfl (fun ls hl => ?_)
          refine lv_goto (tgt := 14) hx hb dX8_leastLength_41 (by decide) ?_
          exact ih_14 (j + 1) A3 g_14 h_b h_d h_c h_w (hfr_ga.tr (hfr_16.wide (by omega) (by omega))) (by omega) hY3 (fun h12 v => by
              rw [hn3 v]
              constructor
              · rintro ⟨h8, u, h7, h6, h5⟩
                exact ⟨u, (hre (by omega) u).mp h6, h5⟩
              · intro h9
                have h8 := zrb_in hbd (l := j + 1) h12 h9
                obtain ⟨u, h7, h6⟩ := h9
                have h5 := zrb_in hbd (l := j) (by omega) h7
                exact ⟨⟨h12, h8⟩, u, ⟨by omega, h5⟩, (hre (by omega) u).mpr h7, h6⟩) (fun t ht => by
              rcases Nat.lt_or_ge t j with q9 | q9
              · exact hno t q9
              · have : t = j := by omega
                subst this; exact hnr) (by omega) _ _ _ hS (lv_sub hl [1, 2, 0] rfl)
        · have i_12 := z_ne c_12
          rw [tI_0] at i_12
          have hyr : zrb b x.toInt j 0 := hrj.mp (fun h9 => c_12 (hc0.mpr h9))
          refine lv_iload_n hx hb dX8_leastLength_31 rfl (lv_at hl 2 rfl) ?_
          refine z_iret hx hb hr hlocks hS ?_ dX8_leastLength_32
          exact ⟨⟨lo, hi, A2, hY2⟩, Or.inl ⟨j, by omega, hyr, hno, rfl⟩, hfr_ga⟩
  exact hcut_14 (13 - 0 + 1) 0 (zput lo hi A0 0 x.toInt (1 : Int64).toInt) g_6 h_b h_d h_c h_w ((z_fr.rf.tr (hfr_4.wide (by omega) (by omega))).tr (hfr_8.wide (by omega) (by omega))) (by omega) hA1 (fun _ v => by
      have e1 : zin lo hi 0 x.toInt := ⟨by omega, by rw [hbd.1]; omega, by rw [hbd.2.1]; omega⟩
      by_cases h9 : v = x.toInt
      · subst h9; rw [zput_s e1]; exact ⟨fun _ => rfl, fun _ => by decide⟩
      · constructor
        · intro h8
          exfalso
          exact h8 (zwy_out hA1 (fun h7 => by have := h7.2; rw [hbd.1, hbd.2.1] at this; omega))
        · intro h8; exact absurd h8 h9) (fun t ht => absurd ht (Nat.not_lt_zero t)) (Nat.lt_succ_self _) _ _ _ hS (lv_sub hl [1, 2, 0] rfl)

