theorem zquo_bd {b : zb} (hok : zb_ok b) {v y : Int} (hv : -200000 ≤ v ∧ v ≤ 200000) (hy : -20 ≤ y ∧ y ≤ 20) : -1000000 ≤ (b.2.1 * v - y).tdiv b.1 ∧ (b.2.1 * v - y).tdiv b.1 ≤ 1000000 := by
  have hP := zP_bd hok
  have hq1 := hok.2.1
  have e1 := z_mul_bd (x := b.2.1) (y := v) (a := 9) (b := 200000) (by omega) (by omega) (by omega) (by omega)
  exact z_tdiv_le hok (B := 1000000) (by omega)
theorem zwb_pos {b : zb} {L : Nat} {v : Int} {i : Nat} (h : b.1 ∣ (b.2.1 * v - b.2.2.2 i)) : zwb b L v i = zwy b L ((b.2.1 * v - b.2.2.2 i).tdiv b.1) := by
  unfold zwb
  rw [if_pos h]
/-- the digit that a rank falls on, and the rank behind it -/
def zsel (f : Nat → Int) : Nat → Nat → Int → Nat × Int
  | 0, i, r => (i, r)
  | n + 1, i, r => if r < f i then (i, r) else zsel f n (i + 1) (r - f i)
theorem zsel_cong {f f2 : Nat → Int} : ∀ {n i : Nat} {r : Int}, (∀ j, i ≤ j → j < i + n → f j = f2 j) → zsel f n i r = zsel f2 n i r
  | 0, _, _, _ => rfl
  | n + 1, i, r, h => by
    unfold zsel
    rw [h i (by omega) (by omega), zsel_cong (n := n) (fun j h1 h2 => h j (by omega) (by omega))]
def zexd (b : zb) : Nat → Int → Int → Nat → Int
  | 0, _, _, _ => -1000006
  | L + 1, v, r, 0 => b.2.2.2 (zsel (zwb b L v) b.2.2.1 0 r).1
  | L + 1, v, r, e + 1 => zexd b L ((b.2.1 * v - b.2.2.2 (zsel (zwb b L v) b.2.2.1 0 r).1).tdiv b.1) (zsel (zwb b L v) b.2.2.1 0 r).2 e
theorem zsel_ok {f : Nat → Int} : ∀ {n i : Nat} {r : Int}, 0 ≤ r → r < zsum f (i + n) - zsum f i → (zsel f n i r).1 < i + n ∧ 0 ≤ (zsel f n i r).2 ∧ (zsel f n i r).2 < f (zsel f n i r).1
  | 0, i, r, h, h2 => by exfalso; rw [Nat.add_zero] at h2; omega
  | n + 1, i, r, h, h2 => by
    unfold zsel
    by_cases h3 : r < f i
    · rw [if_pos h3]; exact ⟨by show i < i + (n + 1); omega, h, h3⟩
    · rw [if_neg h3]
      have h4 : zsum f (i + 1) = zsum f i + f i := rfl
      have := zsel_ok (f := f) (n := n) (i := i + 1) (r := r - f i) (by omega) (by rw [show i + 1 + n = i + (n + 1) by omega, h4]; omega)
      rw [show i + 1 + n = i + (n + 1) by omega] at this
      exact this
/-- what can be left behind so many digits -/
def zrb (b : zb) (x : Int) : Nat → Int → Prop
  | 0, v => v = x
  | l + 1, v => ∃ u, zrb b x l u ∧ ∃ i, i < b.2.2.1 ∧ b.1 ∣ (b.2.1 * u - b.2.2.2 i) ∧ v = (b.2.1 * u - b.2.2.2 i).tdiv b.1
theorem zrb_in {b : zb} {x : Int} {lo hi : Nat → Int} (h : zbd b x lo hi) : ∀ {l : Nat}, l ≤ 12 → ∀ {v}, zrb b x l v → lo l ≤ v ∧ v ≤ hi l
  | 0, _, v, hv => by
    have : v = x := hv
    rw [this, h.1, h.2.1]; omega
  | l + 1, hl, v, hv => by
    obtain ⟨u, hu, i, hi, hd, rfl⟩ := hv
    have := zrb_in h (l := l) (by omega) hu
    exact h.2.2 l (by omega) u this.1 this.2 i hi hd
/-- the table's row at level l holds what is told -/
def zrow (lo hi : Nat → Int) (A : Nat → Int → Int) (l : Nat) (F : Int → Int) : Prop := ∀ v, lo l ≤ v → v ≤ hi l → A l v = F v
theorem in_X8_rowsBehind_0 : ∀ w ∈ wsX00, w ∈ wsX8_rowsBehind := by decide +kernel
theorem in_X8_rowsBehind_8 : ∀ w ∈ wsX80, w ∈ wsX8_rowsBehind := by decide +kernel
set_option maxHeartbeats 4000000 in
set_option maxRecDepth 100000 in
theorem k_rowsBehind (Z : zT) (g : Nat → va_E) (k kb : Nat) (b : zb) (lo hi : Nat → Int) (A : Nat → Int → Int) (v1 v2 : Int32) (v3 : Int64) (hY : z_wy Z g k kb lo hi A v1 v2 v3) (hB : z_b0 Z g kb b) (l1 : Nat) (hl1 : l1 ≤ 12) (x : Int32) (hx2 : -200000 ≤ x.toInt ∧ x.toInt ≤ 200000) (y : Int32) (hy2 : -20 ≤ y.toInt ∧ y.toInt ≤ 20) : z_Ml Z yX8_rowsBehind wsX8_rowsBehind 3 66 [.ref (Z.2.1 k), .int (nI l1), .int x, .int y] g (fun r g1 => g = g1 ∧ r.toInt = if b.1 ∣ (b.2.1 * x.toInt - y.toInt) then A (l1 + 1) ((b.2.1 * x.toInt - y.toInt).tdiv b.1) else 0) := by
  intro l sz
  obtain ⟨pb, qb, res, cmp, dg, ch, h_b, h_d, h_c, hkN, hok, hp, hq, hres, hdg⟩ := id hB
  have hk0 : kb < Z.1 := by omega
  have hk1 : kb + 1 < Z.1 := by omega
  have hk2 : kb + 2 < Z.1 := by omega
  have hn12 := hok.2.2.2.1
  have hPb := zP_bd hok
  have hq1 := hok.2.1
  have hp2 := hok.1
  obtain ⟨lw, hw, tb, hO, hwb, hlh, hA⟩ := id hY
  obtain ⟨h_w, h_l, h_h, h_t, hkM, hsep⟩ := id hO
  have hkw : k < Z.1 := by omega
  have hkw1 : k + 1 < Z.1 := by omega
  have hkw2 : k + 2 < Z.1 := by omega
  have hkw3 : k + 3 < Z.1 := by omega
  
  refine z_enter (maxL := 5) (ret := (some .long)) (lv := [(0, .ref (Z.2.1 k)), (1, .int (nI l1)), (2, .int x), (3, .int y)]) (plainFor_of_name (by decide +kernel)) rfl (fun ls h => by subst h; exact lv_entry [.ref (Z.2.1 k), .int (nI l1), .int x, .int y] (n := 5) (Nat.le_of_ble_eq_true rfl)) ?_
  intro p e s m args below meth c hx hb hml hr hlocks hown hts hK hS hsz ls hl
  refine lv_aload_n hx hb dX8_rowsBehind_0 rfl (lv_at hl 0 rfl) ?_
  refine z_get (own := RX8) (C := RX8) (T := TX8) (N := 7) hx hb hts in_X8_rowsBehind_8 hown hK hS h_w hkw rfl 0 (by decide) (List.mem_of_getElem? (i := 1) rfl) rfl rfl dX8_rowsBehind_1 ?_
  refine z_getN (own := RX8) (C := RX0) (T := TX0) (N := 7) hx hb hts in_X8_rowsBehind_0 hown hK hS h_b hk0 rfl 1 (by decide) 26 rfl rfl rfl dX8_rowsBehind_4 ?_
  refine lv_iload_n hx hb dX8_rowsBehind_7 rfl (lv_at hl 2 rfl) ?_
  refine lv_imul hx hb dX8_rowsBehind_8 ?_
  refine lv_iload_n hx hb dX8_rowsBehind_9 rfl (lv_at hl 3 rfl) ?_
  refine lv_isub hx hb dX8_rowsBehind_10 ?_
  refine lv_topi (fun rs ers => ?_)
  have hm1 := z_mul_bd (x := b.2.1) (y := x.toInt) (a := 9) (b := 200000) (by omega) (by omega) (by omega) (by omega)
  have hqx : (qb * x).toInt = b.2.1 * x.toInt := by rw [fb_mulI (by rw [hq]; omega) (by rw [hq]; omega), hq]
  have hrs : rs.toInt = b.2.1 * x.toInt - y.toInt := by rw [ers, fb_subI (by omega) (by omega), hqx]
  refine lv_istore (lv' := [(4, .int rs), (0, .ref (Z.2.1 k)), (1, .int (nI l1)), (2, .int x), (3, .int y)]) hx hb dX8_rowsBehind_11 hl (by decide) rfl (fun ls hl => ?_)
  refine lv_aload_n hx hb dX8_rowsBehind_13 rfl (lv_at hl 1 rfl) ?_
  refine z_get (own := RX8) (C := RX8) (T := TX8) (N := 7) hx hb hts in_X8_rowsBehind_8 hown hK hS h_w hkw rfl 0 (by decide) (List.mem_of_getElem? (i := 1) rfl) rfl rfl dX8_rowsBehind_14 ?_
  refine lv_iload hx hb dX8_rowsBehind_17 (lv_at hl 0 rfl) ?_
  refine z_calli (z_runVN (As := [.int rs]) (rest := []) (C := RX0) ⟨hx, hb, hml, hown, hts⟩ hK hS ((k_divides Z g kb b hB rs) l _) gX8_rowsBehind_X0_divides_n88 rfl 1 59 rfl (List.mem_of_getElem? (i := 3) rfl) (List.mem_of_getElem? (i := 2) rfl) (List.mem_of_getElem? (i := 4) rfl) (by decide +kernel) ⟨Nat.le_of_ble_eq_true rfl, Nat.le_of_ble_eq_true rfl⟩ h_b hk0 rfl rfl hl.1 rfl (Nat.le_of_ble_eq_true rfl) dX8_rowsBehind_19 ⟨Nat.le_of_ble_eq_true rfl, Nat.le_of_ble_eq_true rfl⟩) hS (fun rd g_1 H locs hp_2 hS => ?_)
  obtain ⟨rfl, hp_2⟩ := hp_2
  have hrd := hp_2
  rw [hrs] at hrd
  refine lv_if_eq (tgt := 44) hx hb dX8_rowsBehind_22 (by decide) (fun c_3 => ?_) (fun c_3 => ?_)
  · have i_3 := z_eq c_3
    rw [tI_0] at i_3
    have hcc := zbo_f hrd c_3
    refine lv_lconst (v := 0) hx hb dX8_rowsBehind_44 rfl ?_
    refine z_lret hx hb hr hlocks hS ?_ dX8_rowsBehind_45
    exact ⟨rfl, by rw [if_neg hcc]; rfl⟩
  · have i_3 := z_ne c_3
    rw [tI_0] at i_3
    have hcc := zbo_t hrd c_3
    refine lv_aload_n hx hb dX8_rowsBehind_25 rfl (lv_at hl 1 rfl) ?_
    refine lv_iload_n hx hb dX8_rowsBehind_26 rfl (lv_at hl 2 rfl) ?_
    refine lv_iconst (v := 1) hx hb dX8_rowsBehind_27 (by decide) ?_
    refine lv_iadd hx hb dX8_rowsBehind_28 ?_
    rw [show (nI l1) + 1 = nI (l1 + 1) from nI_1 _]
    refine lv_aload_n hx hb dX8_rowsBehind_29 rfl (lv_at hl 1 rfl) ?_
    refine z_get (own := RX8) (C := RX8) (T := TX8) (N := 7) hx hb hts in_X8_rowsBehind_8 hown hK hS h_w hkw rfl 0 (by decide) (List.mem_of_getElem? (i := 1) rfl) rfl rfl dX8_rowsBehind_30 ?_
    refine lv_iload hx hb dX8_rowsBehind_33 (lv_at hl 0 rfl) ?_
    refine z_calli (z_runVN (As := [.int rs]) (rest := [.int (nI (l1 + 1)), .ref (Z.2.1 k)]) (C := RX0) ⟨hx, hb, hml, hown, hts⟩ hK hS ((k_quotient Z g kb b hB rs) l _) gX8_rowsBehind_X0_quotient_n68 rfl 1 57 rfl (List.mem_of_getElem? (i := 3) rfl) (List.mem_of_getElem? (i := 7) rfl) (List.mem_of_getElem? (i := 8) rfl) (by decide +kernel) ⟨Nat.le_of_ble_eq_true rfl, Nat.le_of_ble_eq_true rfl⟩ h_b hk0 rfl rfl hl.1 rfl (Nat.le_of_ble_eq_true rfl) dX8_rowsBehind_35 ⟨Nat.le_of_ble_eq_true rfl, Nat.le_of_ble_eq_true rfl⟩) hS (fun rq g_4 H locs hp_5 hS => ?_)
    obtain ⟨rfl, hp_5⟩ := hp_5
    have hrq := hp_5
    rw [hrs] at hrq
    have hqb := zquo_bd hok hx2 hy2
    refine z_calll (z_runV (As := [.int (nI (l1 + 1)), .int rq]) (rest := []) ⟨hx, hb, hml, hown, hts⟩ hK hS ((k_at Z g k kb b lo hi A v1 v2 v3 hY (l1 + 1) (by omega) rq (by omega)) l _) gX8_rowsBehind_X8_at rfl 2 (by decide +kernel) ⟨Nat.le_of_ble_eq_true rfl, Nat.le_of_ble_eq_true rfl⟩ h_w hkw rfl rfl hl.1 rfl (Nat.le_of_ble_eq_true rfl) dX8_rowsBehind_38 ⟨Nat.le_of_ble_eq_true rfl, Nat.le_of_ble_eq_true rfl⟩) hS (fun ra g_6 H locs hp_7 hS => ?_)
    obtain ⟨rfl, hp_7⟩ := hp_7
    have hra := hp_7
    refine lv_goto (tgt := 45) hx hb dX8_rowsBehind_41 (by decide) ?_
    refine z_lret hx hb hr hlocks hS ?_ dX8_rowsBehind_45
    exact ⟨rfl, by rw [if_pos hcc, hra, hrq]⟩

theorem in_X8_rowsFrom_0 : ∀ w ∈ wsX00, w ∈ wsX8_rowsFrom := by decide +kernel
theorem in_X8_rowsFrom_8 : ∀ w ∈ wsX80, w ∈ wsX8_rowsFrom := by decide +kernel
set_option maxHeartbeats 4000000 in
set_option maxRecDepth 100000 in
theorem k_rowsFrom (Z : zT) (g : Nat → va_E) (k kb : Nat) (b : zb) (lo hi : Nat → Int) (A : Nat → Int → Int) (v1 v2 : Int32) (v3 : Int64) (hY : z_wy Z g k kb lo hi A v1 v2 v3) (hB : z_b0 Z g kb b) (l1 : Nat) (hl1 : l1 ≤ 12) (x : Int32) (hx2 : -200000 ≤ x.toInt ∧ x.toInt ≤ 200000) (L : Nat) (hL : L ≤ 11) (hAr : ∀ i, i < b.2.2.1 → b.1 ∣ (b.2.1 * x.toInt - b.2.2.2 i) → A (l1 + 1) ((b.2.1 * x.toInt - b.2.2.2 i).tdiv b.1) = zwy b L ((b.2.1 * x.toInt - b.2.2.2 i).tdiv b.1)) : z_Ml Z yX8_rowsFrom wsX8_rowsFrom 4 90 [.ref (Z.2.1 k), .int (nI l1), .int x] g (fun r g1 => g = g1 ∧ r.toInt = zwy b (L + 1) x.toInt) := by
  intro l sz
  obtain ⟨pb, qb, res, cmp, dg, ch, h_b, h_d, h_c, hkN, hok, hp, hq, hres, hdg⟩ := id hB
  have hk0 : kb < Z.1 := by omega
  have hk1 : kb + 1 < Z.1 := by omega
  have hk2 : kb + 2 < Z.1 := by omega
  have hn12 := hok.2.2.2.1
  have hPb := zP_bd hok
  have hq1 := hok.2.1
  have hp2 := hok.1
  obtain ⟨lw, hw, tb, hO, hwb, hlh, hA⟩ := id hY
  obtain ⟨h_w, h_l, h_h, h_t, hkM, hsep⟩ := id hO
  have hkw : k < Z.1 := by omega
  have hkw1 : k + 1 < Z.1 := by omega
  have hkw2 : k + 2 < Z.1 := by omega
  have hkw3 : k + 3 < Z.1 := by omega
  have hwbd : ∀ i, i < b.2.2.1 → 0 ≤ zwb b L x.toInt i ∧ zwb b L x.toInt i ≤ 8916100448256 := fun i hi9 => by
    unfold zwb
    split
    · exact zwy_12 hok (by omega) _
    · omega
  refine z_enter (maxL := 6) (ret := (some .long)) (lv := [(0, .ref (Z.2.1 k)), (1, .int (nI l1)), (2, .int x)]) (plainFor_of_name (by decide +kernel)) rfl (fun ls h => by subst h; exact lv_entry [.ref (Z.2.1 k), .int (nI l1), .int x] (n := 6) (Nat.le_of_ble_eq_true rfl)) ?_
  intro p e s m args below meth c hx hb hml hr hlocks hown hts hK hS hsz ls hl
  refine lv_lconst (v := 0) hx hb dX8_rowsFrom_0 rfl ?_
  refine lv_lstore_n (lv' := [(3, .long 0), (0, .ref (Z.2.1 k)), (1, .int (nI l1)), (2, .int x)]) hx hb dX8_rowsFrom_1 rfl hl (by decide) rfl (fun ls hl => ?_)
  refine lv_iconst (v := 0) hx hb dX8_rowsFrom_2 (by decide) ?_
  refine lv_istore (lv' := [(5, .int 0), (3, .long 0), (0, .ref (Z.2.1 k)), (1, .int (nI l1)), (2, .int x)]) hx hb dX8_rowsFrom_3 hl (by decide) rfl (fun ls hl => ?_)
  have hcut_5 : ∀ (nn_5 : Nat) (ac : Int64) (j : Nat) (hj : j ≤ b.2.2.1) (hac : ac.toInt = zsum (zwb b L x.toInt) j) (hm_5 : b.2.2.1 - j < nn_5) (H : Heap) (locs : List Loc) (ls : Array Slot), z_S Z (z_A Z sz) s.heap g H locs → lv_has ls 6 [(0, .ref (Z.2.1 k)), (1, .int (nI l1)), (2, .int x), (3, .long ac), (5, .int (nI j))] → W p l e (headSpec wsX8_rowsFrom (z_rm 4 90)).room s m args below meth c H locs 0 0 (MQ below (va_Ql (fun r g1 => g = g1 ∧ r.toInt = zwy b (L + 1) x.toInt) (z_B Z) (z_A Z sz)) args s 0 0 (z_A Z sz)) (F0 m 5 ls []) := by
    intro nn_5
    induction nn_5 with
    | zero => intro ac j hj hac hm_5 H locs ls hS hl; exact absurd hm_5 (Nat.not_lt_zero _)
    | succ nn_5 ih_5 =>
      intro ac j hj hac hm_5 H locs ls hS hl
      refine lv_iload hx hb dX8_rowsFrom_5 (lv_at hl 4 rfl) ?_
      refine lv_aload_n hx hb dX8_rowsFrom_7 rfl (lv_at hl 0 rfl) ?_
      refine z_get (own := RX8) (C := RX8) (T := TX8) (N := 7) hx hb hts in_X8_rowsFrom_8 hown hK hS h_w hkw rfl 0 (by decide) (List.mem_of_getElem? (i := 1) rfl) rfl rfl dX8_rowsFrom_8 ?_
      refine z_getN (own := RX8) (C := RX0) (T := TX0) (N := 7) hx hb hts in_X8_rowsFrom_0 hown hK hS h_b hk0 rfl 3 (by decide) 27 rfl rfl rfl dX8_rowsFrom_11 ?_
      refine lv_icmp_ge (tgt := 41) hx hb dX8_rowsFrom_14 (by decide) (fun c_1 => ?_) (fun c_1 => ?_)
      · have i_1 := z_le c_1
        rw [nI_toInt (by omega)] at i_1
        rw [nI_toInt (by omega)] at i_1
        have hjn : j = b.2.2.1 := by omega
        subst hjn
        refine lv_lload_n hx hb dX8_rowsFrom_41 rfl (lv_at hl 3 rfl) ?_
        refine z_lret hx hb hr hlocks hS ?_ dX8_rowsFrom_42
        exact ⟨rfl, by rw [hac, zwy_succ]⟩
      · have i_1 := z_nle c_1
        rw [nI_toInt (by omega)] at i_1
        rw [nI_toInt (by omega)] at i_1
        refine lv_lload_n hx hb dX8_rowsFrom_17 rfl (lv_at hl 3 rfl) ?_
        refine lv_aload_n hx hb dX8_rowsFrom_18 rfl (lv_at hl 0 rfl) ?_
        refine lv_iload_n hx hb dX8_rowsFrom_19 rfl (lv_at hl 1 rfl) ?_
        refine lv_iload_n hx hb dX8_rowsFrom_20 rfl (lv_at hl 2 rfl) ?_
        refine lv_aload_n hx hb dX8_rowsFrom_21 rfl (lv_at hl 0 rfl) ?_
        refine z_get (own := RX8) (C := RX8) (T := TX8) (N := 7) hx hb hts in_X8_rowsFrom_8 hown hK hS h_w hkw rfl 0 (by decide) (List.mem_of_getElem? (i := 1) rfl) rfl rfl dX8_rowsFrom_22 ?_
        refine lv_iload hx hb dX8_rowsFrom_25 (lv_at hl 4 rfl) ?_
        refine z_calli (z_runVN (As := [.int (nI j)]) (rest := [.int x, .int (nI l1), .ref (Z.2.1 k), .long ac]) (C := RX0) ⟨hx, hb, hml, hown, hts⟩ hK hS ((k_listed Z g kb b hB j (by omega)) l _) gX8_rowsFrom_X0_listed_n74 rfl 1 58 rfl (List.mem_of_getElem? (i := 3) rfl) (List.mem_of_getElem? (i := 2) rfl) (List.mem_of_getElem? (i := 4) rfl) (by decide +kernel) ⟨Nat.le_of_ble_eq_true rfl, Nat.le_of_ble_eq_true rfl⟩ h_b hk0 rfl rfl hl.1 rfl (Nat.le_of_ble_eq_true rfl) dX8_rowsFrom_27 ⟨Nat.le_of_ble_eq_true rfl, Nat.le_of_ble_eq_true rfl⟩) hS (fun dd g_2 H locs hp_3 hS => ?_)
        obtain ⟨rfl, hp_3⟩ := hp_3
        have hdd := hp_3
        have hddb := hok.2.2.2.2 j (by omega)
        refine z_calll (z_runV (As := [.int (nI l1), .int x, .int dd]) (rest := [.long ac]) ⟨hx, hb, hml, hown, hts⟩ hK hS ((k_rowsBehind Z g k kb b lo hi A v1 v2 v3 hY hB l1 hl1 x hx2 dd (by omega)) l _) gX8_rowsFrom_X8_rowsBehind rfl 3 (by decide +kernel) ⟨Nat.le_of_ble_eq_true rfl, Nat.le_of_ble_eq_true rfl⟩ h_w hkw rfl rfl hl.1 rfl (Nat.le_of_ble_eq_true rfl) dX8_rowsFrom_30 ⟨Nat.le_of_ble_eq_true rfl, Nat.le_of_ble_eq_true rfl⟩) hS (fun rr g_4 H locs hp_5 hS => ?_)
        obtain ⟨rfl, hp_5⟩ := hp_5
        have hrr : rr.toInt = zwb b L x.toInt j := by
          rw [hp_5, hdd]; unfold zwb
          by_cases h9 : b.1 ∣ (b.2.1 * x.toInt - b.2.2.2 j)
          · rw [if_pos h9, if_pos h9]; exact hAr j (by omega) h9
          · rw [if_neg h9, if_neg h9]
        have hsb := zsum_bd (f := zwb b L x.toInt) (n := j) (fun i hi9 => hwbd i (by omega))
        have hsw := hwbd j (by omega)
        refine lv_ladd hx hb dX8_rowsFrom_33 ?_
        refine lv_topl (fun ac2 eac2 => ?_)
        have hac2 : ac2.toInt = zsum (zwb b L x.toInt) (j + 1) := by rw [eac2, fb_addL (by omega) (by omega), hac, hrr]; rfl
        refine lv_lstore_n (lv' := [(3, .long ac2), (0, .ref (Z.2.1 k)), (1, .int (nI l1)), (2, .int x), (5, .int (nI j))]) hx hb dX8_rowsFrom_34 rfl hl (by decide) rfl (fun ls hl => ?_)
        refine lv_iinc (v := (nI (j + 1))) (lv' := [(5, .int (nI (j + 1))), (3, .long ac2), (0, .ref (Z.2.1 k)), (1, .int (nI l1)), (2, .int x)]) hx hb dX8_rowsFrom_35 hl (k := 4) rfl (nI_1 _) (by decide) rfl (fun ls hl => ?_)
        refine lv_goto (tgt := 5) hx hb dX8_rowsFrom_38 (by decide) ?_
        exact ih_5 ac2 (j + 1) (by omega) hac2 (by omega) _ _ _ hS (lv_sub hl [2, 3, 4, 1, 0] rfl)
  exact hcut_5 (b.2.2.1 - 0 + 1) 0 0 (by omega) rfl (Nat.lt_succ_self _) _ _ _ hS (lv_sub hl [2, 3, 4, 1, 0] rfl)

theorem in_X8_rowsWith_8 : ∀ w ∈ wsX80, w ∈ wsX8_rowsWith := by decide +kernel
set_option maxHeartbeats 4000000 in
set_option maxRecDepth 100000 in
theorem k_rowsWith (Z : zT) (g : Nat → va_E) (k kb : Nat) (b : zb) (lw hw : Nat → Int32) (tb : Nat → Int64) (v1 v2 : Int32) (v3 : Int64) (hO : zo_ways Z g k kb lw hw tb v1 v2 v3) (hB : z_b0 Z g kb b) (x : Int32) (hx5 : -100000 ≤ x.toInt ∧ x.toInt ≤ 100000) (len : Nat) (hlen : len ≤ 12) : z_Ml Z yX8_rowsWith wsX8_rowsWith 5 115 [.ref (Z.2.1 k), .int x, .int (nI len)] g (fun r g1 => (∃ lo hi A, z_wy Z g1 k kb lo hi A (nI len) v2 v3 ∧ zbd b x.toInt lo hi ∧ (∀ l, l ≤ len → zrow lo hi A l (zwy b (len - l)))) ∧ r.toInt = zwy b len x.toInt ∧ z_fr k 4 g g1) := by
  intro l sz
  obtain ⟨pb, qb, res, cmp, dg, ch, h_b, h_d, h_c, hkN, hok, hp, hq, hres, hdg⟩ := id hB
  have hk0 : kb < Z.1 := by omega
  have hk1 : kb + 1 < Z.1 := by omega
  have hk2 : kb + 2 < Z.1 := by omega
  have hn12 := hok.2.2.2.1
  have hPb := zP_bd hok
  have hq1 := hok.2.1
  have hp2 := hok.1
  obtain ⟨h_w, h_l, h_h, h_t, hkM, hsep⟩ := id hO
  have hkw : k < Z.1 := by omega
  have hkw1 : k + 1 < Z.1 := by omega
  have hkw2 : k + 2 < Z.1 := by omega
  have hkw3 : k + 3 < Z.1 := by omega
  
  refine z_enter (maxL := 6) (ret := (some .long)) (lv := [(0, .ref (Z.2.1 k)), (1, .int x), (2, .int (nI len))]) (plainFor_of_name (by decide +kernel)) rfl (fun ls h => by subst h; exact lv_entry [.ref (Z.2.1 k), .int x, .int (nI len)] (n := 6) (Nat.le_of_ble_eq_true rfl)) ?_
  intro p e s m args below meth c hx hb hml hr hlocks hown hts hK hS hsz ls hl
  refine lv_aload_n hx hb dX8_rowsWith_0 rfl (lv_at hl 0 rfl) ?_
  refine lv_iload_n hx hb dX8_rowsWith_1 rfl (lv_at hl 1 rfl) ?_
  refine z_callv (z_runV (As := [.int x]) (rest := []) ⟨hx, hb, hml, hown, hts⟩ hK hS ((k_findBounds Z g k kb b _ _ _ v1 v2 v3 hO ⟨pb, qb, res, cmp, dg, ch, h_b, h_d, h_c, hkN, hok, hp, hq, hres, hdg⟩ x hx5) l _) gX8_rowsWith_X8_findBounds rfl 1 (by decide +kernel) ⟨Nat.le_of_ble_eq_true rfl, Nat.le_of_ble_eq_true rfl⟩ h_w hkw rfl rfl hl.1 rfl (Nat.le_of_ble_eq_true rfl) dX8_rowsWith_2 ⟨Nat.le_of_ble_eq_true rfl, Nat.le_of_ble_eq_true rfl⟩) hS (fun g_2 H locs hp_3 hS => ?_)
  obtain ⟨lo, hi, A0, hY0, hbd, hfr_4⟩ := hp_3
  have h_b := (hfr_4 _ (by omega)).trans h_b
  have h_d := (hfr_4 _ (by omega)).trans h_d
  have h_c := (hfr_4 _ (by omega)).trans h_c
  obtain ⟨lw9, hw9, tb9, ⟨h_w, -⟩, hwb9, -⟩ := id hY0
  refine lv_aload_n hx hb dX8_rowsWith_5 rfl (lv_at hl 0 rfl) ?_
  refine lv_iload_n hx hb dX8_rowsWith_6 rfl (lv_at hl 2 rfl) ?_
  refine z_put (fs' := [.ref (Z.2.1 kb), .ref (Z.2.1 (k + 1)), .ref (Z.2.1 (k + 2)), .ref (Z.2.1 (k + 3)), .int (nI len), .int v2, .long v3]) (own := RX8) (C := RX8) (T := TX8) (N := 7) hx hb hts in_X8_rowsWith_8 tyX8 tyX8_ok nmX8 hown hK hS h_w hkw rfl 4 (by decide) (List.mem_of_getElem? (i := 1) rfl) rfl rfl rfl rfl (Nat.le_of_ble_eq_true rfl) rfl dX8_rowsWith_7 (fun g_5 H locs hg_5 hS => ?_)
  have h_w : g_5 k = .inr (8, [.ref (Z.2.1 kb), .ref (Z.2.1 (k + 1)), .ref (Z.2.1 (k + 2)), .ref (Z.2.1 (k + 3)), .int (nI len), .int v2, .long v3]) := z_up_s hg_5
  have h_b := z_up_n hg_5 h_b (by omega)
  have h_d := z_up_n hg_5 h_d (by omega)
  have h_c := z_up_n hg_5 h_c (by omega)
  refine lv_iload_n hx hb dX8_rowsWith_10 rfl (lv_at hl 2 rfl) ?_
  refine lv_istore_n (lv' := [(3, .int (nI len)), (0, .ref (Z.2.1 k)), (1, .int x), (2, .int (nI len))]) hx hb dX8_rowsWith_11 rfl hl (by decide) rfl (fun ls hl => ?_)
  have hY1 : z_wy Z g_5 k kb lo hi A0 (nI len) v2 v3 := by
    obtain ⟨lw8, hw8, tb8, ⟨q1, q2, q3, q4, q5⟩, q6⟩ := hY0
    exact ⟨lw8, hw8, tb8, ⟨h_w, (z_up_o hg_5 (by omega)).trans q2, (z_up_o hg_5 (by omega)).trans q3, (z_up_o hg_5 (by omega)).trans q4, q5⟩, q6⟩
  have hcut_12 : ∀ (nn_12 : Nat) (i1 : Int32) (n1 : Nat) (A1 : Nat → Int → Int) (ga : Nat → va_E) (h_b : ga kb = .inr (0, [.int pb, .int qb, .int res, .int (nI b.2.2.1), .int cmp, .ref (Z.2.1 (kb + 1)), .ref (Z.2.1 (kb + 2))])) (h_d : ga (kb + 1) = .inl (Z.2.2.2 0, 12, .inl dg)) (h_c : ga (kb + 2) = .inl (Z.2.2.2 0, 10, .inl ch)) (h_w : ga k = .inr (8, [.ref (Z.2.1 kb), .ref (Z.2.1 (k + 1)), .ref (Z.2.1 (k + 2)), .ref (Z.2.1 (k + 3)), .int (nI len), .int v2, .long v3])) (hfr_ga : z_fr k 4 g ga) (hn1 : i1.toInt = (n1 : Int) - 1) (hn2 : n1 ≤ len + 1) (hY1 : z_wy Z ga k kb lo hi A1 (nI len) v2 v3) (hal : ∀ l, n1 ≤ l → l ≤ len → zrow lo hi A1 l (zwy b (len - l))) (hm_12 : n1 < nn_12) (H : Heap) (locs : List Loc) (ls : Array Slot), z_S Z (z_A Z sz) s.heap ga H locs → lv_has ls 6 [(0, .ref (Z.2.1 k)), (1, .int x), (2, .int (nI len)), (3, .int i1)] → W p l e (headSpec wsX8_rowsWith (z_rm 5 115)).room s m args below meth c H locs 0 0 (MQ below (va_Ql (fun r g1 => (∃ lo hi A, z_wy Z g1 k kb lo hi A (nI len) v2 v3 ∧ zbd b x.toInt lo hi ∧ (∀ l, l ≤ len → zrow lo hi A l (zwy b (len - l)))) ∧ r.toInt = zwy b len x.toInt ∧ z_fr k 4 g g1) (z_B Z) (z_A Z sz)) args s 0 0 (z_A Z sz)) (F0 m 12 ls []) := by
    intro nn_12
    induction nn_12 with
    | zero => intro i1 n1 A1 ga h_b h_d h_c h_w hfr_ga hn1 hn2 hY1 hal hm_12 H locs ls hS hl; exact absurd hm_12 (Nat.not_lt_zero _)
    | succ nn_12 ih_12 =>
      intro i1 n1 A1 ga h_b h_d h_c h_w hfr_ga hn1 hn2 hY1 hal hm_12 H locs ls hS hl
      
      refine lv_iload_n hx hb dX8_rowsWith_12 rfl (lv_at hl 3 rfl) ?_
      refine lv_if_lt (tgt := 82) hx hb dX8_rowsWith_13 (by decide) (fun c_6 => ?_) (fun c_6 => ?_)
      · have i_6 := z_lt c_6
        rw [tI_0] at i_6
        have hn0 : n1 = 0 := by omega
        subst hn0
        refine lv_aload_n hx hb dX8_rowsWith_82 rfl (lv_at hl 0 rfl) ?_
        refine lv_iconst (v := 0) hx hb dX8_rowsWith_83 (by decide) ?_
        refine lv_iload_n hx hb dX8_rowsWith_84 rfl (lv_at hl 1 rfl) ?_
        have hx0 := hal 0 (by omega) (by omega) x.toInt (by rw [hbd.1]; omega) (by rw [hbd.2.1]; omega)
        rw [Nat.sub_zero] at hx0
        refine z_calll (z_runV (As := [.int 0, .int x]) (rest := []) ⟨hx, hb, hml, hown, hts⟩ hK hS ((k_at Z ga k kb b lo hi A1 (nI len) v2 v3 hY1 0 (by omega) x (by omega)) l _) gX8_rowsWith_X8_at rfl 2 (by decide +kernel) ⟨Nat.le_of_ble_eq_true rfl, Nat.le_of_ble_eq_true rfl⟩ h_w hkw rfl rfl hl.1 rfl (Nat.le_of_ble_eq_true rfl) dX8_rowsWith_85 ⟨Nat.le_of_ble_eq_true rfl, Nat.le_of_ble_eq_true rfl⟩) hS (fun rr g_7 H locs hp_8 hS => ?_)
        obtain ⟨rfl, hp_8⟩ := hp_8
        have hrr := hp_8
        refine z_lret hx hb hr hlocks hS ?_ dX8_rowsWith_88
        exact ⟨⟨lo, hi, A1, hY1, hbd, fun l h1 => hal l (Nat.zero_le l) h1⟩, by rw [hrr]; exact hx0, hfr_ga⟩
      · have i_6 := z_nlt c_6
        rw [tI_0] at i_6
        obtain ⟨n2, rfl⟩ : ∃ n2, n1 = n2 + 1 := ⟨n1 - 1, by omega⟩
        have ei1 : i1 = nI n2 := z_nI_is (by omega)
        subst ei1
        refine lv_aload_n hx hb dX8_rowsWith_16 rfl (lv_at hl 0 rfl) ?_
        refine lv_iload_n hx hb dX8_rowsWith_17 rfl (lv_at hl 3 rfl) ?_
        refine z_calli (z_runV (As := [.int (nI n2)]) (rest := []) ⟨hx, hb, hml, hown, hts⟩ hK hS ((k_highestAt Z ga k kb b lo hi A1 (nI len) v2 v3 hY1 n2 (by omega)) l _) gX8_rowsWith_X8_highestAt rfl 1 (by decide +kernel) ⟨Nat.le_of_ble_eq_true rfl, Nat.le_of_ble_eq_true rfl⟩ h_w hkw rfl rfl hl.1 rfl (Nat.le_of_ble_eq_true rfl) dX8_rowsWith_18 ⟨Nat.le_of_ble_eq_true rfl, Nat.le_of_ble_eq_true rfl⟩) hS (fun ra g_9 H locs hp_10 hS => ?_)
        obtain ⟨rfl, hp_10⟩ := hp_10
        have hra : ra.toInt = hi n2 := by rw [hp_10]; unfold zHI; rw [if_pos (by omega)]
        refine lv_istore (lv' := [(4, .int ra), (0, .ref (Z.2.1 k)), (1, .int x), (2, .int (nI len)), (3, .int (nI n2))]) hx hb dX8_rowsWith_21 hl (by decide) rfl (fun ls hl => ?_)
        refine lv_aload_n hx hb dX8_rowsWith_23 rfl (lv_at hl 1 rfl) ?_
        refine lv_iload_n hx hb dX8_rowsWith_24 rfl (lv_at hl 4 rfl) ?_
        refine z_calli (z_runV (As := [.int (nI n2)]) (rest := []) ⟨hx, hb, hml, hown, hts⟩ hK hS ((k_lowestAt Z ga k kb b lo hi A1 (nI len) v2 v3 hY1 n2 (by omega)) l _) gX8_rowsWith_X8_lowestAt rfl 1 (by decide +kernel) ⟨Nat.le_of_ble_eq_true rfl, Nat.le_of_ble_eq_true rfl⟩ h_w hkw rfl rfl hl.1 rfl (Nat.le_of_ble_eq_true rfl) dX8_rowsWith_25 ⟨Nat.le_of_ble_eq_true rfl, Nat.le_of_ble_eq_true rfl⟩) hS (fun rb g_11 H locs hp_12 hS => ?_)
        obtain ⟨rfl, hp_12⟩ := hp_12
        have hrb : rb.toInt = lo n2 := by rw [hp_12]; unfold zLO; rw [if_pos (by omega)]
        have hwn := hwb9 n2 (by omega)
        refine lv_istore (lv' := [(5, .int rb), (4, .int ra), (0, .ref (Z.2.1 k)), (1, .int x), (2, .int (nI len)), (3, .int (nI n2))]) hx hb dX8_rowsWith_28 hl (by decide) rfl (fun ls hl => ?_)
        have hcut_30 : ∀ (nn_30 : Nat) (y : Int32) (A2 : Nat → Int → Int) (gb : Nat → va_E) (h_b : gb kb = .inr (0, [.int pb, .int qb, .int res, .int (nI b.2.2.1), .int cmp, .ref (Z.2.1 (kb + 1)), .ref (Z.2.1 (kb + 2))])) (h_d : gb (kb + 1) = .inl (Z.2.2.2 0, 12, .inl dg)) (h_c : gb (kb + 2) = .inl (Z.2.2.2 0, 10, .inl ch)) (h_w : gb k = .inr (8, [.ref (Z.2.1 kb), .ref (Z.2.1 (k + 1)), .ref (Z.2.1 (k + 2)), .ref (Z.2.1 (k + 3)), .int (nI len), .int v2, .long v3])) (hfr_gb : z_fr k 4 g gb) (hylo : lo n2 ≤ y.toInt ∧ (y.toInt ≤ hi n2 + 1 ∨ y.toInt = lo n2)) (hY2 : z_wy Z gb k kb lo hi A2 (nI len) v2 v3) (hal2 : ∀ l, n2 < l → l ≤ len → zrow lo hi A2 l (zwy b (len - l))) (hcur : ∀ v9, lo n2 ≤ v9 → v9 < y.toInt → v9 ≤ hi n2 → A2 n2 v9 = zwy b (len - n2) v9) (hm_30 : (hi n2 + 1 - y.toInt).toNat < nn_30) (H : Heap) (locs : List Loc) (ls : Array Slot), z_S Z (z_A Z sz) s.heap gb H locs → lv_has ls 6 [(0, .ref (Z.2.1 k)), (1, .int x), (2, .int (nI len)), (3, .int (nI n2)), (4, .int ra), (5, .int y)] → W p l e (headSpec wsX8_rowsWith (z_rm 5 115)).room s m args below meth c H locs 0 0 (MQ below (va_Ql (fun r g1 => (∃ lo hi A, z_wy Z g1 k kb lo hi A (nI len) v2 v3 ∧ zbd b x.toInt lo hi ∧ (∀ l, l ≤ len → zrow lo hi A l (zwy b (len - l)))) ∧ r.toInt = zwy b len x.toInt ∧ z_fr k 4 g g1) (z_B Z) (z_A Z sz)) args s 0 0 (z_A Z sz)) (F0 m 30 ls []) := by
          intro nn_30
          induction nn_30 with
          | zero => intro y A2 gb h_b h_d h_c h_w hfr_gb hylo hY2 hal2 hcur hm_30 H locs ls hS hl; exact absurd hm_30 (Nat.not_lt_zero _)
          | succ nn_30 ih_30 =>
            intro y A2 gb h_b h_d h_c h_w hfr_gb hylo hY2 hal2 hcur hm_30 H locs ls hS hl
            obtain ⟨lw7, hw7, tb7, hO7, hwb7, -⟩ := id hY2
            have hwn2 := hwb7 n2 (by omega)
            refine lv_iload hx hb dX8_rowsWith_30 (lv_at hl 5 rfl) ?_
            refine lv_iload hx hb dX8_rowsWith_32 (lv_at hl 4 rfl) ?_
            refine lv_icmp_gt (tgt := 76) hx hb dX8_rowsWith_34 (by decide) (fun c_13 => ?_) (fun c_13 => ?_)
            · have i_13 := z_lt c_13
              have hall9 : ∀ v9, lo n2 ≤ v9 → v9 ≤ hi n2 → A2 n2 v9 = zwy b (len - n2) v9 := fun v9 h1 h2 => hcur v9 h1 (by omega) h2
              replace hcur := fun v9 (h1 : lo n2 ≤ v9) (h2 : v9 ≤ hi n2) => hall9 v9 h1 h2
              obtain ⟨i2, ei2⟩ : ∃ zz9 : Int32, zz9 = nI n2 + (-1) := ⟨_, rfl⟩
              have hi2 : i2.toInt = (n2 : Int) - 1 := by rw [ei2, fb_addI (by rw [nI_toInt (by omega), tI_m1]; omega) (by rw [nI_toInt (by omega), tI_m1]; omega), nI_toInt (by omega), tI_m1]; omega
              refine lv_iinc (v := i2) (lv' := [(3, .int i2), (0, .ref (Z.2.1 k)), (1, .int x), (2, .int (nI len)), (4, .int ra), (5, .int y)]) hx hb dX8_rowsWith_76 hl (k := 3) rfl (by rw [ei2]; rfl) (by decide) rfl (fun ls hl => ?_)
              refine lv_goto (tgt := 12) hx hb dX8_rowsWith_79 (by decide) ?_
              
              exact ih_12 i2 n2 A2 gb h_b h_d h_c h_w hfr_gb hi2 (by omega) hY2 (fun l h1 h2 => by
                  rcases Nat.lt_or_ge n2 l with q9 | q9
                  · exact hal2 l q9 h2
                  · have : l = n2 := by omega
                    subst this
                    exact fun v9 h3 h4 => hcur v9 h3 (by omega)) (by omega) _ _ _ hS (lv_sub hl [1, 2, 3, 0] rfl)
            · have i_13 := z_nlt c_13
              refine lv_aload_n hx hb dX8_rowsWith_37 rfl (lv_at hl 0 rfl) ?_
              refine lv_iload_n hx hb dX8_rowsWith_38 rfl (lv_at hl 3 rfl) ?_
              refine lv_iload hx hb dX8_rowsWith_39 (lv_at hl 5 rfl) ?_
              refine lv_iload_n hx hb dX8_rowsWith_41 rfl (lv_at hl 3 rfl) ?_
              refine lv_iload_n hx hb dX8_rowsWith_42 rfl (lv_at hl 2 rfl) ?_
              refine lv_icmp_ne (tgt := 60) hx hb dX8_rowsWith_43 (by decide) (fun c_14 => ?_) (fun c_14 => ?_)
              · have i_14 := z_ne c_14
                rw [nI_toInt (by omega)] at i_14
                rw [nI_toInt (by omega)] at i_14
                have hne9 : n2 ≠ len := fun h9 => by omega
                refine lv_aload_n hx hb dX8_rowsWith_60 rfl (lv_at hl 0 rfl) ?_
                refine lv_iload_n hx hb dX8_rowsWith_61 rfl (lv_at hl 3 rfl) ?_
                refine lv_iload hx hb dX8_rowsWith_62 (lv_at hl 5 rfl) ?_
                refine z_calll (z_runV (As := [.int (nI n2), .int y]) (rest := [.int y, .int (nI n2), .ref (Z.2.1 k)]) ⟨hx, hb, hml, hown, hts⟩ hK hS ((k_rowsFrom Z gb k kb b lo hi A2 (nI len) v2 v3 hY2 ⟨pb, qb, res, cmp, dg, ch, h_b, h_d, h_c, hkN, hok, hp, hq, hres, hdg⟩ n2 (by omega) y (by omega) (len - n2 - 1) (by omega) (fun i h8 h9 => by
                  have h7 := hbd.2.2 n2 (by omega) y.toInt (by omega) (by omega) i h8 h9
                  have h6 := hal2 (n2 + 1) (by omega) (by omega) _ h7.1 h7.2
                  rw [h6]; congr 1)) l _) gX8_rowsWith_X8_rowsFrom rfl 2 (by decide +kernel) ⟨Nat.le_of_ble_eq_true rfl, Nat.le_of_ble_eq_true rfl⟩ h_w hkw rfl rfl hl.1 rfl (Nat.le_of_ble_eq_true rfl) dX8_rowsWith_64 ⟨Nat.le_of_ble_eq_true rfl, Nat.le_of_ble_eq_true rfl⟩) hS (fun rf g_15 H locs hp_16 hS => ?_)
                obtain ⟨rfl, hp_16⟩ := hp_16
                have hrf := hp_16
                rw [show len - n2 - 1 + 1 = len - n2 by omega] at hrf
                obtain ⟨rv, erv⟩ : ∃ zz9 : Int64, zz9 = rf := ⟨_, rfl⟩
                have hrv : rv.toInt = zwy b (len - n2) y.toInt := by
                  rw [erv]
                  first | exact hrf | (rw [show len - n2 = 0 by omega]; unfold zwy; first | (rw [if_pos (by omega)]; rfl) | (rw [if_neg (by omega)]; rfl))
                rw [← erv]
                refine z_callv (z_runV (As := [.int (nI n2), .int y, .long rv]) (rest := []) ⟨hx, hb, hml, hown, hts⟩ hK hS ((k_put Z gb k kb b lo hi A2 (nI len) v2 v3 hY2 n2 (by omega) y (by omega) rv) l _) gX8_rowsWith_X8_put rfl 3 (by decide +kernel) ⟨Nat.le_of_ble_eq_true rfl, Nat.le_of_ble_eq_true rfl⟩ h_w hkw rfl rfl hl.1 rfl (Nat.le_of_ble_eq_true rfl) dX8_rowsWith_67 ⟨Nat.le_of_ble_eq_true rfl, Nat.le_of_ble_eq_true rfl⟩) hS (fun g_18 H locs hp_19 hS => ?_)
                obtain ⟨hY3, hfr_20⟩ := hp_19
                have h_b := (hfr_20 _ (by omega)).trans h_b
                have h_d := (hfr_20 _ (by omega)).trans h_d
                have h_c := (hfr_20 _ (by omega)).trans h_c
                obtain ⟨lw6, hw6, tb6, ⟨h_w, -⟩, -⟩ := id hY3
                obtain ⟨y2, ey2⟩ : ∃ zz9 : Int32, zz9 = y + 1 := ⟨_, rfl⟩
                have hy2 : y2.toInt = y.toInt + 1 := by rw [ey2, fb_addI (by rw [tI_1]; omega) (by rw [tI_1]; omega), tI_1]
                refine lv_iinc (v := y2) (lv' := [(5, .int y2), (0, .ref (Z.2.1 k)), (1, .int x), (2, .int (nI len)), (3, .int (nI n2)), (4, .int ra)]) hx hb dX8_rowsWith_70 hl (k := 5) rfl (by rw [ey2]; rfl) (by decide) rfl (fun ls hl => ?_)
                refine lv_goto (tgt := 30) hx hb dX8_rowsWith_73 (by decide) ?_
                exact ih_30 y2 (zput lo hi A2 n2 y.toInt rv.toInt) g_18 h_b h_d h_c h_w (hfr_gb.tr (hfr_20.wide (by omega) (by omega))) (by omega) hY3 (fun l h1 h2 v9 h3 h4 => by rw [zput_n (by omega)]; exact hal2 l h1 h2 v9 h3 h4) (fun v9 h1 h2 h3 => by
                    by_cases h4 : v9 = y.toInt
                    · subst h4; rw [zput_s ⟨by omega, by omega, by omega⟩]; exact hrv
                    · rw [zput_n (by omega)]; exact hcur v9 h1 (by omega) h3) (by omega) _ _ _ hS (lv_sub hl [1, 2, 3, 4, 5, 0] rfl)
              · have i_14 := z_eq c_14
                rw [nI_toInt (by omega)] at i_14
                rw [nI_toInt (by omega)] at i_14
                have heq9 : n2 = len := by omega
                refine lv_iload hx hb dX8_rowsWith_46 (lv_at hl 5 rfl) ?_
                refine lv_if_ne (tgt := 55) hx hb dX8_rowsWith_48 (by decide) (fun c_21 => ?_) (fun c_21 => ?_)
                · have i_21 := z_ne c_21
                  rw [tI_0] at i_21
                  refine lv_iconst (v := 0) hx hb dX8_rowsWith_55 (by decide) ?_
                  refine lv_i2l hx hb dX8_rowsWith_56 rfl ?_
                  refine lv_goto (tgt := 67) hx hb dX8_rowsWith_57 (by decide) ?_
                  obtain ⟨rv, erv⟩ : ∃ zz9 : Int64, zz9 = Int32.toInt64 0 := ⟨_, rfl⟩
                  have hrv : rv.toInt = zwy b (len - n2) y.toInt := by
                    rw [erv]
                    first | exact hrf | (rw [show len - n2 = 0 by omega]; unfold zwy; first | (rw [if_pos (by omega)]; rfl) | (rw [if_neg (by omega)]; rfl))
                  rw [← erv]
                  refine z_callv (z_runV (As := [.int (nI n2), .int y, .long rv]) (rest := []) ⟨hx, hb, hml, hown, hts⟩ hK hS ((k_put Z gb k kb b lo hi A2 (nI len) v2 v3 hY2 n2 (by omega) y (by omega) rv) l _) gX8_rowsWith_X8_put rfl 3 (by decide +kernel) ⟨Nat.le_of_ble_eq_true rfl, Nat.le_of_ble_eq_true rfl⟩ h_w hkw rfl rfl hl.1 rfl (Nat.le_of_ble_eq_true rfl) dX8_rowsWith_67 ⟨Nat.le_of_ble_eq_true rfl, Nat.le_of_ble_eq_true rfl⟩) hS (fun g_23 H locs hp_24 hS => ?_)
                  obtain ⟨hY3, hfr_25⟩ := hp_24
                  have h_b := (hfr_25 _ (by omega)).trans h_b
                  have h_d := (hfr_25 _ (by omega)).trans h_d
                  have h_c := (hfr_25 _ (by omega)).trans h_c
                  obtain ⟨lw6, hw6, tb6, ⟨h_w, -⟩, -⟩ := id hY3
                  obtain ⟨y2, ey2⟩ : ∃ zz9 : Int32, zz9 = y + 1 := ⟨_, rfl⟩
                  have hy2 : y2.toInt = y.toInt + 1 := by rw [ey2, fb_addI (by rw [tI_1]; omega) (by rw [tI_1]; omega), tI_1]
                  refine lv_iinc (v := y2) (lv' := [(5, .int y2), (0, .ref (Z.2.1 k)), (1, .int x), (2, .int (nI len)), (3, .int (nI n2)), (4, .int ra)]) hx hb dX8_rowsWith_70 hl (k := 5) rfl (by rw [ey2]; rfl) (by decide) rfl (fun ls hl => ?_)
                  refine lv_goto (tgt := 30) hx hb dX8_rowsWith_73 (by decide) ?_
                  exact ih_30 y2 (zput lo hi A2 n2 y.toInt rv.toInt) g_23 h_b h_d h_c h_w (hfr_gb.tr (hfr_25.wide (by omega) (by omega))) (by omega) hY3 (fun l h1 h2 v9 h3 h4 => by rw [zput_n (by omega)]; exact hal2 l h1 h2 v9 h3 h4) (fun v9 h1 h2 h3 => by
                      by_cases h4 : v9 = y.toInt
                      · subst h4; rw [zput_s ⟨by omega, by omega, by omega⟩]; exact hrv
                      · rw [zput_n (by omega)]; exact hcur v9 h1 (by omega) h3) (by omega) _ _ _ hS (lv_sub hl [1, 2, 3, 4, 5, 0] rfl)
                · have i_21 := z_eq c_21
                  rw [tI_0] at i_21
                  refine lv_iconst (v := 1) hx hb dX8_rowsWith_51 (by decide) ?_
                  refine lv_goto (tgt := 56) hx hb dX8_rowsWith_52 (by decide) ?_
                  refine lv_i2l hx hb dX8_rowsWith_56 rfl ?_
                  refine lv_goto (tgt := 67) hx hb dX8_rowsWith_57 (by decide) ?_
                  obtain ⟨rv, erv⟩ : ∃ zz9 : Int64, zz9 = Int32.toInt64 1 := ⟨_, rfl⟩
                  have hrv : rv.toInt = zwy b (len - n2) y.toInt := by
                    rw [erv]
                    first | exact hrf | (rw [show len - n2 = 0 by omega]; unfold zwy; first | (rw [if_pos (by omega)]; rfl) | (rw [if_neg (by omega)]; rfl))
                  rw [← erv]
                  refine z_callv (z_runV (As := [.int (nI n2), .int y, .long rv]) (rest := []) ⟨hx, hb, hml, hown, hts⟩ hK hS ((k_put Z gb k kb b lo hi A2 (nI len) v2 v3 hY2 n2 (by omega) y (by omega) rv) l _) gX8_rowsWith_X8_put rfl 3 (by decide +kernel) ⟨Nat.le_of_ble_eq_true rfl, Nat.le_of_ble_eq_true rfl⟩ h_w hkw rfl rfl hl.1 rfl (Nat.le_of_ble_eq_true rfl) dX8_rowsWith_67 ⟨Nat.le_of_ble_eq_true rfl, Nat.le_of_ble_eq_true rfl⟩) hS (fun g_27 H locs hp_28 hS => ?_)
                  obtain ⟨hY3, hfr_29⟩ := hp_28
                  have h_b := (hfr_29 _ (by omega)).trans h_b
                  have h_d := (hfr_29 _ (by omega)).trans h_d
                  have h_c := (hfr_29 _ (by omega)).trans h_c
                  obtain ⟨lw6, hw6, tb6, ⟨h_w, -⟩, -⟩ := id hY3
                  obtain ⟨y2, ey2⟩ : ∃ zz9 : Int32, zz9 = y + 1 := ⟨_, rfl⟩
                  have hy2 : y2.toInt = y.toInt + 1 := by rw [ey2, fb_addI (by rw [tI_1]; omega) (by rw [tI_1]; omega), tI_1]
                  refine lv_iinc (v := y2) (lv' := [(5, .int y2), (0, .ref (Z.2.1 k)), (1, .int x), (2, .int (nI len)), (3, .int (nI n2)), (4, .int ra)]) hx hb dX8_rowsWith_70 hl (k := 5) rfl (by rw [ey2]; rfl) (by decide) rfl (fun ls hl => ?_)
                  refine lv_goto (tgt := 30) hx hb dX8_rowsWith_73 (by decide) ?_
                  exact ih_30 y2 (zput lo hi A2 n2 y.toInt rv.toInt) g_27 h_b h_d h_c h_w (hfr_gb.tr (hfr_29.wide (by omega) (by omega))) (by omega) hY3 (fun l h1 h2 v9 h3 h4 => by rw [zput_n (by omega)]; exact hal2 l h1 h2 v9 h3 h4) (fun v9 h1 h2 h3 => by
                      by_cases h4 : v9 = y.toInt
                      · subst h4; rw [zput_s ⟨by omega, by omega, by omega⟩]; exact hrv
                      · rw [zput_n (by omega)]; exact hcur v9 h1 (by omega) h3) (by omega) _ _ _ hS (lv_sub hl [1, 2, 3, 4, 5, 0] rfl)
        exact hcut_30 ((hi n2 + 1 - rb.toInt).toNat + 1) rb A1 ga h_b h_d h_c h_w hfr_ga (by omega) hY1 (fun l h1 h2 => hal l h1 h2) (fun v9 h1 h2 h3 => by omega) (Nat.lt_succ_self _) _ _ _ hS (lv_sub hl [2, 3, 4, 5, 1, 0] rfl)
  exact hcut_12 ((len + 1) + 1) (nI len) (len + 1) A0 g_5 h_b h_d h_c h_w ((z_fr.rf.tr (hfr_4.wide (by omega) (by omega))).up hg_5 (by omega)) (by rw [nI_toInt (by omega)]; omega) (Nat.le_refl _) hY1 (fun l h1 h2 => by omega) (Nat.lt_succ_self _) _ _ _ hS (lv_sub hl [1, 2, 3, 0] rfl)

theorem in_X8_takeDigit_0 : ∀ w ∈ wsX00, w ∈ wsX8_takeDigit := by decide +kernel
theorem in_X8_takeDigit_8 : ∀ w ∈ wsX80, w ∈ wsX8_takeDigit := by decide +kernel
set_option maxHeartbeats 4000000 in
set_option maxRecDepth 100000 in
theorem k_takeDigit (Z : zT) (g : Nat → va_E) (k kb : Nat) (b : zb) (lo hi : Nat → Int) (A : Nat → Int → Int) (v1 v2 : Int32) (v3 : Int64) (hY : z_wy Z g k kb lo hi A v1 v2 v3) (hB : z_b0 Z g kb b) (l1 : Nat) (hl1 : l1 ≤ 11) (L : Nat) (hL : L ≤ 11) (hx2 : -200000 ≤ v2.toInt ∧ v2.toInt ≤ 200000) (hr0 : 0 ≤ v3.toInt ∧ v3.toInt < zwy b (L + 1) v2.toInt) (hAr : ∀ i, i < b.2.2.1 → b.1 ∣ (b.2.1 * v2.toInt - b.2.2.2 i) → A (l1 + 1) ((b.2.1 * v2.toInt - b.2.2.2 i).tdiv b.1) = zwy b L ((b.2.1 * v2.toInt - b.2.2.2 i).tdiv b.1)) : z_Mi Z yX8_takeDigit wsX8_takeDigit 4 90 [.ref (Z.2.1 k), .int (nI l1)] g (fun r g1 => (∃ v4 : Int64, v4.toInt = (zsel (zwb b L v2.toInt) b.2.2.1 0 v3.toInt).2 ∧ z_wy Z g1 k kb lo hi A v1 v2 v4) ∧ r.toInt = b.2.2.2 (zsel (zwb b L v2.toInt) b.2.2.1 0 v3.toInt).1 ∧ z_fr k 4 g g1) := by
  intro l sz
  obtain ⟨pb, qb, res, cmp, dg, ch, h_b, h_d, h_c, hkN, hok, hp, hq, hres, hdg⟩ := id hB
  have hk0 : kb < Z.1 := by omega
  have hk1 : kb + 1 < Z.1 := by omega
  have hk2 : kb + 2 < Z.1 := by omega
  have hn12 := hok.2.2.2.1
  have hPb := zP_bd hok
  have hq1 := hok.2.1
  have hp2 := hok.1
  obtain ⟨lw, hw, tb, hO, hwb, hlh, hA⟩ := id hY
  obtain ⟨h_w, h_l, h_h, h_t, hkM, hsep⟩ := id hO
  have hkw : k < Z.1 := by omega
  have hkw1 : k + 1 < Z.1 := by omega
  have hkw2 : k + 2 < Z.1 := by omega
  have hkw3 : k + 3 < Z.1 := by omega
  have hwbd : ∀ i, i < b.2.2.1 → 0 ≤ zwb b L v2.toInt i ∧ zwb b L v2.toInt i ≤ 8916100448256 := fun i hi9 => by
    unfold zwb
    split
    · exact zwy_12 hok (by omega) _
    · omega
  rw [zwy_succ] at hr0
  have htot := zsum_bd (f := zwb b L v2.toInt) (n := b.2.2.1) hwbd
  have htot2 : (b.2.2.1 : Int) * 8916100448256 ≤ 106993205379072 := by omega
  refine z_enter (maxL := 5) (ret := (some .int)) (lv := [(0, .ref (Z.2.1 k)), (1, .int (nI l1))]) (plainFor_of_name (by decide +kernel)) rfl (fun ls h => by subst h; exact lv_entry [.ref (Z.2.1 k), .int (nI l1)] (n := 5) (Nat.le_of_ble_eq_true rfl)) ?_
  intro p e s m args below meth c hx hb hml hr hlocks hown hts hK hS hsz ls hl
  refine lv_iconst (v := 0) hx hb dX8_takeDigit_0 (by decide) ?_
  refine lv_istore_n (lv' := [(2, .int 0), (0, .ref (Z.2.1 k)), (1, .int (nI l1))]) hx hb dX8_takeDigit_1 rfl hl (by decide) rfl (fun ls hl => ?_)
  have hcut_2 : ∀ (nn_2 : Nat) (j : Nat) (rk : Int64) (ga : Nat → va_E) (h_b : ga kb = .inr (0, [.int pb, .int qb, .int res, .int (nI b.2.2.1), .int cmp, .ref (Z.2.1 (kb + 1)), .ref (Z.2.1 (kb + 2))])) (h_d : ga (kb + 1) = .inl (Z.2.2.2 0, 12, .inl dg)) (h_c : ga (kb + 2) = .inl (Z.2.2.2 0, 10, .inl ch)) (h_w : ga k = .inr (8, [.ref (Z.2.1 kb), .ref (Z.2.1 (k + 1)), .ref (Z.2.1 (k + 2)), .ref (Z.2.1 (k + 3)), .int v1, .int v2, .long rk])) (h_l : ga (k + 1) = .inl (Z.2.2.2 0, 13, .inl lw)) (h_h : ga (k + 2) = .inl (Z.2.2.2 0, 13, .inl hw)) (h_t : ga (k + 3) = .inl (Z.2.2.2 1, 533, .inr (.inl tb))) (hfr_ga : z_fr k 4 g ga) (hj : j ≤ b.2.2.1) (hrk : 0 ≤ rk.toInt ∧ rk.toInt < zsum (zwb b L v2.toInt) b.2.2.1 - zsum (zwb b L v2.toInt) j) (hse : (zsel (zwb b L v2.toInt) b.2.2.1 0 v3.toInt) = zsel (zwb b L v2.toInt) (b.2.2.1 - j) j rk.toInt) (hm_2 : b.2.2.1 - j < nn_2) (H : Heap) (locs : List Loc) (ls : Array Slot), z_S Z (z_A Z sz) s.heap ga H locs → lv_has ls 5 [(0, .ref (Z.2.1 k)), (1, .int (nI l1)), (2, .int (nI j))] → W p l e (headSpec wsX8_takeDigit (z_rm 4 90)).room s m args below meth c H locs 0 0 (MQ below (va_Qi (fun r g1 => (∃ v4 : Int64, v4.toInt = (zsel (zwb b L v2.toInt) b.2.2.1 0 v3.toInt).2 ∧ z_wy Z g1 k kb lo hi A v1 v2 v4) ∧ r.toInt = b.2.2.2 (zsel (zwb b L v2.toInt) b.2.2.1 0 v3.toInt).1 ∧ z_fr k 4 g g1) (z_B Z) (z_A Z sz)) args s 0 0 (z_A Z sz)) (F0 m 2 ls []) := by
    intro nn_2
    induction nn_2 with
    | zero => intro j rk ga h_b h_d h_c h_w h_l h_h h_t hfr_ga hj hrk hse hm_2 H locs ls hS hl; exact absurd hm_2 (Nat.not_lt_zero _)
    | succ nn_2 ih_2 =>
      intro j rk ga h_b h_d h_c h_w h_l h_h h_t hfr_ga hj hrk hse hm_2 H locs ls hS hl
      have hYa : z_wy Z ga k kb lo hi A v1 v2 rk := ⟨lw, hw, tb, ⟨h_w, h_l, h_h, h_t, hkM, hsep⟩, hwb, hlh, hA⟩
      refine lv_iload_n hx hb dX8_takeDigit_2 rfl (lv_at hl 2 rfl) ?_
      refine lv_aload_n hx hb dX8_takeDigit_3 rfl (lv_at hl 0 rfl) ?_
      refine z_get (own := RX8) (C := RX8) (T := TX8) (N := 7) hx hb hts in_X8_takeDigit_8 hown hK hS h_w hkw rfl 0 (by decide) (List.mem_of_getElem? (i := 1) rfl) rfl rfl dX8_takeDigit_4 ?_
      refine z_getN (own := RX8) (C := RX0) (T := TX0) (N := 7) hx hb hts in_X8_takeDigit_0 hown hK hS h_b hk0 rfl 3 (by decide) 27 rfl rfl rfl dX8_takeDigit_7 ?_
      refine lv_icmp_ge (tgt := 65) hx hb dX8_takeDigit_10 (by decide) (fun c_1 => ?_) (fun c_1 => ?_)
      · have i_1 := z_le c_1
        rw [nI_toInt (by omega)] at i_1
        rw [nI_toInt (by omega)] at i_1
        have hjn : j = b.2.2.1 := by omega
        subst hjn
        exfalso; omega
      · have i_1 := z_nle c_1
        rw [nI_toInt (by omega)] at i_1
        rw [nI_toInt (by omega)] at i_1
        refine lv_aload_n hx hb dX8_takeDigit_13 rfl (lv_at hl 0 rfl) ?_
        refine lv_iload_n hx hb dX8_takeDigit_14 rfl (lv_at hl 1 rfl) ?_
        refine lv_aload_n hx hb dX8_takeDigit_15 rfl (lv_at hl 0 rfl) ?_
        refine z_get (own := RX8) (C := RX8) (T := TX8) (N := 7) hx hb hts in_X8_takeDigit_8 hown hK hS h_w hkw rfl 5 (by decide) (List.mem_of_getElem? (i := 2) rfl) rfl rfl dX8_takeDigit_16 ?_
        refine lv_aload_n hx hb dX8_takeDigit_19 rfl (lv_at hl 0 rfl) ?_
        refine z_get (own := RX8) (C := RX8) (T := TX8) (N := 7) hx hb hts in_X8_takeDigit_8 hown hK hS h_w hkw rfl 0 (by decide) (List.mem_of_getElem? (i := 1) rfl) rfl rfl dX8_takeDigit_20 ?_
        refine lv_iload_n hx hb dX8_takeDigit_23 rfl (lv_at hl 2 rfl) ?_
        refine z_calli (z_runVN (As := [.int (nI j)]) (rest := [.int v2, .int (nI l1), .ref (Z.2.1 k)]) (C := RX0) ⟨hx, hb, hml, hown, hts⟩ hK hS ((k_listed Z ga kb b ⟨pb, qb, res, cmp, dg, ch, h_b, h_d, h_c, hkN, hok, hp, hq, hres, hdg⟩ j (by omega)) l _) gX8_takeDigit_X0_listed_n74 rfl 1 58 rfl (List.mem_of_getElem? (i := 6) rfl) (List.mem_of_getElem? (i := 5) rfl) (List.mem_of_getElem? (i := 7) rfl) (by decide +kernel) ⟨Nat.le_of_ble_eq_true rfl, Nat.le_of_ble_eq_true rfl⟩ h_b hk0 rfl rfl hl.1 rfl (Nat.le_of_ble_eq_true rfl) dX8_takeDigit_24 ⟨Nat.le_of_ble_eq_true rfl, Nat.le_of_ble_eq_true rfl⟩) hS (fun dd g_2 H locs hp_3 hS => ?_)
        obtain ⟨rfl, hp_3⟩ := hp_3
        have hdd := hp_3
        have hddb := hok.2.2.2.2 j (by omega)
        refine z_calll (z_runV (As := [.int (nI l1), .int v2, .int dd]) (rest := []) ⟨hx, hb, hml, hown, hts⟩ hK hS ((k_rowsBehind Z ga k kb b lo hi A v1 v2 rk hYa ⟨pb, qb, res, cmp, dg, ch, h_b, h_d, h_c, hkN, hok, hp, hq, hres, hdg⟩ l1 (by omega) v2 hx2 dd (by omega)) l _) gX8_takeDigit_X8_rowsBehind rfl 3 (by decide +kernel) ⟨Nat.le_of_ble_eq_true rfl, Nat.le_of_ble_eq_true rfl⟩ h_w hkw rfl rfl hl.1 rfl (Nat.le_of_ble_eq_true rfl) dX8_takeDigit_27 ⟨Nat.le_of_ble_eq_true rfl, Nat.le_of_ble_eq_true rfl⟩) hS (fun rr g_4 H locs hp_5 hS => ?_)
        obtain ⟨rfl, hp_5⟩ := hp_5
        have hrr : rr.toInt = zwb b L v2.toInt j := by
          rw [hp_5, hdd]; unfold zwb
          by_cases h9 : b.1 ∣ (b.2.1 * v2.toInt - b.2.2.2 j)
          · rw [if_pos h9, if_pos h9]; exact hAr j (by omega) h9
          · rw [if_neg h9, if_neg h9]
        have hzs : zsum (zwb b L v2.toInt) (j + 1) = zsum (zwb b L v2.toInt) j + zwb b L v2.toInt j := rfl
        have hwj := hwbd j (by omega)
        have hsb := zsum_bd (f := zwb b L v2.toInt) (n := j) (fun i hi9 => hwbd i (by omega))
        have hcl := z_cmpL (x := rk) (y := rr)
        refine lv_lstore_n (lv' := [(3, .long rr), (0, .ref (Z.2.1 k)), (1, .int (nI l1)), (2, .int (nI j))]) hx hb dX8_takeDigit_30 rfl hl (by decide) rfl (fun ls hl => ?_)
        refine lv_aload_n hx hb dX8_takeDigit_31 rfl (lv_at hl 1 rfl) ?_
        refine z_get (own := RX8) (C := RX8) (T := TX8) (N := 7) hx hb hts in_X8_takeDigit_8 hown hK hS h_w hkw rfl 6 (by decide) (List.mem_of_getElem? (i := 3) rfl) rfl rfl dX8_takeDigit_32 ?_
        refine lv_lload_n hx hb dX8_takeDigit_35 rfl (lv_at hl 0 rfl) ?_
        refine W.lcmp hx hb dX8_takeDigit_36 ?_
        refine lv_if_ge (tgt := 49) hx hb dX8_takeDigit_37 (by decide) (fun c_6 => ?_) (fun c_6 => ?_)
        · have i_6 := z_le c_6
          rw [tI_0] at i_6
          have hge : ¬ rk.toInt < zwb b L v2.toInt j := by rw [← hrr]; omega
          refine lv_aload_n hx hb dX8_takeDigit_49 rfl (lv_at hl 1 rfl) ?_
          refine lv_dup hx hb dX8_takeDigit_50 rfl ?_
          refine z_get (own := RX8) (C := RX8) (T := TX8) (N := 7) hx hb hts in_X8_takeDigit_8 hown hK hS h_w hkw rfl 6 (by decide) (List.mem_of_getElem? (i := 3) rfl) rfl rfl dX8_takeDigit_51 ?_
          refine lv_lload_n hx hb dX8_takeDigit_54 rfl (lv_at hl 0 rfl) ?_
          refine lv_lsub hx hb dX8_takeDigit_55 ?_
          refine lv_topl (fun rk2 erk2 => ?_)
          have hrk2 : rk2.toInt = rk.toInt - zwb b L v2.toInt j := by rw [erk2, fb_subL (by omega) (by omega), hrr]
          refine z_put (fs' := [.ref (Z.2.1 kb), .ref (Z.2.1 (k + 1)), .ref (Z.2.1 (k + 2)), .ref (Z.2.1 (k + 3)), .int v1, .int v2, .long rk2]) (own := RX8) (C := RX8) (T := TX8) (N := 7) hx hb hts in_X8_takeDigit_8 tyX8 tyX8_ok nmX8 hown hK hS h_w hkw rfl 6 (by decide) (List.mem_of_getElem? (i := 3) rfl) rfl rfl rfl rfl (Nat.le_of_ble_eq_true rfl) rfl dX8_takeDigit_56 (fun g_7 H locs hg_7 hS => ?_)
          have h_w : g_7 k = .inr (8, [.ref (Z.2.1 kb), .ref (Z.2.1 (k + 1)), .ref (Z.2.1 (k + 2)), .ref (Z.2.1 (k + 3)), .int v1, .int v2, .long rk2]) := z_up_s hg_7
          have h_b := z_up_n hg_7 h_b (by omega)
          have h_d := z_up_n hg_7 h_d (by omega)
          have h_c := z_up_n hg_7 h_c (by omega)
          have h_l := z_up_n hg_7 h_l (by omega)
          have h_h := z_up_n hg_7 h_h (by omega)
          have h_t := z_up_n hg_7 h_t (by omega)
          refine lv_iinc (v := (nI (j + 1))) (lv' := [(2, .int (nI (j + 1))), (3, .long rr), (0, .ref (Z.2.1 k)), (1, .int (nI l1))]) hx hb dX8_takeDigit_59 hl (k := 3) rfl (nI_1 _) (by decide) rfl (fun ls hl => ?_)
          refine lv_goto (tgt := 2) hx hb dX8_takeDigit_62 (by decide) ?_
          exact ih_2 (j + 1) rk2 g_7 h_b h_d h_c h_w h_l h_h h_t (hfr_ga.up hg_7 (by omega)) (by omega) (by rw [hrk2, hzs]; omega) (by
              rw [hse, show b.2.2.1 - j = (b.2.2.1 - (j + 1)) + 1 by omega, hrk2]
              conv =>
                lhs
                unfold zsel
              rw [if_neg hge]) (by omega) _ _ _ hS (lv_sub hl [2, 3, 0] rfl)
        · have i_6 := z_nle c_6
          rw [tI_0] at i_6
          have hlt9 : rk.toInt < zwb b L v2.toInt j := by rw [← hrr]; omega
          have hse2 : (zsel (zwb b L v2.toInt) b.2.2.1 0 v3.toInt) = (j, rk.toInt) := by
            rw [hse, show b.2.2.1 - j = (b.2.2.1 - (j + 1)) + 1 by omega]
            unfold zsel
            rw [if_pos hlt9]
          refine lv_aload_n hx hb dX8_takeDigit_40 rfl (lv_at hl 1 rfl) ?_
          refine z_get (own := RX8) (C := RX8) (T := TX8) (N := 7) hx hb hts in_X8_takeDigit_8 hown hK hS h_w hkw rfl 0 (by decide) (List.mem_of_getElem? (i := 1) rfl) rfl rfl dX8_takeDigit_41 ?_
          refine lv_iload_n hx hb dX8_takeDigit_44 rfl (lv_at hl 3 rfl) ?_
          refine z_calli (z_runVN (As := [.int (nI j)]) (rest := []) (C := RX0) ⟨hx, hb, hml, hown, hts⟩ hK hS ((k_listed Z ga kb b ⟨pb, qb, res, cmp, dg, ch, h_b, h_d, h_c, hkN, hok, hp, hq, hres, hdg⟩ j (by omega)) l _) gX8_takeDigit_X0_listed_n74 rfl 1 58 rfl (List.mem_of_getElem? (i := 6) rfl) (List.mem_of_getElem? (i := 5) rfl) (List.mem_of_getElem? (i := 7) rfl) (by decide +kernel) ⟨Nat.le_of_ble_eq_true rfl, Nat.le_of_ble_eq_true rfl⟩ h_b hk0 rfl rfl hl.1 rfl (Nat.le_of_ble_eq_true rfl) dX8_takeDigit_45 ⟨Nat.le_of_ble_eq_true rfl, Nat.le_of_ble_eq_true rfl⟩) hS (fun de g_8 H locs hp_9 hS => ?_)
          obtain ⟨rfl, hp_9⟩ := hp_9
          have hde := hp_9
          refine z_iret hx hb hr hlocks hS ?_ dX8_takeDigit_48
          exact ⟨⟨rk, by rw [hse2], hYa⟩, by rw [hse2]; exact hde, hfr_ga⟩
  exact hcut_2 (b.2.2.1 - 0 + 1) 0 v3 g h_b h_d h_c h_w h_l h_h h_t z_fr.rf (by omega) (by show _ ∧ _ < _ - (0 : Int); omega) rfl (Nat.lt_succ_self _) _ _ _ hS (lv_sub hl [1, 2, 0] rfl)

theorem in_X8_entryOfRow_0 : ∀ w ∈ wsX00, w ∈ wsX8_entryOfRow := by decide +kernel
theorem in_X8_entryOfRow_8 : ∀ w ∈ wsX80, w ∈ wsX8_entryOfRow := by decide +kernel
set_option maxHeartbeats 4000000 in
set_option maxRecDepth 100000 in
theorem k_entryOfRow (Z : zT) (g : Nat → va_E) (k kb : Nat) (b : zb) (lo hi : Nat → Int) (A : Nat → Int → Int) (v2 : Int32) (v3 : Int64) (len : Nat) (hlen : len ≤ 12) (hY : z_wy Z g k kb lo hi A (nI len) v2 v3) (hB : z_b0 Z g kb b) (x : Int32) (hx5 : -100000 ≤ x.toInt ∧ x.toInt ≤ 100000) (hbd : zbd b x.toInt lo hi) (hAl : ∀ l, l ≤ len → zrow lo hi A l (zwy b (len - l))) (r0 : Nat) (hr0 : (r0 : Int) < zwy b len x.toInt) (hr1 : r0 < 1000000) (e0 : Nat) (he0 : e0 < len) : z_Mi Z yX8_entryOfRow wsX8_entryOfRow 5 114 [.ref (Z.2.1 k), .int x, .int (nI r0), .int (nI e0)] g (fun r g1 => (∃ v4 v5, z_wy Z g1 k kb lo hi A (nI len) v4 v5) ∧ r.toInt = zexd b len x.toInt r0 e0 ∧ z_fr k 4 g g1) := by
  intro l sz
  obtain ⟨pb, qb, res, cmp, dg, ch, h_b, h_d, h_c, hkN, hok, hp, hq, hres, hdg⟩ := id hB
  have hk0 : kb < Z.1 := by omega
  have hk1 : kb + 1 < Z.1 := by omega
  have hk2 : kb + 2 < Z.1 := by omega
  have hn12 := hok.2.2.2.1
  have hPb := zP_bd hok
  have hq1 := hok.2.1
  have hp2 := hok.1
  obtain ⟨lw, hw, tb, hO, hwb, hlh, hA⟩ := id hY
  obtain ⟨h_w, h_l, h_h, h_t, hkM, hsep⟩ := id hO
  have hkw : k < Z.1 := by omega
  have hkw1 : k + 1 < Z.1 := by omega
  have hkw2 : k + 2 < Z.1 := by omega
  have hkw3 : k + 3 < Z.1 := by omega
  
  refine z_enter (maxL := 6) (ret := (some .int)) (lv := [(0, .ref (Z.2.1 k)), (1, .int x), (2, .int (nI r0)), (3, .int (nI e0))]) (plainFor_of_name (by decide +kernel)) rfl (fun ls h => by subst h; exact lv_entry [.ref (Z.2.1 k), .int x, .int (nI r0), .int (nI e0)] (n := 6) (Nat.le_of_ble_eq_true rfl)) ?_
  intro p e s m args below meth c hx hb hml hr hlocks hown hts hK hS hsz ls hl
  refine lv_aload_n hx hb dX8_entryOfRow_0 rfl (lv_at hl 0 rfl) ?_
  refine lv_iload_n hx hb dX8_entryOfRow_1 rfl (lv_at hl 1 rfl) ?_
  refine z_put (fs' := [.ref (Z.2.1 kb), .ref (Z.2.1 (k + 1)), .ref (Z.2.1 (k + 2)), .ref (Z.2.1 (k + 3)), .int (nI len), .int x, .long v3]) (own := RX8) (C := RX8) (T := TX8) (N := 7) hx hb hts in_X8_entryOfRow_8 tyX8 tyX8_ok nmX8 hown hK hS h_w hkw rfl 5 (by decide) (List.mem_of_getElem? (i := 1) rfl) rfl rfl rfl rfl (Nat.le_of_ble_eq_true rfl) rfl dX8_entryOfRow_2 (fun g_1 H locs hg_1 hS => ?_)
  have h_w : g_1 k = .inr (8, [.ref (Z.2.1 kb), .ref (Z.2.1 (k + 1)), .ref (Z.2.1 (k + 2)), .ref (Z.2.1 (k + 3)), .int (nI len), .int x, .long v3]) := z_up_s hg_1
  have h_b := z_up_n hg_1 h_b (by omega)
  have h_d := z_up_n hg_1 h_d (by omega)
  have h_c := z_up_n hg_1 h_c (by omega)
  have h_l := z_up_n hg_1 h_l (by omega)
  have h_h := z_up_n hg_1 h_h (by omega)
  have h_t := z_up_n hg_1 h_t (by omega)
  refine lv_aload_n hx hb dX8_entryOfRow_5 rfl (lv_at hl 0 rfl) ?_
  refine lv_iload_n hx hb dX8_entryOfRow_6 rfl (lv_at hl 2 rfl) ?_
  refine lv_i2l hx hb dX8_entryOfRow_7 rfl ?_
  refine lv_topl (fun rk0 erk0 => ?_)
  have hrk0 : rk0.toInt = (r0 : Int) := by rw [erk0, Int32.toInt_toInt64, nI_toInt (by omega)]
  refine z_put (fs' := [.ref (Z.2.1 kb), .ref (Z.2.1 (k + 1)), .ref (Z.2.1 (k + 2)), .ref (Z.2.1 (k + 3)), .int (nI len), .int x, .long rk0]) (own := RX8) (C := RX8) (T := TX8) (N := 7) hx hb hts in_X8_entryOfRow_8 tyX8 tyX8_ok nmX8 hown hK hS h_w hkw rfl 6 (by decide) (List.mem_of_getElem? (i := 2) rfl) rfl rfl rfl rfl (Nat.le_of_ble_eq_true rfl) rfl dX8_entryOfRow_8 (fun g_2 H locs hg_2 hS => ?_)
  have h_w : g_2 k = .inr (8, [.ref (Z.2.1 kb), .ref (Z.2.1 (k + 1)), .ref (Z.2.1 (k + 2)), .ref (Z.2.1 (k + 3)), .int (nI len), .int x, .long rk0]) := z_up_s hg_2
  have h_b := z_up_n hg_2 h_b (by omega)
  have h_d := z_up_n hg_2 h_d (by omega)
  have h_c := z_up_n hg_2 h_c (by omega)
  have h_l := z_up_n hg_2 h_l (by omega)
  have h_h := z_up_n hg_2 h_h (by omega)
  have h_t := z_up_n hg_2 h_t (by omega)
  refine lv_ldc (v := (-1000006)) hx hb hown (hts _ (List.mem_of_getElem? (i := 3) rfl)) dX8_entryOfRow_11 ?_
  refine lv_istore (lv' := [(4, .int (-1000006)), (0, .ref (Z.2.1 k)), (1, .int x), (2, .int (nI r0)), (3, .int (nI e0))]) hx hb dX8_entryOfRow_13 hl (by decide) rfl (fun ls hl => ?_)
  refine lv_iconst (v := 0) hx hb dX8_entryOfRow_15 (by decide) ?_
  refine lv_istore (lv' := [(5, .int 0), (4, .int (-1000006)), (0, .ref (Z.2.1 k)), (1, .int x), (2, .int (nI r0)), (3, .int (nI e0))]) hx hb dX8_entryOfRow_16 hl (by decide) rfl (fun ls hl => ?_)
  have hcut_18 : ∀ (nn_18 : Nat) (j : Nat) (V : Int32) (rk : Int64) (dgt : Int32) (ga : Nat → va_E) (h_b : ga kb = .inr (0, [.int pb, .int qb, .int res, .int (nI b.2.2.1), .int cmp, .ref (Z.2.1 (kb + 1)), .ref (Z.2.1 (kb + 2))])) (h_d : ga (kb + 1) = .inl (Z.2.2.2 0, 12, .inl dg)) (h_c : ga (kb + 2) = .inl (Z.2.2.2 0, 10, .inl ch)) (h_w : ga k = .inr (8, [.ref (Z.2.1 kb), .ref (Z.2.1 (k + 1)), .ref (Z.2.1 (k + 2)), .ref (Z.2.1 (k + 3)), .int (nI len), .int V, .long rk])) (hfr_ga : z_fr k 4 g ga) (hj : j ≤ e0 + 1) (hYa : z_wy Z ga k kb lo hi A (nI len) V rk) (hst : j ≤ e0 → zexd b len x.toInt r0 e0 = zexd b (len - j) V.toInt rk.toInt (e0 - j) ∧ 0 ≤ rk.toInt ∧ rk.toInt < zwy b (len - j) V.toInt ∧ lo j ≤ V.toInt ∧ V.toInt ≤ hi j) (hfin : j = e0 + 1 → dgt.toInt = zexd b len x.toInt r0 e0) (hm_18 : 14 - j < nn_18) (H : Heap) (locs : List Loc) (ls : Array Slot), z_S Z (z_A Z sz) s.heap ga H locs → lv_has ls 6 [(0, .ref (Z.2.1 k)), (1, .int x), (2, .int (nI r0)), (3, .int (nI e0)), (4, .int dgt), (5, .int (nI j))] → W p l e (headSpec wsX8_entryOfRow (z_rm 5 114)).room s m args below meth c H locs 0 0 (MQ below (va_Qi (fun r g1 => (∃ v4 v5, z_wy Z g1 k kb lo hi A (nI len) v4 v5) ∧ r.toInt = zexd b len x.toInt r0 e0 ∧ z_fr k 4 g g1) (z_B Z) (z_A Z sz)) args s 0 0 (z_A Z sz)) (F0 m 18 ls []) := by
    intro nn_18
    induction nn_18 with
    | zero => intro j V rk dgt ga h_b h_d h_c h_w hfr_ga hj hYa hst hfin hm_18 H locs ls hS hl; exact absurd hm_18 (Nat.not_lt_zero _)
    | succ nn_18 ih_18 =>
      intro j V rk dgt ga h_b h_d h_c h_w hfr_ga hj hYa hst hfin hm_18 H locs ls hS hl
      refine lv_iload hx hb dX8_entryOfRow_18 (lv_at hl 5 rfl) ?_
      refine lv_iload_n hx hb dX8_entryOfRow_20 rfl (lv_at hl 3 rfl) ?_
      refine lv_icmp_gt (tgt := 73) hx hb dX8_entryOfRow_21 (by decide) (fun c_3 => ?_) (fun c_3 => ?_)
      · have i_3 := z_lt c_3
        rw [nI_toInt (by omega)] at i_3
        rw [nI_toInt (by omega)] at i_3
        have hje : j = e0 + 1 := by omega
        refine lv_iload hx hb dX8_entryOfRow_73 (lv_at hl 4 rfl) ?_
        refine z_iret hx hb hr hlocks hS ?_ dX8_entryOfRow_75
        exact ⟨⟨V, rk, hYa⟩, hfin (by omega), hfr_ga⟩
      · have i_3 := z_nlt c_3
        rw [nI_toInt (by omega)] at i_3
        rw [nI_toInt (by omega)] at i_3
        have hs1 := hst (by omega)
        obtain ⟨lw7, hw7, tb7, hO7, hwb7, -, -⟩ := id hYa
        have hwj := hwb7 j (by omega)
        refine lv_iload hx hb dX8_entryOfRow_24 (lv_at hl 5 rfl) ?_
        refine lv_aload_n hx hb dX8_entryOfRow_26 rfl (lv_at hl 0 rfl) ?_
        refine z_get (own := RX8) (C := RX8) (T := TX8) (N := 7) hx hb hts in_X8_entryOfRow_8 hown hK hS h_w hkw rfl 4 (by decide) (List.mem_of_getElem? (i := 4) rfl) rfl rfl dX8_entryOfRow_27 ?_
        refine lv_icmp_ge (tgt := 73) hx hb dX8_entryOfRow_30 (by decide) (fun c_4 => ?_) (fun c_4 => ?_)
        · have i_4 := z_le c_4
          rw [nI_toInt (by omega)] at i_4
          rw [nI_toInt (by omega)] at i_4
          exfalso; omega
        · have i_4 := z_nle c_4
          rw [nI_toInt (by omega)] at i_4
          rw [nI_toInt (by omega)] at i_4
          refine lv_aload_n hx hb dX8_entryOfRow_33 rfl (lv_at hl 0 rfl) ?_
          refine lv_iload hx hb dX8_entryOfRow_34 (lv_at hl 5 rfl) ?_
          refine z_calli (z_runV (As := [.int (nI j)]) (rest := []) ⟨hx, hb, hml, hown, hts⟩ hK hS ((k_takeDigit Z ga k kb b lo hi A (nI len) V rk hYa ⟨pb, qb, res, cmp, dg, ch, h_b, h_d, h_c, hkN, hok, hp, hq, hres, hdg⟩ j (by omega) (len - (j + 1)) (by omega) (by omega) ⟨hs1.2.1, by rw [show len - (j + 1) + 1 = len - j by omega]; exact hs1.2.2.1⟩ (fun i h8 h9 => by
            have h7 := hbd.2.2 j (by omega) V.toInt hs1.2.2.2.1 hs1.2.2.2.2 i h8 h9
            exact hAl (j + 1) (by omega) _ h7.1 h7.2)) l _) gX8_entryOfRow_X8_takeDigit rfl 1 (by decide +kernel) ⟨Nat.le_of_ble_eq_true rfl, Nat.le_of_ble_eq_true rfl⟩ h_w hkw rfl rfl hl.1 rfl (Nat.le_of_ble_eq_true rfl) dX8_entryOfRow_36 ⟨Nat.le_of_ble_eq_true rfl, Nat.le_of_ble_eq_true rfl⟩) hS (fun dg2 g_5 H locs hp_6 hS => ?_)
          obtain ⟨⟨v4, hv4, hY7⟩, hdg2, hfr_7⟩ := hp_6
          have h_b := (hfr_7 _ (by omega)).trans h_b
          have h_d := (hfr_7 _ (by omega)).trans h_d
          have h_c := (hfr_7 _ (by omega)).trans h_c
          obtain ⟨lw6, hw6, tb6, ⟨h_w, h_l, h_h, h_t, hkM6, hsep6⟩, hwb6, hlh6, hA6⟩ := id hY7
          have hso := zsel_ok (f := zwb b (len - (j + 1)) V.toInt) (n := b.2.2.1) (i := 0) (r := rk.toInt) hs1.2.1 (by rw [Nat.zero_add, ← zwy_succ, show len - (j + 1) + 1 = len - j by omega]; show _ < _ - (0 : Int); omega)
          rw [Nat.zero_add] at hso
          generalize hs9 : zsel (zwb b (len - (j + 1)) V.toInt) b.2.2.1 0 rk.toInt = s9 at hso hdg2 hv4
          have hdv : b.1 ∣ (b.2.1 * V.toInt - b.2.2.2 s9.1) := by
            by_cases h9 : b.1 ∣ (b.2.1 * V.toInt - b.2.2.2 s9.1)
            · exact h9
            · exfalso
              have h8 := hso.2
              unfold zwb at h8
              rw [if_neg h9] at h8; omega
          have hnb := hbd.2.2 j (by omega) V.toInt hs1.2.2.2.1 hs1.2.2.2.2 s9.1 hso.1 hdv
          have hdb := hok.2.2.2.2 s9.1 hso.1
          have hm1 := z_mul_bd (x := b.2.1) (y := V.toInt) (a := 9) (b := 200000) (by omega) (by omega) (by omega) (by omega)
          have hqV : (qb * V).toInt = b.2.1 * V.toInt := by rw [fb_mulI (by rw [hq]; omega) (by rw [hq]; omega), hq]
          have hqd : (qb * V - dg2).toInt = b.2.1 * V.toInt - b.2.2.2 s9.1 := by rw [fb_subI (by omega) (by omega), hqV, hdg2]
          refine lv_istore (lv' := [(4, .int dg2), (0, .ref (Z.2.1 k)), (1, .int x), (2, .int (nI r0)), (3, .int (nI e0)), (5, .int (nI j))]) hx hb dX8_entryOfRow_39 hl (by decide) rfl (fun ls hl => ?_)
          refine lv_aload_n hx hb dX8_entryOfRow_41 rfl (lv_at hl 1 rfl) ?_
          refine lv_aload_n hx hb dX8_entryOfRow_42 rfl (lv_at hl 1 rfl) ?_
          refine z_get (own := RX8) (C := RX8) (T := TX8) (N := 7) hx hb hts in_X8_entryOfRow_8 hown hK hS h_w hkw rfl 0 (by decide) (List.mem_of_getElem? (i := 5) rfl) rfl rfl dX8_entryOfRow_43 ?_
          refine lv_aload_n hx hb dX8_entryOfRow_46 rfl (lv_at hl 1 rfl) ?_
          refine z_get (own := RX8) (C := RX8) (T := TX8) (N := 7) hx hb hts in_X8_entryOfRow_8 hown hK hS h_w hkw rfl 0 (by decide) (List.mem_of_getElem? (i := 5) rfl) rfl rfl dX8_entryOfRow_47 ?_
          refine z_getN (own := RX8) (C := RX0) (T := TX0) (N := 7) hx hb hts in_X8_entryOfRow_0 hown hK hS h_b hk0 rfl 1 (by decide) 26 rfl rfl rfl dX8_entryOfRow_50 ?_
          refine lv_aload_n hx hb dX8_entryOfRow_53 rfl (lv_at hl 1 rfl) ?_
          refine z_get (own := RX8) (C := RX8) (T := TX8) (N := 7) hx hb hts in_X8_entryOfRow_8 hown hK hS h_w hkw rfl 5 (by decide) (List.mem_of_getElem? (i := 1) rfl) rfl rfl dX8_entryOfRow_54 ?_
          refine lv_imul hx hb dX8_entryOfRow_57 ?_
          refine lv_iload hx hb dX8_entryOfRow_58 (lv_at hl 0 rfl) ?_
          refine lv_isub hx hb dX8_entryOfRow_60 ?_
          refine z_calli (z_runVN (As := [.int ((qb * V) - dg2)]) (rest := [.ref (Z.2.1 k)]) (C := RX0) ⟨hx, hb, hml, hown, hts⟩ hK hS ((k_quotient Z g_5 kb b ⟨pb, qb, res, cmp, dg, ch, h_b, h_d, h_c, hkN, hok, hp, hq, hres, hdg⟩ (qb * V - dg2)) l _) gX8_entryOfRow_X0_quotient_n68 rfl 1 57 rfl (List.mem_of_getElem? (i := 12) rfl) (List.mem_of_getElem? (i := 24) rfl) (List.mem_of_getElem? (i := 25) rfl) (by decide +kernel) ⟨Nat.le_of_ble_eq_true rfl, Nat.le_of_ble_eq_true rfl⟩ h_b hk0 rfl rfl hl.1 rfl (Nat.le_of_ble_eq_true rfl) dX8_entryOfRow_61 ⟨Nat.le_of_ble_eq_true rfl, Nat.le_of_ble_eq_true rfl⟩) hS (fun V2 g_8 H locs hp_9 hS => ?_)
          obtain ⟨rfl, hp_9⟩ := hp_9
          have hV2 : V2.toInt = (b.2.1 * V.toInt - b.2.2.2 s9.1).tdiv b.1 := by rw [hp_9, hqd]
          refine z_put (fs' := [.ref (Z.2.1 kb), .ref (Z.2.1 (k + 1)), .ref (Z.2.1 (k + 2)), .ref (Z.2.1 (k + 3)), .int (nI len), .int V2, .long v4]) (own := RX8) (C := RX8) (T := TX8) (N := 7) hx hb hts in_X8_entryOfRow_8 tyX8 tyX8_ok nmX8 hown hK hS h_w hkw rfl 5 (by decide) (List.mem_of_getElem? (i := 1) rfl) rfl rfl rfl rfl (Nat.le_of_ble_eq_true rfl) rfl dX8_entryOfRow_64 (fun g_10 H locs hg_10 hS => ?_)
          have h_w : g_10 k = .inr (8, [.ref (Z.2.1 kb), .ref (Z.2.1 (k + 1)), .ref (Z.2.1 (k + 2)), .ref (Z.2.1 (k + 3)), .int (nI len), .int V2, .long v4]) := z_up_s hg_10
          have h_b := z_up_n hg_10 h_b (by omega)
          have h_d := z_up_n hg_10 h_d (by omega)
          have h_c := z_up_n hg_10 h_c (by omega)
          have hY8 : z_wy Z g_10 k kb lo hi A (nI len) V2 v4 := ⟨lw6, hw6, tb6, ⟨h_w, (z_up_o hg_10 (by omega)).trans h_l, (z_up_o hg_10 (by omega)).trans h_h, (z_up_o hg_10 (by omega)).trans h_t, hkM6, hsep6⟩, hwb6, hlh6, hA6⟩
          subst hs9
          refine lv_iinc (v := (nI (j + 1))) (lv' := [(5, .int (nI (j + 1))), (4, .int dg2), (0, .ref (Z.2.1 k)), (1, .int x), (2, .int (nI r0)), (3, .int (nI e0))]) hx hb dX8_entryOfRow_67 hl (k := 5) rfl (nI_1 _) (by decide) rfl (fun ls hl => ?_)
          refine lv_goto (tgt := 18) hx hb dX8_entryOfRow_70 (by decide) ?_
          exact ih_18 (j + 1) V2 v4 dg2 g_10 h_b h_d h_c h_w ((hfr_ga.tr (hfr_7.wide (by omega) (by omega))).up hg_10 (by omega)) (by omega) hY8 (fun h9 => ⟨by rw [hs1.1, show len - j = (len - (j + 1)) + 1 by omega, show e0 - j = (e0 - (j + 1)) + 1 by omega, hV2, hv4]; rfl, by rw [hv4]; exact hso.2.1, by
              rw [hv4, hV2]
              refine Int.lt_of_lt_of_le hso.2.2 (Int.le_of_eq (zwb_pos hdv)), by rw [hV2]; exact hnb.1, by rw [hV2]; exact hnb.2⟩) (fun h9 => by rw [hdg2, hs1.1, show len - j = (len - (j + 1)) + 1 by omega, show e0 - j = 0 by omega]; rfl) (by omega) _ _ _ hS (lv_sub hl [2, 3, 4, 5, 1, 0] rfl)
  exact hcut_18 (14 - 0 + 1) 0 x rk0 (-1000006) g_2 h_b h_d h_c h_w ((z_fr.rf.up hg_1 (by omega)).up hg_2 (by omega)) (by omega) ⟨lw, hw, tb, ⟨h_w, h_l, h_h, h_t, hkM, hsep⟩, hwb, hlh, hA⟩ (fun _ => ⟨by rw [hrk0]; rfl, by rw [hrk0]; omega, by rw [hrk0]; exact hr0, by rw [hbd.1]; omega, by rw [hbd.2.1]; omega⟩) (fun h => by omega) (Nat.lt_succ_self _) _ _ _ hS (lv_sub hl [2, 3, 4, 5, 1, 0] rfl)

