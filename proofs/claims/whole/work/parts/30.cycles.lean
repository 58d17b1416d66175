/-! cycles of the integers -/
def zct (c : Nat → Bool) : Nat → Nat
  | 0 => 0
  | n + 1 => zct c n + (if c n then 1 else 0)
theorem zct_mono (c : Nat → Bool) (i : Nat) : ∀ j, zct c i ≤ zct c (i + j)
  | 0 => Nat.le_refl _
  | j + 1 => by
    have := zct_mono c i j
    show zct c i ≤ zct c (i + j) + _
    omega
theorem zct_lt {c : Nat → Bool} {i n : Nat} (h : c i = true) (hi : i < n) : zct c i < zct c n := by
  have h1 := zct_mono c (i + 1) (n - (i + 1))
  rw [show i + 1 + (n - (i + 1)) = n by omega] at h1
  have h2 : zct c (i + 1) = zct c i + 1 := by show zct c i + (if c i then 1 else 0) = _; rw [h]; rfl
  omega
theorem zct_le (c : Nat → Bool) : ∀ n, zct c n ≤ n
  | 0 => Nat.le_refl 0
  | n + 1 => by
    have := zct_le c n
    show zct c n + _ ≤ _
    split <;> omega
theorem zct_false {c : Nat → Bool} (i : Nat) : ∀ {j : Nat}, (∀ t, i ≤ t → t < i + j → c t = false) → zct c (i + j) = zct c i
  | 0, _ => rfl
  | j + 1, h => by
    have h1 := zct_false i (j := j) (fun t h1 h2 => h t h1 (by omega))
    have h2 := h (i + j) (by omega) (by omega)
    show zct c (i + j) + (if c (i + j) then 1 else 0) = _
    rw [h2, h1]; rfl
theorem zct_one {c : Nat → Bool} {i j : Nat} (hi : c i = true) (hj : c j = true) (h : zct c i = zct c j) : i = j := by
  rcases Nat.lt_trichotomy i j with q | q | q
  · have := zct_lt hi q; omega
  · exact q
  · have := zct_lt hj q; omega
/-- x lies on a cycle and is its least -/
def zlc (f : Int → Int) (x : Int) : Prop := (∃ d, 0 < d ∧ zor f x d = x) ∧ ∀ i, x ≤ zor f x i
noncomputable def zlB (f : Int → Int) (t : Nat) : Bool := @decide (zlc f ((t : Int) - 25)) (Classical.propDecidable _)
theorem zlB_iff {f : Int → Int} {t : Nat} : zlB f t = true ↔ zlc f ((t : Int) - 25) := by
  unfold zlB
  exact @decide_eq_true_iff _ (Classical.propDecidable _)
theorem zst1_bd {b : zb} (hok : zb_ok b) (x : Int) : (-20 ≤ x ∧ x ≤ 20 → -20 ≤ zst b 1 x ∧ zst b 1 x ≤ 20) ∧ (20 < x.natAbs → (zst b 1 x).natAbs < x.natAbs) := by
  have hP := zP_bd hok
  have h1 := zsd_bd hok 1 x
  have h4 := hok.2.2.1
  have h5 := hok.2.1
  constructor
  · intro hx
    have h3 := z_mul_bd (x := b.2.1) (y := x) (a := b.2.1) (b := 20) (by omega) (by omega) (by omega) (by omega)
    exact z_tdiv_le hok (B := 20) (by omega)
  · intro hx
    have h3 := z_mul_bd (x := b.2.1) (y := x) (a := b.2.1) (b := (x.natAbs : Int)) (by omega) (by omega) (by omega) (by omega)
    have h6 : b.2.1 * (x.natAbs : Int) ≤ (zP b - 1) * (x.natAbs : Int) := Int.mul_le_mul_of_nonneg_right (by omega) (by omega)
    rw [Int.sub_mul, Int.one_mul] at h6
    have e : ((x.natAbs - 1 + 1) * (zP b).toNat : Nat) = x.natAbs * (zP b).toNat := by congr 1; omega
    have e2 : ((x.natAbs * (zP b).toNat : Nat) : Int) = zP b * (x.natAbs : Int) := by
      rw [Int.natCast_mul, Int.toNat_of_nonneg (by omega), Int.mul_comm]
    have := z_tdiv_le hok (x := b.2.1 * x - zsd b 1 x * 1) (B := x.natAbs - 1) (by rw [e]; omega)
    unfold zst
    omega
theorem zor20 {b : zb} (hok : zb_ok b) {x : Int} (hx : -20 ≤ x ∧ x ≤ 20) : ∀ i, -20 ≤ zor (zst b 1) x i ∧ zor (zst b 1) x i ≤ 20
  | 0 => hx
  | i + 1 => (zst1_bd hok _).1 (zor20 hok hx i)
theorem zor_abs {b : zb} (hok : zb_ok b) {x : Int} {B : Nat} (hB : 20 ≤ B) (hx : x.natAbs ≤ B) : ∀ i, (zor (zst b 1) x i).natAbs ≤ B
  | 0 => hx
  | i + 1 => by
    have ih := zor_abs hok hB hx i
    have h := zst1_bd hok (zor (zst b 1) x i)
    show (zst b 1 (zor (zst b 1) x i)).natAbs ≤ B
    rcases Nat.lt_or_ge 20 (zor (zst b 1) x i).natAbs with q | q
    · have := h.2 q; omega
    · have := h.1 (by omega); omega
theorem zcyc_bd {b : zb} (hok : zb_ok b) {x : Int} {d : Nat} (hd : 0 < d) (h : zor (zst b 1) x d = x) : -20 ≤ x ∧ x ≤ 20 := by
  rcases Nat.lt_or_ge 20 x.natAbs with q | q
  · exfalso
    have h1 := (zst1_bd hok x).2 q
    have h2 := zor_abs hok (x := zst b 1 x) (B := x.natAbs - 1) (by omega) (by omega) (d - 1)
    have e : zor (zst b 1) x (1 + (d - 1)) = zor (zst b 1) (zor (zst b 1) x 1) (d - 1) := zor_add _ _ 1 (d - 1)
    rw [show 1 + (d - 1) = d by omega, h] at e
    have e2 : zor (zst b 1) x 1 = zst b 1 x := rfl
    rw [e2] at e
    omega
  · omega
theorem zper20 {b : zb} (hok : zb_ok b) {x : Int} (hx : -20 ≤ x ∧ x ≤ 20) : ∃ mu la, zper (zor (zst b 1) x) mu la ∧ mu + la ≤ 41 := zper_ex (B := 20) (zor20 hok hx)
theorem zper_0 {f : Int → Int} {x : Int} {mu la d : Nat} (h : zper (zor f x) mu la) (hd : 0 < d) (e : zor f x d = x) : mu = 0 := by
  have := ((zper_iff h (i := 0) (j := d) hd).mp e.symm).1
  omega
theorem zlB_out {b : zb} (hok : zb_ok b) {t : Nat} (h : zlB (zst b 1) t = true) : 5 ≤ t ∧ t ≤ 45 := by
  obtain ⟨⟨d, hd, e⟩, -⟩ := zlB_iff.mp h
  have := zcyc_bd hok hd e
  omega
theorem zlB_f {b : zb} (hok : zb_ok b) {t : Nat} (h : t < 5 ∨ 45 < t) : zlB (zst b 1) t = false := by
  cases e : zlB (zst b 1) t
  · rfl
  · have := zlB_out hok e; omega
/-- an orbit that comes back, by its place in the round -/
theorem zper_mod {f : Int → Int} {x : Int} {la : Nat} (h : zper (zor f x) 0 la) (i : Nat) : zor f x i = zor f x (i % la) := by
  have := zper_red h (i := i) (Nat.zero_le i)
  rwa [Nat.sub_zero, Nat.zero_add] at this
/-- the least and the greatest of an orbit -/
def zol (f : Int → Int) (x y : Int) : Prop := (∃ i, y = zor f x i) ∧ ∀ i, y ≤ zor f x i
def zog (f : Int → Int) (x y : Int) : Prop := (∃ i, y = zor f x i) ∧ ∀ i, zor f x i ≤ y
theorem zol_one {f : Int → Int} {x y y2 : Int} (h : zol f x y) (h2 : zol f x y2) : y = y2 := by
  obtain ⟨⟨i, hi⟩, hl⟩ := h
  obtain ⟨⟨j, hj⟩, hm⟩ := h2
  have := hl j
  have := hm i
  omega
theorem zog_one {f : Int → Int} {x y y2 : Int} (h : zog f x y) (h2 : zog f x y2) : y = y2 := by
  obtain ⟨⟨i, hi⟩, hl⟩ := h
  obtain ⟨⟨j, hj⟩, hm⟩ := h2
  have := hl j
  have := hm i
  omega
theorem zlc_of {f : Int → Int} {x y : Int} {la : Nat} (h : zper (zor f x) 0 la) (hy : zol f x y) : zlc f y := by
  obtain ⟨⟨i, rfl⟩, hm⟩ := hy
  refine ⟨⟨la, h.1, ?_⟩, fun j => ?_⟩
  · rw [← zor_add]
    have := zper_back h (i := i) (Nat.zero_le i) 1
    rw [Nat.mul_one] at this; exact this
  · rw [← zor_add]; exact hm _
theorem zol_sub {f : Int → Int} {x y : Int} (hy : zol f x y) (i : Nat) {la : Nat} (h : zper (zor f x) 0 la) : zol f (zor f x i) y := by
  obtain ⟨⟨j, rfl⟩, hm⟩ := hy
  refine ⟨⟨j + la * i - i, ?_⟩, fun t => by rw [← zor_add]; exact hm _⟩
  have h1 := h.1
  have h2 : i ≤ la * i := Nat.le_mul_of_pos_left i h1
  rw [← zor_add, show i + (j + la * i - i) = j + la * i by omega]
  exact (zper_back h (i := j) (Nat.zero_le j) i).symm
theorem in_X3_isLeastOfCycle_3 : ∀ w ∈ wsX30, w ∈ wsX3_isLeastOfCycle := by decide +kernel
set_option maxHeartbeats 4000000 in
set_option maxRecDepth 100000 in
theorem k_isLeast (Z : zT) (g : Nat → va_E) (k kb : Nat) (b : zb) (hY : g k = .inr (3, [.ref (Z.2.1 kb)]) ∧ k < Z.1) (hB : z_b1 Z g kb b) (hcm : zcm b) (x : Int32) (hx2 : -20 ≤ x.toInt ∧ x.toInt ≤ 20) : z_Mi Z yX3_isLeastOfCycle wsX3_isLeastOfCycle 3 67 [.ref (Z.2.1 k), .int x] g (fun r g1 => g = g1 ∧ zbo r (zlc (zst b 1) x.toInt)) := by
  intro l sz
  obtain ⟨pb, qb, res, cmp, dg, ch, ⟨h_b, h_d, h_c, hkN, hok, hp, hq, hres, hdg⟩, hch⟩ := id hB
  have hk0 : kb < Z.1 := by omega
  have hk1 : kb + 1 < Z.1 := by omega
  have hk2 : kb + 2 < Z.1 := by omega
  obtain ⟨h_y, hky⟩ := id hY
  have hob := zor20 hok hx2
  refine z_enter (maxL := 4) (ret := (some .boolean)) (lv := [(0, .ref (Z.2.1 k)), (1, .int x)]) (plainFor_of_name (by decide +kernel)) rfl (fun ls h => by subst h; exact lv_entry [.ref (Z.2.1 k), .int x] (n := 4) (Nat.le_of_ble_eq_true rfl)) ?_
  intro p e s m args below meth c hx hb hml hr hlocks hown hts hK hS hsz ls hl
  refine lv_iload_n hx hb dX3_isLeastOfCycle_0 rfl (lv_at hl 1 rfl) ?_
  refine lv_istore_n (lv' := [(2, .int x), (0, .ref (Z.2.1 k)), (1, .int x)]) hx hb dX3_isLeastOfCycle_1 rfl hl (by decide) rfl (fun ls hl => ?_)
  refine lv_iconst (v := 0) hx hb dX3_isLeastOfCycle_2 (by decide) ?_
  refine lv_istore_n (lv' := [(3, .int 0), (2, .int x), (0, .ref (Z.2.1 k)), (1, .int x)]) hx hb dX3_isLeastOfCycle_3 rfl hl (by decide) rfl (fun ls hl => ?_)
  have hcut_4 : ∀ (nn_4 : Nat) (y : Int32) (i : Nat) (hi : i ≤ 41) (hy : y.toInt = zor (zst b 1) x.toInt i) (hno : ∀ t, 0 < t → t ≤ i → x.toInt < zor (zst b 1) x.toInt t) (hm_4 : 41 - i < nn_4) (H : Heap) (locs : List Loc) (ls : Array Slot), z_S Z (z_A Z sz) s.heap g H locs → lv_has ls 4 [(0, .ref (Z.2.1 k)), (1, .int x), (2, .int y), (3, .int (nI i))] → W p l e (headSpec wsX3_isLeastOfCycle (z_rm 3 67)).room s m args below meth c H locs 0 0 (MQ below (va_Qi (fun r g1 => g = g1 ∧ zbo r (zlc (zst b 1) x.toInt)) (z_B Z) (z_A Z sz)) args s 0 0 (z_A Z sz)) (F0 m 4 ls []) := by
    intro nn_4
    induction nn_4 with
    | zero => intro y i hi hy hno hm_4 H locs ls hS hl; exact absurd hm_4 (Nat.not_lt_zero _)
    | succ nn_4 ih_4 =>
      intro y i hi hy hno hm_4 H locs ls hS hl
      refine lv_iload_n hx hb dX3_isLeastOfCycle_4 rfl (lv_at hl 3 rfl) ?_
      refine lv_bipush (v := 40) hx hb dX3_isLeastOfCycle_5 (by decide) ?_
      refine lv_icmp_gt (tgt := 42) hx hb dX3_isLeastOfCycle_7 (by decide) (fun c_1 => ?_) (fun c_1 => ?_)
      · have i_1 := z_lt c_1
        rw [nI_toInt (by omega)] at i_1
        rw [tI_40] at i_1
        have hi41 : i = 41 := by omega
        subst hi41
        have hneg : ¬ zlc (zst b 1) x.toInt := by
          rintro ⟨⟨d, hd, e⟩, -⟩
          obtain ⟨mu, la, hper, hle⟩ := zper20 hok hx2
          have hmu := zper_0 hper hd e
          subst hmu
          have h3 := hno la hper.1 (by omega)
          have h4 := hper.2.1
          rw [Nat.zero_add] at h4
          rw [h4] at h3
          exact absurd h3 (Int.lt_irrefl _)
        refine lv_iconst (v := 0) hx hb dX3_isLeastOfCycle_42 (by decide) ?_
        refine z_zret hx hb hr hlocks hS (by decide) ?_ dX3_isLeastOfCycle_43
        exact ⟨rfl, zbo_0 hneg⟩
      · have i_1 := z_nlt c_1
        rw [nI_toInt (by omega)] at i_1
        rw [tI_40] at i_1
        refine lv_aload_n hx hb dX3_isLeastOfCycle_10 rfl (lv_at hl 0 rfl) ?_
        refine z_get (own := RX3) (C := RX3) (T := TX3) (N := 1) hx hb hts in_X3_isLeastOfCycle_3 hown hK hS h_y hky rfl 0 (by decide) (List.mem_of_getElem? (i := 1) rfl) rfl rfl dX3_isLeastOfCycle_11 ?_
        refine lv_iload_n hx hb dX3_isLeastOfCycle_14 rfl (lv_at hl 2 rfl) ?_
        refine lv_iconst (v := 0) hx hb dX3_isLeastOfCycle_15 (by decide) ?_
        refine z_calli (z_runVN (As := [.int y, .int 0]) (rest := []) (C := RX0) ⟨hx, hb, hml, hown, hts⟩ hK hS ((k_carryBehind Z g kb b hB y 0 hcm (by have := hob i; omega) (by rw [tI_0]; omega)) l _) gX3_isLeastOfCycle_X0_carryBehind_n15 rfl 2 51 rfl (List.mem_of_getElem? (i := 3) rfl) (List.mem_of_getElem? (i := 2) rfl) (List.mem_of_getElem? (i := 4) rfl) (by decide +kernel) ⟨Nat.le_of_ble_eq_true rfl, Nat.le_of_ble_eq_true rfl⟩ h_b hk0 rfl rfl hl.1 rfl (Nat.le_of_ble_eq_true rfl) dX3_isLeastOfCycle_16 ⟨Nat.le_of_ble_eq_true rfl, Nat.le_of_ble_eq_true rfl⟩) hS (fun y2 g_2 H locs hp_3 hS => ?_)
        obtain ⟨rfl, hp_3⟩ := hp_3
        have hy2 := hp_3
        rw [tI_0, zcr_zst hok hcm] at hy2
        have hy2 : y2.toInt = zor (zst b 1) x.toInt (i + 1) := by rw [hy2, hy]; rfl
        refine lv_istore_n (lv' := [(2, .int y2), (0, .ref (Z.2.1 k)), (1, .int x), (3, .int (nI i))]) hx hb dX3_isLeastOfCycle_19 rfl hl (by decide) rfl (fun ls hl => ?_)
        refine lv_iload_n hx hb dX3_isLeastOfCycle_20 rfl (lv_at hl 0 rfl) ?_
        refine lv_iload_n hx hb dX3_isLeastOfCycle_21 rfl (lv_at hl 2 rfl) ?_
        refine lv_icmp_gt (tgt := 36) hx hb dX3_isLeastOfCycle_22 (by decide) (fun c_4 => ?_) (fun c_4 => ?_)
        · have i_4 := z_lt c_4
          refine lv_iinc (v := (nI (i + 1))) (lv' := [(3, .int (nI (i + 1))), (2, .int y2), (0, .ref (Z.2.1 k)), (1, .int x)]) hx hb dX3_isLeastOfCycle_36 hl (k := 3) rfl (nI_1 _) (by decide) rfl (fun ls hl => ?_)
          refine lv_goto (tgt := 4) hx hb dX3_isLeastOfCycle_39 (by decide) ?_
          exact ih_4 y2 (i + 1) (by omega) hy2 (fun t h1 h2 => by
              rcases Nat.lt_or_ge i t with q9 | q9
              · have : t = i + 1 := by omega
                subst this; omega
              · exact hno t h1 q9) (by omega) _ _ _ hS (lv_sub hl [2, 3, 1, 0] rfl)
        · have i_4 := z_nlt c_4
          refine lv_iload_n hx hb dX3_isLeastOfCycle_25 rfl (lv_at hl 0 rfl) ?_
          refine lv_iload_n hx hb dX3_isLeastOfCycle_26 rfl (lv_at hl 2 rfl) ?_
          refine lv_icmp_ne (tgt := 34) hx hb dX3_isLeastOfCycle_27 (by decide) (fun c_5 => ?_) (fun c_5 => ?_)
          · have i_5 := z_ne c_5
            have hneg : ¬ zlc (zst b 1) x.toInt := by
              rintro ⟨-, hm⟩
              have := hm (i + 1)
              omega
            refine lv_iconst (v := 0) hx hb dX3_isLeastOfCycle_34 (by decide) ?_
            refine z_zret hx hb hr hlocks hS (by decide) ?_ dX3_isLeastOfCycle_35
            exact ⟨rfl, zbo_0 hneg⟩
          · have i_5 := z_eq c_5
            have hpos : zlc (zst b 1) x.toInt := by
              have e : zor (zst b 1) x.toInt (i + 1) = x.toInt := by omega
              refine ⟨⟨i + 1, by omega, e⟩, fun t => ?_⟩
              obtain ⟨mu, la, hper, hle⟩ := zper20 hok hx2
              have hmu := zper_0 hper (d := i + 1) (by omega) e
              subst hmu
              have hla : i + 1 = la := zper_hit hper (T := 0) (dd := i + 1) (by omega) (by rw [Nat.zero_add]; exact e) (fun u h1 h2 => by
                have := hno u h1 (by omega)
                rw [Nat.zero_add]; show _ ≠ x.toInt; omega)
              rw [zper_mod hper t]
              have hlt : t % la < la := Nat.mod_lt _ hper.1
              rcases Nat.eq_zero_or_pos (t % la) with q9 | q9
              · rw [q9]; exact Int.le_refl _
              · have := hno (t % la) q9 (by omega); omega
            refine lv_iconst (v := 1) hx hb dX3_isLeastOfCycle_30 (by decide) ?_
            refine lv_goto (tgt := 35) hx hb dX3_isLeastOfCycle_31 (by decide) ?_
            refine z_zret hx hb hr hlocks hS (by decide) ?_ dX3_isLeastOfCycle_35
            exact ⟨rfl, zbo_1 hpos⟩
  exact hcut_4 (41 - 0 + 1) x 0 (by omega) rfl (fun t h1 h2 => absurd h2 (by omega)) (Nat.lt_succ_self _) _ _ _ hS (lv_sub hl [2, 3, 1, 0] rfl)

set_option maxHeartbeats 4000000 in
set_option maxRecDepth 100000 in
theorem k_countUpTo (Z : zT) (g : Nat → va_E) (k kb : Nat) (b : zb) (hY : g k = .inr (3, [.ref (Z.2.1 kb)]) ∧ k < Z.1) (hB : z_b1 Z g kb b) (hcm : zcm b) (x : Int32) (hx2 : -20 ≤ x.toInt ∧ x.toInt ≤ 20) : z_Mi Z yX3_countUpTo wsX3_countUpTo 4 90 [.ref (Z.2.1 k), .int x] g (fun r g1 => g = g1 ∧ r = nI (zct (zlB (zst b 1)) (x.toInt + 26).toNat)) := by
  intro l sz
  obtain ⟨pb, qb, res, cmp, dg, ch, ⟨h_b, h_d, h_c, hkN, hok, hp, hq, hres, hdg⟩, hch⟩ := id hB
  have hk0 : kb < Z.1 := by omega
  have hk1 : kb + 1 < Z.1 := by omega
  have hk2 : kb + 2 < Z.1 := by omega
  obtain ⟨h_y, hky⟩ := id hY
  refine z_enter (maxL := 4) (ret := (some .int)) (lv := [(0, .ref (Z.2.1 k)), (1, .int x)]) (plainFor_of_name (by decide +kernel)) rfl (fun ls h => by subst h; exact lv_entry [.ref (Z.2.1 k), .int x] (n := 4) (Nat.le_of_ble_eq_true rfl)) ?_
  intro p e s m args below meth c hx hb hml hr hlocks hown hts hK hS hsz ls hl
  refine lv_iconst (v := 0) hx hb dX3_countUpTo_0 (by decide) ?_
  refine lv_istore_n (lv' := [(2, .int 0), (0, .ref (Z.2.1 k)), (1, .int x)]) hx hb dX3_countUpTo_1 rfl hl (by decide) rfl (fun ls hl => ?_)
  refine lv_bipush (v := (-20)) hx hb dX3_countUpTo_2 (by decide) ?_
  refine lv_istore_n (lv' := [(3, .int (-20)), (2, .int 0), (0, .ref (Z.2.1 k)), (1, .int x)]) hx hb dX3_countUpTo_4 rfl hl (by decide) rfl (fun ls hl => ?_)
  have hcut_5 : ∀ (nn_5 : Nat) (y : Int32) (t : Nat) (ht : 5 ≤ t ∧ (t : Int) ≤ x.toInt + 26) (hy : y.toInt = (t : Int) - 25) (hm_5 : 60 - t < nn_5) (H : Heap) (locs : List Loc) (ls : Array Slot), z_S Z (z_A Z sz) s.heap g H locs → lv_has ls 4 [(0, .ref (Z.2.1 k)), (1, .int x), (2, .int (nI (zct (zlB (zst b 1)) t))), (3, .int y)] → W p l e (headSpec wsX3_countUpTo (z_rm 4 90)).room s m args below meth c H locs 0 0 (MQ below (va_Qi (fun r g1 => g = g1 ∧ r = nI (zct (zlB (zst b 1)) (x.toInt + 26).toNat)) (z_B Z) (z_A Z sz)) args s 0 0 (z_A Z sz)) (F0 m 5 ls []) := by
    intro nn_5
    induction nn_5 with
    | zero => intro y t ht hy hm_5 H locs ls hS hl; exact absurd hm_5 (Nat.not_lt_zero _)
    | succ nn_5 ih_5 =>
      intro y t ht hy hm_5 H locs ls hS hl
      refine lv_iload_n hx hb dX3_countUpTo_5 rfl (lv_at hl 3 rfl) ?_
      refine lv_iload_n hx hb dX3_countUpTo_6 rfl (lv_at hl 1 rfl) ?_
      refine lv_icmp_gt (tgt := 33) hx hb dX3_countUpTo_7 (by decide) (fun c_1 => ?_) (fun c_1 => ?_)
      · have i_1 := z_lt c_1
        have htx : (x.toInt + 26).toNat = t := by omega
        refine lv_iload_n hx hb dX3_countUpTo_33 rfl (lv_at hl 2 rfl) ?_
        refine z_iret hx hb hr hlocks hS ?_ dX3_countUpTo_34
        exact ⟨rfl, by rw [htx]⟩
      · have i_1 := z_nlt c_1
        refine lv_iload_n hx hb dX3_countUpTo_10 rfl (lv_at hl 3 rfl) ?_
        refine lv_bipush (v := 20) hx hb dX3_countUpTo_11 (by decide) ?_
        refine lv_icmp_gt (tgt := 33) hx hb dX3_countUpTo_13 (by decide) (fun c_2 => ?_) (fun c_2 => ?_)
        · have i_2 := z_lt c_2
          rw [tI_20] at i_2
          exfalso; omega
        · have i_2 := z_nlt c_2
          rw [tI_20] at i_2
          refine lv_aload_n hx hb dX3_countUpTo_16 rfl (lv_at hl 0 rfl) ?_
          refine lv_iload_n hx hb dX3_countUpTo_17 rfl (lv_at hl 3 rfl) ?_
          refine z_calli (z_runV (As := [.int y]) (rest := []) ⟨hx, hb, hml, hown, hts⟩ hK hS ((k_isLeast Z g k kb b hY hB hcm y (by omega)) l _) gX3_countUpTo_X3_isLeastOfCycle rfl 1 (by decide +kernel) ⟨Nat.le_of_ble_eq_true rfl, Nat.le_of_ble_eq_true rfl⟩ h_y hky rfl rfl hl.1 rfl (Nat.le_of_ble_eq_true rfl) dX3_countUpTo_18 ⟨Nat.le_of_ble_eq_true rfl, Nat.le_of_ble_eq_true rfl⟩) hS (fun rr g_3 H locs hp_4 hS => ?_)
          obtain ⟨rfl, hp_4⟩ := hp_4
          have hrr := hp_4
          rw [hy] at hrr
          refine lv_if_eq (tgt := 27) hx hb dX3_countUpTo_21 (by decide) (fun c_5 => ?_) (fun c_5 => ?_)
          · have i_5 := z_eq c_5
            rw [tI_0] at i_5
            have hf9 : zct (zlB (zst b 1)) (t + 1) = zct (zlB (zst b 1)) t := zct_false t (j := 1) (fun u h1 h2 => by
              have : u = t := by omega
              subst this
              cases e9 : zlB (zst b 1) u
              · rfl
              · exact absurd (zlB_iff.mp e9) (zbo_f hrr c_5))
            rw [← hf9] at hl
            obtain ⟨y2, ey2⟩ : ∃ zz9 : Int32, zz9 = y + 1 := ⟨_, rfl⟩
            have hy2 : y2.toInt = ((t + 1 : Nat) : Int) - 25 := by rw [ey2, fb_addI (by rw [tI_1]; omega) (by rw [tI_1]; omega), tI_1]; omega
            refine lv_iinc (v := y2) (lv' := [(3, .int y2), (0, .ref (Z.2.1 k)), (1, .int x), (2, .int (nI (zct (zlB (zst b 1)) (t + 1))))]) hx hb dX3_countUpTo_27 hl (k := 3) rfl (by rw [ey2]; rfl) (by decide) rfl (fun ls hl => ?_)
            refine lv_goto (tgt := 5) hx hb dX3_countUpTo_30 (by decide) ?_
            
            exact ih_5 y2 (t + 1) (by omega) hy2 (by omega) _ _ _ hS (lv_sub hl [1, 2, 3, 0] rfl)
          · have i_5 := z_ne c_5
            rw [tI_0] at i_5
            have hf9 : zct (zlB (zst b 1)) (t + 1) = zct (zlB (zst b 1)) t + 1 := by
              show zct (zlB (zst b 1)) t + (if zlB (zst b 1) t then 1 else 0) = _
              rw [zlB_iff.mpr (zbo_t hrr c_5)]; rfl
            refine lv_iinc (v := (nI (zct (zlB (zst b 1)) t + 1))) (lv' := [(2, .int (nI (zct (zlB (zst b 1)) t + 1))), (0, .ref (Z.2.1 k)), (1, .int x), (3, .int y)]) hx hb dX3_countUpTo_24 hl (k := 2) rfl (nI_1 _) (by decide) rfl (fun ls hl => ?_)
            rw [← hf9] at hl
            obtain ⟨y2, ey2⟩ : ∃ zz9 : Int32, zz9 = y + 1 := ⟨_, rfl⟩
            have hy2 : y2.toInt = ((t + 1 : Nat) : Int) - 25 := by rw [ey2, fb_addI (by rw [tI_1]; omega) (by rw [tI_1]; omega), tI_1]; omega
            refine lv_iinc (v := y2) (lv' := [(3, .int y2), (2, .int (nI (zct (zlB (zst b 1)) (t + 1)))), (0, .ref (Z.2.1 k)), (1, .int x)]) hx hb dX3_countUpTo_27 hl (k := 3) rfl (by rw [ey2]; rfl) (by decide) rfl (fun ls hl => ?_)
            refine lv_goto (tgt := 5) hx hb dX3_countUpTo_30 (by decide) ?_
            
            exact ih_5 y2 (t + 1) (by omega) hy2 (by omega) _ _ _ hS (lv_sub hl [2, 3, 1, 0] rfl)
  have h50 : zct (zlB (zst b 1)) 5 = 0 := zct_false 0 (j := 5) (fun t h1 h2 => zlB_f hok (by omega))
  have hloc0 : lv_pick [(3, .int (-20)), (2, .int 0), (0, .ref (Z.2.1 k)), (1, .int x)] [2, 3, 1, 0] = [(0, .ref (Z.2.1 k)), (1, .int x), (2, .int (nI (zct (zlB (zst b 1)) 5))), (3, .int (-20))] := by rw [h50]; rfl
  exact hcut_5 (60 - 5 + 1) (-20) 5 (by omega) (by rw [tI_m20]; rfl) (Nat.lt_succ_self _) _ _ _ hS (lv_sub hl [2, 3, 1, 0] hloc0)

set_option maxHeartbeats 4000000 in
set_option maxRecDepth 100000 in
theorem k_leastOf (Z : zT) (g : Nat → va_E) (k kb : Nat) (b : zb) (hY : g k = .inr (3, [.ref (Z.2.1 kb)]) ∧ k < Z.1) (hB : z_b1 Z g kb b) (hcm : zcm b) (kk : Nat) (hkk : kk < zct (zlB (zst b 1)) 51) : z_Mi Z yX3_leastOf wsX3_leastOf 4 90 [.ref (Z.2.1 k), .int (nI kk)] g (fun r g1 => g = g1 ∧ ∃ t, t < 51 ∧ zlB (zst b 1) t = true ∧ zct (zlB (zst b 1)) t = kk ∧ r.toInt = (t : Int) - 25) := by
  intro l sz
  obtain ⟨pb, qb, res, cmp, dg, ch, ⟨h_b, h_d, h_c, hkN, hok, hp, hq, hres, hdg⟩, hch⟩ := id hB
  have hk0 : kb < Z.1 := by omega
  have hk1 : kb + 1 < Z.1 := by omega
  have hk2 : kb + 2 < Z.1 := by omega
  obtain ⟨h_y, hky⟩ := id hY
  have hk51 := zct_le (zlB (zst b 1)) 51
  refine z_enter (maxL := 4) (ret := (some .int)) (lv := [(0, .ref (Z.2.1 k)), (1, .int (nI kk))]) (plainFor_of_name (by decide +kernel)) rfl (fun ls h => by subst h; exact lv_entry [.ref (Z.2.1 k), .int (nI kk)] (n := 4) (Nat.le_of_ble_eq_true rfl)) ?_
  intro p e s m args below meth c hx hb hml hr hlocks hown hts hK hS hsz ls hl
  refine lv_iconst (v := 0) hx hb dX3_leastOf_0 (by decide) ?_
  refine lv_istore_n (lv' := [(2, .int 0), (0, .ref (Z.2.1 k)), (1, .int (nI kk))]) hx hb dX3_leastOf_1 rfl hl (by decide) rfl (fun ls hl => ?_)
  refine lv_bipush (v := (-20)) hx hb dX3_leastOf_2 (by decide) ?_
  refine lv_istore_n (lv' := [(3, .int (-20)), (2, .int 0), (0, .ref (Z.2.1 k)), (1, .int (nI kk))]) hx hb dX3_leastOf_4 rfl hl (by decide) rfl (fun ls hl => ?_)
  have hcut_5 : ∀ (nn_5 : Nat) (y : Int32) (t : Nat) (ht : 5 ≤ t ∧ t ≤ 46) (hy : y.toInt = (t : Int) - 25) (hle : zct (zlB (zst b 1)) t ≤ kk) (hm_5 : 60 - t < nn_5) (H : Heap) (locs : List Loc) (ls : Array Slot), z_S Z (z_A Z sz) s.heap g H locs → lv_has ls 4 [(0, .ref (Z.2.1 k)), (1, .int (nI kk)), (2, .int (nI (zct (zlB (zst b 1)) t))), (3, .int y)] → W p l e (headSpec wsX3_leastOf (z_rm 4 90)).room s m args below meth c H locs 0 0 (MQ below (va_Qi (fun r g1 => g = g1 ∧ ∃ t, t < 51 ∧ zlB (zst b 1) t = true ∧ zct (zlB (zst b 1)) t = kk ∧ r.toInt = (t : Int) - 25) (z_B Z) (z_A Z sz)) args s 0 0 (z_A Z sz)) (F0 m 5 ls []) := by
    intro nn_5
    induction nn_5 with
    | zero => intro y t ht hy hle hm_5 H locs ls hS hl; exact absurd hm_5 (Nat.not_lt_zero _)
    | succ nn_5 ih_5 =>
      intro y t ht hy hle hm_5 H locs ls hS hl
      refine lv_iload_n hx hb dX3_leastOf_5 rfl (lv_at hl 3 rfl) ?_
      refine lv_bipush (v := 20) hx hb dX3_leastOf_6 (by decide) ?_
      refine lv_icmp_gt (tgt := 35) hx hb dX3_leastOf_8 (by decide) (fun c_1 => ?_) (fun c_1 => ?_)
      · have i_1 := z_lt c_1
        rw [tI_20] at i_1
        exfalso
        have ht46 : t = 46 := by omega
        subst ht46
        have h51 : zct (zlB (zst b 1)) 51 = zct (zlB (zst b 1)) 46 := zct_false 46 (j := 5) (fun u h1 h2 => zlB_f hok (by omega))
        omega
      · have i_1 := z_nlt c_1
        rw [tI_20] at i_1
        refine lv_aload_n hx hb dX3_leastOf_11 rfl (lv_at hl 0 rfl) ?_
        refine lv_iload_n hx hb dX3_leastOf_12 rfl (lv_at hl 3 rfl) ?_
        refine z_calli (z_runV (As := [.int y]) (rest := []) ⟨hx, hb, hml, hown, hts⟩ hK hS ((k_isLeast Z g k kb b hY hB hcm y (by omega)) l _) gX3_leastOf_X3_isLeastOfCycle rfl 1 (by decide +kernel) ⟨Nat.le_of_ble_eq_true rfl, Nat.le_of_ble_eq_true rfl⟩ h_y hky rfl rfl hl.1 rfl (Nat.le_of_ble_eq_true rfl) dX3_leastOf_13 ⟨Nat.le_of_ble_eq_true rfl, Nat.le_of_ble_eq_true rfl⟩) hS (fun rr g_2 H locs hp_3 hS => ?_)
        obtain ⟨rfl, hp_3⟩ := hp_3
        have hrr := hp_3
        rw [hy] at hrr
        refine lv_if_eq (tgt := 29) hx hb dX3_leastOf_16 (by decide) (fun c_4 => ?_) (fun c_4 => ?_)
        · have i_4 := z_eq c_4
          rw [tI_0] at i_4
          have hf9 : zct (zlB (zst b 1)) (t + 1) = zct (zlB (zst b 1)) t := zct_false t (j := 1) (fun u h1 h2 => by
            have : u = t := by omega
            subst this
            cases e9 : zlB (zst b 1) u
            · rfl
            · exact absurd (zlB_iff.mp e9) (zbo_f hrr c_4))
          rw [← hf9] at hl
          obtain ⟨y2, ey2⟩ : ∃ zz9 : Int32, zz9 = y + 1 := ⟨_, rfl⟩
          have hy2 : y2.toInt = ((t + 1 : Nat) : Int) - 25 := by rw [ey2, fb_addI (by rw [tI_1]; omega) (by rw [tI_1]; omega), tI_1]; omega
          refine lv_iinc (v := y2) (lv' := [(3, .int y2), (0, .ref (Z.2.1 k)), (1, .int (nI kk)), (2, .int (nI (zct (zlB (zst b 1)) (t + 1))))]) hx hb dX3_leastOf_29 hl (k := 3) rfl (by rw [ey2]; rfl) (by decide) rfl (fun ls hl => ?_)
          refine lv_goto (tgt := 5) hx hb dX3_leastOf_32 (by decide) ?_
          
          exact ih_5 y2 (t + 1) (by omega) hy2 (by omega) (by omega) _ _ _ hS (lv_sub hl [1, 2, 3, 0] rfl)
        · have i_4 := z_ne c_4
          rw [tI_0] at i_4
          have hp9 := zlB_iff.mpr (zbo_t hrr c_4)
          have hf9 : zct (zlB (zst b 1)) (t + 1) = zct (zlB (zst b 1)) t + 1 := by
            show zct (zlB (zst b 1)) t + (if zlB (zst b 1) t then 1 else 0) = _
            rw [hp9]; rfl
          refine lv_iload_n hx hb dX3_leastOf_19 rfl (lv_at hl 2 rfl) ?_
          refine lv_iload_n hx hb dX3_leastOf_20 rfl (lv_at hl 1 rfl) ?_
          refine lv_icmp_ne (tgt := 26) hx hb dX3_leastOf_21 (by decide) (fun c_5 => ?_) (fun c_5 => ?_)
          · have i_5 := z_ne c_5
            rw [nI_toInt (by omega)] at i_5
            rw [nI_toInt (by omega)] at i_5
            refine lv_iinc (v := (nI (zct (zlB (zst b 1)) t + 1))) (lv' := [(2, .int (nI (zct (zlB (zst b 1)) t + 1))), (0, .ref (Z.2.1 k)), (1, .int (nI kk)), (3, .int y)]) hx hb dX3_leastOf_26 hl (k := 2) rfl (nI_1 _) (by decide) rfl (fun ls hl => ?_)
            rw [← hf9] at hl
            obtain ⟨y2, ey2⟩ : ∃ zz9 : Int32, zz9 = y + 1 := ⟨_, rfl⟩
            have hy2 : y2.toInt = ((t + 1 : Nat) : Int) - 25 := by rw [ey2, fb_addI (by rw [tI_1]; omega) (by rw [tI_1]; omega), tI_1]; omega
            refine lv_iinc (v := y2) (lv' := [(3, .int y2), (2, .int (nI (zct (zlB (zst b 1)) (t + 1)))), (0, .ref (Z.2.1 k)), (1, .int (nI kk))]) hx hb dX3_leastOf_29 hl (k := 3) rfl (by rw [ey2]; rfl) (by decide) rfl (fun ls hl => ?_)
            refine lv_goto (tgt := 5) hx hb dX3_leastOf_32 (by decide) ?_
            
            exact ih_5 y2 (t + 1) (by omega) hy2 (by omega) (by omega) _ _ _ hS (lv_sub hl [2, 3, 1, 0] rfl)
          · have i_5 := z_eq c_5
            rw [nI_toInt (by omega)] at i_5
            rw [nI_toInt (by omega)] at i_5
            refine lv_iload_n hx hb dX3_leastOf_24 rfl (lv_at hl 3 rfl) ?_
            refine z_iret hx hb hr hlocks hS ?_ dX3_leastOf_25
            exact ⟨rfl, t, by omega, hp9, by omega, hy⟩
  have h50 : zct (zlB (zst b 1)) 5 = 0 := zct_false 0 (j := 5) (fun t h1 h2 => zlB_f hok (by omega))
  have hloc0 : lv_pick [(3, .int (-20)), (2, .int 0), (0, .ref (Z.2.1 k)), (1, .int (nI kk))] [2, 3, 1, 0] = [(0, .ref (Z.2.1 k)), (1, .int (nI kk)), (2, .int (nI (zct (zlB (zst b 1)) 5))), (3, .int (-20))] := by rw [h50]; rfl
  exact hcut_5 (60 - 5 + 1) (-20) 5 (by omega) (by rw [tI_m20]; rfl) (by rw [h50]; omega) (Nat.lt_succ_self _) _ _ _ hS (lv_sub hl [2, 3, 1, 0] hloc0)

theorem in_X3_elementsFrom_3 : ∀ w ∈ wsX30, w ∈ wsX3_elementsFrom := by decide +kernel
set_option maxHeartbeats 4000000 in
set_option maxRecDepth 100000 in
theorem k_elementsFrom (Z : zT) (g : Nat → va_E) (k kb : Nat) (b : zb) (hY : g k = .inr (3, [.ref (Z.2.1 kb)]) ∧ k < Z.1) (hB : z_b1 Z g kb b) (hcm : zcm b) (x : Int32) (hx2 : -20 ≤ x.toInt ∧ x.toInt ≤ 20) (la : Nat) (hper : zper (zor (zst b 1) x.toInt) 0 la) : z_Mi Z yX3_elementsFrom wsX3_elementsFrom 3 67 [.ref (Z.2.1 k), .int x] g (fun r g1 => g = g1 ∧ r = nI la) := by
  intro l sz
  obtain ⟨pb, qb, res, cmp, dg, ch, ⟨h_b, h_d, h_c, hkN, hok, hp, hq, hres, hdg⟩, hch⟩ := id hB
  have hk0 : kb < Z.1 := by omega
  have hk1 : kb + 1 < Z.1 := by omega
  have hk2 : kb + 2 < Z.1 := by omega
  obtain ⟨h_y, hky⟩ := id hY
  have hob := zor20 hok hx2
  have hla41 : la ≤ 41 := by
    obtain ⟨mu2, la2, hper2, hle2⟩ := zper20 hok hx2
    have := zper_uniq hper hper2
    omega
  have hla1 := hper.1
  have hback : zor (zst b 1) x.toInt la = x.toInt := by
    have := hper.2.1
    rwa [Nat.zero_add] at this
  refine z_enter (maxL := 5) (ret := (some .int)) (lv := [(0, .ref (Z.2.1 k)), (1, .int x)]) (plainFor_of_name (by decide +kernel)) rfl (fun ls h => by subst h; exact lv_entry [.ref (Z.2.1 k), .int x] (n := 5) (Nat.le_of_ble_eq_true rfl)) ?_
  intro p e s m args below meth c hx hb hml hr hlocks hown hts hK hS hsz ls hl
  refine lv_iconst (v := 1) hx hb dX3_elementsFrom_0 (by decide) ?_
  refine lv_istore_n (lv' := [(2, .int 1), (0, .ref (Z.2.1 k)), (1, .int x)]) hx hb dX3_elementsFrom_1 rfl hl (by decide) rfl (fun ls hl => ?_)
  refine lv_aload_n hx hb dX3_elementsFrom_2 rfl (lv_at hl 1 rfl) ?_
  refine z_get (own := RX3) (C := RX3) (T := TX3) (N := 1) hx hb hts in_X3_elementsFrom_3 hown hK hS h_y hky rfl 0 (by decide) (List.mem_of_getElem? (i := 1) rfl) rfl rfl dX3_elementsFrom_3 ?_
  refine lv_iload_n hx hb dX3_elementsFrom_6 rfl (lv_at hl 2 rfl) ?_
  refine lv_iconst (v := 0) hx hb dX3_elementsFrom_7 (by decide) ?_
  refine z_calli (z_runVN (As := [.int x, .int 0]) (rest := []) (C := RX0) ⟨hx, hb, hml, hown, hts⟩ hK hS ((k_carryBehind Z g kb b hB x 0 hcm (by omega) (by rw [tI_0]; omega)) l _) gX3_elementsFrom_X0_carryBehind_n15 rfl 2 51 rfl (List.mem_of_getElem? (i := 3) rfl) (List.mem_of_getElem? (i := 2) rfl) (List.mem_of_getElem? (i := 4) rfl) (by decide +kernel) ⟨Nat.le_of_ble_eq_true rfl, Nat.le_of_ble_eq_true rfl⟩ h_b hk0 rfl rfl hl.1 rfl (Nat.le_of_ble_eq_true rfl) dX3_elementsFrom_8 ⟨Nat.le_of_ble_eq_true rfl, Nat.le_of_ble_eq_true rfl⟩) hS (fun y1 g_1 H locs hp_2 hS => ?_)
  obtain ⟨rfl, hp_2⟩ := hp_2
  have hy1 := hp_2
  rw [tI_0, zcr_zst hok hcm] at hy1
  have hy1 : y1.toInt = zor (zst b 1) x.toInt 1 := by rw [hy1]; rfl
  refine lv_istore_n (lv' := [(3, .int y1), (2, .int 1), (0, .ref (Z.2.1 k)), (1, .int x)]) hx hb dX3_elementsFrom_11 rfl hl (by decide) rfl (fun ls hl => ?_)
  refine lv_iconst (v := 0) hx hb dX3_elementsFrom_12 (by decide) ?_
  refine lv_istore (lv' := [(4, .int 0), (3, .int y1), (2, .int 1), (0, .ref (Z.2.1 k)), (1, .int x)]) hx hb dX3_elementsFrom_13 hl (by decide) rfl (fun ls hl => ?_)
  have hcut_15 : ∀ (nn_15 : Nat) (y : Int32) (i : Nat) (hi : i + 1 ≤ la) (hy : y.toInt = zor (zst b 1) x.toInt (i + 1)) (hm_15 : 41 - i < nn_15) (H : Heap) (locs : List Loc) (ls : Array Slot), z_S Z (z_A Z sz) s.heap g H locs → lv_has ls 5 [(0, .ref (Z.2.1 k)), (1, .int x), (2, .int (nI (i + 1))), (3, .int y), (4, .int (nI i))] → W p l e (headSpec wsX3_elementsFrom (z_rm 3 67)).room s m args below meth c H locs 0 0 (MQ below (va_Qi (fun r g1 => g = g1 ∧ r = nI la) (z_B Z) (z_A Z sz)) args s 0 0 (z_A Z sz)) (F0 m 15 ls []) := by
    intro nn_15
    induction nn_15 with
    | zero => intro y i hi hy hm_15 H locs ls hS hl; exact absurd hm_15 (Nat.not_lt_zero _)
    | succ nn_15 ih_15 =>
      intro y i hi hy hm_15 H locs ls hS hl
      refine lv_iload hx hb dX3_elementsFrom_15 (lv_at hl 4 rfl) ?_
      refine lv_bipush (v := 40) hx hb dX3_elementsFrom_17 (by decide) ?_
      refine lv_icmp_gt (tgt := 46) hx hb dX3_elementsFrom_19 (by decide) (fun c_3 => ?_) (fun c_3 => ?_)
      · have i_3 := z_lt c_3
        rw [nI_toInt (by omega)] at i_3
        rw [tI_40] at i_3
        exfalso; omega
      · have i_3 := z_nlt c_3
        rw [nI_toInt (by omega)] at i_3
        rw [tI_40] at i_3
        refine lv_iload_n hx hb dX3_elementsFrom_22 rfl (lv_at hl 3 rfl) ?_
        refine lv_iload_n hx hb dX3_elementsFrom_23 rfl (lv_at hl 1 rfl) ?_
        refine lv_icmp_eq (tgt := 46) hx hb dX3_elementsFrom_24 (by decide) (fun c_4 => ?_) (fun c_4 => ?_)
        · have i_4 := z_eq c_4
          have hfin : i + 1 = la := by
            rcases Nat.lt_or_ge (i + 1) la with q9 | q9
            · exact absurd (show zor (zst b 1) x.toInt 0 = zor (zst b 1) x.toInt (i + 1) by show x.toInt = _; omega) (hper.2.2 0 (i + 1) (by omega) (by omega))
            · omega
          refine lv_iload_n hx hb dX3_elementsFrom_46 rfl (lv_at hl 2 rfl) ?_
          refine z_iret hx hb hr hlocks hS ?_ dX3_elementsFrom_47
          exact ⟨rfl, by rw [hfin]⟩
        · have i_4 := z_ne c_4
          refine lv_aload_n hx hb dX3_elementsFrom_27 rfl (lv_at hl 0 rfl) ?_
          refine z_get (own := RX3) (C := RX3) (T := TX3) (N := 1) hx hb hts in_X3_elementsFrom_3 hown hK hS h_y hky rfl 0 (by decide) (List.mem_of_getElem? (i := 1) rfl) rfl rfl dX3_elementsFrom_28 ?_
          refine lv_iload_n hx hb dX3_elementsFrom_31 rfl (lv_at hl 3 rfl) ?_
          refine lv_iconst (v := 0) hx hb dX3_elementsFrom_32 (by decide) ?_
          refine z_calli (z_runVN (As := [.int y, .int 0]) (rest := []) (C := RX0) ⟨hx, hb, hml, hown, hts⟩ hK hS ((k_carryBehind Z g kb b hB y 0 hcm (by have := hob (i + 1); omega) (by rw [tI_0]; omega)) l _) gX3_elementsFrom_X0_carryBehind_n15 rfl 2 51 rfl (List.mem_of_getElem? (i := 3) rfl) (List.mem_of_getElem? (i := 2) rfl) (List.mem_of_getElem? (i := 4) rfl) (by decide +kernel) ⟨Nat.le_of_ble_eq_true rfl, Nat.le_of_ble_eq_true rfl⟩ h_b hk0 rfl rfl hl.1 rfl (Nat.le_of_ble_eq_true rfl) dX3_elementsFrom_33 ⟨Nat.le_of_ble_eq_true rfl, Nat.le_of_ble_eq_true rfl⟩) hS (fun y2 g_5 H locs hp_6 hS => ?_)
          obtain ⟨rfl, hp_6⟩ := hp_6
          have hy2 := hp_6
          rw [tI_0, zcr_zst hok hcm] at hy2
          have hy2 : y2.toInt = zor (zst b 1) x.toInt (i + 1 + 1) := by rw [hy2, hy]; rfl
          refine lv_istore_n (lv' := [(3, .int y2), (0, .ref (Z.2.1 k)), (1, .int x), (2, .int (nI (i + 1))), (4, .int (nI i))]) hx hb dX3_elementsFrom_36 rfl hl (by decide) rfl (fun ls hl => ?_)
          refine lv_iinc (v := (nI (i + 1 + 1))) (lv' := [(2, .int (nI (i + 1 + 1))), (3, .int y2), (0, .ref (Z.2.1 k)), (1, .int x), (4, .int (nI i))]) hx hb dX3_elementsFrom_37 hl (k := 3) rfl (nI_1 _) (by decide) rfl (fun ls hl => ?_)
          refine lv_iinc (v := (nI (i + 1))) (lv' := [(4, .int (nI (i + 1))), (2, .int (nI (i + 1 + 1))), (3, .int y2), (0, .ref (Z.2.1 k)), (1, .int x)]) hx hb dX3_elementsFrom_40 hl (k := 4) rfl (nI_1 _) (by decide) rfl (fun ls hl => ?_)
          refine lv_goto (tgt := 15) hx hb dX3_elementsFrom_43 (by decide) ?_
          exact ih_15 y2 (i + 1) (by
              rcases Nat.lt_or_ge (i + 1) la with q9 | q9
              · omega
              · have : i + 1 = la := by omega
                rw [this] at hy; omega) hy2 (by omega) _ _ _ hS (lv_sub hl [3, 4, 1, 2, 0] rfl)
  exact hcut_15 (41 - 0 + 1) y1 0 (by omega) hy1 (Nat.lt_succ_self _) _ _ _ hS (lv_sub hl [3, 4, 2, 1, 0] rfl)

theorem in_X3_greatestFrom_3 : ∀ w ∈ wsX30, w ∈ wsX3_greatestFrom := by decide +kernel
set_option maxHeartbeats 4000000 in
set_option maxRecDepth 100000 in
theorem k_greatestFrom (Z : zT) (g : Nat → va_E) (k kb : Nat) (b : zb) (hY : g k = .inr (3, [.ref (Z.2.1 kb)]) ∧ k < Z.1) (hB : z_b1 Z g kb b) (hcm : zcm b) (x : Int32) (hx2 : -20 ≤ x.toInt ∧ x.toInt ≤ 20) (la : Nat) (hper : zper (zor (zst b 1) x.toInt) 0 la) : z_Mi Z yX3_greatestFrom wsX3_greatestFrom 3 67 [.ref (Z.2.1 k), .int x] g (fun r g1 => g = g1 ∧ zog (zst b 1) x.toInt r.toInt) := by
  intro l sz
  obtain ⟨pb, qb, res, cmp, dg, ch, ⟨h_b, h_d, h_c, hkN, hok, hp, hq, hres, hdg⟩, hch⟩ := id hB
  have hk0 : kb < Z.1 := by omega
  have hk1 : kb + 1 < Z.1 := by omega
  have hk2 : kb + 2 < Z.1 := by omega
  obtain ⟨h_y, hky⟩ := id hY
  have hob := zor20 hok hx2
  have hla41 : la ≤ 41 := by
    obtain ⟨mu2, la2, hper2, hle2⟩ := zper20 hok hx2
    have := zper_uniq hper hper2
    omega
  have hla1 := hper.1
  have hback : zor (zst b 1) x.toInt la = x.toInt := by
    have := hper.2.1
    rwa [Nat.zero_add] at this
  refine z_enter (maxL := 5) (ret := (some .int)) (lv := [(0, .ref (Z.2.1 k)), (1, .int x)]) (plainFor_of_name (by decide +kernel)) rfl (fun ls h => by subst h; exact lv_entry [.ref (Z.2.1 k), .int x] (n := 5) (Nat.le_of_ble_eq_true rfl)) ?_
  intro p e s m args below meth c hx hb hml hr hlocks hown hts hK hS hsz ls hl
  refine lv_iload_n hx hb dX3_greatestFrom_0 rfl (lv_at hl 1 rfl) ?_
  refine lv_istore_n (lv' := [(2, .int x), (0, .ref (Z.2.1 k)), (1, .int x)]) hx hb dX3_greatestFrom_1 rfl hl (by decide) rfl (fun ls hl => ?_)
  refine lv_iload_n hx hb dX3_greatestFrom_2 rfl (lv_at hl 2 rfl) ?_
  refine lv_istore_n (lv' := [(3, .int x), (2, .int x), (0, .ref (Z.2.1 k)), (1, .int x)]) hx hb dX3_greatestFrom_3 rfl hl (by decide) rfl (fun ls hl => ?_)
  refine lv_iconst (v := 0) hx hb dX3_greatestFrom_4 (by decide) ?_
  refine lv_istore (lv' := [(4, .int 0), (3, .int x), (2, .int x), (0, .ref (Z.2.1 k)), (1, .int x)]) hx hb dX3_greatestFrom_5 hl (by decide) rfl (fun ls hl => ?_)
  have hcut_7 : ∀ (nn_7 : Nat) (a : Int32) (y : Int32) (i : Nat) (hi : i ≤ 41) (hy : y.toInt = zor (zst b 1) x.toInt i) (ha : (∃ t, a.toInt = zor (zst b 1) x.toInt t) ∧ ∀ t, t ≤ i → zor (zst b 1) x.toInt t ≤ a.toInt) (hm_7 : 41 - i < nn_7) (H : Heap) (locs : List Loc) (ls : Array Slot), z_S Z (z_A Z sz) s.heap g H locs → lv_has ls 5 [(0, .ref (Z.2.1 k)), (1, .int x), (2, .int a), (3, .int y), (4, .int (nI i))] → W p l e (headSpec wsX3_greatestFrom (z_rm 3 67)).room s m args below meth c H locs 0 0 (MQ below (va_Qi (fun r g1 => g = g1 ∧ zog (zst b 1) x.toInt r.toInt) (z_B Z) (z_A Z sz)) args s 0 0 (z_A Z sz)) (F0 m 7 ls []) := by
    intro nn_7
    induction nn_7 with
    | zero => intro a y i hi hy ha hm_7 H locs ls hS hl; exact absurd hm_7 (Nat.not_lt_zero _)
    | succ nn_7 ih_7 =>
      intro a y i hi hy ha hm_7 H locs ls hS hl
      refine lv_iload hx hb dX3_greatestFrom_7 (lv_at hl 4 rfl) ?_
      refine lv_bipush (v := 40) hx hb dX3_greatestFrom_9 (by decide) ?_
      refine lv_icmp_gt (tgt := 36) hx hb dX3_greatestFrom_11 (by decide) (fun c_1 => ?_) (fun c_1 => ?_)
      · have i_1 := z_lt c_1
        rw [nI_toInt (by omega)] at i_1
        rw [tI_40] at i_1
        have hi41 : i = 41 := by omega
        subst hi41
        have hfin : zog (zst b 1) x.toInt a.toInt := by
          refine ⟨ha.1, fun t => ?_⟩
          rw [zper_mod hper t]
          have : t % la < la := Nat.mod_lt _ hla1
          exact ha.2 _ (by omega)
        refine lv_iload_n hx hb dX3_greatestFrom_36 rfl (lv_at hl 2 rfl) ?_
        refine z_iret hx hb hr hlocks hS ?_ dX3_greatestFrom_37
        exact ⟨rfl, hfin⟩
      · have i_1 := z_nlt c_1
        rw [nI_toInt (by omega)] at i_1
        rw [tI_40] at i_1
        refine lv_aload_n hx hb dX3_greatestFrom_14 rfl (lv_at hl 0 rfl) ?_
        refine z_get (own := RX3) (C := RX3) (T := TX3) (N := 1) hx hb hts in_X3_greatestFrom_3 hown hK hS h_y hky rfl 0 (by decide) (List.mem_of_getElem? (i := 1) rfl) rfl rfl dX3_greatestFrom_15 ?_
        refine lv_iload_n hx hb dX3_greatestFrom_18 rfl (lv_at hl 3 rfl) ?_
        refine lv_iconst (v := 0) hx hb dX3_greatestFrom_19 (by decide) ?_
        refine z_calli (z_runVN (As := [.int y, .int 0]) (rest := []) (C := RX0) ⟨hx, hb, hml, hown, hts⟩ hK hS ((k_carryBehind Z g kb b hB y 0 hcm (by have := hob i; omega) (by rw [tI_0]; omega)) l _) gX3_greatestFrom_X0_carryBehind_n15 rfl 2 51 rfl (List.mem_of_getElem? (i := 7) rfl) (List.mem_of_getElem? (i := 6) rfl) (List.mem_of_getElem? (i := 8) rfl) (by decide +kernel) ⟨Nat.le_of_ble_eq_true rfl, Nat.le_of_ble_eq_true rfl⟩ h_b hk0 rfl rfl hl.1 rfl (Nat.le_of_ble_eq_true rfl) dX3_greatestFrom_20 ⟨Nat.le_of_ble_eq_true rfl, Nat.le_of_ble_eq_true rfl⟩) hS (fun y2 g_2 H locs hp_3 hS => ?_)
        obtain ⟨rfl, hp_3⟩ := hp_3
        have hy2 := hp_3
        rw [tI_0, zcr_zst hok hcm] at hy2
        have hy2 : y2.toInt = zor (zst b 1) x.toInt (i + 1) := by rw [hy2, hy]; rfl
        refine lv_istore_n (lv' := [(3, .int y2), (0, .ref (Z.2.1 k)), (1, .int x), (2, .int a), (4, .int (nI i))]) hx hb dX3_greatestFrom_23 rfl hl (by decide) rfl (fun ls hl => ?_)
        refine lv_iload_n hx hb dX3_greatestFrom_24 rfl (lv_at hl 3 rfl) ?_
        refine lv_iload_n hx hb dX3_greatestFrom_25 rfl (lv_at hl 0 rfl) ?_
        refine va_mmax hx hb (hml.trans hl.1.symm) hown (hts _ (List.mem_of_getElem? (i := 2) rfl)) (hts _ (List.mem_of_getElem? (i := 3) rfl)) (hts _ (List.mem_of_getElem? (i := 4) rfl)) (hts _ (List.mem_of_getElem? (i := 5) rfl)) (Nat.le_of_ble_eq_true rfl) (Nat.le_of_ble_eq_true rfl) (Nat.le_of_ble_eq_true rfl) (Nat.le_of_ble_eq_true rfl) dX3_greatestFrom_26 ?_
        refine lv_topi (fun a2 ea2 => ?_)
        have ha2 : (∃ t, a2.toInt = zor (zst b 1) x.toInt t) ∧ ∀ t, t ≤ i + 1 → zor (zst b 1) x.toInt t ≤ a2.toInt := by
          obtain ⟨⟨t0, ht0⟩, hm⟩ := ha
          by_cases hc : a < y2
          · have h9 := z_lt hc
            rw [ea2, if_pos hc]
            refine ⟨⟨i + 1, hy2⟩, fun t ht => ?_⟩
            rcases Nat.lt_or_ge i t with q9 | q9
            · have : t = i + 1 := by omega
              subst this; omega
            · have := hm t q9; omega
          · have h9 := z_nlt hc
            rw [ea2, if_neg hc]
            refine ⟨⟨t0, ht0⟩, fun t ht => ?_⟩
            rcases Nat.lt_or_ge i t with q9 | q9
            · have : t = i + 1 := by omega
              subst this; omega
            · exact hm t q9
        refine lv_istore_n (lv' := [(2, .int a2), (3, .int y2), (0, .ref (Z.2.1 k)), (1, .int x), (4, .int (nI i))]) hx hb dX3_greatestFrom_29 rfl hl (by decide) rfl (fun ls hl => ?_)
        refine lv_iinc (v := (nI (i + 1))) (lv' := [(4, .int (nI (i + 1))), (2, .int a2), (3, .int y2), (0, .ref (Z.2.1 k)), (1, .int x)]) hx hb dX3_greatestFrom_30 hl (k := 4) rfl (nI_1 _) (by decide) rfl (fun ls hl => ?_)
        refine lv_goto (tgt := 7) hx hb dX3_greatestFrom_33 (by decide) ?_
        exact ih_7 a2 y2 (i + 1) (by omega) hy2 ha2 (by omega) _ _ _ hS (lv_sub hl [3, 4, 1, 2, 0] rfl)
  exact hcut_7 (41 - 0 + 1) x x 0 (by omega) rfl ⟨⟨0, rfl⟩, fun t ht => by
      have : t = 0 := by omega
      subst this; exact Int.le_refl _⟩ (Nat.lt_succ_self _) _ _ _ hS (lv_sub hl [3, 4, 2, 1, 0] rfl)

theorem in_X3_numberOf_3 : ∀ w ∈ wsX30, w ∈ wsX3_numberOf := by decide +kernel
set_option maxHeartbeats 4000000 in
set_option maxRecDepth 100000 in
theorem k_numberOf (Z : zT) (g : Nat → va_E) (k kb : Nat) (b : zb) (hY : g k = .inr (3, [.ref (Z.2.1 kb)]) ∧ k < Z.1) (hB : z_b1 Z g kb b) (hcm : zcm b) (x : Int32) (hx2 : -20 ≤ x.toInt ∧ x.toInt ≤ 20) (la : Nat) (hper : zper (zor (zst b 1) x.toInt) 0 la) : z_Mi Z yX3_numberOf wsX3_numberOf 5 113 [.ref (Z.2.1 k), .int x] g (fun r g1 => g = g1 ∧ ∃ y, zol (zst b 1) x.toInt y ∧ -25 ≤ y ∧ y ≤ 25 ∧ r = nI (zct (zlB (zst b 1)) (y + 25).toNat)) := by
  intro l sz
  obtain ⟨pb, qb, res, cmp, dg, ch, ⟨h_b, h_d, h_c, hkN, hok, hp, hq, hres, hdg⟩, hch⟩ := id hB
  have hk0 : kb < Z.1 := by omega
  have hk1 : kb + 1 < Z.1 := by omega
  have hk2 : kb + 2 < Z.1 := by omega
  obtain ⟨h_y, hky⟩ := id hY
  have hob := zor20 hok hx2
  have hla41 : la ≤ 41 := by
    obtain ⟨mu2, la2, hper2, hle2⟩ := zper20 hok hx2
    have := zper_uniq hper hper2
    omega
  have hla1 := hper.1
  have hback : zor (zst b 1) x.toInt la = x.toInt := by
    have := hper.2.1
    rwa [Nat.zero_add] at this
  refine z_enter (maxL := 5) (ret := (some .int)) (lv := [(0, .ref (Z.2.1 k)), (1, .int x)]) (plainFor_of_name (by decide +kernel)) rfl (fun ls h => by subst h; exact lv_entry [.ref (Z.2.1 k), .int x] (n := 5) (Nat.le_of_ble_eq_true rfl)) ?_
  intro p e s m args below meth c hx hb hml hr hlocks hown hts hK hS hsz ls hl
  refine lv_iload_n hx hb dX3_numberOf_0 rfl (lv_at hl 1 rfl) ?_
  refine lv_istore_n (lv' := [(2, .int x), (0, .ref (Z.2.1 k)), (1, .int x)]) hx hb dX3_numberOf_1 rfl hl (by decide) rfl (fun ls hl => ?_)
  refine lv_iload_n hx hb dX3_numberOf_2 rfl (lv_at hl 2 rfl) ?_
  refine lv_istore_n (lv' := [(3, .int x), (2, .int x), (0, .ref (Z.2.1 k)), (1, .int x)]) hx hb dX3_numberOf_3 rfl hl (by decide) rfl (fun ls hl => ?_)
  refine lv_iconst (v := 0) hx hb dX3_numberOf_4 (by decide) ?_
  refine lv_istore (lv' := [(4, .int 0), (3, .int x), (2, .int x), (0, .ref (Z.2.1 k)), (1, .int x)]) hx hb dX3_numberOf_5 hl (by decide) rfl (fun ls hl => ?_)
  have hcut_7 : ∀ (nn_7 : Nat) (a : Int32) (y : Int32) (i : Nat) (hi : i ≤ 41) (hy : y.toInt = zor (zst b 1) x.toInt i) (ha : (∃ t, a.toInt = zor (zst b 1) x.toInt t) ∧ ∀ t, t ≤ i → a.toInt ≤ zor (zst b 1) x.toInt t) (hm_7 : 41 - i < nn_7) (H : Heap) (locs : List Loc) (ls : Array Slot), z_S Z (z_A Z sz) s.heap g H locs → lv_has ls 5 [(0, .ref (Z.2.1 k)), (1, .int x), (2, .int a), (3, .int y), (4, .int (nI i))] → W p l e (headSpec wsX3_numberOf (z_rm 5 113)).room s m args below meth c H locs 0 0 (MQ below (va_Qi (fun r g1 => g = g1 ∧ ∃ y, zol (zst b 1) x.toInt y ∧ -25 ≤ y ∧ y ≤ 25 ∧ r = nI (zct (zlB (zst b 1)) (y + 25).toNat)) (z_B Z) (z_A Z sz)) args s 0 0 (z_A Z sz)) (F0 m 7 ls []) := by
    intro nn_7
    induction nn_7 with
    | zero => intro a y i hi hy ha hm_7 H locs ls hS hl; exact absurd hm_7 (Nat.not_lt_zero _)
    | succ nn_7 ih_7 =>
      intro a y i hi hy ha hm_7 H locs ls hS hl
      refine lv_iload hx hb dX3_numberOf_7 (lv_at hl 4 rfl) ?_
      refine lv_bipush (v := 40) hx hb dX3_numberOf_9 (by decide) ?_
      refine lv_icmp_gt (tgt := 36) hx hb dX3_numberOf_11 (by decide) (fun c_1 => ?_) (fun c_1 => ?_)
      · have i_1 := z_lt c_1
        rw [nI_toInt (by omega)] at i_1
        rw [tI_40] at i_1
        have hi41 : i = 41 := by omega
        subst hi41
        have hfin : zol (zst b 1) x.toInt a.toInt := by
          refine ⟨ha.1, fun t => ?_⟩
          rw [zper_mod hper t]
          have : t % la < la := Nat.mod_lt _ hla1
          exact ha.2 _ (by omega)
        refine lv_aload_n hx hb dX3_numberOf_36 rfl (lv_at hl 0 rfl) ?_
        refine lv_iload_n hx hb dX3_numberOf_37 rfl (lv_at hl 2 rfl) ?_
        have hab : -20 ≤ a.toInt ∧ a.toInt ≤ 20 := by
          obtain ⟨⟨t0, ht0⟩, -⟩ := ha
          rw [ht0]; exact hob t0
        refine z_calli (z_runV (As := [.int a]) (rest := []) ⟨hx, hb, hml, hown, hts⟩ hK hS ((k_countUpTo Z g k kb b hY hB hcm a hab) l _) gX3_numberOf_X3_countUpTo rfl 1 (by decide +kernel) ⟨Nat.le_of_ble_eq_true rfl, Nat.le_of_ble_eq_true rfl⟩ h_y hky rfl rfl hl.1 rfl (Nat.le_of_ble_eq_true rfl) dX3_numberOf_38 ⟨Nat.le_of_ble_eq_true rfl, Nat.le_of_ble_eq_true rfl⟩) hS (fun rr g_2 H locs hp_3 hS => ?_)
        obtain ⟨rfl, hp_3⟩ := hp_3
        subst hp_3
        have h26 : zct (zlB (zst b 1)) (a.toInt + 26).toNat = zct (zlB (zst b 1)) (a.toInt + 25).toNat + 1 := by
          have hz := zlc_of hper hfin
          have e9 : (a.toInt + 26).toNat = (a.toInt + 25).toNat + 1 := by omega
          rw [e9]
          show _ + (if zlB (zst b 1) (a.toInt + 25).toNat then 1 else 0) = _
          rw [zlB_iff.mpr (by rw [show (((a.toInt + 25).toNat : Nat) : Int) - 25 = a.toInt by omega]; exact hz)]; rfl
        refine lv_iconst (v := 1) hx hb dX3_numberOf_41 (by decide) ?_
        refine lv_isub hx hb dX3_numberOf_42 ?_
        refine z_iret hx hb hr hlocks hS ?_ dX3_numberOf_43
        exact ⟨rfl, a.toInt, hfin, by omega, by omega, by rw [h26]; exact nI_pred _⟩
      · have i_1 := z_nlt c_1
        rw [nI_toInt (by omega)] at i_1
        rw [tI_40] at i_1
        refine lv_aload_n hx hb dX3_numberOf_14 rfl (lv_at hl 0 rfl) ?_
        refine z_get (own := RX3) (C := RX3) (T := TX3) (N := 1) hx hb hts in_X3_numberOf_3 hown hK hS h_y hky rfl 0 (by decide) (List.mem_of_getElem? (i := 1) rfl) rfl rfl dX3_numberOf_15 ?_
        refine lv_iload_n hx hb dX3_numberOf_18 rfl (lv_at hl 3 rfl) ?_
        refine lv_iconst (v := 0) hx hb dX3_numberOf_19 (by decide) ?_
        refine z_calli (z_runVN (As := [.int y, .int 0]) (rest := []) (C := RX0) ⟨hx, hb, hml, hown, hts⟩ hK hS ((k_carryBehind Z g kb b hB y 0 hcm (by have := hob i; omega) (by rw [tI_0]; omega)) l _) gX3_numberOf_X0_carryBehind_n15 rfl 2 51 rfl (List.mem_of_getElem? (i := 7) rfl) (List.mem_of_getElem? (i := 6) rfl) (List.mem_of_getElem? (i := 8) rfl) (by decide +kernel) ⟨Nat.le_of_ble_eq_true rfl, Nat.le_of_ble_eq_true rfl⟩ h_b hk0 rfl rfl hl.1 rfl (Nat.le_of_ble_eq_true rfl) dX3_numberOf_20 ⟨Nat.le_of_ble_eq_true rfl, Nat.le_of_ble_eq_true rfl⟩) hS (fun y2 g_4 H locs hp_5 hS => ?_)
        obtain ⟨rfl, hp_5⟩ := hp_5
        have hy2 := hp_5
        rw [tI_0, zcr_zst hok hcm] at hy2
        have hy2 : y2.toInt = zor (zst b 1) x.toInt (i + 1) := by rw [hy2, hy]; rfl
        refine lv_istore_n (lv' := [(3, .int y2), (0, .ref (Z.2.1 k)), (1, .int x), (2, .int a), (4, .int (nI i))]) hx hb dX3_numberOf_23 rfl hl (by decide) rfl (fun ls hl => ?_)
        refine lv_iload_n hx hb dX3_numberOf_24 rfl (lv_at hl 3 rfl) ?_
        refine lv_iload_n hx hb dX3_numberOf_25 rfl (lv_at hl 0 rfl) ?_
        refine va_mmin hx hb (hml.trans hl.1.symm) hown (hts _ (List.mem_of_getElem? (i := 2) rfl)) (hts _ (List.mem_of_getElem? (i := 3) rfl)) (hts _ (List.mem_of_getElem? (i := 4) rfl)) (hts _ (List.mem_of_getElem? (i := 5) rfl)) (Nat.le_of_ble_eq_true rfl) (Nat.le_of_ble_eq_true rfl) (Nat.le_of_ble_eq_true rfl) (Nat.le_of_ble_eq_true rfl) dX3_numberOf_26 ?_
        refine lv_topi (fun a2 ea2 => ?_)
        have ha2 : (∃ t, a2.toInt = zor (zst b 1) x.toInt t) ∧ ∀ t, t ≤ i + 1 → a2.toInt ≤ zor (zst b 1) x.toInt t := by
          obtain ⟨⟨t0, ht0⟩, hm⟩ := ha
          by_cases hc : y2 < a
          · have h9 := z_lt hc
            rw [ea2, if_pos hc]
            refine ⟨⟨i + 1, hy2⟩, fun t ht => ?_⟩
            rcases Nat.lt_or_ge i t with q9 | q9
            · have : t = i + 1 := by omega
              subst this; omega
            · have := hm t q9; omega
          · have h9 := z_nlt hc
            rw [ea2, if_neg hc]
            refine ⟨⟨t0, ht0⟩, fun t ht => ?_⟩
            rcases Nat.lt_or_ge i t with q9 | q9
            · have : t = i + 1 := by omega
              subst this; omega
            · exact hm t q9
        refine lv_istore_n (lv' := [(2, .int a2), (3, .int y2), (0, .ref (Z.2.1 k)), (1, .int x), (4, .int (nI i))]) hx hb dX3_numberOf_29 rfl hl (by decide) rfl (fun ls hl => ?_)
        refine lv_iinc (v := (nI (i + 1))) (lv' := [(4, .int (nI (i + 1))), (2, .int a2), (3, .int y2), (0, .ref (Z.2.1 k)), (1, .int x)]) hx hb dX3_numberOf_30 hl (k := 4) rfl (nI_1 _) (by decide) rfl (fun ls hl => ?_)
        refine lv_goto (tgt := 7) hx hb dX3_numberOf_33 (by decide) ?_
        exact ih_7 a2 y2 (i + 1) (by omega) hy2 ha2 (by omega) _ _ _ hS (lv_sub hl [3, 4, 1, 2, 0] rfl)
  exact hcut_7 (41 - 0 + 1) x x 0 (by omega) rfl ⟨⟨0, rfl⟩, fun t ht => by
      have : t = 0 := by omega
      subst this; exact Int.le_refl _⟩ (Nat.lt_succ_self _) _ _ _ hS (lv_sub hl [3, 4, 2, 1, 0] rfl)

