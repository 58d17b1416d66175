/-! how many rows of so many digits have a value -/
def zwy (b : zb) : Nat → Int → Int
  | 0, v => if v = 0 then 1 else 0
  | L + 1, v => (List.range b.2.2.1).foldl (fun a i => a + (if b.1 ∣ (b.2.1 * v - b.2.2.2 i) then zwy b L ((b.2.1 * v - b.2.2.2 i).tdiv b.1) else 0)) 0
def zsum (f : Nat → Int) : Nat → Int
  | 0 => 0
  | n + 1 => zsum f n + f n
theorem zsum_foldl (f : Nat → Int) : ∀ n, (List.range n).foldl (fun a i => a + f i) 0 = zsum f n
  | 0 => rfl
  | n + 1 => by
    rw [List.range_succ, List.foldl_append, zsum_foldl f n]
    rfl
/-- the rows behind the digit of place i -/
def zwb (b : zb) (L : Nat) (v : Int) (i : Nat) : Int := if b.1 ∣ (b.2.1 * v - b.2.2.2 i) then zwy b L ((b.2.1 * v - b.2.2.2 i).tdiv b.1) else 0
theorem zwy_succ (b : zb) (L : Nat) (v : Int) : zwy b (L + 1) v = zsum (zwb b L v) b.2.2.1 := by
  rw [← zsum_foldl]; rfl
theorem zsum_cong {f f2 : Nat → Int} : ∀ {n : Nat}, (∀ i, i < n → f i = f2 i) → zsum f n = zsum f2 n
  | 0, _ => rfl
  | n + 1, h => by
    show zsum f n + f n = zsum f2 n + f2 n
    rw [zsum_cong (n := n) (fun i hi => h i (by omega)), h n (by omega)]
theorem zsum_bd {f : Nat → Int} {B : Int} : ∀ {n : Nat}, (∀ i, i < n → 0 ≤ f i ∧ f i ≤ B) → 0 ≤ zsum f n ∧ zsum f n ≤ n * B
  | 0, _ => by simp [zsum]
  | n + 1, h => by
    have ih := zsum_bd (n := n) (fun i hi => h i (by omega))
    have h1 := h n (by omega)
    show 0 ≤ zsum f n + f n ∧ zsum f n + f n ≤ ((n + 1 : Nat) : Int) * B
    rw [Int.natCast_add, Int.add_mul, Int.natCast_one, Int.one_mul]
    omega
theorem zwy_bd {b : zb} (hok : zb_ok b) : ∀ L v, 0 ≤ zwy b L v ∧ zwy b L v ≤ (12 ^ L : Nat)
  | 0, v => by unfold zwy; split <;> simp
  | L + 1, v => by
    rw [zwy_succ]
    have h := zsum_bd (f := zwb b L v) (B := ((12 ^ L : Nat) : Int)) (n := b.2.2.1) (fun i hi => by
      unfold zwb
      split
      · exact zwy_bd hok L _
      · exact ⟨Int.le_refl _, Int.natCast_nonneg _⟩)
    refine ⟨h.1, Int.le_trans h.2 ?_⟩
    rw [Nat.pow_succ, Int.natCast_mul, Int.mul_comm ((12 ^ L : Nat) : Int)]
    exact Int.mul_le_mul_of_nonneg_right (by have := hok.2.2.2.1; omega) (Int.natCast_nonneg _)
theorem zwy_12 {b : zb} (hok : zb_ok b) {L : Nat} (hL : L ≤ 12) (v : Int) : 0 ≤ zwy b L v ∧ zwy b L v ≤ 8916100448256 := by
  have h := zwy_bd hok L v
  have h2 := Nat.pow_le_pow_right (n := 12) (by omega) hL
  have h3 : (12 : Nat) ^ 12 = 8916100448256 := by decide +kernel
  omega
/-- bounds, level by level -/
def zbd (b : zb) (x : Int) (lo hi : Nat → Int) : Prop := lo 0 = x ∧ hi 0 = x ∧ ∀ l, l < 12 → ∀ v, lo l ≤ v → v ≤ hi l → ∀ i, i < b.2.2.1 → b.1 ∣ (b.2.1 * v - b.2.2.2 i) → lo (l + 1) ≤ (b.2.1 * v - b.2.2.2 i).tdiv b.1 ∧ (b.2.1 * v - b.2.2.2 i).tdiv b.1 ≤ hi (l + 1)
theorem zmn_le {d : Nat → Int} : ∀ {n i : Nat}, i < n → zmn d n ≤ d i
  | n + 1, i, h => by
    unfold zmn
    rcases Nat.lt_or_ge i n with q | q
    · have := zmn_le (d := d) q
      split <;> omega
    · have : i = n := by omega
      subst this
      split <;> omega
theorem zmx_ge {d : Nat → Int} : ∀ {n i : Nat}, i < n → d i ≤ zmx d n
  | n + 1, i, h => by
    unfold zmx
    rcases Nat.lt_or_ge i n with q | q
    · have := zmx_ge (d := d) q
      split <;> omega
    · have : i = n := by omega
      subst this
      split <;> omega
theorem zmnx_bd {d : Nat → Int} : ∀ {n : Nat}, (∀ i, i < n → -20 ≤ d i ∧ d i ≤ 20) → -20 ≤ zmn d n ∧ zmn d n ≤ 20 ∧ -20 ≤ zmx d n ∧ zmx d n ≤ 20
  | 0, _ => by unfold zmn zmx; omega
  | n + 1, h => by
    have ih := zmnx_bd (n := n) (fun i hi => h i (by omega))
    have h1 := h n (by omega)
    unfold zmn zmx
    split <;> split <;> omega
def zfd (x y r : Int) : Prop := (0 < y → y * r ≤ x ∧ x < y * r + y) ∧ (y < 0 → x ≤ y * r ∧ y * r + y < x)
/-- the cells of Ways -/
def zLO (lo : Nat → Int) (l : Nat) : Int := if l ≤ 12 then lo l else 0
def zHI (hi : Nat → Int) (l : Nat) : Int := if l ≤ 12 then hi l else -1
def zo_ways (Z : zT) (g : Nat → va_E) (k kb : Nat) (lw hw : Nat → Int32) (tb : Nat → Int64) (v1 v2 : Int32) (v3 : Int64) : Prop := g k = .inr (8, [.ref (Z.2.1 kb), .ref (Z.2.1 (k + 1)), .ref (Z.2.1 (k + 2)), .ref (Z.2.1 (k + 3)), .int v1, .int v2, .long v3]) ∧ g (k + 1) = .inl (Z.2.2.2 0, 13, .inl lw) ∧ g (k + 2) = .inl (Z.2.2.2 0, 13, .inl hw) ∧ g (k + 3) = .inl (Z.2.2.2 1, 533, .inr (.inl tb)) ∧ k + 3 < Z.1 ∧ (k + 4 ≤ kb ∨ kb + 3 ≤ k)
def zw_bd (lo hi : Nat → Int) : Prop := ∀ l, l ≤ 12 → hi l ≤ lo l + 40 ∧ -200000 ≤ lo l ∧ lo l ≤ 200000 ∧ -200000 ≤ hi l ∧ hi l ≤ 200000
abbrev zin (lo hi : Nat → Int) (l : Nat) (v : Int) : Prop := l ≤ 12 ∧ lo l ≤ v ∧ v ≤ hi l
def zA (lo hi : Nat → Int) (tb : Nat → Int64) (l : Nat) (v : Int) : Int := if zin lo hi l v then (tb (l * 41 + (v - lo l).toNat)).toInt else 0
def zput (lo hi : Nat → Int) (A : Nat → Int → Int) (l1 : Nat) (x y : Int) : Nat → Int → Int := fun l v => if l = l1 ∧ v = x ∧ zin lo hi l1 x then y else A l v
theorem zput_s {lo hi : Nat → Int} {A : Nat → Int → Int} {l1 : Nat} {x y : Int} (h : zin lo hi l1 x) : zput lo hi A l1 x y l1 x = y := by unfold zput; rw [if_pos ⟨rfl, rfl, h⟩]
theorem zput_n {lo hi : Nat → Int} {A : Nat → Int → Int} {l1 l : Nat} {x y v : Int} (h : ¬ (l = l1 ∧ v = x)) : zput lo hi A l1 x y l v = A l v := by unfold zput; rw [if_neg (fun q => h ⟨q.1, q.2.1⟩)]
theorem zput_o {lo hi : Nat → Int} {A : Nat → Int → Int} {l1 : Nat} {x y : Int} (h : ¬ zin lo hi l1 x) (l : Nat) (v : Int) : zput lo hi A l1 x y l v = A l v := by unfold zput; rw [if_neg (fun q => h q.2.2)]
def z_wy (Z : zT) (g : Nat → va_E) (k kb : Nat) (lo hi : Nat → Int) (A : Nat → Int → Int) (v1 v2 : Int32) (v3 : Int64) : Prop := ∃ (lw hw : Nat → Int32) (tb : Nat → Int64), zo_ways Z g k kb lw hw tb v1 v2 v3 ∧ zw_bd lo hi ∧ (∀ l, l ≤ 12 → (lw l).toInt = lo l ∧ (hw l).toInt = hi l) ∧ ∀ l v, A l v = zA lo hi tb l v
set_option maxHeartbeats 4000000 in
set_option maxRecDepth 100000 in
theorem k_floorDiv (Z : zT) (g : Nat → va_E) (x y : Int32) (hy : 2 ≤ y.toInt ∨ y.toInt ≤ -2) : z_Mi Z yJ9_floorDiv_7cf53 wsJ9_floorDiv_7cf53 0 0 [.int x, .int y] g (fun r g1 => g = g1 ∧ zfd x.toInt y.toInt r.toInt) := by
  intro l sz
  refine z_enter (maxL := 3) (ret := (some .int)) (lv := [(0, .int x), (1, .int y)]) (by decide +kernel) rfl (fun ls h => by subst h; exact lv_entry [.int x, .int y] (n := 3) (Nat.le_of_ble_eq_true rfl)) ?_
  intro p e s m args below meth c hx hb hml hr hlocks hown hts hK hS hsz ls hl
  refine lv_iload_n hx hb dJ9_floorDiv_7cf53_0 rfl (lv_at hl 0 rfl) ?_
  refine lv_iload_n hx hb dJ9_floorDiv_7cf53_1 rfl (lv_at hl 1 rfl) ?_
  refine lv_idiv hx hb dJ9_floorDiv_7cf53_2 (fun h => by rw [h] at hy; exact absurd hy (by decide)) ?_
  refine lv_topi (fun td etd => ?_)
  have htd : td.toInt = x.toInt.tdiv y.toInt := by rw [etd]; exact z_div hy
  have hxr := fb_rng x
  have hyr := fb_rng y
  have hmt := Int.tmod_add_mul_tdiv x.toInt y.toInt
  have hma : (x.toInt.tmod y.toInt).natAbs < y.toInt.natAbs := by rw [Int.natAbs_tmod]; exact Nat.mod_lt _ (by omega)
  have hms : (0 ≤ x.toInt → 0 ≤ x.toInt.tmod y.toInt) ∧ (x.toInt ≤ 0 → x.toInt.tmod y.toInt ≤ 0) := ⟨fun h => Int.tmod_nonneg _ h, fun h => by
    have := Int.tmod_nonneg (a := -x.toInt) y.toInt (by omega)
    rw [Int.neg_tmod] at this; omega⟩
  have hna : (x.toInt.tdiv y.toInt * y.toInt).natAbs ≤ x.toInt.natAbs := by
    rw [Int.natAbs_mul, Int.natAbs_tdiv]; exact Nat.div_mul_le_self _ _
  have hcm9 : x.toInt.tdiv y.toInt * y.toInt = y.toInt * x.toInt.tdiv y.toInt := Int.mul_comm _ _
  have hxn := z_xor_neg x y
  have htb : td.toInt.natAbs * 2 ≤ x.toInt.natAbs := by
    rw [htd, Int.natAbs_tdiv]
    change x.toInt.natAbs / y.toInt.natAbs * 2 ≤ _
    have h3 : x.toInt.natAbs / y.toInt.natAbs ≤ x.toInt.natAbs / 2 := Nat.div_le_div_left (by omega) (by omega)
    omega
  refine lv_istore_n (lv' := [(2, .int td), (0, .int x), (1, .int y)]) hx hb dJ9_floorDiv_7cf53_3 rfl hl (by decide) rfl (fun ls hl => ?_)
  refine lv_iload_n hx hb dJ9_floorDiv_7cf53_4 rfl (lv_at hl 1 rfl) ?_
  refine lv_iload_n hx hb dJ9_floorDiv_7cf53_5 rfl (lv_at hl 2 rfl) ?_
  refine lv_ixor hx hb dJ9_floorDiv_7cf53_6 ?_
  refine lv_if_ge (tgt := 21) hx hb dJ9_floorDiv_7cf53_7 (by decide) (fun c_1 => ?_) (fun c_1 => ?_)
  · have i_1 := z_le c_1
    rw [tI_0] at i_1
    refine lv_iload_n hx hb dJ9_floorDiv_7cf53_21 rfl (lv_at hl 0 rfl) ?_
    refine z_iret hx hb hr hlocks hS ?_ dJ9_floorDiv_7cf53_22
    exact ⟨rfl, by rw [htd]; unfold zfd; omega⟩
  · have i_1 := z_nle c_1
    rw [tI_0] at i_1
    refine lv_iload_n hx hb dJ9_floorDiv_7cf53_10 rfl (lv_at hl 0 rfl) ?_
    refine lv_iload_n hx hb dJ9_floorDiv_7cf53_11 rfl (lv_at hl 2 rfl) ?_
    refine lv_imul hx hb dJ9_floorDiv_7cf53_12 ?_
    refine lv_iload_n hx hb dJ9_floorDiv_7cf53_13 rfl (lv_at hl 1 rfl) ?_
    have hpr : (td * y).toInt = y.toInt * x.toInt.tdiv y.toInt := by rw [fb_mulI (by rw [htd]; omega) (by rw [htd]; omega), htd]; exact hcm9
    refine lv_icmp_eq (tgt := 21) hx hb dJ9_floorDiv_7cf53_14 (by decide) (fun c_2 => ?_) (fun c_2 => ?_)
    · have i_2 := z_eq c_2
      refine lv_iload_n hx hb dJ9_floorDiv_7cf53_21 rfl (lv_at hl 0 rfl) ?_
      refine z_iret hx hb hr hlocks hS ?_ dJ9_floorDiv_7cf53_22
      exact ⟨rfl, by rw [htd]; unfold zfd; omega⟩
    · have i_2 := z_ne c_2
      refine lv_iload_n hx hb dJ9_floorDiv_7cf53_17 rfl (lv_at hl 0 rfl) ?_
      refine lv_iconst (v := 1) hx hb dJ9_floorDiv_7cf53_18 (by decide) ?_
      refine lv_isub hx hb dJ9_floorDiv_7cf53_19 ?_
      refine z_iret hx hb hr hlocks hS ?_ dJ9_floorDiv_7cf53_20
      exact ⟨rfl, by
        rw [fb_subI (by rw [tI_1]; omega) (by rw [tI_1]; omega), tI_1, htd]
        unfold zfd
        rw [Int.mul_sub, Int.mul_one]
        omega⟩

theorem in_X8_lowestAt_8 : ∀ w ∈ wsX80, w ∈ wsX8_lowestAt := by decide +kernel
set_option maxHeartbeats 4000000 in
set_option maxRecDepth 100000 in
theorem k_lowestAt (Z : zT) (g : Nat → va_E) (k kb : Nat) (b : zb) (lo hi : Nat → Int) (A : Nat → Int → Int) (v1 v2 : Int32) (v3 : Int64) (hY : z_wy Z g k kb lo hi A v1 v2 v3) (l1 : Nat) (hl1 : l1 ≤ 13) : z_Mi Z yX8_lowestAt wsX8_lowestAt 0 0 [.ref (Z.2.1 k), .int (nI l1)] g (fun r g1 => g = g1 ∧ r.toInt = zLO lo l1) := by
  intro l sz
  obtain ⟨lw, hw, tb, hO, hwb, hlh, hA⟩ := id hY
  obtain ⟨h_w, h_l, h_h, h_t, hkM, hsep⟩ := id hO
  have hkw : k < Z.1 := by omega
  have hkw1 : k + 1 < Z.1 := by omega
  have hkw2 : k + 2 < Z.1 := by omega
  have hkw3 : k + 3 < Z.1 := by omega
  
  refine z_enter (maxL := 2) (ret := (some .int)) (lv := [(0, .ref (Z.2.1 k)), (1, .int (nI l1))]) (plainFor_of_name (by decide +kernel)) rfl (fun ls h => by subst h; exact lv_entry [.ref (Z.2.1 k), .int (nI l1)] (n := 2) (Nat.le_of_ble_eq_true rfl)) ?_
  intro p e s m args below meth c hx hb hml hr hlocks hown hts hK hS hsz ls hl
  refine lv_iload_n hx hb dX8_lowestAt_0 rfl (lv_at hl 1 rfl) ?_
  refine lv_if_lt (tgt := 22) hx hb dX8_lowestAt_1 (by decide) (fun c_1 => ?_) (fun c_1 => ?_)
  · have i_1 := z_lt c_1
    rw [nI_toInt (by omega)] at i_1
    rw [tI_0] at i_1
    exfalso; omega
  · have i_1 := z_nlt c_1
    rw [nI_toInt (by omega)] at i_1
    rw [tI_0] at i_1
    refine lv_iload_n hx hb dX8_lowestAt_4 rfl (lv_at hl 1 rfl) ?_
    refine lv_aload_n hx hb dX8_lowestAt_5 rfl (lv_at hl 0 rfl) ?_
    refine z_get (own := RX8) (C := RX8) (T := TX8) (N := 7) hx hb hts in_X8_lowestAt_8 hown hK hS h_w hkw rfl 1 (by decide) (List.mem_of_getElem? (i := 1) rfl) rfl rfl dX8_lowestAt_6 ?_
    refine z_alen (v := 13) hx hb hK hS 0 h_l hkw1 rfl rfl dX8_lowestAt_9 ?_
    refine lv_icmp_ge (tgt := 22) hx hb dX8_lowestAt_10 (by decide) (fun c_2 => ?_) (fun c_2 => ?_)
    · have i_2 := z_le c_2
      rw [nI_toInt (by omega)] at i_2
      rw [tI_13] at i_2
      have h13 : l1 = 13 := by omega
      subst h13
      refine lv_iconst (v := 0) hx hb dX8_lowestAt_22 (by decide) ?_
      refine z_iret hx hb hr hlocks hS ?_ dX8_lowestAt_23
      exact ⟨rfl, rfl⟩
    · have i_2 := z_nle c_2
      rw [nI_toInt (by omega)] at i_2
      rw [tI_13] at i_2
      refine lv_aload_n hx hb dX8_lowestAt_13 rfl (lv_at hl 0 rfl) ?_
      refine z_get (own := RX8) (C := RX8) (T := TX8) (N := 7) hx hb hts in_X8_lowestAt_8 hown hK hS h_w hkw rfl 1 (by decide) (List.mem_of_getElem? (i := 1) rfl) rfl rfl dX8_lowestAt_14 ?_
      refine lv_iload_n hx hb dX8_lowestAt_17 rfl (lv_at hl 1 rfl) ?_
      refine z_iald hx hb hK hS h_l hkw1 (vp_in_nI (by omega) (by omega)) dX8_lowestAt_18 ?_
      rw [show lw (nI l1).toNatClampNeg = lw l1 from by rw [nI_clamp (by omega)]]
      refine lv_goto (tgt := 23) hx hb dX8_lowestAt_19 (by decide) ?_
      refine z_iret hx hb hr hlocks hS ?_ dX8_lowestAt_23
      exact ⟨rfl, by unfold zLO; rw [if_pos (by omega)]; exact (hlh l1 (by omega)).1⟩

theorem in_X8_highestAt_8 : ∀ w ∈ wsX80, w ∈ wsX8_highestAt := by decide +kernel
set_option maxHeartbeats 4000000 in
set_option maxRecDepth 100000 in
theorem k_highestAt (Z : zT) (g : Nat → va_E) (k kb : Nat) (b : zb) (lo hi : Nat → Int) (A : Nat → Int → Int) (v1 v2 : Int32) (v3 : Int64) (hY : z_wy Z g k kb lo hi A v1 v2 v3) (l1 : Nat) (hl1 : l1 ≤ 13) : z_Mi Z yX8_highestAt wsX8_highestAt 0 0 [.ref (Z.2.1 k), .int (nI l1)] g (fun r g1 => g = g1 ∧ r.toInt = zHI hi l1) := by
  intro l sz
  obtain ⟨lw, hw, tb, hO, hwb, hlh, hA⟩ := id hY
  obtain ⟨h_w, h_l, h_h, h_t, hkM, hsep⟩ := id hO
  have hkw : k < Z.1 := by omega
  have hkw1 : k + 1 < Z.1 := by omega
  have hkw2 : k + 2 < Z.1 := by omega
  have hkw3 : k + 3 < Z.1 := by omega
  
  refine z_enter (maxL := 2) (ret := (some .int)) (lv := [(0, .ref (Z.2.1 k)), (1, .int (nI l1))]) (plainFor_of_name (by decide +kernel)) rfl (fun ls h => by subst h; exact lv_entry [.ref (Z.2.1 k), .int (nI l1)] (n := 2) (Nat.le_of_ble_eq_true rfl)) ?_
  intro p e s m args below meth c hx hb hml hr hlocks hown hts hK hS hsz ls hl
  refine lv_iload_n hx hb dX8_highestAt_0 rfl (lv_at hl 1 rfl) ?_
  refine lv_if_lt (tgt := 22) hx hb dX8_highestAt_1 (by decide) (fun c_1 => ?_) (fun c_1 => ?_)
  · have i_1 := z_lt c_1
    rw [nI_toInt (by omega)] at i_1
    rw [tI_0] at i_1
    exfalso; omega
  · have i_1 := z_nlt c_1
    rw [nI_toInt (by omega)] at i_1
    rw [tI_0] at i_1
    refine lv_iload_n hx hb dX8_highestAt_4 rfl (lv_at hl 1 rfl) ?_
    refine lv_aload_n hx hb dX8_highestAt_5 rfl (lv_at hl 0 rfl) ?_
    refine z_get (own := RX8) (C := RX8) (T := TX8) (N := 7) hx hb hts in_X8_highestAt_8 hown hK hS h_w hkw rfl 2 (by decide) (List.mem_of_getElem? (i := 1) rfl) rfl rfl dX8_highestAt_6 ?_
    refine z_alen (v := 13) hx hb hK hS 0 h_h hkw2 rfl rfl dX8_highestAt_9 ?_
    refine lv_icmp_ge (tgt := 22) hx hb dX8_highestAt_10 (by decide) (fun c_2 => ?_) (fun c_2 => ?_)
    · have i_2 := z_le c_2
      rw [nI_toInt (by omega)] at i_2
      rw [tI_13] at i_2
      have h13 : l1 = 13 := by omega
      subst h13
      refine lv_iconst (v := (-1)) hx hb dX8_highestAt_22 (by decide) ?_
      refine z_iret hx hb hr hlocks hS ?_ dX8_highestAt_23
      exact ⟨rfl, rfl⟩
    · have i_2 := z_nle c_2
      rw [nI_toInt (by omega)] at i_2
      rw [tI_13] at i_2
      refine lv_aload_n hx hb dX8_highestAt_13 rfl (lv_at hl 0 rfl) ?_
      refine z_get (own := RX8) (C := RX8) (T := TX8) (N := 7) hx hb hts in_X8_highestAt_8 hown hK hS h_w hkw rfl 2 (by decide) (List.mem_of_getElem? (i := 1) rfl) rfl rfl dX8_highestAt_14 ?_
      refine lv_iload_n hx hb dX8_highestAt_17 rfl (lv_at hl 1 rfl) ?_
      refine z_iald hx hb hK hS h_h hkw2 (vp_in_nI (by omega) (by omega)) dX8_highestAt_18 ?_
      rw [show hw (nI l1).toNatClampNeg = hw l1 from by rw [nI_clamp (by omega)]]
      refine lv_goto (tgt := 23) hx hb dX8_highestAt_19 (by decide) ?_
      refine z_iret hx hb hr hlocks hS ?_ dX8_highestAt_23
      exact ⟨rfl, by unfold zHI; rw [if_pos (by omega)]; exact (hlh l1 (by omega)).2⟩

set_option maxHeartbeats 4000000 in
set_option maxRecDepth 100000 in
theorem k_cell (Z : zT) (g : Nat → va_E) (k kb : Nat) (b : zb) (lo hi : Nat → Int) (A : Nat → Int → Int) (v1 v2 : Int32) (v3 : Int64) (hY : z_wy Z g k kb lo hi A v1 v2 v3) (l1 : Nat) (hl1 : l1 ≤ 13) (x : Int32) (hx9 : -1000000 ≤ x.toInt ∧ x.toInt ≤ 1000000) : z_Mi Z yX8_cell wsX8_cell 1 21 [.ref (Z.2.1 k), .int (nI l1), .int x] g (fun r g1 => g = g1 ∧ ((zin lo hi l1 x.toInt ∧ r = nI (l1 * 41 + (x.toInt - lo l1).toNat) ∧ l1 * 41 + (x.toInt - lo l1).toNat < 533) ∨ (¬ zin lo hi l1 x.toInt ∧ r = -1))) := by
  intro l sz
  obtain ⟨lw, hw, tb, hO, hwb, hlh, hA⟩ := id hY
  obtain ⟨h_w, h_l, h_h, h_t, hkM, hsep⟩ := id hO
  have hkw : k < Z.1 := by omega
  have hkw1 : k + 1 < Z.1 := by omega
  have hkw2 : k + 2 < Z.1 := by omega
  have hkw3 : k + 3 < Z.1 := by omega
  have hz : zin lo hi l1 x.toInt ↔ (zLO lo l1 ≤ x.toInt ∧ x.toInt ≤ zHI hi l1) := by
    unfold zin zLO zHI
    by_cases h9 : l1 ≤ 12
    · rw [if_pos h9, if_pos h9]; omega
    · rw [if_neg h9, if_neg h9]; omega
  refine z_enter (maxL := 3) (ret := (some .int)) (lv := [(0, .ref (Z.2.1 k)), (1, .int (nI l1)), (2, .int x)]) (plainFor_of_name (by decide +kernel)) rfl (fun ls h => by subst h; exact lv_entry [.ref (Z.2.1 k), .int (nI l1), .int x] (n := 3) (Nat.le_of_ble_eq_true rfl)) ?_
  intro p e s m args below meth c hx hb hml hr hlocks hown hts hK hS hsz ls hl
  refine lv_iload_n hx hb dX8_cell_0 rfl (lv_at hl 2 rfl) ?_
  refine lv_aload_n hx hb dX8_cell_1 rfl (lv_at hl 0 rfl) ?_
  refine lv_iload_n hx hb dX8_cell_2 rfl (lv_at hl 1 rfl) ?_
  refine z_calli (z_runV (As := [.int (nI l1)]) (rest := [.int x]) ⟨hx, hb, hml, hown, hts⟩ hK hS ((k_lowestAt Z g k kb b lo hi A v1 v2 v3 hY l1 hl1) l _) gX8_cell_X8_lowestAt rfl 1 (by decide +kernel) ⟨Nat.le_of_ble_eq_true rfl, Nat.le_of_ble_eq_true rfl⟩ h_w hkw rfl rfl hl.1 rfl (Nat.le_of_ble_eq_true rfl) dX8_cell_3 ⟨Nat.le_of_ble_eq_true rfl, Nat.le_of_ble_eq_true rfl⟩) hS (fun ra g_1 H locs hp_2 hS => ?_)
  obtain ⟨rfl, hp_2⟩ := hp_2
  have hra := hp_2
  refine lv_icmp_lt (tgt := 18) hx hb dX8_cell_6 (by decide) (fun c_3 => ?_) (fun c_3 => ?_)
  · have i_3 := z_lt c_3
    refine lv_iconst (v := (-1)) hx hb dX8_cell_18 (by decide) ?_
    refine z_iret hx hb hr hlocks hS ?_ dX8_cell_19
    exact ⟨rfl, Or.inr ⟨fun h9 => by have := hz.mp h9; omega, rfl⟩⟩
  · have i_3 := z_nlt c_3
    refine lv_iload_n hx hb dX8_cell_9 rfl (lv_at hl 2 rfl) ?_
    refine lv_aload_n hx hb dX8_cell_10 rfl (lv_at hl 0 rfl) ?_
    refine lv_iload_n hx hb dX8_cell_11 rfl (lv_at hl 1 rfl) ?_
    refine z_calli (z_runV (As := [.int (nI l1)]) (rest := [.int x]) ⟨hx, hb, hml, hown, hts⟩ hK hS ((k_highestAt Z g k kb b lo hi A v1 v2 v3 hY l1 hl1) l _) gX8_cell_X8_highestAt rfl 1 (by decide +kernel) ⟨Nat.le_of_ble_eq_true rfl, Nat.le_of_ble_eq_true rfl⟩ h_w hkw rfl rfl hl.1 rfl (Nat.le_of_ble_eq_true rfl) dX8_cell_12 ⟨Nat.le_of_ble_eq_true rfl, Nat.le_of_ble_eq_true rfl⟩) hS (fun rb g_4 H locs hp_5 hS => ?_)
    obtain ⟨rfl, hp_5⟩ := hp_5
    have hrb := hp_5
    refine lv_icmp_le (tgt := 20) hx hb dX8_cell_15 (by decide) (fun c_6 => ?_) (fun c_6 => ?_)
    · have i_6 := z_le c_6
      have hzi := hz.mpr ⟨by omega, by omega⟩
      have hlb := hwb l1 hzi.1
      have hzi2 := hzi.2
      refine lv_iload_n hx hb dX8_cell_20 rfl (lv_at hl 1 rfl) ?_
      refine lv_bipush (v := 41) hx hb dX8_cell_21 (by decide) ?_
      refine lv_imul hx hb dX8_cell_23 ?_
      refine lv_iload_n hx hb dX8_cell_24 rfl (lv_at hl 2 rfl) ?_
      refine lv_iadd hx hb dX8_cell_25 ?_
      refine lv_aload_n hx hb dX8_cell_26 rfl (lv_at hl 0 rfl) ?_
      refine lv_iload_n hx hb dX8_cell_27 rfl (lv_at hl 1 rfl) ?_
      refine z_calli (z_runV (As := [.int (nI l1)]) (rest := [.int (((nI l1) * 41) + x)]) ⟨hx, hb, hml, hown, hts⟩ hK hS ((k_lowestAt Z g k kb b lo hi A v1 v2 v3 hY l1 hl1) l _) gX8_cell_X8_lowestAt rfl 1 (by decide +kernel) ⟨Nat.le_of_ble_eq_true rfl, Nat.le_of_ble_eq_true rfl⟩ h_w hkw rfl rfl hl.1 rfl (Nat.le_of_ble_eq_true rfl) dX8_cell_28 ⟨Nat.le_of_ble_eq_true rfl, Nat.le_of_ble_eq_true rfl⟩) hS (fun rc g_7 H locs hp_8 hS => ?_)
      obtain ⟨rfl, hp_8⟩ := hp_8
      have hrc : rc.toInt = lo l1 := by rw [hp_8]; unfold zLO; rw [if_pos hzi.1]
      refine lv_isub hx hb dX8_cell_31 ?_
      refine z_iret hx hb hr hlocks hS ?_ dX8_cell_32
      have hl12 := hzi.1
      have e1 : (nI l1 * 41).toInt = (l1 : Int) * 41 := by rw [fb_mulI (by rw [nI_toInt (by omega), tI_41]; omega) (by rw [nI_toInt (by omega), tI_41]; omega), nI_toInt (by omega), tI_41]
      have e2 : (nI l1 * 41 + x).toInt = (l1 : Int) * 41 + x.toInt := by rw [fb_addI (by omega) (by omega), e1]
      exact ⟨rfl, Or.inl ⟨hzi, z_nI_is (by rw [fb_subI (by omega) (by omega), e2, hrc]; omega), by omega⟩⟩
    · have i_6 := z_nle c_6
      refine lv_iconst (v := (-1)) hx hb dX8_cell_18 (by decide) ?_
      refine z_iret hx hb hr hlocks hS ?_ dX8_cell_19
      exact ⟨rfl, Or.inr ⟨fun h9 => by have := hz.mp h9; omega, rfl⟩⟩

theorem in_X8_at_8 : ∀ w ∈ wsX80, w ∈ wsX8_at := by decide +kernel
set_option maxHeartbeats 4000000 in
set_option maxRecDepth 100000 in
theorem k_at (Z : zT) (g : Nat → va_E) (k kb : Nat) (b : zb) (lo hi : Nat → Int) (A : Nat → Int → Int) (v1 v2 : Int32) (v3 : Int64) (hY : z_wy Z g k kb lo hi A v1 v2 v3) (l1 : Nat) (hl1 : l1 ≤ 13) (x : Int32) (hx9 : -1000000 ≤ x.toInt ∧ x.toInt ≤ 1000000) : z_Ml Z yX8_at wsX8_at 2 43 [.ref (Z.2.1 k), .int (nI l1), .int x] g (fun r g1 => g = g1 ∧ r.toInt = A l1 x.toInt) := by
  intro l sz
  obtain ⟨lw, hw, tb, hO, hwb, hlh, hA⟩ := id hY
  obtain ⟨h_w, h_l, h_h, h_t, hkM, hsep⟩ := id hO
  have hkw : k < Z.1 := by omega
  have hkw1 : k + 1 < Z.1 := by omega
  have hkw2 : k + 2 < Z.1 := by omega
  have hkw3 : k + 3 < Z.1 := by omega
  
  refine z_enter (maxL := 4) (ret := (some .long)) (lv := [(0, .ref (Z.2.1 k)), (1, .int (nI l1)), (2, .int x)]) (plainFor_of_name (by decide +kernel)) rfl (fun ls h => by subst h; exact lv_entry [.ref (Z.2.1 k), .int (nI l1), .int x] (n := 4) (Nat.le_of_ble_eq_true rfl)) ?_
  intro p e s m args below meth c hx hb hml hr hlocks hown hts hK hS hsz ls hl
  refine lv_aload_n hx hb dX8_at_0 rfl (lv_at hl 0 rfl) ?_
  refine lv_iload_n hx hb dX8_at_1 rfl (lv_at hl 1 rfl) ?_
  refine lv_iload_n hx hb dX8_at_2 rfl (lv_at hl 2 rfl) ?_
  refine z_calli (z_runV (As := [.int (nI l1), .int x]) (rest := []) ⟨hx, hb, hml, hown, hts⟩ hK hS ((k_cell Z g k kb b lo hi A v1 v2 v3 hY l1 hl1 x hx9) l _) gX8_at_X8_cell rfl 2 (by decide +kernel) ⟨Nat.le_of_ble_eq_true rfl, Nat.le_of_ble_eq_true rfl⟩ h_w hkw rfl rfl hl.1 rfl (Nat.le_of_ble_eq_true rfl) dX8_at_3 ⟨Nat.le_of_ble_eq_true rfl, Nat.le_of_ble_eq_true rfl⟩) hS (fun rc g_1 H locs hp_2 hS => ?_)
  obtain ⟨rfl, hp_2⟩ := hp_2
  have hrc := hp_2
  refine lv_istore_n (lv' := [(3, .int rc), (0, .ref (Z.2.1 k)), (1, .int (nI l1)), (2, .int x)]) hx hb dX8_at_6 rfl hl (by decide) rfl (fun ls hl => ?_)
  refine lv_iload_n hx hb dX8_at_7 rfl (lv_at hl 0 rfl) ?_
  refine lv_if_lt (tgt := 29) hx hb dX8_at_8 (by decide) (fun c_3 => ?_) (fun c_3 => ?_)
  · have i_3 := z_lt c_3
    rw [tI_0] at i_3
    have hz0 : A l1 x.toInt = 0 := by
      rw [hA]; unfold zA
      rcases hrc with ⟨h1, h2, h3⟩ | ⟨h1, h2⟩
      · rw [h2, nI_toInt (by omega)] at i_3; exact absurd i_3 (by omega)
      · rw [if_neg h1]
    refine lv_lconst (v := 0) hx hb dX8_at_29 rfl ?_
    refine z_lret hx hb hr hlocks hS ?_ dX8_at_30
    exact ⟨rfl, by rw [hz0]; rfl⟩
  · have i_3 := z_nlt c_3
    rw [tI_0] at i_3
    have hrc2 : zin lo hi l1 x.toInt ∧ rc = nI (l1 * 41 + (x.toInt - lo l1).toNat) ∧ l1 * 41 + (x.toInt - lo l1).toNat < 533 := by
      rcases hrc with h1 | ⟨h1, h2⟩
      · exact h1
      · rw [h2] at i_3; exact absurd i_3 (by decide)
    obtain ⟨hzi, hrc3, hrc4⟩ := hrc2
    have hz0 : A l1 x.toInt = (tb (l1 * 41 + (x.toInt - lo l1).toNat)).toInt := by rw [hA]; unfold zA; rw [if_pos hzi]
    refine lv_iload_n hx hb dX8_at_11 rfl (lv_at hl 0 rfl) ?_
    refine lv_aload_n hx hb dX8_at_12 rfl (lv_at hl 1 rfl) ?_
    refine z_get (own := RX8) (C := RX8) (T := TX8) (N := 7) hx hb hts in_X8_at_8 hown hK hS h_w hkw rfl 3 (by decide) (List.mem_of_getElem? (i := 1) rfl) rfl rfl dX8_at_13 ?_
    refine z_alen (v := 533) hx hb hK hS 1 h_t hkw3 rfl rfl dX8_at_16 ?_
    refine lv_icmp_ge (tgt := 29) hx hb dX8_at_17 (by decide) (fun c_4 => ?_) (fun c_4 => ?_)
    · have i_4 := z_le c_4
      rw [tI_533] at i_4
      exfalso; rw [hrc3, nI_toInt (by omega)] at i_4; omega
    · have i_4 := z_nle c_4
      rw [tI_533] at i_4
      refine lv_aload_n hx hb dX8_at_20 rfl (lv_at hl 1 rfl) ?_
      refine z_get (own := RX8) (C := RX8) (T := TX8) (N := 7) hx hb hts in_X8_at_8 hown hK hS h_w hkw rfl 3 (by decide) (List.mem_of_getElem? (i := 1) rfl) rfl rfl dX8_at_21 ?_
      refine lv_iload_n hx hb dX8_at_24 rfl (lv_at hl 0 rfl) ?_
      refine z_lald hx hb hK hS h_t hkw3 (by rw [hrc3]; exact vp_in_nI (by omega) (by omega)) dX8_at_25 ?_
      rw [show tb rc.toNatClampNeg = tb (l1 * 41 + (x.toInt - lo l1).toNat) from by rw [hrc3, nI_clamp (by omega)]]
      refine lv_goto (tgt := 30) hx hb dX8_at_26 (by decide) ?_
      refine z_lret hx hb hr hlocks hS ?_ dX8_at_30
      exact ⟨rfl, by rw [hz0]⟩

theorem in_X8_put_8 : ∀ w ∈ wsX80, w ∈ wsX8_put := by decide +kernel
set_option maxHeartbeats 4000000 in
set_option maxRecDepth 100000 in
theorem k_put (Z : zT) (g : Nat → va_E) (k kb : Nat) (b : zb) (lo hi : Nat → Int) (A : Nat → Int → Int) (v1 v2 : Int32) (v3 : Int64) (hY : z_wy Z g k kb lo hi A v1 v2 v3) (l1 : Nat) (hl1 : l1 ≤ 13) (x : Int32) (hx9 : -1000000 ≤ x.toInt ∧ x.toInt ≤ 1000000) (vv : Int64) : z_Mv Z yX8_put wsX8_put 2 43 [.ref (Z.2.1 k), .int (nI l1), .int x, .long vv] g (fun g1 => z_wy Z g1 k kb lo hi (zput lo hi A l1 x.toInt vv.toInt) v1 v2 v3 ∧ z_fr k 4 g g1) := by
  intro l sz
  obtain ⟨lw, hw, tb, hO, hwb, hlh, hA⟩ := id hY
  obtain ⟨h_w, h_l, h_h, h_t, hkM, hsep⟩ := id hO
  have hkw : k < Z.1 := by omega
  have hkw1 : k + 1 < Z.1 := by omega
  have hkw2 : k + 2 < Z.1 := by omega
  have hkw3 : k + 3 < Z.1 := by omega
  
  refine z_enter (maxL := 6) (ret := none) (lv := [(0, .ref (Z.2.1 k)), (1, .int (nI l1)), (2, .int x), (3, .long vv)]) (plainFor_of_name (by decide +kernel)) rfl (fun ls h => by subst h; exact lv_entry [.ref (Z.2.1 k), .int (nI l1), .int x, .long vv] (n := 6) (Nat.le_of_ble_eq_true rfl)) ?_
  intro p e s m args below meth c hx hb hml hr hlocks hown hts hK hS hsz ls hl
  refine lv_aload_n hx hb dX8_put_0 rfl (lv_at hl 0 rfl) ?_
  refine lv_iload_n hx hb dX8_put_1 rfl (lv_at hl 1 rfl) ?_
  refine lv_iload_n hx hb dX8_put_2 rfl (lv_at hl 2 rfl) ?_
  refine z_calli (z_runV (As := [.int (nI l1), .int x]) (rest := []) ⟨hx, hb, hml, hown, hts⟩ hK hS ((k_cell Z g k kb b lo hi A v1 v2 v3 hY l1 hl1 x hx9) l _) gX8_put_X8_cell rfl 2 (by decide +kernel) ⟨Nat.le_of_ble_eq_true rfl, Nat.le_of_ble_eq_true rfl⟩ h_w hkw rfl rfl hl.1 rfl (Nat.le_of_ble_eq_true rfl) dX8_put_3 ⟨Nat.le_of_ble_eq_true rfl, Nat.le_of_ble_eq_true rfl⟩) hS (fun rc g_1 H locs hp_2 hS => ?_)
  obtain ⟨rfl, hp_2⟩ := hp_2
  have hrc := hp_2
  refine lv_istore (lv' := [(5, .int rc), (0, .ref (Z.2.1 k)), (1, .int (nI l1)), (2, .int x), (3, .long vv)]) hx hb dX8_put_6 hl (by decide) rfl (fun ls hl => ?_)
  refine lv_iload hx hb dX8_put_8 (lv_at hl 0 rfl) ?_
  refine lv_if_lt (tgt := 31) hx hb dX8_put_10 (by decide) (fun c_3 => ?_) (fun c_3 => ?_)
  · have i_3 := z_lt c_3
    rw [tI_0] at i_3
    have hno : ¬ zin lo hi l1 x.toInt := by
      rcases hrc with ⟨h1, h2, h3⟩ | ⟨h1, h2⟩
      · rw [h2, nI_toInt (by omega)] at i_3; exact absurd i_3 (by omega)
      · exact h1
    refine z_vret hx hb hr hlocks hS ?_ dX8_put_31
    exact ⟨⟨lw, hw, tb, hO, hwb, hlh, fun l v => by rw [zput_o hno]; exact hA l v⟩, z_fr.rf⟩
  · have i_3 := z_nlt c_3
    rw [tI_0] at i_3
    have hrc2 : zin lo hi l1 x.toInt ∧ rc = nI (l1 * 41 + (x.toInt - lo l1).toNat) ∧ l1 * 41 + (x.toInt - lo l1).toNat < 533 := by
      rcases hrc with h1 | ⟨h1, h2⟩
      · exact h1
      · rw [h2] at i_3; exact absurd i_3 (by decide)
    obtain ⟨hzi, hrc3, hrc4⟩ := hrc2
    refine lv_iload hx hb dX8_put_13 (lv_at hl 0 rfl) ?_
    refine lv_aload_n hx hb dX8_put_15 rfl (lv_at hl 1 rfl) ?_
    refine z_get (own := RX8) (C := RX8) (T := TX8) (N := 7) hx hb hts in_X8_put_8 hown hK hS h_w hkw rfl 3 (by decide) (List.mem_of_getElem? (i := 1) rfl) rfl rfl dX8_put_16 ?_
    refine z_alen (v := 533) hx hb hK hS 1 h_t hkw3 rfl rfl dX8_put_19 ?_
    refine lv_icmp_ge (tgt := 31) hx hb dX8_put_20 (by decide) (fun c_4 => ?_) (fun c_4 => ?_)
    · have i_4 := z_le c_4
      rw [tI_533] at i_4
      exfalso; rw [hrc3, nI_toInt (by omega)] at i_4; omega
    · have i_4 := z_nle c_4
      rw [tI_533] at i_4
      refine lv_aload_n hx hb dX8_put_23 rfl (lv_at hl 1 rfl) ?_
      refine z_get (own := RX8) (C := RX8) (T := TX8) (N := 7) hx hb hts in_X8_put_8 hown hK hS h_w hkw rfl 3 (by decide) (List.mem_of_getElem? (i := 1) rfl) rfl rfl dX8_put_24 ?_
      refine lv_iload hx hb dX8_put_27 (lv_at hl 0 rfl) ?_
      refine lv_lload_n hx hb dX8_put_29 rfl (lv_at hl 4 rfl) ?_
      refine z_last hx hb hK hS h_t hkw3 (by rw [hrc3]; exact vp_in_nI (by omega) (by omega)) dX8_put_30 (fun g_5 H locs hg_5 hS => ?_)
      have h_t : g_5 (k + 3) = .inl (Z.2.2.2 1, 533, .inr (.inl (vp_updL tb rc.toNatClampNeg vv))) := z_up_s hg_5
      have h_w := z_up_n hg_5 h_w (by omega)
      have h_l := z_up_n hg_5 h_l (by omega)
      have h_h := z_up_n hg_5 h_h (by omega)
      refine z_vret hx hb hr hlocks hS ?_ dX8_put_31
      refine ⟨⟨lw, hw, _, ⟨h_w, h_l, h_h, h_t, hkM, hsep⟩, hwb, hlh, fun l v => ?_⟩, (z_fr.rf.up hg_5 (by omega))⟩
      rw [hrc3, nI_clamp (by omega)]
      unfold zA
      by_cases h9 : l = l1 ∧ v = x.toInt
      · obtain ⟨rfl, rfl⟩ := h9
        rw [zput_s hzi, if_pos hzi, pk_uLs]
      · rw [zput_n h9, hA]
        unfold zA
        by_cases h7 : zin lo hi l v
        · rw [if_pos h7, if_pos h7, pk_uLn]
          intro h6
          have h5 := (hwb l h7.1).1
          have h4 := (hwb l1 hzi.1).1
          have h3 := hzi.2
          have e1 : l = l1 := by omega
          subst e1
          exact h9 ⟨rfl, by omega⟩
        · rw [if_neg h7, if_neg h7]

