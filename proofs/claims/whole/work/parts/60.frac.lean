/-! longs, the greatest common divisor, fractions -/
theorem z_lN_is {x : Int64} {n : Nat} (h : x.toInt = (n : Int)) : x = lN n := by
  have := fb_rngL x
  apply z_injL
  rw [pk_lT (by omega)]; exact h
theorem zl_eq {x y : Int64} (h : x = y) : x.toInt = y.toInt := congrArg _ h
theorem z_labs {x : Int64} (h : -4611686018427387904 < x.toInt) : (if 0 < x then x else -x) = lN x.toInt.natAbs := by
  have hr := fb_rngL x
  apply z_lN_is
  by_cases h0 : 0 < x
  · have h1 := Int64.lt_iff_toInt_lt.mp h0
    rw [show (0 : Int64).toInt = 0 from rfl] at h1
    rw [if_pos h0]; omega
  · have h1 : ¬ (0 : Int) < x.toInt := fun q => h0 (Int64.lt_iff_toInt_lt.mpr q)
    rw [if_neg h0, Int64.toInt_neg, fb_bmodL (by omega) (by omega)]; omega
theorem z_half {a c : Nat} (h : c ≤ a) (hc : 0 < c) : 2 * (a % c) ≤ a := by
  have h1 := Nat.mod_lt a hc
  have h2 := Nat.div_add_mod a c
  have h3 : 1 ≤ a / c := (Nat.one_le_div_iff hc).mpr h
  have h4 : c * 1 ≤ c * (a / c) := Nat.mul_le_mul_left c h3
  omega
theorem z_pot {a c i e : Nat} (h : c ≤ a) (hc : 0 < c) (hp : a * c * 2 ^ i ≤ e) : c * (a % c) * 2 ^ (i + 1) ≤ e := by
  have h1 := z_half h hc
  refine Nat.le_trans ?_ hp
  rw [Nat.pow_succ, Nat.mul_comm (2 ^ i) 2, ← Nat.mul_assoc]
  refine Nat.mul_le_mul_right _ ?_
  rw [Nat.mul_assoc, Nat.mul_comm a c]
  exact Nat.mul_le_mul_left c (by omega)
theorem z_pot0 {a c i e : Nat} (h : c ≤ a) (hp : a * c * 2 ^ i ≤ e) (he : e < 2 ^ i) : c = 0 := by
  rcases Nat.eq_zero_or_pos c with q | q
  · exact q
  · exfalso
    have h1 : 1 ≤ a * c := Nat.mul_pos (by omega) q
    have h2 : 1 * 2 ^ i ≤ a * c * 2 ^ i := Nat.mul_le_mul_right _ h1
    omega
/-- the value of a row, from its end, not yet in lowest terms -/
def zvT (p q : Int) (w : zr) : Nat → Int × Int
  | 0 => (0, 1)
  | j + 1 => (w.2 (w.1 - (j + 1)) * (zvT p q w j).2 + p * (zvT p q w j).1, (zvT p q w j).2 * q)
theorem zvT_bd {p q : Int} {w : zr} (hp : -10 ≤ p ∧ p ≤ 10) (hq : 1 ≤ q ∧ q ≤ 9) (hw : ∀ i, i < w.1 → -20 ≤ w.2 i ∧ w.2 i ≤ 20) : ∀ j, j ≤ w.1 → 1 ≤ (zvT p q w j).2 ∧ (zvT p q w j).2 ≤ (9 ^ j : Nat) ∧ ((zvT p q w j).1).natAbs ≤ 20 * j * 10 ^ j
  | 0, _ => by simp [zvT]
  | j + 1, hj => by
    obtain ⟨h1, h2, h3⟩ := zvT_bd hp hq hw j (by omega)
    have hwj := hw (w.1 - (j + 1)) (by omega)
    show 1 ≤ (zvT p q w j).2 * q ∧ (zvT p q w j).2 * q ≤ _ ∧ (w.2 (w.1 - (j + 1)) * (zvT p q w j).2 + p * (zvT p q w j).1).natAbs ≤ _
    have e1 : 1 * 1 ≤ (zvT p q w j).2 * q := Int.mul_le_mul h1 hq.1 (by omega) (by omega)
    have e2 : (zvT p q w j).2 * q ≤ (9 ^ j : Nat) * 9 := Int.mul_le_mul h2 hq.2 (by omega) (by omega)
    have e3 : (w.2 (w.1 - (j + 1)) * (zvT p q w j).2).natAbs ≤ 20 * 9 ^ j := by
      rw [Int.natAbs_mul]; exact Nat.mul_le_mul (by omega) (by omega)
    have e4 : (p * (zvT p q w j).1).natAbs ≤ 10 * (20 * j * 10 ^ j) := by
      rw [Int.natAbs_mul]; exact Nat.mul_le_mul (by omega) h3
    have e5 : 9 ^ j ≤ 10 ^ j := Nat.pow_le_pow_left (by omega) j
    have e6 : 20 * (j + 1) * 10 ^ (j + 1) = 10 * (20 * j * 10 ^ j) + 200 * 10 ^ j := by rw [Nat.pow_succ]; grind
    have e7 : ((9 ^ (j + 1) : Nat) : Int) = (9 ^ j : Nat) * 9 := by rw [Nat.pow_succ]; exact Int.natCast_mul _ _
    refine ⟨by omega, by rw [e7]; exact e2, ?_⟩
    omega
def zvG (b : zb) (w : zr) : Nat := Nat.gcd (zvT b.1 b.2.1 w w.1).1.natAbs (zvT b.1 b.2.1 w w.1).2.natAbs
def zvt (b : zb) (w : zr) : Int := (zvT b.1 b.2.1 w w.1).1 / zvG b w
def zvb (b : zb) (w : zr) : Int := (zvT b.1 b.2.1 w w.1).2 / zvG b w
theorem zvT_12 {b : zb} (hok : zb_ok b) {w : zr} (hn : w.1 ≤ 12) (hw : ∀ i, i < w.1 → -20 ≤ w.2 i ∧ w.2 i ≤ 20) {j : Nat} (hj : j ≤ w.1) : 1 ≤ (zvT b.1 b.2.1 w j).2 ∧ (zvT b.1 b.2.1 w j).2 ≤ 282429536481 ∧ -240000000000000 ≤ (zvT b.1 b.2.1 w j).1 ∧ (zvT b.1 b.2.1 w j).1 ≤ 240000000000000 := by
  have hP := zP_bd hok
  have h := zvT_bd (p := b.1) (q := b.2.1) (w := w) (by have := hok.1; omega) (by have := hok.2.1; omega) hw j hj
  have h9 : 9 ^ j ≤ 9 ^ 12 := Nat.pow_le_pow_right (by omega) (by omega)
  have e9 : (9 : Nat) ^ 12 = 282429536481 := by decide +kernel
  have h10 : 20 * j * 10 ^ j ≤ 20 * 12 * 10 ^ 12 := Nat.mul_le_mul (by omega) (Nat.pow_le_pow_right (by omega) (by omega))
  have e10 : 20 * 12 * 10 ^ 12 = 240000000000000 := by decide +kernel
  omega
theorem zv_low {b : zb} (hok : zb_ok b) {w : zr} (hn : w.1 ≤ 12) (hw : ∀ i, i < w.1 → -20 ≤ w.2 i ∧ w.2 i ≤ 20) : 0 < zvG b w ∧ (zvG b w : Int) ∣ (zvT b.1 b.2.1 w w.1).1 ∧ (zvG b w : Int) ∣ (zvT b.1 b.2.1 w w.1).2 := by
  have h := zvT_12 hok hn hw (Nat.le_refl w.1)
  refine ⟨Nat.gcd_pos_of_pos_right _ (by omega), ?_, ?_⟩
  · exact Int.ofNat_dvd_left.mpr (Nat.gcd_dvd_left _ _)
  · exact Int.ofNat_dvd_left.mpr (Nat.gcd_dvd_right _ _)
theorem zv_bd {b : zb} (hok : zb_ok b) {w : zr} (hn : w.1 ≤ 12) (hw : ∀ i, i < w.1 → -20 ≤ w.2 i ∧ w.2 i ≤ 20) : 1 ≤ zvb b w ∧ zvb b w ≤ 282429536481 ∧ -240000000000000 ≤ zvt b w ∧ zvt b w ≤ 240000000000000 := by
  have h := zvT_12 hok hn hw (Nat.le_refl w.1)
  obtain ⟨g1, ⟨c1, g2⟩, ⟨c2, g3⟩⟩ := zv_low hok hn hw
  unfold zvt zvb
  rw [g2, g3] at h ⊢
  rw [Int.mul_ediv_cancel_left _ (by omega), Int.mul_ediv_cancel_left _ (by omega)]
  have k0 : (zvG b w : Int) * 0 = 0 := Int.mul_zero _
  have k1 : 0 < c2 := Int.lt_of_mul_lt_mul_left (a := (zvG b w : Int)) (by omega) (by omega)
  have k2 : 1 * c2 ≤ (zvG b w : Int) * c2 := Int.mul_le_mul_of_nonneg_right (by omega) (by omega)
  have k3 : c1.natAbs ≤ ((zvG b w : Int) * c1).natAbs := by
    rw [Int.natAbs_mul]; exact Nat.le_mul_of_pos_left _ (by omega)
  omega
theorem z_ediv_tdiv {a c : Int} (h : c ∣ a) : a.tdiv c = a / c := Int.tdiv_eq_ediv_of_dvd h
def zsg (x : Int) : Int := if x < 0 then -1 else if 0 < x then 1 else 0
theorem zsg_neg (x : Int) : zsg (-x) = -zsg x := by unfold zsg; split <;> split <;> (try split) <;> omega
abbrev zib (p q : Int) : Prop := 2 ≤ p.natAbs ∧ p.natAbs ≤ 10 ∧ 1 ≤ q ∧ q < p.natAbs ∧ Nat.gcd p.natAbs q.natAbs = 1
theorem z_fd_cmp {a e c d u v : Int} (he : 0 < e) (hd : 0 < d) (h1 : e * u ≤ a) (h2 : a < e * u + e) (h3 : d * v ≤ c) (h4 : c < d * v + d) : (v < u → 0 < a * d - c * e) ∧ (u < v → a * d - c * e < 0) ∧ (u = v → a * d - c * e = -(e * (c - v * d) - d * (a - u * e))) := by
  have k1 : (e * u) * d ≤ a * d := Int.mul_le_mul_of_nonneg_right h1 (by omega)
  have k2 : a * d < (e * u + e) * d := Int.mul_lt_mul_of_pos_right h2 hd
  have k3 : (d * v) * e ≤ c * e := Int.mul_le_mul_of_nonneg_right h3 (by omega)
  have k4 : c * e < (d * v + d) * e := Int.mul_lt_mul_of_pos_right h4 he
  have hp : 0 < e * d := Int.mul_pos he hd
  refine ⟨fun h => ?_, fun h => ?_, fun h => ?_⟩
  · have k5 : (e * d) * (v + 1) ≤ (e * d) * u := Int.mul_le_mul_of_nonneg_left (by omega) (by omega)
    have e1 : (d * v + d) * e = (e * d) * (v + 1) := by grind
    have e2 : (e * u) * d = (e * d) * u := by grind
    omega
  · have k5 : (e * d) * (u + 1) ≤ (e * d) * v := Int.mul_le_mul_of_nonneg_left (by omega) (by omega)
    have e1 : (e * u + e) * d = (e * d) * (u + 1) := by grind
    have e2 : (d * v) * e = (e * d) * v := by grind
    omega
  · subst h; grind
theorem zsg_pos {x : Int} (h : 0 < x) : zsg x = 1 := by unfold zsg; rw [if_neg (by omega), if_pos h]
theorem zsg_lt {x : Int} (h : x < 0) : zsg x = -1 := by unfold zsg; rw [if_pos h]
set_option maxHeartbeats 4000000 in
set_option maxRecDepth 100000 in
theorem k_floorDivL (Z : zT) (g : Nat → va_E) (x y : Int64) (hy : 1 ≤ y.toInt) (hx9 : -4611686018427387904 < x.toInt) : z_Ml Z yJ9_floorDiv_f86c9 wsJ9_floorDiv_f86c9 0 0 [.long x, .long y] g (fun r g1 => g = g1 ∧ y.toInt * r.toInt ≤ x.toInt ∧ x.toInt < y.toInt * r.toInt + y.toInt) := by
  intro l sz
  refine z_enter (maxL := 6) (ret := (some .long)) (lv := [(0, .long x), (2, .long y)]) (by decide +kernel) rfl (fun ls h => by subst h; exact lv_entry [.long x, .long y] (n := 6) (Nat.le_of_ble_eq_true rfl)) ?_
  intro p e s m args below meth c hx hb hml hr hlocks hown hts hK hS hsz ls hl
  refine lv_lload_n hx hb dJ9_floorDiv_f86c9_0 rfl (lv_at hl 0 rfl) ?_
  refine lv_lload_n hx hb dJ9_floorDiv_f86c9_1 rfl (lv_at hl 1 rfl) ?_
  refine lv_ldiv hx hb dJ9_floorDiv_f86c9_2 (fun h => by rw [h] at hy; exact absurd hy (by decide)) ?_
  refine lv_topl (fun td etd => ?_)
  have hxr := fb_rngL x
  have hyr := fb_rngL y
  have hna0 : (x.toInt.tdiv y.toInt).natAbs ≤ x.toInt.natAbs := z_tdiv_bd _ _
  have htd : td.toInt = x.toInt.tdiv y.toInt := by rw [etd, Int64.toInt_div, fb_bmodL (by omega) (by omega)]
  have hmt := Int.tmod_add_mul_tdiv x.toInt y.toInt
  have hsg := z_tmod_sign x.toInt y.toInt (by omega)
  have hna : (x.toInt.tdiv y.toInt * y.toInt).natAbs ≤ x.toInt.natAbs := by
    rw [Int.natAbs_mul, Int.natAbs_tdiv]; exact Nat.div_mul_le_self _ _
  have hcm9 : x.toInt.tdiv y.toInt * y.toInt = y.toInt * x.toInt.tdiv y.toInt := Int.mul_comm _ _
  have hxn := z_xor_negL x y
  refine lv_lstore (lv' := [(4, .long td), (0, .long x), (2, .long y)]) hx hb dJ9_floorDiv_f86c9_3 hl (by decide) rfl (fun ls hl => ?_)
  refine lv_lload_n hx hb dJ9_floorDiv_f86c9_5 rfl (lv_at hl 1 rfl) ?_
  refine lv_lload_n hx hb dJ9_floorDiv_f86c9_6 rfl (lv_at hl 2 rfl) ?_
  refine lv_lxor hx hb dJ9_floorDiv_f86c9_7 ?_
  refine lv_lconst (v := 0) hx hb dJ9_floorDiv_f86c9_8 rfl ?_
  refine W.lcmp hx hb dJ9_floorDiv_f86c9_9 ?_
  have hc1 := z_cmpL (x := x ^^^ y) (y := 0)
  rw [show (0 : Int64).toInt = 0 from rfl] at hc1
  refine lv_if_ge (tgt := 27) hx hb dJ9_floorDiv_f86c9_10 (by decide) (fun c_1 => ?_) (fun c_1 => ?_)
  · have i_1 := z_le c_1
    rw [tI_0] at i_1
    refine lv_lload hx hb dJ9_floorDiv_f86c9_27 (lv_at hl 0 rfl) ?_
    refine z_lret hx hb hr hlocks hS ?_ dJ9_floorDiv_f86c9_29
    exact ⟨rfl, by rw [htd]; omega⟩
  · have i_1 := z_nle c_1
    rw [tI_0] at i_1
    refine lv_lload hx hb dJ9_floorDiv_f86c9_13 (lv_at hl 0 rfl) ?_
    refine lv_lload_n hx hb dJ9_floorDiv_f86c9_15 rfl (lv_at hl 2 rfl) ?_
    refine lv_lmul hx hb dJ9_floorDiv_f86c9_16 ?_
    refine lv_lload_n hx hb dJ9_floorDiv_f86c9_17 rfl (lv_at hl 1 rfl) ?_
    refine W.lcmp hx hb dJ9_floorDiv_f86c9_18 ?_
    have hpr : (td * y).toInt = y.toInt * x.toInt.tdiv y.toInt := by rw [fb_mulL (by rw [htd]; omega) (by rw [htd]; omega), htd]; exact hcm9
    have hc2 := z_cmp0 (x := td * y) (y := x)
    refine lv_if_eq (tgt := 27) hx hb dJ9_floorDiv_f86c9_19 (by decide) (fun c_2 => ?_) (fun c_2 => ?_)
    · have i_2 := z_eq c_2
      rw [tI_0] at i_2
      have hc3 := hc2.mp c_2
      refine lv_lload hx hb dJ9_floorDiv_f86c9_27 (lv_at hl 0 rfl) ?_
      refine z_lret hx hb hr hlocks hS ?_ dJ9_floorDiv_f86c9_29
      exact ⟨rfl, by rw [htd]; omega⟩
    · have i_2 := z_ne c_2
      rw [tI_0] at i_2
      have hc3 : ¬ (td * y).toInt = x.toInt := fun q9 => c_2 (hc2.mpr q9)
      refine lv_lload hx hb dJ9_floorDiv_f86c9_22 (lv_at hl 0 rfl) ?_
      refine lv_lconst (v := 1) hx hb dJ9_floorDiv_f86c9_24 rfl ?_
      refine lv_lsub hx hb dJ9_floorDiv_f86c9_25 ?_
      refine z_lret hx hb hr hlocks hS ?_ dJ9_floorDiv_f86c9_26
      exact ⟨rfl, by
        rw [fb_subL (by rw [show (1 : Int64).toInt = 1 from rfl]; omega) (by rw [show (1 : Int64).toInt = 1 from rfl]; omega), show (1 : Int64).toInt = 1 from rfl, htd, Int.mul_sub, Int.mul_one]
        omega⟩

set_option maxHeartbeats 4000000 in
set_option maxRecDepth 100000 in
theorem k_commonDivisor (Z : zT) (g : Nat → va_E) (x y : Int64) (hx9 : -4611686018427387904 < x.toInt ∧ x.toInt < 4611686018427387904) (hy9 : -4611686018427387904 < y.toInt ∧ y.toInt < 4611686018427387904) : z_Ml Z yX9_commonDivisor wsX9_commonDivisor 1 21 [.long x, .long y] g (fun r g1 => g = g1 ∧ r.toInt = (Nat.gcd x.toInt.natAbs y.toInt.natAbs : Int)) := by
  intro l sz
  refine z_enter (maxL := 11) (ret := (some .long)) (lv := [(0, .long x), (2, .long y)]) (plainFor_of_name (by decide +kernel)) rfl (fun ls h => by subst h; exact lv_entry [.long x, .long y] (n := 11) (Nat.le_of_ble_eq_true rfl)) ?_
  intro p e s m args below meth c hx hb hml hr hlocks hown hts hK hS hsz ls hl
  refine lv_lload_n hx hb dX9_commonDivisor_0 rfl (lv_at hl 0 rfl) ?_
  refine va_mabs_long hx hb (hml.trans hl.1.symm) hown (hts _ (List.mem_of_getElem? (i := 1) rfl)) (hts _ (List.mem_of_getElem? (i := 2) rfl)) (hts _ (List.mem_of_getElem? (i := 3) rfl)) (hts _ (List.mem_of_getElem? (i := 4) rfl)) (Nat.le_of_ble_eq_true rfl) (Nat.le_of_ble_eq_true rfl) (Nat.le_of_ble_eq_true rfl) (Nat.le_of_ble_eq_true rfl) dX9_commonDivisor_1 ?_
  rw [show (if 0 < x then x else -x) = lN x.toInt.natAbs from z_labs hx9.1]
  refine lv_lstore (lv' := [(4, .long (lN x.toInt.natAbs)), (0, .long x), (2, .long y)]) hx hb dX9_commonDivisor_4 hl (by decide) rfl (fun ls hl => ?_)
  refine lv_lload_n hx hb dX9_commonDivisor_6 rfl (lv_at hl 2 rfl) ?_
  refine va_mabs_long hx hb (hml.trans hl.1.symm) hown (hts _ (List.mem_of_getElem? (i := 1) rfl)) (hts _ (List.mem_of_getElem? (i := 2) rfl)) (hts _ (List.mem_of_getElem? (i := 3) rfl)) (hts _ (List.mem_of_getElem? (i := 4) rfl)) (Nat.le_of_ble_eq_true rfl) (Nat.le_of_ble_eq_true rfl) (Nat.le_of_ble_eq_true rfl) (Nat.le_of_ble_eq_true rfl) dX9_commonDivisor_7 ?_
  rw [show (if 0 < y then y else -y) = lN y.toInt.natAbs from z_labs hy9.1]
  refine lv_lstore (lv' := [(6, .long (lN y.toInt.natAbs)), (4, .long (lN x.toInt.natAbs)), (0, .long x), (2, .long y)]) hx hb dX9_commonDivisor_10 hl (by decide) rfl (fun ls hl => ?_)
  refine lv_iconst (v := 0) hx hb dX9_commonDivisor_12 (by decide) ?_
  refine lv_istore (lv' := [(8, .int 0), (6, .long (lN y.toInt.natAbs)), (4, .long (lN x.toInt.natAbs)), (0, .long x), (2, .long y)]) hx hb dX9_commonDivisor_13 hl (by decide) rfl (fun ls hl => ?_)
  have hcut_15 : ∀ (nn_15 : Nat) (a : Nat) (c9 : Nat) (i : Nat) (hi : i ≤ 200) (hg9 : Nat.gcd a c9 = Nat.gcd x.toInt.natAbs y.toInt.natAbs) (hab : a < 4611686018427387904 ∧ c9 < 4611686018427387904) (hpo : i = 0 ∨ (c9 ≤ a ∧ a * c9 * 2 ^ i ≤ 2 ^ 125)) (hm_15 : 200 - i < nn_15) (H : Heap) (locs : List Loc) (ls : Array Slot), z_S Z (z_A Z sz) s.heap g H locs → lv_has ls 11 [(4, .long (lN a)), (6, .long (lN c9)), (8, .int (nI i))] → W p l e (headSpec wsX9_commonDivisor (z_rm 1 21)).room s m args below meth c H locs 0 0 (MQ below (va_Ql (fun r g1 => g = g1 ∧ r.toInt = (Nat.gcd x.toInt.natAbs y.toInt.natAbs : Int)) (z_B Z) (z_A Z sz)) args s 0 0 (z_A Z sz)) (F0 m 15 ls []) := by
    intro nn_15
    induction nn_15 with
    | zero => intro a c9 i hi hg9 hab hpo hm_15 H locs ls hS hl; exact absurd hm_15 (Nat.not_lt_zero _)
    | succ nn_15 ih_15 =>
      intro a c9 i hi hg9 hab hpo hm_15 H locs ls hS hl
      refine lv_iload hx hb dX9_commonDivisor_15 (lv_at hl 2 rfl) ?_
      refine lv_sipush (v := 200) hx hb dX9_commonDivisor_17 (by decide) ?_
      refine lv_icmp_ge (tgt := 51) hx hb dX9_commonDivisor_20 (by decide) (fun c_1 => ?_) (fun c_1 => ?_)
      · have i_1 := z_le c_1
        rw [nI_toInt (by omega)] at i_1
        rw [tI_200] at i_1
        have hc0 : c9 = 0 := by
          have hi200 : i = 200 := by omega
          subst hi200
          rcases hpo with h9 | ⟨h9, h8⟩
          · omega
          · exact z_pot0 h9 h8 (by decide +kernel)
        refine lv_lload hx hb dX9_commonDivisor_51 (lv_at hl 0 rfl) ?_
        refine z_lret hx hb hr hlocks hS ?_ dX9_commonDivisor_53
        exact ⟨rfl, by rw [pk_lT (by omega), ← hg9, hc0, Nat.gcd_zero_right]⟩
      · have i_1 := z_nle c_1
        rw [nI_toInt (by omega)] at i_1
        rw [tI_200] at i_1
        refine lv_lload hx hb dX9_commonDivisor_23 (lv_at hl 1 rfl) ?_
        refine lv_lconst (v := 0) hx hb dX9_commonDivisor_25 rfl ?_
        refine W.lcmp hx hb dX9_commonDivisor_26 ?_
        refine lv_if_eq (tgt := 51) hx hb dX9_commonDivisor_27 (by decide) (fun c_2 => ?_) (fun c_2 => ?_)
        · have i_2 := z_eq c_2
          rw [tI_0] at i_2
          have hc0 : c9 = 0 := by
            have h9 := z_cmp0.mp c_2
            rw [pk_lT (by omega), show (0 : Int64).toInt = 0 from rfl] at h9; omega
          refine lv_lload hx hb dX9_commonDivisor_51 (lv_at hl 0 rfl) ?_
          refine z_lret hx hb hr hlocks hS ?_ dX9_commonDivisor_53
          exact ⟨rfl, by rw [pk_lT (by omega), ← hg9, hc0, Nat.gcd_zero_right]⟩
        · have i_2 := z_ne c_2
          rw [tI_0] at i_2
          have hc9 : 0 < c9 := by
            rcases Nat.eq_zero_or_pos c9 with h9 | h9
            · subst h9; exact absurd (z_cmp0.mpr rfl) c_2
            · exact h9
          have hml9 := Nat.mod_lt a hc9
          refine lv_lload hx hb dX9_commonDivisor_30 (lv_at hl 0 rfl) ?_
          refine lv_lload hx hb dX9_commonDivisor_32 (lv_at hl 1 rfl) ?_
          refine lv_lrem hx hb dX9_commonDivisor_34 (fun h => by have := congrArg Int64.toInt h; rw [pk_lT (by omega), show (0 : Int64).toInt = 0 from rfl] at this; omega) ?_
          rw [show (lN a) - (lN a) / (lN c9) * (lN c9) = lN (a % c9) from pk_lRem (by omega) (by omega) (by omega)]
          refine lv_lstore (lv' := [(9, .long (lN (a % c9))), (4, .long (lN a)), (6, .long (lN c9)), (8, .int (nI i))]) hx hb dX9_commonDivisor_35 hl (by decide) rfl (fun ls hl => ?_)
          refine lv_lload hx hb dX9_commonDivisor_37 (lv_at hl 2 rfl) ?_
          refine lv_lstore (lv' := [(4, .long (lN c9)), (9, .long (lN (a % c9))), (6, .long (lN c9)), (8, .int (nI i))]) hx hb dX9_commonDivisor_39 hl (by decide) rfl (fun ls hl => ?_)
          refine lv_lload hx hb dX9_commonDivisor_41 (lv_at hl 1 rfl) ?_
          refine lv_lstore (lv' := [(6, .long (lN (a % c9))), (4, .long (lN c9)), (9, .long (lN (a % c9))), (8, .int (nI i))]) hx hb dX9_commonDivisor_43 hl (by decide) rfl (fun ls hl => ?_)
          refine lv_iinc (v := (nI (i + 1))) (lv' := [(8, .int (nI (i + 1))), (6, .long (lN (a % c9))), (4, .long (lN c9)), (9, .long (lN (a % c9)))]) hx hb dX9_commonDivisor_45 hl (k := 3) rfl (nI_1 _) (by decide) rfl (fun ls hl => ?_)
          refine lv_goto (tgt := 15) hx hb dX9_commonDivisor_48 (by decide) ?_
          exact ih_15 c9 (a % c9) (i + 1) (by omega) (by rw [← hg9, Nat.gcd_comm a c9, Nat.gcd_rec c9 a, Nat.gcd_comm]) (by omega) (Or.inr ⟨by omega, by
              rcases hpo with h9 | ⟨h9, h8⟩
              · subst h9
                have h7 : c9 * (a % c9) ≤ 4611686018427387904 * 4611686018427387904 := Nat.mul_le_mul (by omega) (by omega)
                have h6 : (4611686018427387904 * 4611686018427387904) * 2 ^ (0 + 1) = 2 ^ 125 := by decide +kernel
                rw [← h6]; exact Nat.mul_le_mul_right _ h7
              · exact z_pot h9 hc9 h8⟩) (by omega) _ _ _ hS (lv_sub hl [2, 1, 0] rfl)
  exact hcut_15 (200 - 0 + 1) x.toInt.natAbs y.toInt.natAbs 0 (by omega) rfl (by omega) (Or.inl rfl) (Nat.lt_succ_self _) _ _ _ hS (lv_sub hl [2, 1, 0] rfl)

set_option maxHeartbeats 4000000 in
set_option maxRecDepth 100000 in
theorem k_isWithin (Z : zT) (g : Nat → va_E) (x y : Int32) (hy : 0 ≤ y.toInt) : z_Mi Z yX9_isWithin wsX9_isWithin 0 0 [.int x, .int y] g (fun r g1 => g = g1 ∧ zbo r (-y.toInt ≤ x.toInt ∧ x.toInt ≤ y.toInt)) := by
  intro l sz
  have hny : (-y).toInt = -y.toInt := fb_negI (by omega)
  refine z_enter (maxL := 2) (ret := (some .boolean)) (lv := [(0, .int x), (1, .int y)]) (plainFor_of_name (by decide +kernel)) rfl (fun ls h => by subst h; exact lv_entry [.int x, .int y] (n := 2) (Nat.le_of_ble_eq_true rfl)) ?_
  intro p e s m args below meth c hx hb hml hr hlocks hown hts hK hS hsz ls hl
  refine lv_iload_n hx hb dX9_isWithin_0 rfl (lv_at hl 0 rfl) ?_
  refine lv_iload_n hx hb dX9_isWithin_1 rfl (lv_at hl 1 rfl) ?_
  refine lv_ineg hx hb dX9_isWithin_2 ?_
  refine lv_icmp_lt (tgt := 15) hx hb dX9_isWithin_3 (by decide) (fun c_1 => ?_) (fun c_1 => ?_)
  · have i_1 := z_lt c_1
    refine lv_iconst (v := 0) hx hb dX9_isWithin_15 (by decide) ?_
    refine z_zret hx hb hr hlocks hS (by decide) ?_ dX9_isWithin_16
    exact ⟨rfl, zbo_0 (fun h9 => by omega)⟩
  · have i_1 := z_nlt c_1
    refine lv_iload_n hx hb dX9_isWithin_6 rfl (lv_at hl 0 rfl) ?_
    refine lv_iload_n hx hb dX9_isWithin_7 rfl (lv_at hl 1 rfl) ?_
    refine lv_icmp_gt (tgt := 15) hx hb dX9_isWithin_8 (by decide) (fun c_2 => ?_) (fun c_2 => ?_)
    · have i_2 := z_lt c_2
      refine lv_iconst (v := 0) hx hb dX9_isWithin_15 (by decide) ?_
      refine z_zret hx hb hr hlocks hS (by decide) ?_ dX9_isWithin_16
      exact ⟨rfl, zbo_0 (fun h9 => by omega)⟩
    · have i_2 := z_nlt c_2
      refine lv_iconst (v := 1) hx hb dX9_isWithin_11 (by decide) ?_
      refine lv_goto (tgt := 16) hx hb dX9_isWithin_12 (by decide) ?_
      refine z_zret hx hb hr hlocks hS (by decide) ?_ dX9_isWithin_16
      exact ⟨rfl, zbo_1 ⟨by omega, by omega⟩⟩

set_option maxHeartbeats 4000000 in
set_option maxRecDepth 100000 in
theorem k_isBase (Z : zT) (g : Nat → va_E) (x y : Int32) : z_Mi Z yX9_isBase wsX9_isBase 2 51 [.int x, .int y] g (fun r g1 => g = g1 ∧ zbo r (zib x.toInt y.toInt)) := by
  intro l sz
  refine z_enter (maxL := 3) (ret := (some .boolean)) (lv := [(0, .int x), (1, .int y)]) (plainFor_of_name (by decide +kernel)) rfl (fun ls h => by subst h; exact lv_entry [.int x, .int y] (n := 3) (Nat.le_of_ble_eq_true rfl)) ?_
  intro p e s m args below meth c hx hb hml hr hlocks hown hts hK hS hsz ls hl
  refine lv_iload_n hx hb dX9_isBase_0 rfl (lv_at hl 0 rfl) ?_
  refine lv_bipush (v := 10) hx hb dX9_isBase_1 (by decide) ?_
  refine z_calli (z_runS (As := [.int x, .int 10]) (rest := []) ⟨hx, hb, hml, hown, hts⟩ hK hS ((k_isWithin Z g x 10 (by rw [tI_10]; omega)) l _) gX9_isBase_X9_isWithin rfl 2 (by decide +kernel) ⟨Nat.le_of_ble_eq_true rfl, Nat.le_of_ble_eq_true rfl⟩ rfl hl.1 rfl (Nat.le_of_ble_eq_true rfl) dX9_isBase_3 ⟨Nat.le_of_ble_eq_true rfl, Nat.le_of_ble_eq_true rfl⟩) hS (fun rw9 g_1 H locs hp_2 hS => ?_)
  obtain ⟨rfl, hp_2⟩ := hp_2
  have hrw := hp_2
  rw [tI_10] at hrw
  refine lv_if_eq (tgt := 20) hx hb dX9_isBase_6 (by decide) (fun c_3 => ?_) (fun c_3 => ?_)
  · have i_3 := z_eq c_3
    rw [tI_0] at i_3
    have hnw := zbo_f hrw c_3
    have hnot : ¬ zib x.toInt y.toInt := fun h9 => by unfold zib at h9; omega
    refine lv_iconst (v := 0) hx hb dX9_isBase_20 (by decide) ?_
    refine z_zret hx hb hr hlocks hS (by decide) ?_ dX9_isBase_21
    exact ⟨rfl, zbo_0 hnot⟩
  · have i_3 := z_ne c_3
    rw [tI_0] at i_3
    have hin := zbo_t hrw c_3
    refine lv_iload_n hx hb dX9_isBase_9 rfl (lv_at hl 1 rfl) ?_
    refine lv_iconst (v := 1) hx hb dX9_isBase_10 (by decide) ?_
    refine lv_icmp_lt (tgt := 20) hx hb dX9_isBase_11 (by decide) (fun c_4 => ?_) (fun c_4 => ?_)
    · have i_4 := z_lt c_4
      rw [tI_1] at i_4
      have hnot : ¬ zib x.toInt y.toInt := fun h9 => by unfold zib at h9; omega
      refine lv_iconst (v := 0) hx hb dX9_isBase_20 (by decide) ?_
      refine z_zret hx hb hr hlocks hS (by decide) ?_ dX9_isBase_21
      exact ⟨rfl, zbo_0 hnot⟩
    · have i_4 := z_nlt c_4
      rw [tI_1] at i_4
      refine lv_iload_n hx hb dX9_isBase_14 rfl (lv_at hl 1 rfl) ?_
      refine lv_bipush (v := 9) hx hb dX9_isBase_15 (by decide) ?_
      refine lv_icmp_le (tgt := 22) hx hb dX9_isBase_17 (by decide) (fun c_5 => ?_) (fun c_5 => ?_)
      · have i_5 := z_le c_5
        rw [tI_9] at i_5
        refine lv_iload_n hx hb dX9_isBase_22 rfl (lv_at hl 0 rfl) ?_
        refine va_mabs hx hb (hml.trans hl.1.symm) hown (hts _ (List.mem_of_getElem? (i := 1) rfl)) (hts _ (List.mem_of_getElem? (i := 2) rfl)) (hts _ (List.mem_of_getElem? (i := 3) rfl)) (hts _ (List.mem_of_getElem? (i := 4) rfl)) (Nat.le_of_ble_eq_true rfl) (Nat.le_of_ble_eq_true rfl) (Nat.le_of_ble_eq_true rfl) (Nat.le_of_ble_eq_true rfl) dX9_isBase_23 ?_
        refine lv_topi (fun ab eab => ?_)
        have hab : ab.toInt = (x.toInt.natAbs : Int) := by
          rw [eab]
          by_cases h0 : 0 ≤ x
          · have := z_le h0; rw [tI_0] at this; rw [if_pos h0]; omega
          · have := z_nle h0; rw [tI_0] at this; rw [if_neg h0, fb_subI (by rw [tI_0]; omega) (by rw [tI_0]; omega), tI_0]; omega
        refine lv_istore_n (lv' := [(2, .int ab), (0, .int x), (1, .int y)]) hx hb dX9_isBase_26 rfl hl (by decide) rfl (fun ls hl => ?_)
        refine lv_iload_n hx hb dX9_isBase_27 rfl (lv_at hl 0 rfl) ?_
        refine lv_iconst (v := 2) hx hb dX9_isBase_28 (by decide) ?_
        refine lv_icmp_lt (tgt := 53) hx hb dX9_isBase_29 (by decide) (fun c_6 => ?_) (fun c_6 => ?_)
        · have i_6 := z_lt c_6
          rw [tI_2] at i_6
          have hnot : ¬ zib x.toInt y.toInt := fun h9 => by unfold zib at h9; omega
          refine lv_iconst (v := 0) hx hb dX9_isBase_53 (by decide) ?_
          refine z_zret hx hb hr hlocks hS (by decide) ?_ dX9_isBase_54
          exact ⟨rfl, zbo_0 hnot⟩
        · have i_6 := z_nlt c_6
          rw [tI_2] at i_6
          refine lv_iload_n hx hb dX9_isBase_32 rfl (lv_at hl 2 rfl) ?_
          refine lv_iload_n hx hb dX9_isBase_33 rfl (lv_at hl 0 rfl) ?_
          refine lv_icmp_ge (tgt := 53) hx hb dX9_isBase_34 (by decide) (fun c_7 => ?_) (fun c_7 => ?_)
          · have i_7 := z_le c_7
            have hnot : ¬ zib x.toInt y.toInt := fun h9 => by unfold zib at h9; omega
            refine lv_iconst (v := 0) hx hb dX9_isBase_53 (by decide) ?_
            refine z_zret hx hb hr hlocks hS (by decide) ?_ dX9_isBase_54
            exact ⟨rfl, zbo_0 hnot⟩
          · have i_7 := z_nle c_7
            refine lv_iload_n hx hb dX9_isBase_37 rfl (lv_at hl 0 rfl) ?_
            refine lv_i2l hx hb dX9_isBase_38 rfl ?_
            refine lv_iload_n hx hb dX9_isBase_39 rfl (lv_at hl 2 rfl) ?_
            refine lv_i2l hx hb dX9_isBase_40 rfl ?_
            refine z_calll (z_runS (As := [.long (Int32.toInt64 ab), .long (Int32.toInt64 y)]) (rest := []) ⟨hx, hb, hml, hown, hts⟩ hK hS ((k_commonDivisor Z g (Int32.toInt64 ab) (Int32.toInt64 y) (by rw [Int32.toInt_toInt64]; omega) (by rw [Int32.toInt_toInt64]; omega)) l _) gX9_isBase_X9_commonDivisor rfl 2 (by decide +kernel) ⟨Nat.le_of_ble_eq_true rfl, Nat.le_of_ble_eq_true rfl⟩ rfl hl.1 rfl (Nat.le_of_ble_eq_true rfl) dX9_isBase_41 ⟨Nat.le_of_ble_eq_true rfl, Nat.le_of_ble_eq_true rfl⟩) hS (fun gd g_8 H locs hp_9 hS => ?_)
            obtain ⟨rfl, hp_9⟩ := hp_9
            have hgd := hp_9
            rw [Int32.toInt_toInt64, Int32.toInt_toInt64, hab, Int.natAbs_natCast] at hgd
            have hc0 := z_cmp0 (x := gd) (y := 1)
            rw [show (1 : Int64).toInt = 1 from rfl, hgd] at hc0
            refine lv_lconst (v := 1) hx hb dX9_isBase_44 rfl ?_
            refine W.lcmp hx hb dX9_isBase_45 ?_
            refine lv_if_ne (tgt := 53) hx hb dX9_isBase_46 (by decide) (fun c_10 => ?_) (fun c_10 => ?_)
            · have i_10 := z_ne c_10
              rw [tI_0] at i_10
              have hnot : ¬ zib x.toInt y.toInt := fun h9 => c_10 (hc0.mpr (by have := h9.2.2.2.2; omega))
              refine lv_iconst (v := 0) hx hb dX9_isBase_53 (by decide) ?_
              refine z_zret hx hb hr hlocks hS (by decide) ?_ dX9_isBase_54
              exact ⟨rfl, zbo_0 hnot⟩
            · have i_10 := z_eq c_10
              rw [tI_0] at i_10
              have hyes : zib x.toInt y.toInt := ⟨by omega, by omega, by omega, by omega, by have := hc0.mp c_10; omega⟩
              refine lv_iconst (v := 1) hx hb dX9_isBase_49 (by decide) ?_
              refine lv_goto (tgt := 54) hx hb dX9_isBase_50 (by decide) ?_
              refine z_zret hx hb hr hlocks hS (by decide) ?_ dX9_isBase_54
              exact ⟨rfl, zbo_1 hyes⟩
      · have i_5 := z_nle c_5
        rw [tI_9] at i_5
        have hnot : ¬ zib x.toInt y.toInt := fun h9 => by unfold zib at h9; omega
        refine lv_iconst (v := 0) hx hb dX9_isBase_20 (by decide) ?_
        refine z_zret hx hb hr hlocks hS (by decide) ?_ dX9_isBase_21
        exact ⟨rfl, zbo_0 hnot⟩

theorem in_X4_read_0 : ∀ w ∈ wsX00, w ∈ wsX4_read := by decide +kernel
theorem in_X4_read_4 : ∀ w ∈ wsX40, w ∈ wsX4_read := by decide +kernel
theorem in_X4_read_6 : ∀ w ∈ wsX60, w ∈ wsX4_read := by decide +kernel
set_option maxHeartbeats 4000000 in
set_option maxRecDepth 100000 in
theorem k_read (Z : zT) (g : Nat → va_E) (k kb kr : Nat) (b : zb) (w : zr) (v1 v2 : Int64) (hF : g k = .inr (4, [.long v1, .long v2]) ∧ k < Z.1 ∧ (k < kb ∨ kb + 3 ≤ k) ∧ (k < kr ∨ kr + 2 ≤ k)) (hB : z_b0 Z g kb b) (hR : z_row Z g kr w) : z_Mv Z yX4_read wsX4_read 2 51 [.ref (Z.2.1 k), .ref (Z.2.1 kb), .ref (Z.2.1 kr)] g (fun g1 => ∃ tt bb : Int64, g1 k = .inr (4, [.long tt, .long bb]) ∧ tt.toInt = zvt b w ∧ bb.toInt = zvb b w ∧ z_fr k 1 g g1) := by
  intro l sz
  obtain ⟨pb, qb, res, cmp, dg, ch, h_b, h_d, h_c, hkN, hok, hp, hq, hres, hdg⟩ := id hB
  have hk0 : kb < Z.1 := by omega
  have hk1 : kb + 1 < Z.1 := by omega
  have hk2 : kb + 2 < Z.1 := by omega
  have hn12 := hok.2.2.2.1
  have hPb := zP_bd hok
  have hq1 := hok.2.1
  have hp2 := hok.1
  obtain ⟨av, h_r, h_a, hkNr, hn12r, hav⟩ := id hR
  have hk0r : kr < Z.1 := by omega
  have hk1r : kr + 1 < Z.1 := by omega
  obtain ⟨h_f, hkf, hs1, hs2⟩ := id hF
  have hwb : ∀ i, i < w.1 → -20 ≤ w.2 i ∧ w.2 i ≤ 20 := fun i hi => (hav i hi).2
  
  refine z_enter (maxL := 5) (ret := none) (lv := [(0, .ref (Z.2.1 k)), (1, .ref (Z.2.1 kb)), (2, .ref (Z.2.1 kr))]) (plainFor_of_name (by decide +kernel)) rfl (fun ls h => by subst h; exact lv_entry [.ref (Z.2.1 k), .ref (Z.2.1 kb), .ref (Z.2.1 kr)] (n := 5) (Nat.le_of_ble_eq_true rfl)) ?_
  intro p e s m args below meth c hx hb hml hr hlocks hown hts hK hS hsz ls hl
  refine lv_aload_n hx hb dX4_read_0 rfl (lv_at hl 0 rfl) ?_
  refine lv_lconst (v := 0) hx hb dX4_read_1 rfl ?_
  refine z_put (fs' := [.long 0, .long v2]) (own := RX4) (C := RX4) (T := TX4) (N := 2) hx hb hts in_X4_read_4 tyX4 tyX4_ok nmX4 hown hK hS h_f hkf rfl 0 (by decide) (List.mem_of_getElem? (i := 1) rfl) rfl rfl rfl rfl (Nat.le_of_ble_eq_true rfl) rfl dX4_read_2 (fun g_1 H locs hg_1 hS => ?_)
  have h_f : g_1 k = .inr (4, [.long 0, .long v2]) := z_up_s hg_1
  have h_b := z_up_n hg_1 h_b (by omega)
  have h_d := z_up_n hg_1 h_d (by omega)
  have h_c := z_up_n hg_1 h_c (by omega)
  have h_r := z_up_n hg_1 h_r (by omega)
  have h_a := z_up_n hg_1 h_a (by omega)
  refine lv_aload_n hx hb dX4_read_5 rfl (lv_at hl 0 rfl) ?_
  refine lv_lconst (v := 1) hx hb dX4_read_6 rfl ?_
  refine z_put (fs' := [.long 0, .long 1]) (own := RX4) (C := RX4) (T := TX4) (N := 2) hx hb hts in_X4_read_4 tyX4 tyX4_ok nmX4 hown hK hS h_f hkf rfl 1 (by decide) (List.mem_of_getElem? (i := 2) rfl) rfl rfl rfl rfl (Nat.le_of_ble_eq_true rfl) rfl dX4_read_7 (fun g_2 H locs hg_2 hS => ?_)
  have h_f : g_2 k = .inr (4, [.long 0, .long 1]) := z_up_s hg_2
  have h_b := z_up_n hg_2 h_b (by omega)
  have h_d := z_up_n hg_2 h_d (by omega)
  have h_c := z_up_n hg_2 h_c (by omega)
  have h_r := z_up_n hg_2 h_r (by omega)
  have h_a := z_up_n hg_2 h_a (by omega)
  refine lv_aload_n hx hb dX4_read_10 rfl (lv_at hl 2 rfl) ?_
  refine z_getN (own := RX4) (C := RX6) (T := TX6) (N := 2) hx hb hts in_X4_read_6 hown hK hS h_r hk0r rfl 1 (by decide) 21 rfl rfl rfl dX4_read_11 ?_
  refine lv_iconst (v := 1) hx hb dX4_read_14 (by decide) ?_
  refine lv_isub hx hb dX4_read_15 ?_
  refine lv_topi (fun i0 ei0 => ?_)
  have hi0 : i0.toInt = (w.1 : Int) - 1 := by rw [ei0, fb_subI (by rw [nI_toInt (by omega), tI_1]; omega) (by rw [nI_toInt (by omega), tI_1]; omega), nI_toInt (by omega), tI_1]
  refine lv_istore_n (lv' := [(3, .int i0), (0, .ref (Z.2.1 k)), (1, .ref (Z.2.1 kb)), (2, .ref (Z.2.1 kr))]) hx hb dX4_read_16 rfl hl (by decide) rfl (fun ls hl => ?_)
  have hcut_17 : ∀ (nn_17 : Nat) (i : Int32) (j : Nat) (t1 : Int64) (t2 : Int64) (ga : Nat → va_E) (h_b : ga kb = .inr (0, [.int pb, .int qb, .int res, .int (nI b.2.2.1), .int cmp, .ref (Z.2.1 (kb + 1)), .ref (Z.2.1 (kb + 2))])) (h_d : ga (kb + 1) = .inl (Z.2.2.2 0, 12, .inl dg)) (h_c : ga (kb + 2) = .inl (Z.2.2.2 0, 10, .inl ch)) (h_f : ga k = .inr (4, [.long t1, .long t2])) (h_r : ga kr = .inr (6, [.ref (Z.2.1 (kr + 1)), .int (nI w.1)])) (h_a : ga (kr + 1) = .inl (Z.2.2.2 0, 12, .inl av)) (hfr_ga : z_fr k 1 g ga) (hi : i.toInt = (w.1 : Int) - 1 - j) (hj : j ≤ w.1) (ht1 : t1.toInt = (zvT b.1 b.2.1 w j).1) (ht2 : t2.toInt = (zvT b.1 b.2.1 w j).2) (hm_17 : w.1 - j < nn_17) (H : Heap) (locs : List Loc) (ls : Array Slot), z_S Z (z_A Z sz) s.heap ga H locs → lv_has ls 5 [(0, .ref (Z.2.1 k)), (1, .ref (Z.2.1 kb)), (2, .ref (Z.2.1 kr)), (3, .int i)] → W p l e (headSpec wsX4_read (z_rm 2 51)).room s m args below meth c H locs 0 0 (MQ below (va_Qv (fun g1 => ∃ tt bb : Int64, g1 k = .inr (4, [.long tt, .long bb]) ∧ tt.toInt = zvt b w ∧ bb.toInt = zvb b w ∧ z_fr k 1 g g1) (z_B Z) (z_A Z sz)) args s 0 0 (z_A Z sz)) (F0 m 17 ls []) := by
    intro nn_17
    induction nn_17 with
    | zero => intro i j t1 t2 ga h_b h_d h_c h_f h_r h_a hfr_ga hi hj ht1 ht2 hm_17 H locs ls hS hl; exact absurd hm_17 (Nat.not_lt_zero _)
    | succ nn_17 ih_17 =>
      intro i j t1 t2 ga h_b h_d h_c h_f h_r h_a hfr_ga hi hj ht1 ht2 hm_17 H locs ls hS hl
      have hTb := zvT_12 hok hn12r hwb hj
      rw [← ht1, ← ht2] at hTb
      refine lv_iload_n hx hb dX4_read_17 rfl (lv_at hl 3 rfl) ?_
      refine lv_if_lt (tgt := 67) hx hb dX4_read_18 (by decide) (fun c_3 => ?_) (fun c_3 => ?_)
      · have i_3 := z_lt c_3
        rw [tI_0] at i_3
        have hjn : j = w.1 := by omega
        subst hjn
        refine lv_aload_n hx hb dX4_read_67 rfl (lv_at hl 0 rfl) ?_
        refine z_get (own := RX4) (C := RX4) (T := TX4) (N := 2) hx hb hts in_X4_read_4 hown hK hS h_f hkf rfl 0 (by decide) (List.mem_of_getElem? (i := 1) rfl) rfl rfl dX4_read_68 ?_
        refine lv_aload_n hx hb dX4_read_71 rfl (lv_at hl 0 rfl) ?_
        refine z_get (own := RX4) (C := RX4) (T := TX4) (N := 2) hx hb hts in_X4_read_4 hown hK hS h_f hkf rfl 1 (by decide) (List.mem_of_getElem? (i := 2) rfl) rfl rfl dX4_read_72 ?_
        refine z_calll (z_runSN (As := [.long t1, .long t2]) (rest := []) ⟨hx, hb, hml, hown, hts⟩ hK hS ((k_commonDivisor Z ga t1 t2 (by omega) (by omega)) l _) gX4_read_X9_commonDivisor_n36 rfl 2 53 rfl (List.mem_of_getElem? (i := 10) rfl) (List.mem_of_getElem? (i := 9) rfl) (by decide +kernel) ⟨Nat.le_of_ble_eq_true rfl, Nat.le_of_ble_eq_true rfl⟩ rfl hl.1 rfl (Nat.le_of_ble_eq_true rfl) dX4_read_75 ⟨Nat.le_of_ble_eq_true rfl, Nat.le_of_ble_eq_true rfl⟩) hS (fun gd g_4 H locs hp_5 hS => ?_)
        obtain ⟨rfl, hp_5⟩ := hp_5
        have hgd := hp_5
        rw [ht1, ht2] at hgd
        have hlow := zv_low hok hn12r hwb
        have hgd2 : gd.toInt = (zvG b w : Int) := hgd
        have hc1 := z_cmpG (x := gd) (y := 1)
        rw [show (1 : Int64).toInt = 1 from rfl] at hc1
        refine lv_lstore_n (lv' := [(3, .long gd), (0, .ref (Z.2.1 k)), (1, .ref (Z.2.1 kb)), (2, .ref (Z.2.1 kr))]) hx hb dX4_read_78 rfl hl (by decide) rfl (fun ls hl => ?_)
        refine lv_lload_n hx hb dX4_read_79 rfl (lv_at hl 0 rfl) ?_
        refine lv_lconst (v := 1) hx hb dX4_read_80 rfl ?_
        refine W.lcmp hx hb dX4_read_81 ?_
        refine lv_if_le (tgt := 105) hx hb dX4_read_82 (by decide) (fun c_6 => ?_) (fun c_6 => ?_)
        · have i_6 := z_le c_6
          rw [tI_0] at i_6
          have hG1 : (zvG b w : Int) = 1 := by have := hlow.1; omega
          refine z_vret hx hb hr hlocks hS ?_ dX4_read_105
          exact ⟨t1, t2, h_f, by rw [ht1]; unfold zvt; rw [hG1, Int.ediv_one], by rw [ht2]; unfold zvb; rw [hG1, Int.ediv_one], hfr_ga⟩
        · have i_6 := z_nle c_6
          rw [tI_0] at i_6
          have hG2 : 1 < (zvG b w : Int) := by omega
          have hd1 := z_tdiv_bd t1.toInt gd.toInt
          have hd2 := z_tdiv_bd t2.toInt gd.toInt
          refine lv_aload_n hx hb dX4_read_85 rfl (lv_at hl 1 rfl) ?_
          refine lv_aload_n hx hb dX4_read_86 rfl (lv_at hl 1 rfl) ?_
          refine z_get (own := RX4) (C := RX4) (T := TX4) (N := 2) hx hb hts in_X4_read_4 hown hK hS h_f hkf rfl 0 (by decide) (List.mem_of_getElem? (i := 1) rfl) rfl rfl dX4_read_87 ?_
          refine lv_lload_n hx hb dX4_read_90 rfl (lv_at hl 0 rfl) ?_
          refine lv_ldiv hx hb dX4_read_91 (fun h => by rw [h] at hgd2; rw [show (0 : Int64).toInt = 0 from rfl] at hgd2; omega) ?_
          refine lv_topl (fun q1 eq1 => ?_)
          have hq1a : q1.toInt = zvt b w := by rw [eq1, Int64.toInt_div, fb_bmodL (by omega) (by omega), hgd2, ht1, z_ediv_tdiv hlow.2.1]; rfl
          refine z_put (fs' := [.long q1, .long t2]) (own := RX4) (C := RX4) (T := TX4) (N := 2) hx hb hts in_X4_read_4 tyX4 tyX4_ok nmX4 hown hK hS h_f hkf rfl 0 (by decide) (List.mem_of_getElem? (i := 1) rfl) rfl rfl rfl rfl (Nat.le_of_ble_eq_true rfl) rfl dX4_read_92 (fun g_7 H locs hg_7 hS => ?_)
          have h_f : g_7 k = .inr (4, [.long q1, .long t2]) := z_up_s hg_7
          have h_b := z_up_n hg_7 h_b (by omega)
          have h_d := z_up_n hg_7 h_d (by omega)
          have h_c := z_up_n hg_7 h_c (by omega)
          have h_r := z_up_n hg_7 h_r (by omega)
          have h_a := z_up_n hg_7 h_a (by omega)
          refine lv_aload_n hx hb dX4_read_95 rfl (lv_at hl 1 rfl) ?_
          refine lv_aload_n hx hb dX4_read_96 rfl (lv_at hl 1 rfl) ?_
          refine z_get (own := RX4) (C := RX4) (T := TX4) (N := 2) hx hb hts in_X4_read_4 hown hK hS h_f hkf rfl 1 (by decide) (List.mem_of_getElem? (i := 2) rfl) rfl rfl dX4_read_97 ?_
          refine lv_lload_n hx hb dX4_read_100 rfl (lv_at hl 0 rfl) ?_
          refine lv_ldiv hx hb dX4_read_101 (fun h => by rw [h] at hgd2; rw [show (0 : Int64).toInt = 0 from rfl] at hgd2; omega) ?_
          refine lv_topl (fun q2 eq2 => ?_)
          have hq2a : q2.toInt = zvb b w := by rw [eq2, Int64.toInt_div, fb_bmodL (by omega) (by omega), hgd2, ht2, z_ediv_tdiv hlow.2.2]; rfl
          refine z_put (fs' := [.long q1, .long q2]) (own := RX4) (C := RX4) (T := TX4) (N := 2) hx hb hts in_X4_read_4 tyX4 tyX4_ok nmX4 hown hK hS h_f hkf rfl 1 (by decide) (List.mem_of_getElem? (i := 2) rfl) rfl rfl rfl rfl (Nat.le_of_ble_eq_true rfl) rfl dX4_read_102 (fun g_8 H locs hg_8 hS => ?_)
          have h_f : g_8 k = .inr (4, [.long q1, .long q2]) := z_up_s hg_8
          have h_b := z_up_n hg_8 h_b (by omega)
          have h_d := z_up_n hg_8 h_d (by omega)
          have h_c := z_up_n hg_8 h_c (by omega)
          have h_r := z_up_n hg_8 h_r (by omega)
          have h_a := z_up_n hg_8 h_a (by omega)
          refine z_vret hx hb hr hlocks hS ?_ dX4_read_105
          exact ⟨q1, q2, h_f, hq1a, hq2a, ((hfr_ga.up hg_7 (by omega)).up hg_8 (by omega))⟩
      · have i_3 := z_nlt c_3
        rw [tI_0] at i_3
        have ei9 : i = nI (w.1 - (j + 1)) := z_nI_is (by omega)
        subst ei9
        refine lv_aload_n hx hb dX4_read_21 rfl (lv_at hl 0 rfl) ?_
        refine lv_aload_n hx hb dX4_read_22 rfl (lv_at hl 2 rfl) ?_
        refine lv_iload_n hx hb dX4_read_23 rfl (lv_at hl 3 rfl) ?_
        refine z_calli (z_runVN (As := [.int (nI (w.1 - (j + 1)))]) (rest := [.ref (Z.2.1 k)]) (C := RX6) ⟨hx, hb, hml, hown, hts⟩ hK hS ((k_entryOrZero Z ga kr w ⟨av, h_r, h_a, hkNr, hn12r, hav⟩ (w.1 - (j + 1)) (by omega)) l _) gX4_read_X6_entryOrZero_n24 rfl 1 52 rfl (List.mem_of_getElem? (i := 4) rfl) (List.mem_of_getElem? (i := 3) rfl) (List.mem_of_getElem? (i := 5) rfl) (by decide +kernel) ⟨Nat.le_of_ble_eq_true rfl, Nat.le_of_ble_eq_true rfl⟩ h_r hk0r rfl rfl hl.1 rfl (Nat.le_of_ble_eq_true rfl) dX4_read_24 ⟨Nat.le_of_ble_eq_true rfl, Nat.le_of_ble_eq_true rfl⟩) hS (fun ee g_9 H locs hp_10 hS => ?_)
        obtain ⟨rfl, hp_10⟩ := hp_10
        have hee : ee.toInt = w.2 (w.1 - (j + 1)) := by rw [hp_10]; unfold zeg; rw [if_pos (by omega)]
        have heb := hwb (w.1 - (j + 1)) (by omega)
        have hm1 := z_mul_bd (x := ee.toInt) (y := t2.toInt) (a := 20) (b := 282429536481) (by omega) (by omega) (by omega) (by omega)
        have hm2 := z_mul_bd (x := b.1) (y := t1.toInt) (a := 10) (b := 240000000000000) (by omega) (by omega) (by omega) (by omega)
        have hm3 := z_mul_bd (x := t2.toInt) (y := b.2.1) (a := 282429536481) (b := 9) (by omega) (by omega) (by omega) (by omega)
        have hq9 : (Int32.toInt64 ee * t2).toInt = ee.toInt * t2.toInt := by rw [fb_mulL (by rw [Int32.toInt_toInt64]; omega) (by rw [Int32.toInt_toInt64]; omega), Int32.toInt_toInt64]
        have hq8 : (Int32.toInt64 pb * t1).toInt = b.1 * t1.toInt := by rw [fb_mulL (by rw [Int32.toInt_toInt64, hp]; omega) (by rw [Int32.toInt_toInt64, hp]; omega), Int32.toInt_toInt64, hp]
        refine lv_i2l hx hb dX4_read_27 rfl ?_
        refine lv_aload_n hx hb dX4_read_28 rfl (lv_at hl 0 rfl) ?_
        refine z_get (own := RX4) (C := RX4) (T := TX4) (N := 2) hx hb hts in_X4_read_4 hown hK hS h_f hkf rfl 1 (by decide) (List.mem_of_getElem? (i := 2) rfl) rfl rfl dX4_read_29 ?_
        refine lv_lmul hx hb dX4_read_32 ?_
        refine lv_aload_n hx hb dX4_read_33 rfl (lv_at hl 1 rfl) ?_
        refine z_getN (own := RX4) (C := RX0) (T := TX0) (N := 7) hx hb hts in_X4_read_0 hown hK hS h_b hk0 rfl 0 (by decide) 22 rfl rfl rfl dX4_read_34 ?_
        refine lv_i2l hx hb dX4_read_37 rfl ?_
        refine lv_aload_n hx hb dX4_read_38 rfl (lv_at hl 0 rfl) ?_
        refine z_get (own := RX4) (C := RX4) (T := TX4) (N := 2) hx hb hts in_X4_read_4 hown hK hS h_f hkf rfl 0 (by decide) (List.mem_of_getElem? (i := 1) rfl) rfl rfl dX4_read_39 ?_
        refine lv_lmul hx hb dX4_read_42 ?_
        refine lv_ladd hx hb dX4_read_43 ?_
        refine lv_topl (fun n1 en1 => ?_)
        have hn1 : n1.toInt = (zvT b.1 b.2.1 w (j + 1)).1 := by rw [en1, fb_addL (by omega) (by omega), hq9, hq8, hee, ht1, ht2]; rfl
        refine z_put (fs' := [.long n1, .long t2]) (own := RX4) (C := RX4) (T := TX4) (N := 2) hx hb hts in_X4_read_4 tyX4 tyX4_ok nmX4 hown hK hS h_f hkf rfl 0 (by decide) (List.mem_of_getElem? (i := 1) rfl) rfl rfl rfl rfl (Nat.le_of_ble_eq_true rfl) rfl dX4_read_44 (fun g_11 H locs hg_11 hS => ?_)
        have h_f : g_11 k = .inr (4, [.long n1, .long t2]) := z_up_s hg_11
        have h_b := z_up_n hg_11 h_b (by omega)
        have h_d := z_up_n hg_11 h_d (by omega)
        have h_c := z_up_n hg_11 h_c (by omega)
        have h_r := z_up_n hg_11 h_r (by omega)
        have h_a := z_up_n hg_11 h_a (by omega)
        refine lv_aload_n hx hb dX4_read_47 rfl (lv_at hl 0 rfl) ?_
        refine lv_aload_n hx hb dX4_read_48 rfl (lv_at hl 0 rfl) ?_
        refine z_get (own := RX4) (C := RX4) (T := TX4) (N := 2) hx hb hts in_X4_read_4 hown hK hS h_f hkf rfl 1 (by decide) (List.mem_of_getElem? (i := 2) rfl) rfl rfl dX4_read_49 ?_
        refine lv_aload_n hx hb dX4_read_52 rfl (lv_at hl 1 rfl) ?_
        refine z_getN (own := RX4) (C := RX0) (T := TX0) (N := 7) hx hb hts in_X4_read_0 hown hK hS h_b hk0 rfl 1 (by decide) 23 rfl rfl rfl dX4_read_53 ?_
        refine lv_i2l hx hb dX4_read_56 rfl ?_
        refine lv_lmul hx hb dX4_read_57 ?_
        refine lv_topl (fun n2 en2 => ?_)
        have hn2 : n2.toInt = (zvT b.1 b.2.1 w (j + 1)).2 := by rw [en2, fb_mulL (by rw [Int32.toInt_toInt64, hq]; omega) (by rw [Int32.toInt_toInt64, hq]; omega), Int32.toInt_toInt64, hq, ht2]; rfl
        refine z_put (fs' := [.long n1, .long n2]) (own := RX4) (C := RX4) (T := TX4) (N := 2) hx hb hts in_X4_read_4 tyX4 tyX4_ok nmX4 hown hK hS h_f hkf rfl 1 (by decide) (List.mem_of_getElem? (i := 2) rfl) rfl rfl rfl rfl (Nat.le_of_ble_eq_true rfl) rfl dX4_read_58 (fun g_12 H locs hg_12 hS => ?_)
        have h_f : g_12 k = .inr (4, [.long n1, .long n2]) := z_up_s hg_12
        have h_b := z_up_n hg_12 h_b (by omega)
        have h_d := z_up_n hg_12 h_d (by omega)
        have h_c := z_up_n hg_12 h_c (by omega)
        have h_r := z_up_n hg_12 h_r (by omega)
        have h_a := z_up_n hg_12 h_a (by omega)
        obtain ⟨i2, ei2⟩ : ∃ zz9 : Int32, zz9 = nI (w.1 - (j + 1)) + (-1) := ⟨_, rfl⟩
        have hi2 : i2.toInt = (w.1 : Int) - 1 - (j + 1) - 1 + 1 - 1 + 1 - 0 := by rw [ei2, fb_addI (by rw [nI_toInt (by omega), tI_m1]; omega) (by rw [nI_toInt (by omega), tI_m1]; omega), nI_toInt (by omega), tI_m1]; omega
        refine lv_iinc (v := i2) (lv' := [(3, .int i2), (0, .ref (Z.2.1 k)), (1, .ref (Z.2.1 kb)), (2, .ref (Z.2.1 kr))]) hx hb dX4_read_61 hl (k := 3) rfl (by rw [ei2]; rfl) (by decide) rfl (fun ls hl => ?_)
        refine lv_goto (tgt := 17) hx hb dX4_read_64 (by decide) ?_
        exact ih_17 i2 (j + 1) n1 n2 g_12 h_b h_d h_c h_f h_r h_a ((hfr_ga.up hg_11 (by omega)).up hg_12 (by omega)) (by omega) (by omega) hn1 hn2 (by omega) _ _ _ hS (lv_sub hl [1, 2, 3, 0] rfl)
  exact hcut_17 (w.1 - 0 + 1) i0 0 0 1 g_2 h_b h_d h_c h_f h_r h_a ((z_fr.rf.up hg_1 (by omega)).up hg_2 (by omega)) (by omega) (by omega) rfl rfl (Nat.lt_succ_self _) _ _ _ hS (lv_sub hl [1, 2, 3, 0] rfl)

theorem in_X4_orderTo_4 : ∀ w ∈ wsX40, w ∈ wsX4_orderTo := by decide +kernel
set_option maxHeartbeats 4000000 in
set_option maxRecDepth 100000 in
theorem k_orderTo (Z : zT) (g : Nat → va_E) (k k2 : Nat) (v1 v2 u1 u2 : Int64) (h_f : g k = .inr (4, [.long v1, .long v2])) (hkf : k < Z.1) (h_f2 : g k2 = .inr (4, [.long u1, .long u2])) (hkf2 : k2 < Z.1) (hb1 : 1 ≤ v2.toInt ∧ v2.toInt ≤ 282429536481) (hd1 : 1 ≤ u2.toInt ∧ u2.toInt ≤ 282429536481) (ha1 : -240000000000000 ≤ v1.toInt ∧ v1.toInt ≤ 240000000000000) (hc1 : -240000000000000 ≤ u1.toInt ∧ u1.toInt ≤ 240000000000000) : z_Mi Z yX4_orderTo wsX4_orderTo 1 25 [.ref (Z.2.1 k), .ref (Z.2.1 k2)] g (fun r g1 => g = g1 ∧ r.toInt = zsg (v1.toInt * u2.toInt - u1.toInt * v2.toInt)) := by
  intro l sz
  refine z_enter (maxL := 20) (ret := (some .int)) (lv := [(0, .ref (Z.2.1 k)), (1, .ref (Z.2.1 k2))]) (plainFor_of_name (by decide +kernel)) rfl (fun ls h => by subst h; exact lv_entry [.ref (Z.2.1 k), .ref (Z.2.1 k2)] (n := 20) (Nat.le_of_ble_eq_true rfl)) ?_
  intro p e s m args below meth c hx hb hml hr hlocks hown hts hK hS hsz ls hl
  refine lv_aload_n hx hb dX4_orderTo_0 rfl (lv_at hl 0 rfl) ?_
  refine z_get (own := RX4) (C := RX4) (T := TX4) (N := 2) hx hb hts in_X4_orderTo_4 hown hK hS h_f hkf rfl 0 (by decide) (List.mem_of_getElem? (i := 1) rfl) rfl rfl dX4_orderTo_1 ?_
  refine lv_lstore_n (lv' := [(2, .long v1), (0, .ref (Z.2.1 k)), (1, .ref (Z.2.1 k2))]) hx hb dX4_orderTo_4 rfl hl (by decide) rfl (fun ls hl => ?_)
  refine lv_aload_n hx hb dX4_orderTo_5 rfl (lv_at hl 1 rfl) ?_
  refine z_get (own := RX4) (C := RX4) (T := TX4) (N := 2) hx hb hts in_X4_orderTo_4 hown hK hS h_f hkf rfl 1 (by decide) (List.mem_of_getElem? (i := 2) rfl) rfl rfl dX4_orderTo_6 ?_
  refine lv_lstore (lv' := [(4, .long v2), (2, .long v1), (0, .ref (Z.2.1 k)), (1, .ref (Z.2.1 k2))]) hx hb dX4_orderTo_9 hl (by decide) rfl (fun ls hl => ?_)
  refine lv_aload_n hx hb dX4_orderTo_11 rfl (lv_at hl 3 rfl) ?_
  refine z_get (own := RX4) (C := RX4) (T := TX4) (N := 2) hx hb hts in_X4_orderTo_4 hown hK hS h_f2 hkf2 rfl 0 (by decide) (List.mem_of_getElem? (i := 1) rfl) rfl rfl dX4_orderTo_12 ?_
  refine lv_lstore (lv' := [(6, .long u1), (4, .long v2), (2, .long v1), (0, .ref (Z.2.1 k)), (1, .ref (Z.2.1 k2))]) hx hb dX4_orderTo_15 hl (by decide) rfl (fun ls hl => ?_)
  refine lv_aload_n hx hb dX4_orderTo_17 rfl (lv_at hl 4 rfl) ?_
  refine z_get (own := RX4) (C := RX4) (T := TX4) (N := 2) hx hb hts in_X4_orderTo_4 hown hK hS h_f2 hkf2 rfl 1 (by decide) (List.mem_of_getElem? (i := 2) rfl) rfl rfl dX4_orderTo_18 ?_
  refine lv_lstore (lv' := [(8, .long u2), (6, .long u1), (4, .long v2), (2, .long v1), (0, .ref (Z.2.1 k)), (1, .ref (Z.2.1 k2))]) hx hb dX4_orderTo_21 hl (by decide) rfl (fun ls hl => ?_)
  refine lv_iconst (v := 1) hx hb dX4_orderTo_23 (by decide) ?_
  refine lv_istore (lv' := [(10, .int 1), (8, .long u2), (6, .long u1), (4, .long v2), (2, .long v1), (0, .ref (Z.2.1 k)), (1, .ref (Z.2.1 k2))]) hx hb dX4_orderTo_24 hl (by decide) rfl (fun ls hl => ?_)
  refine lv_iconst (v := 0) hx hb dX4_orderTo_26 (by decide) ?_
  refine lv_istore (lv' := [(11, .int 0), (10, .int 1), (8, .long u2), (6, .long u1), (4, .long v2), (2, .long v1), (0, .ref (Z.2.1 k)), (1, .ref (Z.2.1 k2))]) hx hb dX4_orderTo_27 hl (by decide) rfl (fun ls hl => ?_)
  have hcut_29 : ∀ (nn_29 : Nat) (a : Int64) (e9 : Int64) (c9 : Int64) (d : Int64) (gr : Int32) (i : Nat) (hi : i ≤ 200) (hbd : 0 ≤ e9.toInt ∧ e9.toInt ≤ 282429536481 ∧ 0 ≤ d.toInt ∧ d.toInt ≤ 282429536481 ∧ -240000000000000 ≤ a.toInt ∧ a.toInt ≤ 240000000000000 ∧ -240000000000000 ≤ c9.toInt ∧ c9.toInt ≤ 240000000000000) (hst : (0 < e9.toInt ∧ 0 < d.toInt) ∨ (0 < a.toInt ∧ 0 < c9.toInt)) (hgr : gr.toInt = 1 ∨ gr.toInt = -1) (hsg : gr.toInt * zsg (a.toInt * d.toInt - c9.toInt * e9.toInt) = zsg (v1.toInt * u2.toInt - u1.toInt * v2.toInt)) (hpo : i = 0 ∨ (e9.toInt.toNat ≤ a.toInt.toNat ∧ a.toInt.toNat * e9.toInt.toNat * 2 ^ i ≤ 2 ^ 80)) (hm_29 : 200 - i < nn_29) (H : Heap) (locs : List Loc) (ls : Array Slot), z_S Z (z_A Z sz) s.heap g H locs → lv_has ls 20 [(2, .long a), (4, .long e9), (6, .long c9), (8, .long d), (10, .int gr), (11, .int (nI i))] → W p l e (headSpec wsX4_orderTo (z_rm 1 25)).room s m args below meth c H locs 0 0 (MQ below (va_Qi (fun r g1 => g = g1 ∧ r.toInt = zsg (v1.toInt * u2.toInt - u1.toInt * v2.toInt)) (z_B Z) (z_A Z sz)) args s 0 0 (z_A Z sz)) (F0 m 29 ls []) := by
    intro nn_29
    induction nn_29 with
    | zero => intro a e9 c9 d gr i hi hbd hst hgr hsg hpo hm_29 H locs ls hS hl; exact absurd hm_29 (Nat.not_lt_zero _)
    | succ nn_29 ih_29 =>
      intro a e9 c9 d gr i hi hbd hst hgr hsg hpo hm_29 H locs ls hS hl
      refine lv_iload hx hb dX4_orderTo_29 (lv_at hl 5 rfl) ?_
      refine lv_sipush (v := 200) hx hb dX4_orderTo_31 (by decide) ?_
      refine lv_icmp_ge (tgt := 138) hx hb dX4_orderTo_34 (by decide) (fun c_1 => ?_) (fun c_1 => ?_)
      · have i_1 := z_le c_1
        rw [nI_toInt (by omega)] at i_1
        rw [tI_200] at i_1
        have hz9 : e9.toInt = 0 ∨ d.toInt = 0 := by
          have hi200 : i = 200 := by omega
          subst hi200
          rcases hpo with h9 | ⟨h9, h8⟩
          · omega
          · have := z_pot0 h9 h8 (by decide +kernel)
            omega
        have hst2 : 0 < a.toInt ∧ 0 < c9.toInt := by omega
        have hz0 := z_cmp0 (x := e9) (y := 0)
        have hz1 := z_cmp0 (x := d) (y := 0)
        rw [show (0 : Int64).toInt = 0 from rfl] at hz0 hz1
        refine lv_lload hx hb dX4_orderTo_138 (lv_at hl 1 rfl) ?_
        refine lv_lconst (v := 0) hx hb dX4_orderTo_140 rfl ?_
        refine W.lcmp hx hb dX4_orderTo_141 ?_
        refine lv_if_ne (tgt := 154) hx hb dX4_orderTo_142 (by decide) (fun c_2 => ?_) (fun c_2 => ?_)
        · have i_2 := z_ne c_2
          rw [tI_0] at i_2
          have hbne : e9.toInt ≠ 0 := fun q9 => c_2 (hz0.mpr q9)
          refine lv_lload hx hb dX4_orderTo_154 (lv_at hl 1 rfl) ?_
          refine lv_lconst (v := 0) hx hb dX4_orderTo_156 rfl ?_
          refine W.lcmp hx hb dX4_orderTo_157 ?_
          refine lv_if_ne (tgt := 166) hx hb dX4_orderTo_158 (by decide) (fun c_3 => ?_) (fun c_3 => ?_)
          · have i_3 := z_ne c_3
            rw [tI_0] at i_3
            have hbne2 : e9.toInt ≠ 0 := fun q9 => c_3 (hz0.mpr q9)
            have hde : d.toInt = 0 := by omega
            have hz7 : zsg (a.toInt * d.toInt - c9.toInt * e9.toInt) = -1 := zsg_lt (by
              rw [hde, Int.mul_zero]
              have := Int.mul_pos hst2.2 (show 0 < e9.toInt by omega); omega)
            rw [hz7] at hsg
            refine lv_iload hx hb dX4_orderTo_166 (lv_at hl 4 rfl) ?_
            refine lv_ineg hx hb dX4_orderTo_168 ?_
            refine z_iret hx hb hr hlocks hS ?_ dX4_orderTo_169
            exact ⟨rfl, by rw [fb_negI (by omega)]; omega⟩
          · have i_3 := z_eq c_3
            rw [tI_0] at i_3
            have hbe2 : e9.toInt = 0 := hz0.mp c_3
            have hd8 : 0 < d.toInt := by omega
            have hz7 : zsg (a.toInt * d.toInt - c9.toInt * e9.toInt) = 1 := zsg_pos (by
              rw [hbe2, Int.mul_zero]
              have := Int.mul_pos hst2.1 hd8; omega)
            rw [hz7] at hsg
            refine lv_iload hx hb dX4_orderTo_161 (lv_at hl 4 rfl) ?_
            refine lv_goto (tgt := 169) hx hb dX4_orderTo_163 (by decide) ?_
            refine z_iret hx hb hr hlocks hS ?_ dX4_orderTo_169
            exact ⟨rfl, by omega⟩
        · have i_2 := z_eq c_2
          rw [tI_0] at i_2
          have hbe : e9.toInt = 0 := hz0.mp c_2
          refine lv_lload hx hb dX4_orderTo_145 (lv_at hl 3 rfl) ?_
          refine lv_lconst (v := 0) hx hb dX4_orderTo_147 rfl ?_
          refine W.lcmp hx hb dX4_orderTo_148 ?_
          refine lv_if_ne (tgt := 154) hx hb dX4_orderTo_149 (by decide) (fun c_4 => ?_) (fun c_4 => ?_)
          · have i_4 := z_ne c_4
            rw [tI_0] at i_4
            have hdne : d.toInt ≠ 0 := fun q9 => c_4 (hz1.mpr q9)
            refine lv_lload hx hb dX4_orderTo_154 (lv_at hl 1 rfl) ?_
            refine lv_lconst (v := 0) hx hb dX4_orderTo_156 rfl ?_
            refine W.lcmp hx hb dX4_orderTo_157 ?_
            refine lv_if_ne (tgt := 166) hx hb dX4_orderTo_158 (by decide) (fun c_5 => ?_) (fun c_5 => ?_)
            · have i_5 := z_ne c_5
              rw [tI_0] at i_5
              have hbne2 : e9.toInt ≠ 0 := fun q9 => c_5 (hz0.mpr q9)
              have hde : d.toInt = 0 := by omega
              have hz7 : zsg (a.toInt * d.toInt - c9.toInt * e9.toInt) = -1 := zsg_lt (by
                rw [hde, Int.mul_zero]
                have := Int.mul_pos hst2.2 (show 0 < e9.toInt by omega); omega)
              rw [hz7] at hsg
              refine lv_iload hx hb dX4_orderTo_166 (lv_at hl 4 rfl) ?_
              refine lv_ineg hx hb dX4_orderTo_168 ?_
              refine z_iret hx hb hr hlocks hS ?_ dX4_orderTo_169
              exact ⟨rfl, by rw [fb_negI (by omega)]; omega⟩
            · have i_5 := z_eq c_5
              rw [tI_0] at i_5
              have hbe2 : e9.toInt = 0 := hz0.mp c_5
              have hd8 : 0 < d.toInt := by omega
              have hz7 : zsg (a.toInt * d.toInt - c9.toInt * e9.toInt) = 1 := zsg_pos (by
                rw [hbe2, Int.mul_zero]
                have := Int.mul_pos hst2.1 hd8; omega)
              rw [hz7] at hsg
              refine lv_iload hx hb dX4_orderTo_161 (lv_at hl 4 rfl) ?_
              refine lv_goto (tgt := 169) hx hb dX4_orderTo_163 (by decide) ?_
              refine z_iret hx hb hr hlocks hS ?_ dX4_orderTo_169
              exact ⟨rfl, by omega⟩
          · have i_4 := z_eq c_4
            rw [tI_0] at i_4
            have hde : d.toInt = 0 := hz1.mp c_4
            refine lv_iconst (v := 0) hx hb dX4_orderTo_152 (by decide) ?_
            refine z_iret hx hb hr hlocks hS ?_ dX4_orderTo_153
            exact ⟨rfl, by rw [← hsg, hbe, hde, Int.mul_zero, Int.mul_zero]; show (0 : Int) = gr.toInt * 0; rw [Int.mul_zero]⟩
      · have i_1 := z_nle c_1
        rw [nI_toInt (by omega)] at i_1
        rw [tI_200] at i_1
        refine lv_lload hx hb dX4_orderTo_37 (lv_at hl 1 rfl) ?_
        refine lv_lconst (v := 0) hx hb dX4_orderTo_39 rfl ?_
        refine W.lcmp hx hb dX4_orderTo_40 ?_
        refine lv_if_eq (tgt := 138) hx hb dX4_orderTo_41 (by decide) (fun c_6 => ?_) (fun c_6 => ?_)
        · have i_6 := z_eq c_6
          rw [tI_0] at i_6
          have hz9 : e9.toInt = 0 ∨ d.toInt = 0 := Or.inl (by have h9 := z_cmp0.mp c_6; rw [show (0 : Int64).toInt = 0 from rfl] at h9; exact h9)
          have hst2 : 0 < a.toInt ∧ 0 < c9.toInt := by omega
          have hz0 := z_cmp0 (x := e9) (y := 0)
          have hz1 := z_cmp0 (x := d) (y := 0)
          rw [show (0 : Int64).toInt = 0 from rfl] at hz0 hz1
          refine lv_lload hx hb dX4_orderTo_138 (lv_at hl 1 rfl) ?_
          refine lv_lconst (v := 0) hx hb dX4_orderTo_140 rfl ?_
          refine W.lcmp hx hb dX4_orderTo_141 ?_
          refine lv_if_ne (tgt := 154) hx hb dX4_orderTo_142 (by decide) (fun c_7 => ?_) (fun c_7 => ?_)
          · have i_7 := z_ne c_7
            rw [tI_0] at i_7
            have hbne : e9.toInt ≠ 0 := fun q9 => c_7 (hz0.mpr q9)
            refine lv_lload hx hb dX4_orderTo_154 (lv_at hl 1 rfl) ?_
            refine lv_lconst (v := 0) hx hb dX4_orderTo_156 rfl ?_
            refine W.lcmp hx hb dX4_orderTo_157 ?_
            refine lv_if_ne (tgt := 166) hx hb dX4_orderTo_158 (by decide) (fun c_8 => ?_) (fun c_8 => ?_)
            · have i_8 := z_ne c_8
              rw [tI_0] at i_8
              have hbne2 : e9.toInt ≠ 0 := fun q9 => c_8 (hz0.mpr q9)
              have hde : d.toInt = 0 := by omega
              have hz7 : zsg (a.toInt * d.toInt - c9.toInt * e9.toInt) = -1 := zsg_lt (by
                rw [hde, Int.mul_zero]
                have := Int.mul_pos hst2.2 (show 0 < e9.toInt by omega); omega)
              rw [hz7] at hsg
              refine lv_iload hx hb dX4_orderTo_166 (lv_at hl 4 rfl) ?_
              refine lv_ineg hx hb dX4_orderTo_168 ?_
              refine z_iret hx hb hr hlocks hS ?_ dX4_orderTo_169
              exact ⟨rfl, by rw [fb_negI (by omega)]; omega⟩
            · have i_8 := z_eq c_8
              rw [tI_0] at i_8
              have hbe2 : e9.toInt = 0 := hz0.mp c_8
              have hd8 : 0 < d.toInt := by omega
              have hz7 : zsg (a.toInt * d.toInt - c9.toInt * e9.toInt) = 1 := zsg_pos (by
                rw [hbe2, Int.mul_zero]
                have := Int.mul_pos hst2.1 hd8; omega)
              rw [hz7] at hsg
              refine lv_iload hx hb dX4_orderTo_161 (lv_at hl 4 rfl) ?_
              refine lv_goto (tgt := 169) hx hb dX4_orderTo_163 (by decide) ?_
              refine z_iret hx hb hr hlocks hS ?_ dX4_orderTo_169
              exact ⟨rfl, by omega⟩
          · have i_7 := z_eq c_7
            rw [tI_0] at i_7
            have hbe : e9.toInt = 0 := hz0.mp c_7
            refine lv_lload hx hb dX4_orderTo_145 (lv_at hl 3 rfl) ?_
            refine lv_lconst (v := 0) hx hb dX4_orderTo_147 rfl ?_
            refine W.lcmp hx hb dX4_orderTo_148 ?_
            refine lv_if_ne (tgt := 154) hx hb dX4_orderTo_149 (by decide) (fun c_9 => ?_) (fun c_9 => ?_)
            · have i_9 := z_ne c_9
              rw [tI_0] at i_9
              have hdne : d.toInt ≠ 0 := fun q9 => c_9 (hz1.mpr q9)
              refine lv_lload hx hb dX4_orderTo_154 (lv_at hl 1 rfl) ?_
              refine lv_lconst (v := 0) hx hb dX4_orderTo_156 rfl ?_
              refine W.lcmp hx hb dX4_orderTo_157 ?_
              refine lv_if_ne (tgt := 166) hx hb dX4_orderTo_158 (by decide) (fun c_10 => ?_) (fun c_10 => ?_)
              · have i_10 := z_ne c_10
                rw [tI_0] at i_10
                have hbne2 : e9.toInt ≠ 0 := fun q9 => c_10 (hz0.mpr q9)
                have hde : d.toInt = 0 := by omega
                have hz7 : zsg (a.toInt * d.toInt - c9.toInt * e9.toInt) = -1 := zsg_lt (by
                  rw [hde, Int.mul_zero]
                  have := Int.mul_pos hst2.2 (show 0 < e9.toInt by omega); omega)
                rw [hz7] at hsg
                refine lv_iload hx hb dX4_orderTo_166 (lv_at hl 4 rfl) ?_
                refine lv_ineg hx hb dX4_orderTo_168 ?_
                refine z_iret hx hb hr hlocks hS ?_ dX4_orderTo_169
                exact ⟨rfl, by rw [fb_negI (by omega)]; omega⟩
              · have i_10 := z_eq c_10
                rw [tI_0] at i_10
                have hbe2 : e9.toInt = 0 := hz0.mp c_10
                have hd8 : 0 < d.toInt := by omega
                have hz7 : zsg (a.toInt * d.toInt - c9.toInt * e9.toInt) = 1 := zsg_pos (by
                  rw [hbe2, Int.mul_zero]
                  have := Int.mul_pos hst2.1 hd8; omega)
                rw [hz7] at hsg
                refine lv_iload hx hb dX4_orderTo_161 (lv_at hl 4 rfl) ?_
                refine lv_goto (tgt := 169) hx hb dX4_orderTo_163 (by decide) ?_
                refine z_iret hx hb hr hlocks hS ?_ dX4_orderTo_169
                exact ⟨rfl, by omega⟩
            · have i_9 := z_eq c_9
              rw [tI_0] at i_9
              have hde : d.toInt = 0 := hz1.mp c_9
              refine lv_iconst (v := 0) hx hb dX4_orderTo_152 (by decide) ?_
              refine z_iret hx hb hr hlocks hS ?_ dX4_orderTo_153
              exact ⟨rfl, by rw [← hsg, hbe, hde, Int.mul_zero, Int.mul_zero]; show (0 : Int) = gr.toInt * 0; rw [Int.mul_zero]⟩
        · have i_6 := z_ne c_6
          rw [tI_0] at i_6
          have hb9 : 0 < e9.toInt := by
            have h9 : e9.toInt ≠ 0 := fun q9 => c_6 (z_cmp0.mpr (by rw [q9]; rfl))
            omega
          refine lv_lload hx hb dX4_orderTo_44 (lv_at hl 3 rfl) ?_
          refine lv_lconst (v := 0) hx hb dX4_orderTo_46 rfl ?_
          refine W.lcmp hx hb dX4_orderTo_47 ?_
          refine lv_if_eq (tgt := 138) hx hb dX4_orderTo_48 (by decide) (fun c_11 => ?_) (fun c_11 => ?_)
          · have i_11 := z_eq c_11
            rw [tI_0] at i_11
            have hz9 : e9.toInt = 0 ∨ d.toInt = 0 := Or.inr (by have h9 := z_cmp0.mp c_11; rw [show (0 : Int64).toInt = 0 from rfl] at h9; exact h9)
            have hst2 : 0 < a.toInt ∧ 0 < c9.toInt := by omega
            have hz0 := z_cmp0 (x := e9) (y := 0)
            have hz1 := z_cmp0 (x := d) (y := 0)
            rw [show (0 : Int64).toInt = 0 from rfl] at hz0 hz1
            refine lv_lload hx hb dX4_orderTo_138 (lv_at hl 1 rfl) ?_
            refine lv_lconst (v := 0) hx hb dX4_orderTo_140 rfl ?_
            refine W.lcmp hx hb dX4_orderTo_141 ?_
            refine lv_if_ne (tgt := 154) hx hb dX4_orderTo_142 (by decide) (fun c_12 => ?_) (fun c_12 => ?_)
            · have i_12 := z_ne c_12
              rw [tI_0] at i_12
              have hbne : e9.toInt ≠ 0 := fun q9 => c_12 (hz0.mpr q9)
              refine lv_lload hx hb dX4_orderTo_154 (lv_at hl 1 rfl) ?_
              refine lv_lconst (v := 0) hx hb dX4_orderTo_156 rfl ?_
              refine W.lcmp hx hb dX4_orderTo_157 ?_
              refine lv_if_ne (tgt := 166) hx hb dX4_orderTo_158 (by decide) (fun c_13 => ?_) (fun c_13 => ?_)
              · have i_13 := z_ne c_13
                rw [tI_0] at i_13
                have hbne2 : e9.toInt ≠ 0 := fun q9 => c_13 (hz0.mpr q9)
                have hde : d.toInt = 0 := by omega
                have hz7 : zsg (a.toInt * d.toInt - c9.toInt * e9.toInt) = -1 := zsg_lt (by
                  rw [hde, Int.mul_zero]
                  have := Int.mul_pos hst2.2 (show 0 < e9.toInt by omega); omega)
                rw [hz7] at hsg
                refine lv_iload hx hb dX4_orderTo_166 (lv_at hl 4 rfl) ?_
                refine lv_ineg hx hb dX4_orderTo_168 ?_
                refine z_iret hx hb hr hlocks hS ?_ dX4_orderTo_169
                exact ⟨rfl, by rw [fb_negI (by omega)]; omega⟩
              · have i_13 := z_eq c_13
                rw [tI_0] at i_13
                have hbe2 : e9.toInt = 0 := hz0.mp c_13
                have hd8 : 0 < d.toInt := by omega
                have hz7 : zsg (a.toInt * d.toInt - c9.toInt * e9.toInt) = 1 := zsg_pos (by
                  rw [hbe2, Int.mul_zero]
                  have := Int.mul_pos hst2.1 hd8; omega)
                rw [hz7] at hsg
                refine lv_iload hx hb dX4_orderTo_161 (lv_at hl 4 rfl) ?_
                refine lv_goto (tgt := 169) hx hb dX4_orderTo_163 (by decide) ?_
                refine z_iret hx hb hr hlocks hS ?_ dX4_orderTo_169
                exact ⟨rfl, by omega⟩
            · have i_12 := z_eq c_12
              rw [tI_0] at i_12
              have hbe : e9.toInt = 0 := hz0.mp c_12
              refine lv_lload hx hb dX4_orderTo_145 (lv_at hl 3 rfl) ?_
              refine lv_lconst (v := 0) hx hb dX4_orderTo_147 rfl ?_
              refine W.lcmp hx hb dX4_orderTo_148 ?_
              refine lv_if_ne (tgt := 154) hx hb dX4_orderTo_149 (by decide) (fun c_14 => ?_) (fun c_14 => ?_)
              · have i_14 := z_ne c_14
                rw [tI_0] at i_14
                have hdne : d.toInt ≠ 0 := fun q9 => c_14 (hz1.mpr q9)
                refine lv_lload hx hb dX4_orderTo_154 (lv_at hl 1 rfl) ?_
                refine lv_lconst (v := 0) hx hb dX4_orderTo_156 rfl ?_
                refine W.lcmp hx hb dX4_orderTo_157 ?_
                refine lv_if_ne (tgt := 166) hx hb dX4_orderTo_158 (by decide) (fun c_15 => ?_) (fun c_15 => ?_)
                · have i_15 := z_ne c_15
                  rw [tI_0] at i_15
                  have hbne2 : e9.toInt ≠ 0 := fun q9 => c_15 (hz0.mpr q9)
                  have hde : d.toInt = 0 := by omega
                  have hz7 : zsg (a.toInt * d.toInt - c9.toInt * e9.toInt) = -1 := zsg_lt (by
                    rw [hde, Int.mul_zero]
                    have := Int.mul_pos hst2.2 (show 0 < e9.toInt by omega); omega)
                  rw [hz7] at hsg
                  refine lv_iload hx hb dX4_orderTo_166 (lv_at hl 4 rfl) ?_
                  refine lv_ineg hx hb dX4_orderTo_168 ?_
                  refine z_iret hx hb hr hlocks hS ?_ dX4_orderTo_169
                  exact ⟨rfl, by rw [fb_negI (by omega)]; omega⟩
                · have i_15 := z_eq c_15
                  rw [tI_0] at i_15
                  have hbe2 : e9.toInt = 0 := hz0.mp c_15
                  have hd8 : 0 < d.toInt := by omega
                  have hz7 : zsg (a.toInt * d.toInt - c9.toInt * e9.toInt) = 1 := zsg_pos (by
                    rw [hbe2, Int.mul_zero]
                    have := Int.mul_pos hst2.1 hd8; omega)
                  rw [hz7] at hsg
                  refine lv_iload hx hb dX4_orderTo_161 (lv_at hl 4 rfl) ?_
                  refine lv_goto (tgt := 169) hx hb dX4_orderTo_163 (by decide) ?_
                  refine z_iret hx hb hr hlocks hS ?_ dX4_orderTo_169
                  exact ⟨rfl, by omega⟩
              · have i_14 := z_eq c_14
                rw [tI_0] at i_14
                have hde : d.toInt = 0 := hz1.mp c_14
                refine lv_iconst (v := 0) hx hb dX4_orderTo_152 (by decide) ?_
                refine z_iret hx hb hr hlocks hS ?_ dX4_orderTo_153
                exact ⟨rfl, by rw [← hsg, hbe, hde, Int.mul_zero, Int.mul_zero]; show (0 : Int) = gr.toInt * 0; rw [Int.mul_zero]⟩
          · have i_11 := z_ne c_11
            rw [tI_0] at i_11
            have hd9 : 0 < d.toInt := by
              have h9 : d.toInt ≠ 0 := fun q9 => c_11 (z_cmp0.mpr (by rw [q9]; rfl))
              omega
            refine lv_lload_n hx hb dX4_orderTo_51 rfl (lv_at hl 0 rfl) ?_
            refine lv_lload hx hb dX4_orderTo_52 (lv_at hl 1 rfl) ?_
            refine z_calll (z_runS (As := [.long a, .long e9]) (rest := []) ⟨hx, hb, hml, hown, hts⟩ hK hS ((k_floorDivL Z g a e9 (by omega) (by omega)) l _) gX4_orderTo_J9_floorDiv_f86c9 rfl 2 (by decide +kernel) ⟨Nat.le_of_ble_eq_true rfl, Nat.le_of_ble_eq_true rfl⟩ rfl hl.1 rfl (Nat.le_of_ble_eq_true rfl) dX4_orderTo_54 ⟨Nat.le_of_ble_eq_true rfl, Nat.le_of_ble_eq_true rfl⟩) hS (fun w1 g_16 H locs hp_17 hS => ?_)
            obtain ⟨rfl, hp_17⟩ := hp_17
            have hw1 := hp_17
            refine lv_lstore (lv' := [(12, .long w1), (2, .long a), (4, .long e9), (6, .long c9), (8, .long d), (10, .int gr), (11, .int (nI i))]) hx hb dX4_orderTo_57 hl (by decide) rfl (fun ls hl => ?_)
            refine lv_lload hx hb dX4_orderTo_59 (lv_at hl 3 rfl) ?_
            refine lv_lload hx hb dX4_orderTo_61 (lv_at hl 4 rfl) ?_
            refine z_calll (z_runS (As := [.long c9, .long d]) (rest := []) ⟨hx, hb, hml, hown, hts⟩ hK hS ((k_floorDivL Z g c9 d (by omega) (by omega)) l _) gX4_orderTo_J9_floorDiv_f86c9 rfl 2 (by decide +kernel) ⟨Nat.le_of_ble_eq_true rfl, Nat.le_of_ble_eq_true rfl⟩ rfl hl.1 rfl (Nat.le_of_ble_eq_true rfl) dX4_orderTo_63 ⟨Nat.le_of_ble_eq_true rfl, Nat.le_of_ble_eq_true rfl⟩) hS (fun w2 g_18 H locs hp_19 hS => ?_)
            obtain ⟨rfl, hp_19⟩ := hp_19
            have hw2 := hp_19
            have hfd := z_fd_cmp hb9 hd9 hw1.1 hw1.2 hw2.1 hw2.2
            refine lv_lstore (lv' := [(14, .long w2), (12, .long w1), (2, .long a), (4, .long e9), (6, .long c9), (8, .long d), (10, .int gr), (11, .int (nI i))]) hx hb dX4_orderTo_66 hl (by decide) rfl (fun ls hl => ?_)
            refine lv_lload hx hb dX4_orderTo_68 (lv_at hl 1 rfl) ?_
            refine lv_lload hx hb dX4_orderTo_70 (lv_at hl 0 rfl) ?_
            refine W.lcmp hx hb dX4_orderTo_72 ?_
            refine lv_if_eq (tgt := 93) hx hb dX4_orderTo_73 (by decide) (fun c_20 => ?_) (fun c_20 => ?_)
            · have i_20 := z_eq c_20
              rw [tI_0] at i_20
              have hww := z_cmp0.mp c_20
              have hm1 : (w1 * e9).toInt = w1.toInt * e9.toInt := fb_mulL (by rw [Int.mul_comm]; omega) (by rw [Int.mul_comm]; omega)
              have hm2 : (w2 * d).toInt = w2.toInt * d.toInt := fb_mulL (by rw [Int.mul_comm]; omega) (by rw [Int.mul_comm]; omega)
              have hc9a := Int.mul_comm w1.toInt e9.toInt
              have hc9b := Int.mul_comm w2.toInt d.toInt
              refine lv_lload_n hx hb dX4_orderTo_93 rfl (lv_at hl 2 rfl) ?_
              refine lv_lload hx hb dX4_orderTo_94 (lv_at hl 1 rfl) ?_
              refine lv_lload hx hb dX4_orderTo_96 (lv_at hl 3 rfl) ?_
              refine lv_lmul hx hb dX4_orderTo_98 ?_
              refine lv_lsub hx hb dX4_orderTo_99 ?_
              refine lv_topl (fun r1 er1 => ?_)
              have hr1 : r1.toInt = a.toInt - w1.toInt * e9.toInt := by rw [er1, fb_subL (by omega) (by omega), hm1]
              refine lv_lstore (lv' := [(16, .long r1), (14, .long w2), (12, .long w1), (2, .long a), (4, .long e9), (6, .long c9), (8, .long d), (10, .int gr), (11, .int (nI i))]) hx hb dX4_orderTo_100 hl (by decide) rfl (fun ls hl => ?_)
              refine lv_lload hx hb dX4_orderTo_102 (lv_at hl 5 rfl) ?_
              refine lv_lload hx hb dX4_orderTo_104 (lv_at hl 1 rfl) ?_
              refine lv_lload hx hb dX4_orderTo_106 (lv_at hl 6 rfl) ?_
              refine lv_lmul hx hb dX4_orderTo_108 ?_
              refine lv_lsub hx hb dX4_orderTo_109 ?_
              refine lv_topl (fun r2 er2 => ?_)
              have hr2 : r2.toInt = c9.toInt - w2.toInt * d.toInt := by rw [er2, fb_subL (by omega) (by omega), hm2]
              have hrm : 0 ≤ a.toInt → r1.toInt.toNat = a.toInt.toNat % e9.toInt.toNat := fun h9 => by
                have h8 : r1.toInt = a.toInt % e9.toInt := by
                  have h7 : a.toInt = r1.toInt + e9.toInt * w1.toInt := by omega
                  rw [h7, Int.add_mul_emod_self_left, Int.emod_eq_of_lt (by omega) (by omega)]
                rw [h8]; exact Int.toNat_emod h9 (by omega)
              refine lv_lstore (lv' := [(18, .long r2), (16, .long r1), (14, .long w2), (12, .long w1), (2, .long a), (4, .long e9), (6, .long c9), (8, .long d), (10, .int gr), (11, .int (nI i))]) hx hb dX4_orderTo_110 hl (by decide) rfl (fun ls hl => ?_)
              refine lv_lload hx hb dX4_orderTo_112 (lv_at hl 5 rfl) ?_
              refine lv_lstore_n (lv' := [(2, .long e9), (18, .long r2), (16, .long r1), (14, .long w2), (12, .long w1), (4, .long e9), (6, .long c9), (8, .long d), (10, .int gr), (11, .int (nI i))]) hx hb dX4_orderTo_114 rfl hl (by decide) rfl (fun ls hl => ?_)
              refine lv_lload hx hb dX4_orderTo_115 (lv_at hl 2 rfl) ?_
              refine lv_lstore (lv' := [(4, .long r1), (2, .long e9), (18, .long r2), (16, .long r1), (14, .long w2), (12, .long w1), (6, .long c9), (8, .long d), (10, .int gr), (11, .int (nI i))]) hx hb dX4_orderTo_117 hl (by decide) rfl (fun ls hl => ?_)
              refine lv_lload hx hb dX4_orderTo_119 (lv_at hl 7 rfl) ?_
              refine lv_lstore (lv' := [(6, .long d), (4, .long r1), (2, .long e9), (18, .long r2), (16, .long r1), (14, .long w2), (12, .long w1), (8, .long d), (10, .int gr), (11, .int (nI i))]) hx hb dX4_orderTo_121 hl (by decide) rfl (fun ls hl => ?_)
              refine lv_lload hx hb dX4_orderTo_123 (lv_at hl 3 rfl) ?_
              refine lv_lstore (lv' := [(8, .long r2), (6, .long d), (4, .long r1), (2, .long e9), (18, .long r2), (16, .long r1), (14, .long w2), (12, .long w1), (10, .int gr), (11, .int (nI i))]) hx hb dX4_orderTo_125 hl (by decide) rfl (fun ls hl => ?_)
              refine lv_iload hx hb dX4_orderTo_127 (lv_at hl 8 rfl) ?_
              refine lv_ineg hx hb dX4_orderTo_129 ?_
              refine lv_topi (fun gr2 egr2 => ?_)
              have hgr2 : gr2.toInt = -gr.toInt := by rw [egr2, fb_negI (by omega)]
              refine lv_istore (lv' := [(10, .int gr2), (8, .long r2), (6, .long d), (4, .long r1), (2, .long e9), (18, .long r2), (16, .long r1), (14, .long w2), (12, .long w1), (11, .int (nI i))]) hx hb dX4_orderTo_130 hl (by decide) rfl (fun ls hl => ?_)
              refine lv_iinc (v := (nI (i + 1))) (lv' := [(11, .int (nI (i + 1))), (10, .int gr2), (8, .long r2), (6, .long d), (4, .long r1), (2, .long e9), (18, .long r2), (16, .long r1), (14, .long w2), (12, .long w1)]) hx hb dX4_orderTo_132 hl (k := 9) rfl (nI_1 _) (by decide) rfl (fun ls hl => ?_)
              refine lv_goto (tgt := 29) hx hb dX4_orderTo_135 (by decide) ?_
              exact ih_29 e9 r1 d r2 gr2 (i + 1) (by omega) (by omega) (Or.inr ⟨by omega, by omega⟩) (by omega) (by
                  rw [← hsg, hfd.2.2 hww, hgr2, hr1, hr2, zsg_neg]
                  grind) (Or.inr ⟨by omega, by
                  rcases hpo with h9 | ⟨h9, h8⟩
                  · subst h9
                    have h7 : e9.toInt.toNat * r1.toInt.toNat ≤ 282429536481 * 282429536481 := Nat.mul_le_mul (by omega) (by omega)
                    have h6 : (282429536481 * 282429536481) * 2 ^ (0 + 1) ≤ 2 ^ 80 := by decide +kernel
                    exact Nat.le_trans (Nat.mul_le_mul_right _ h7) h6
                  · have e8 : r1.toInt.toNat = a.toInt.toNat % e9.toInt.toNat := hrm (by omega)
                    rw [e8]; exact z_pot h9 (by omega) h8⟩) (by omega) _ _ _ hS (lv_sub hl [5, 4, 3, 2, 1, 0] rfl)
            · have i_20 := z_ne c_20
              rw [tI_0] at i_20
              have hww : w1.toInt ≠ w2.toInt := fun q9 => c_20 (z_cmp0.mpr q9)
              have hcg := z_cmpG (x := w1) (y := w2)
              refine lv_lload hx hb dX4_orderTo_76 (lv_at hl 1 rfl) ?_
              refine lv_lload hx hb dX4_orderTo_78 (lv_at hl 0 rfl) ?_
              refine W.lcmp hx hb dX4_orderTo_80 ?_
              refine lv_if_le (tgt := 89) hx hb dX4_orderTo_81 (by decide) (fun c_21 => ?_) (fun c_21 => ?_)
              · have i_21 := z_le c_21
                rw [tI_0] at i_21
                have hlt9 : w1.toInt < w2.toInt := by omega
                have hz8 := zsg_lt (hfd.2.1 hlt9)
                rw [hz8] at hsg
                refine lv_iload hx hb dX4_orderTo_89 (lv_at hl 6 rfl) ?_
                refine lv_ineg hx hb dX4_orderTo_91 ?_
                refine z_iret hx hb hr hlocks hS ?_ dX4_orderTo_92
                exact ⟨rfl, by rw [fb_negI (by omega)]; omega⟩
              · have i_21 := z_nle c_21
                rw [tI_0] at i_21
                have hlt9 : w2.toInt < w1.toInt := by omega
                have hz8 := zsg_pos (hfd.1 hlt9)
                rw [hz8] at hsg
                refine lv_iload hx hb dX4_orderTo_84 (lv_at hl 6 rfl) ?_
                refine lv_goto (tgt := 92) hx hb dX4_orderTo_86 (by decide) ?_
                refine z_iret hx hb hr hlocks hS ?_ dX4_orderTo_92
                exact ⟨rfl, by omega⟩
  exact hcut_29 (200 - 0 + 1) v1 v2 u1 u2 1 0 (by omega) (by omega) (Or.inl ⟨by omega, by omega⟩) (Or.inl rfl) (by rw [tI_1, Int.one_mul]) (Or.inl rfl) (Nat.lt_succ_self _) _ _ _ hS (lv_sub hl [5, 4, 3, 2, 1, 0] rfl)

