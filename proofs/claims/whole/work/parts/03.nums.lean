/-! numbers -/
theorem fb_rng (x : Int32) : -2147483648 ≤ x.toInt ∧ x.toInt < 2147483648 := by
  have h1 := Int32.le_toInt x
  have h2 := Int32.toInt_lt x
  omega
theorem fb_bmod {z : Int} (h1 : -2147483648 ≤ z) (h2 : z < 2147483648) : z.bmod (2 ^ 32) = z := by
  rw [Int.bmod_eq_of_le (by omega) (by omega)]
theorem fb_addI {x y : Int32} (h1 : -2147483648 ≤ x.toInt + y.toInt) (h2 : x.toInt + y.toInt < 2147483648) : (x + y).toInt = x.toInt + y.toInt := by
  rw [Int32.toInt_add, fb_bmod h1 h2]
theorem fb_subI {x y : Int32} (h1 : -2147483648 ≤ x.toInt - y.toInt) (h2 : x.toInt - y.toInt < 2147483648) : (x - y).toInt = x.toInt - y.toInt := by
  rw [Int32.toInt_sub, fb_bmod h1 h2]
theorem fb_mulI {x y : Int32} (h1 : -2147483648 ≤ x.toInt * y.toInt) (h2 : x.toInt * y.toInt < 2147483648) : (x * y).toInt = x.toInt * y.toInt := by
  rw [Int32.toInt_mul, fb_bmod h1 h2]
theorem fb_negI {x : Int32} (h : x.toInt ≠ -2147483648) : (-x).toInt = -x.toInt := by
  have := fb_rng x
  rw [Int32.toInt_neg, fb_bmod (by omega) (by omega)]
theorem fb_ofI {z : Int} (h1 : -2147483648 ≤ z) (h2 : z < 2147483648) : (Int32.ofInt z).toInt = z := by
  rw [Int32.toInt_ofInt, fb_bmod h1 h2]
theorem fb_rngL (x : Int64) : -9223372036854775808 ≤ x.toInt ∧ x.toInt < 9223372036854775808 := by
  have h1 := Int64.le_toInt x
  have h2 := Int64.toInt_lt x
  omega
theorem fb_bmodL {z : Int} (h1 : -9223372036854775808 ≤ z) (h2 : z < 9223372036854775808) : z.bmod (2 ^ 64) = z := by
  rw [Int.bmod_eq_of_le (by omega) (by omega)]
theorem fb_addL {x y : Int64} (h1 : -9223372036854775808 ≤ x.toInt + y.toInt) (h2 : x.toInt + y.toInt < 9223372036854775808) : (x + y).toInt = x.toInt + y.toInt := by
  rw [Int64.toInt_add, fb_bmodL h1 h2]
theorem fb_subL {x y : Int64} (h1 : -9223372036854775808 ≤ x.toInt - y.toInt) (h2 : x.toInt - y.toInt < 9223372036854775808) : (x - y).toInt = x.toInt - y.toInt := by
  rw [Int64.toInt_sub, fb_bmodL h1 h2]
theorem fb_mulL {x y : Int64} (h1 : -9223372036854775808 ≤ x.toInt * y.toInt) (h2 : x.toInt * y.toInt < 9223372036854775808) : (x * y).toInt = x.toInt * y.toInt := by
  rw [Int64.toInt_mul, fb_bmodL h1 h2]
theorem z_lt {x y : Int32} (h : x < y) : x.toInt < y.toInt := Int32.lt_iff_toInt_lt.mp h
theorem z_nlt {x y : Int32} (h : ¬ x < y) : y.toInt ≤ x.toInt := Int.not_lt.mp (fun q => h (Int32.lt_iff_toInt_lt.mpr q))
theorem z_le {x y : Int32} (h : x ≤ y) : x.toInt ≤ y.toInt := Int32.le_iff_toInt_le.mp h
theorem z_nle {x y : Int32} (h : ¬ x ≤ y) : y.toInt < x.toInt := Int.not_le.mp (fun q => h (Int32.le_iff_toInt_le.mpr q))
theorem z_eq {x y : Int32} (h : x = y) : x.toInt = y.toInt := congrArg _ h
theorem z_ne {x y : Int32} (h : ¬ x = y) : x.toInt ≠ y.toInt := fun q => h (Int32.toInt_inj.mp q)
theorem z_inj {x y : Int32} (h : x.toInt = y.toInt) : x = y := Int32.toInt_inj.mp h
theorem z_injL {x y : Int64} (h : x.toInt = y.toInt) : x = y := Int64.toInt_inj.mp h
theorem z_nI_of {x : Int32} (h : 0 ≤ x.toInt) : ∃ j : Nat, x = nI j ∧ (j : Int) = x.toInt ∧ j < 2 ^ 31 := by
  have := fb_rng x
  refine ⟨x.toInt.toNat, z_inj ?_, by omega, by omega⟩
  rw [nI_toInt (by omega)]; omega
theorem z_nI_is {x : Int32} {j : Nat} (h : x.toInt = (j : Int)) : x = nI j := by
  have := fb_rng x
  apply z_inj
  rw [nI_toInt (by omega)]; exact h
/-- division and remainder, away from 0, 1 and -1 -/
theorem z_tdiv_bd (a b : Int) : (a.tdiv b).natAbs ≤ a.natAbs := by
  rw [Int.natAbs_tdiv]; exact Nat.div_le_self _ _
theorem z_div {x y : Int32} (hy : 2 ≤ y.toInt ∨ y.toInt ≤ -2) : (x / y).toInt = x.toInt.tdiv y.toInt := by
  have h := fb_rng x
  have hb : -2147483648 ≤ x.toInt.tdiv y.toInt ∧ x.toInt.tdiv y.toInt < 2147483648 := by
    have h2 : (x.toInt.tdiv y.toInt).natAbs * 2 ≤ x.toInt.natAbs := by
      rw [Int.natAbs_tdiv]
      change x.toInt.natAbs / y.toInt.natAbs * 2 ≤ _
      have h3 : x.toInt.natAbs / y.toInt.natAbs ≤ x.toInt.natAbs / 2 := Nat.div_le_div_left (by omega) (by omega)
      omega
    omega
  rw [Int32.toInt_div, fb_bmod hb.1 hb.2]
theorem z_rem {x y : Int32} (hy : 2 ≤ y.toInt ∨ y.toInt ≤ -2) : (x - x / y * y).toInt = x.toInt.tmod y.toInt := by
  have h := fb_rng x
  have e1 := z_div (x := x) hy
  have e2 : x.toInt.tdiv y.toInt * y.toInt = x.toInt - x.toInt.tmod y.toInt := by
    have := Int.tmod_add_mul_tdiv x.toInt y.toInt
    rw [Int.mul_comm]; omega
  have hb : (x.toInt.tmod y.toInt).natAbs ≤ x.toInt.natAbs := by
    rw [Int.natAbs_tmod]; exact Nat.mod_le _ _
  have hs : (x.toInt.tdiv y.toInt * y.toInt).natAbs ≤ x.toInt.natAbs := by
    rw [Int.natAbs_mul, Int.natAbs_tdiv]; exact Nat.div_mul_le_self _ _
  have e3 : (x / y * y).toInt = x.toInt.tdiv y.toInt * y.toInt := by
    have hr : -2147483648 ≤ x.toInt.tdiv y.toInt * y.toInt ∧ x.toInt.tdiv y.toInt * y.toInt < 2147483648 := by
      refine ⟨by omega, ?_⟩
      by_cases hx : x.toInt = -2147483648
      · have hm : x.toInt.tmod y.toInt ≤ 0 := by
          have := Int.tmod_nonneg (a := -x.toInt) y.toInt (by omega)
          rw [Int.neg_tmod] at this; omega
        omega
      · omega
    rw [fb_mulI (by rw [e1]; exact hr.1) (by rw [e1]; exact hr.2), e1]
  have hr := Int.tmod_add_mul_tdiv x.toInt y.toInt
  rw [fb_subI (by rw [e3, e2]; omega) (by rw [e3, e2]; omega), e3, e2]; omega
theorem z_tmod_sign (a y : Int) (hy : 0 < y) : (a < 0 → a.tmod y ≤ 0) ∧ (0 ≤ a → 0 ≤ a.tmod y) ∧ (a.tmod y).natAbs < y.natAbs := by
  refine ⟨fun h => ?_, fun h => Int.tmod_nonneg y h, ?_⟩
  · have := Int.tmod_nonneg (a := -a) y (by omega)
    rw [Int.neg_tmod] at this; omega
  · rw [Int.natAbs_tmod]; exact Nat.mod_lt _ (by omega)
theorem z_tmod0 {a b : Int} : a.tmod b = 0 ↔ b ∣ a := (Int.dvd_iff_tmod_eq_zero).symm
/-- the remainder from 0 on -/
theorem z_emod_tmod {a y : Int} (hy : 0 < y) : a % y = if a < 0 ∧ a.tmod y ≠ 0 then a.tmod y + y else a.tmod y := by
  have h1 := Int.tmod_add_mul_tdiv a y
  have h2 : (a.tmod y).natAbs < y.natAbs := by
    rw [Int.natAbs_tmod]; exact Nat.mod_lt _ (by omega)
  by_cases ha : a < 0
  · have h3 : a.tmod y ≤ 0 := by
      have := Int.tmod_nonneg (a := -a) y (by omega)
      rw [Int.neg_tmod] at this; omega
    by_cases h4 : a.tmod y = 0
    · rw [if_neg (by simp [h4]), h4]
      exact Int.emod_eq_zero_of_dvd (z_tmod0.mp h4)
    · rw [if_pos ⟨ha, h4⟩]
      have e : a = (a.tmod y + y) + y * (a.tdiv y - 1) := by rw [Int.mul_sub]; omega
      have e2 : a % y = (a.tmod y + y) % y := by
        conv => lhs; rw [e]
        rw [Int.add_mul_emod_self_left]
      rw [e2, Int.emod_eq_of_lt (by omega) (by omega)]
  · have h3 := Int.tmod_nonneg (a := a) y (by omega)
    rw [if_neg (by omega)]
    have e2 : a % y = (a.tmod y) % y := by
      conv => lhs; rw [← h1]
      rw [Int.add_mul_emod_self_left]
    rw [e2, Int.emod_eq_of_lt h3 (by omega)]
theorem z_xor_neg (x y : Int32) : (x ^^^ y).toInt < 0 ↔ ¬ (x.toInt < 0 ↔ y.toInt < 0) := by
  have h : ∀ z : Int32, z.toInt < 0 ↔ z.toBitVec.msb = true := fun z => by
    rw [BitVec.msb_eq_toInt]; simp
  rw [h, h, h, Int32.toBitVec_xor, BitVec.msb_xor]
  cases x.toBitVec.msb <;> cases y.toBitVec.msb <;> simp
theorem z_xor_negL (x y : Int64) : (x ^^^ y).toInt < 0 ↔ ¬ (x.toInt < 0 ↔ y.toInt < 0) := by
  have h : ∀ z : Int64, z.toInt < 0 ↔ z.toBitVec.msb = true := fun z => by
    rw [BitVec.msb_eq_toInt]; simp
  rw [h, h, h, Int64.toBitVec_xor, BitVec.msb_xor]
  cases x.toBitVec.msb <;> cases y.toBitVec.msb <;> simp
/-- the sign of a comparison of longs -/
theorem z_cmp0 {x y : Int64} : lg_cmp x y = 0 ↔ x.toInt = y.toInt := by
  unfold lg_cmp
  by_cases h : y < x
  · have h' := Int64.lt_iff_toInt_lt.mp h
    rw [if_pos h]
    exact ⟨fun q => absurd q (by decide), fun q => by omega⟩
  · rw [if_neg h]
    by_cases h2 : x = y
    · rw [if_pos h2, h2]; exact ⟨fun _ => rfl, fun _ => rfl⟩
    · rw [if_neg h2]
      exact ⟨fun q => absurd q (by decide), fun q => absurd (Int64.toInt_inj.mp q) h2⟩
theorem z_cmpL {x y : Int64} : (lg_cmp x y).toInt < 0 ↔ x.toInt < y.toInt := by
  unfold lg_cmp
  by_cases h : y < x
  · have h' := Int64.lt_iff_toInt_lt.mp h
    rw [if_pos h]
    exact ⟨fun q => absurd q (by decide), fun q => by omega⟩
  · have h3 : x.toInt ≤ y.toInt := Int.not_lt.mp (fun q => h (Int64.lt_iff_toInt_lt.mpr q))
    rw [if_neg h]
    by_cases h2 : x = y
    · rw [if_pos h2, h2]
      exact ⟨fun q => absurd q (by decide), fun q => by omega⟩
    · rw [if_neg h2]
      have h4 : x.toInt ≠ y.toInt := fun q => h2 (Int64.toInt_inj.mp q)
      exact ⟨fun q => by omega, fun q => by decide⟩
theorem z_cmpG {x y : Int64} : 0 < (lg_cmp x y).toInt ↔ y.toInt < x.toInt := by
  unfold lg_cmp
  by_cases h : y < x
  · have h' := Int64.lt_iff_toInt_lt.mp h
    rw [if_pos h]
    exact ⟨fun _ => h', fun _ => by decide⟩
  · have h3 : x.toInt ≤ y.toInt := Int.not_lt.mp (fun q => h (Int64.lt_iff_toInt_lt.mpr q))
    rw [if_neg h]
    by_cases h2 : x = y
    · rw [if_pos h2]
      exact ⟨fun q => absurd q (by decide), fun q => by omega⟩
    · rw [if_neg h2]
      exact ⟨fun q => absurd q (by decide), fun q => by omega⟩
def zbo (r : Int32) (P : Prop) : Prop := (P ∧ r = 1) ∨ (¬ P ∧ r = 0)
theorem zbo_t {r : Int32} {P : Prop} (h : zbo r P) (c : ¬ r = 0) : P := by
  rcases h with h | h
  · exact h.1
  · exact absurd h.2 c
theorem zbo_f {r : Int32} {P : Prop} (h : zbo r P) (c : r = 0) : ¬ P := by
  rcases h with h | h
  · rw [h.2] at c; exact absurd c (by decide)
  · exact h.1
theorem zbo_1 {P : Prop} (h : P) : zbo 1 P := Or.inl ⟨h, rfl⟩
theorem zbo_0 {P : Prop} (h : ¬ P) : zbo 0 P := Or.inr ⟨h, rfl⟩
theorem z_mul_bd {x y a b : Int} (h1 : -a ≤ x) (h2 : x ≤ a) (h3 : -b ≤ y) (h4 : y ≤ b) : -(a * b) ≤ x * y ∧ x * y ≤ a * b := by
  have ha : x.natAbs ≤ a.natAbs := by omega
  have hb : y.natAbs ≤ b.natAbs := by omega
  have h := Nat.mul_le_mul ha hb
  rw [← Int.natAbs_mul, ← Int.natAbs_mul] at h
  have h5 : 0 ≤ a * b := Int.mul_nonneg (by omega) (by omega)
  omega
theorem tI_0 : (0 : Int32).toInt = 0 := by decide +kernel
theorem tI_1 : (1 : Int32).toInt = 1 := by decide +kernel
theorem tI_2 : (2 : Int32).toInt = 2 := by decide +kernel
theorem tI_3 : (3 : Int32).toInt = 3 := by decide +kernel
theorem tI_4 : (4 : Int32).toInt = 4 := by decide +kernel
theorem tI_5 : (5 : Int32).toInt = 5 := by decide +kernel
theorem tI_6 : (6 : Int32).toInt = 6 := by decide +kernel
theorem tI_7 : (7 : Int32).toInt = 7 := by decide +kernel
theorem tI_8 : (8 : Int32).toInt = 8 := by decide +kernel
theorem tI_9 : (9 : Int32).toInt = 9 := by decide +kernel
theorem tI_10 : (10 : Int32).toInt = 10 := by decide +kernel
theorem tI_11 : (11 : Int32).toInt = 11 := by decide +kernel
theorem tI_12 : (12 : Int32).toInt = 12 := by decide +kernel
theorem tI_13 : (13 : Int32).toInt = 13 := by decide +kernel
theorem tI_14 : (14 : Int32).toInt = 14 := by decide +kernel
theorem tI_15 : (15 : Int32).toInt = 15 := by decide +kernel
theorem tI_16 : (16 : Int32).toInt = 16 := by decide +kernel
theorem tI_17 : (17 : Int32).toInt = 17 := by decide +kernel
theorem tI_18 : (18 : Int32).toInt = 18 := by decide +kernel
theorem tI_19 : (19 : Int32).toInt = 19 := by decide +kernel
theorem tI_20 : (20 : Int32).toInt = 20 := by decide +kernel
theorem tI_21 : (21 : Int32).toInt = 21 := by decide +kernel
theorem tI_22 : (22 : Int32).toInt = 22 := by decide +kernel
theorem tI_23 : (23 : Int32).toInt = 23 := by decide +kernel
theorem tI_24 : (24 : Int32).toInt = 24 := by decide +kernel
theorem tI_25 : (25 : Int32).toInt = 25 := by decide +kernel
theorem tI_26 : (26 : Int32).toInt = 26 := by decide +kernel
theorem tI_27 : (27 : Int32).toInt = 27 := by decide +kernel
theorem tI_28 : (28 : Int32).toInt = 28 := by decide +kernel
theorem tI_29 : (29 : Int32).toInt = 29 := by decide +kernel
theorem tI_30 : (30 : Int32).toInt = 30 := by decide +kernel
theorem tI_31 : (31 : Int32).toInt = 31 := by decide +kernel
theorem tI_32 : (32 : Int32).toInt = 32 := by decide +kernel
theorem tI_33 : (33 : Int32).toInt = 33 := by decide +kernel
theorem tI_34 : (34 : Int32).toInt = 34 := by decide +kernel
theorem tI_35 : (35 : Int32).toInt = 35 := by decide +kernel
theorem tI_36 : (36 : Int32).toInt = 36 := by decide +kernel
theorem tI_37 : (37 : Int32).toInt = 37 := by decide +kernel
theorem tI_38 : (38 : Int32).toInt = 38 := by decide +kernel
theorem tI_39 : (39 : Int32).toInt = 39 := by decide +kernel
theorem tI_40 : (40 : Int32).toInt = 40 := by decide +kernel
theorem tI_41 : (41 : Int32).toInt = 41 := by decide +kernel
theorem tI_42 : (42 : Int32).toInt = 42 := by decide +kernel
theorem tI_43 : (43 : Int32).toInt = 43 := by decide +kernel
theorem tI_44 : (44 : Int32).toInt = 44 := by decide +kernel
theorem tI_45 : (45 : Int32).toInt = 45 := by decide +kernel
theorem tI_46 : (46 : Int32).toInt = 46 := by decide +kernel
theorem tI_47 : (47 : Int32).toInt = 47 := by decide +kernel
theorem tI_48 : (48 : Int32).toInt = 48 := by decide +kernel
theorem tI_49 : (49 : Int32).toInt = 49 := by decide +kernel
theorem tI_50 : (50 : Int32).toInt = 50 := by decide +kernel
theorem tI_51 : (51 : Int32).toInt = 51 := by decide +kernel
theorem tI_52 : (52 : Int32).toInt = 52 := by decide +kernel
theorem tI_53 : (53 : Int32).toInt = 53 := by decide +kernel
theorem tI_54 : (54 : Int32).toInt = 54 := by decide +kernel
theorem tI_55 : (55 : Int32).toInt = 55 := by decide +kernel
theorem tI_56 : (56 : Int32).toInt = 56 := by decide +kernel
theorem tI_57 : (57 : Int32).toInt = 57 := by decide +kernel
theorem tI_58 : (58 : Int32).toInt = 58 := by decide +kernel
theorem tI_59 : (59 : Int32).toInt = 59 := by decide +kernel
theorem tI_60 : (60 : Int32).toInt = 60 := by decide +kernel
theorem tI_61 : (61 : Int32).toInt = 61 := by decide +kernel
theorem tI_62 : (62 : Int32).toInt = 62 := by decide +kernel
theorem tI_63 : (63 : Int32).toInt = 63 := by decide +kernel
theorem tI_64 : (64 : Int32).toInt = 64 := by decide +kernel
theorem tI_m1 : (-1 : Int32).toInt = -1 := by decide +kernel
theorem tI_m2 : (-2 : Int32).toInt = -2 := by decide +kernel
theorem tI_m3 : (-3 : Int32).toInt = -3 := by decide +kernel
theorem tI_m4 : (-4 : Int32).toInt = -4 := by decide +kernel
theorem tI_m5 : (-5 : Int32).toInt = -5 := by decide +kernel
theorem tI_m6 : (-6 : Int32).toInt = -6 := by decide +kernel
theorem tI_m10 : (-10 : Int32).toInt = -10 := by decide +kernel
theorem tI_m20 : (-20 : Int32).toInt = -20 := by decide +kernel
theorem tI_m25 : (-25 : Int32).toInt = -25 := by decide +kernel
theorem tI_m64 : (-64 : Int32).toInt = -64 := by decide +kernel
theorem tI_m1000001 : (-1000001 : Int32).toInt = -1000001 := by decide +kernel
theorem tI_m1000002 : (-1000002 : Int32).toInt = -1000002 := by decide +kernel
theorem tI_m1000003 : (-1000003 : Int32).toInt = -1000003 := by decide +kernel
theorem tI_m1000004 : (-1000004 : Int32).toInt = -1000004 := by decide +kernel
theorem tI_m1000005 : (-1000005 : Int32).toInt = -1000005 := by decide +kernel
theorem tI_m1000006 : (-1000006 : Int32).toInt = -1000006 := by decide +kernel
theorem tI_100 : (100 : Int32).toInt = 100 := by decide +kernel
theorem tI_128 : (128 : Int32).toInt = 128 := by decide +kernel
theorem tI_129 : (129 : Int32).toInt = 129 := by decide +kernel
theorem tI_200 : (200 : Int32).toInt = 200 := by decide +kernel
theorem tI_10000 : (10000 : Int32).toInt = 10000 := by decide +kernel
theorem tI_2000 : (2000 : Int32).toInt = 2000 := by decide +kernel
theorem tI_100000 : (100000 : Int32).toInt = 100000 := by decide +kernel
theorem tI_1000000 : (1000000 : Int32).toInt = 1000000 := by decide +kernel
theorem tI_999999 : (999999 : Int32).toInt = 999999 := by decide +kernel
theorem tI_1000000000 : (1000000000 : Int32).toInt = 1000000000 := by decide +kernel
theorem tI_m100000 : (-100000 : Int32).toInt = -100000 := by decide +kernel
theorem tI_m10000 : (-10000 : Int32).toInt = -10000 := by decide +kernel
theorem tI_m2000 : (-2000 : Int32).toInt = -2000 := by decide +kernel
theorem tI_m100 : (-100 : Int32).toInt = -100 := by decide +kernel
theorem tI_121 : (121 : Int32).toInt = 121 := by decide +kernel
theorem tI_533 : (533 : Int32).toInt = 533 := by decide +kernel
theorem tI_512 : (512 : Int32).toInt = 512 := by decide +kernel
