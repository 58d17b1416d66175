/-! the reference: periods -/
def z_mp (Z : zT) (g : Nat → va_E) (sg : Nat → zb) (v4 v5 v6 : Int32) (v15 v16 : Int64) (v17 : Int32) : Prop := ∃ (fu fq fm fd : Nat → Int32), g 41 = .inr (10, [.ref (Z.2.1 42), .ref (Z.2.1 43), .ref (Z.2.1 44), .ref (Z.2.1 45), .int v4, .int v5, .int v6, .ref (Z.2.1 46), .ref (Z.2.1 47), .ref (Z.2.1 48), .ref (Z.2.1 49), .ref (Z.2.1 50), .ref (Z.2.1 51), .ref (Z.2.1 52), .ref (Z.2.1 53), .long v15, .long v16, .int v17, .ref (Z.2.1 54), .ref (Z.2.1 55), .ref (Z.2.1 56)]) ∧ g 42 = .inl (Z.2.2.2 0, 2, .inl fu) ∧ g 43 = .inl (Z.2.2.2 0, 2, .inl fq) ∧ g 44 = .inl (Z.2.2.2 0, 2, .inl fm) ∧ g 45 = .inl (Z.2.2.2 0, 24, .inl fd) ∧ 57 ≤ Z.1 ∧ z_ms sg fu fq fm fd
theorem z_mp.mr {Z : zT} {g : Nat → va_E} {sg : Nat → zb} {v4 v5 v6 : Int32} {v15 v16 : Int64} {v17 : Int32} (h : z_mp Z g sg v4 v5 v6 v15 v16 v17) : z_mr Z g sg := by
  obtain ⟨fu, fq, fm, fd, h⟩ := h
  exact ⟨v4, v5, v6, v15, v16, v17, fu, fq, fm, fd, h⟩
theorem z_mr.mp {Z : zT} {g : Nat → va_E} {sg : Nat → zb} (h : z_mr Z g sg) : ∃ v4 v5 v6 v15 v16 v17, z_mp Z g sg v4 v5 v6 v15 v16 v17 := by
  obtain ⟨v4, v5, v6, v15, v16, v17, fu, fq, fm, fd, h⟩ := h
  exact ⟨v4, v5, v6, v15, v16, v17, fu, fq, fm, fd, h⟩
theorem zper_meet {mu la : Nat} (h : 0 < la) : ∃ q, 1 ≤ q ∧ mu ≤ q ∧ la ∣ q ∧ q ≤ mu + la := by
  refine ⟨la * (mu / la + 1), ?_, ?_, ⟨_, rfl⟩, ?_⟩
  · have : la * 1 ≤ la * (mu / la + 1) := Nat.mul_le_mul_left _ (Nat.succ_le_succ (Nat.zero_le _))
    omega
  · have h1 := Nat.mod_add_div mu la
    have h2 := Nat.mod_lt mu h
    rw [Nat.mul_add, Nat.mul_one]; omega
  · have h1 := Nat.mod_add_div mu la
    rw [Nat.mul_add, Nat.mul_one]; omega
theorem zm_sub {a b : Nat} (h : b ≤ a) (ha : a < 2147483648) : nI a - nI b = nI (a - b) :=
  z_inj (by rw [fb_subI (by rw [nI_toInt (by omega), nI_toInt (by omega)]; omega) (by rw [nI_toInt (by omega), nI_toInt (by omega)]; omega), nI_toInt (by omega), nI_toInt (by omega), nI_toInt (by omega)]; omega)
theorem zm_add {a b : Nat} (h : a + b < 2147483648) : nI a + nI b = nI (a + b) :=
  z_inj (by rw [fb_addI (by rw [nI_toInt (by omega), nI_toInt (by omega)]; omega) (by rw [nI_toInt (by omega), nI_toInt (by omega)]; omega), nI_toInt (by omega), nI_toInt (by omega), nI_toInt (by omega)]; omega)
theorem zm_rem {a b : Nat} (h : 1 ≤ b) (ha : a < 2147483648) (hb : b < 2147483648) : nI a - nI a / nI b * nI b = nI (a % b) := by
  have hm := Nat.mod_lt a (show 0 < b by omega)
  rcases Nat.lt_or_ge b 2 with q | q
  · have : b = 1 := by omega
    subst this
    rw [show nI 1 = 1 from rfl, Int32.div_one, Int32.mul_one, Int32.sub_self, Nat.mod_one]; rfl
  · refine z_inj ?_
    rw [z_rem (by rw [nI_toInt (by omega)]; omega), nI_toInt (by omega), nI_toInt (by omega), nI_toInt (by omega), Int.tmod_eq_emod_of_nonneg (by omega)]; rfl
theorem z_fb_cases (S : zS) (sy m n pl : Int) : (z_fb S sy m n pl < 0 ∧ ∀ a, sp_tell a S sy m n pl = (z_fb S sy m n pl, S)) ∨ (z_fb S sy m n pl = 0 ∧ zsy sy ∧ ((-100000 ≤ m ∧ m ≤ 100000) ∧ (1 ≤ n ∧ n ≤ 60) ∧ (0 ≤ pl ∧ pl ≤ 1000000000)) ∧ zcm (S.1 sy.toNat) ∧ Nat.gcd n.toNat (zP (S.1 sy.toNat)).toNat = 1 ∧ ∀ a, sp_tell a S sy m n pl = (ztv a (S.1 sy.toNat) m n pl, S)) := by
  unfold z_fb sp_tell
  by_cases h1 : zsy sy
  · by_cases h2 : ((-100000 ≤ m ∧ m ≤ 100000) ∧ (1 ≤ n ∧ n ≤ 60) ∧ (0 ≤ pl ∧ pl ≤ 1000000000))
    · by_cases h3 : zcm (S.1 sy.toNat)
      · by_cases h4 : Nat.gcd n.toNat (zP (S.1 sy.toNat)).toNat = 1
        · refine Or.inr ⟨by rw [zite_t h1, zite_t h2, zite_t h3, zite_t h4], h1, h2, h3, h4, fun a => by rw [zite_t h1, zite_t h2, zite_t h3, zite_t h4]⟩
        · rw [zite_t h1, zite_t h2, zite_t h3, zite_f h4]
          exact Or.inl ⟨by omega, fun a => by rw [zite_t h1, zite_t h2, zite_t h3, zite_f h4]⟩
      · rw [zite_t h1, zite_t h2, zite_f h3]
        exact Or.inl ⟨by omega, fun a => by rw [zite_t h1, zite_t h2, zite_f h3]⟩
    · rw [zite_t h1, zite_f h2]
      exact Or.inl ⟨by omega, fun a => by rw [zite_t h1, zite_f h2]⟩
  · rw [zite_f h1]
    exact Or.inl ⟨by omega, fun a => by rw [zite_f h1]⟩
theorem z_fin1 {b : zb} (hok : zb_ok b) (hcm : zcm b) {nn iv : Int} (hn : 1 ≤ nn) (h : (iv * nn) % zP b = 1) : zst b nn 0 = 0 ↔ zch b 0 = 0 := by
  have h1 := zst_div hok hcm h 0
  have h2 : zsd b nn 0 = zch b 0 := by rw [zsd_inv hcm h, Int.mul_zero, Int.zero_mul]
  unfold zst
  rw [h2] at h1 ⊢
  rw [Int.mul_zero, Int.zero_sub] at h1 ⊢
  constructor
  · intro h3
    have h4 : b.1 * (-(zch b 0 * nn)).tdiv b.1 = -(zch b 0 * nn) := Int.mul_tdiv_cancel' h1
    rw [h3, Int.mul_zero] at h4
    have h5 : zch b 0 * nn = 0 := by omega
    rcases Int.mul_eq_zero.mp h5 with h6 | h6
    · exact h6
    · omega
  · intro h3
    rw [h3, Int.zero_mul, Int.neg_zero, Int.zero_tdiv]
def zmfin (b : zb) (nn x : Int) : Prop := zor (zst b nn) x (zmu b nn x) = 0 ∧ zla b nn x = 1
theorem in_X10_findPeriod_10 : ∀ w ∈ wsX100, w ∈ wsX10_findPeriod := by decide +kernel
set_option maxHeartbeats 4000000 in
set_option maxRecDepth 100000 in
theorem m_findPeriod (Z : zT) (g : Nat → va_E) (sg : Nat → zb) (v4 v5 v6 : Int32) (v15 v16 : Int64) (v17 : Int32) (hM9 : z_mp Z g sg v4 v5 v6 v15 v16 v17) (s1 : Nat) (hs1 : s1 < 2) (x y : Int32) (hx5 : -100000 ≤ x.toInt ∧ x.toInt ≤ 100000) (hy6 : 1 ≤ y.toInt ∧ y.toInt ≤ 60) (mu la : Nat) (hper : zper (zor (zst (sg s1) y.toInt) x.toInt) mu la) (hml9 : mu + la ≤ 200001) : z_Mv Z yX10_findPeriod wsX10_findPeriod 3 68 [.ref (Z.2.1 41), .int (nI s1), .int x, .int y] g (fun g1 => z_mp Z g1 sg (nI mu) (nI la) v6 v15 v16 v17 ∧ z_fr 41 1 g g1) := by
  intro l sz
  have hM := hM9.mr
  obtain ⟨fu, fq, fm, fd, h_m, h_u, h_q, h_n9, h_g, hMN, hSg⟩ := id hM9
  have hM41 : 41 < Z.1 := by omega
  have hM42 : 42 < Z.1 := by omega
  have hM43 : 43 < Z.1 := by omega
  have hM44 : 44 < Z.1 := by omega
  have hM45 : 45 < Z.1 := by omega
  obtain ⟨hok, hp, hq, hm, hd⟩ := hSg s1 hs1
  have hPb := zP_bd hok
  have hn12 := hok.2.2.2.1
  have hq1 := hok.2.1
  have hbz := zor_bd hok hy6 hx5
  obtain ⟨q0, hq0a, hq0b, hq0c, hq0d⟩ := zper_meet (mu := mu) hper.1
  have hx0 : x.toInt = zor (zst (sg s1) y.toInt) x.toInt 0 := rfl
  have hla1 := hper.1
  refine z_enter (maxL := 6) (ret := none) (lv := [(0, .ref (Z.2.1 41)), (1, .int (nI s1)), (2, .int x), (3, .int y)]) (plainFor_of_name (by decide +kernel)) rfl (fun ls h => by subst h; exact lv_entry [.ref (Z.2.1 41), .int (nI s1), .int x, .int y] (n := 6) (Nat.le_of_ble_eq_true rfl)) ?_
  intro p e s m args below meth c hx hb hml hr hlocks hown hts hK hS hsz ls hl
  refine lv_aload_n hx hb dX10_findPeriod_0 rfl (lv_at hl 0 rfl) ?_
  refine lv_iload_n hx hb dX10_findPeriod_1 rfl (lv_at hl 1 rfl) ?_
  refine lv_iload_n hx hb dX10_findPeriod_2 rfl (lv_at hl 2 rfl) ?_
  refine lv_iload_n hx hb dX10_findPeriod_3 rfl (lv_at hl 3 rfl) ?_
  refine z_calli (z_runV (As := [.int (nI s1), .int x, .int y]) (rest := []) ⟨hx, hb, hml, hown, hts⟩ hK hS ((m_step Z g sg ⟨_, _, _, _, _, _, fu, fq, fm, fd, h_m, h_u, h_q, h_n9, h_g, hMN, hSg⟩ s1 hs1 x y (by rw [hx0]; exact hbz _) hy6) l _) gX10_findPeriod_X10_step rfl 3 (by decide +kernel) ⟨Nat.le_of_ble_eq_true rfl, Nat.le_of_ble_eq_true rfl⟩ h_m hM41 rfl rfl hl.1 rfl (Nat.le_of_ble_eq_true rfl) dX10_findPeriod_4 ⟨Nat.le_of_ble_eq_true rfl, Nat.le_of_ble_eq_true rfl⟩) hS (fun r1 g_1 H locs hp_2 hS => ?_)
  obtain ⟨rfl, hp_2⟩ := hp_2
  have hr1 : r1.toInt = zor (zst (sg s1) y.toInt) x.toInt (0 + 1) := by rw [hp_2, hx0]; rfl
  refine lv_istore (lv' := [(4, .int r1), (0, .ref (Z.2.1 41)), (1, .int (nI s1)), (2, .int x), (3, .int y)]) hx hb dX10_findPeriod_7 hl (by decide) rfl (fun ls hl => ?_)
  refine lv_aload_n hx hb dX10_findPeriod_9 rfl (lv_at hl 1 rfl) ?_
  refine lv_iload_n hx hb dX10_findPeriod_10 rfl (lv_at hl 2 rfl) ?_
  refine lv_iload hx hb dX10_findPeriod_11 (lv_at hl 0 rfl) ?_
  refine lv_iload_n hx hb dX10_findPeriod_13 rfl (lv_at hl 4 rfl) ?_
  refine z_calli (z_runV (As := [.int (nI s1), .int r1, .int y]) (rest := []) ⟨hx, hb, hml, hown, hts⟩ hK hS ((m_step Z g sg ⟨_, _, _, _, _, _, fu, fq, fm, fd, h_m, h_u, h_q, h_n9, h_g, hMN, hSg⟩ s1 hs1 r1 y (by rw [hr1]; exact hbz _) hy6) l _) gX10_findPeriod_X10_step rfl 3 (by decide +kernel) ⟨Nat.le_of_ble_eq_true rfl, Nat.le_of_ble_eq_true rfl⟩ h_m hM41 rfl rfl hl.1 rfl (Nat.le_of_ble_eq_true rfl) dX10_findPeriod_14 ⟨Nat.le_of_ble_eq_true rfl, Nat.le_of_ble_eq_true rfl⟩) hS (fun r2 g_3 H locs hp_4 hS => ?_)
  obtain ⟨rfl, hp_4⟩ := hp_4
  have hr2 : r2.toInt = zor (zst (sg s1) y.toInt) x.toInt (1 + 1) := by rw [hp_4, hr1]; rfl
  refine lv_istore (lv' := [(5, .int r2), (4, .int r1), (0, .ref (Z.2.1 41)), (1, .int (nI s1)), (2, .int x), (3, .int y)]) hx hb dX10_findPeriod_17 hl (by decide) rfl (fun ls hl => ?_)
  have hcut_19 : ∀ (nn_19 : Nat) (i : Nat) (sl : Int32) (fa : Int32) (hi : 1 ≤ i ∧ i ≤ q0) (hsl : sl.toInt = zor (zst (sg s1) y.toInt) x.toInt i) (hfa : fa.toInt = zor (zst (sg s1) y.toInt) x.toInt (2 * i)) (hm_19 : q0 - i < nn_19) (H : Heap) (locs : List Loc) (ls : Array Slot), z_S Z (z_A Z sz) s.heap g H locs → lv_has ls 6 [(0, .ref (Z.2.1 41)), (1, .int (nI s1)), (2, .int x), (3, .int y), (4, .int sl), (5, .int fa)] → W p l e (headSpec wsX10_findPeriod (z_rm 3 68)).room s m args below meth c H locs 0 0 (MQ below (va_Qv (fun g1 => z_mp Z g1 sg (nI mu) (nI la) v6 v15 v16 v17 ∧ z_fr 41 1 g g1) (z_B Z) (z_A Z sz)) args s 0 0 (z_A Z sz)) (F0 m 19 ls []) := by
    intro nn_19
    induction nn_19 with
    | zero => intro i sl fa hi hsl hfa hm_19 H locs ls hS hl; exact absurd hm_19 (Nat.not_lt_zero _)
    | succ nn_19 ih_19 =>
      intro i sl fa hi hsl hfa hm_19 H locs ls hS hl
      refine lv_iload hx hb dX10_findPeriod_19 (lv_at hl 4 rfl) ?_
      refine lv_iload hx hb dX10_findPeriod_21 (lv_at hl 5 rfl) ?_
      refine lv_icmp_eq (tgt := 55) hx hb dX10_findPeriod_23 (by decide) (fun c_5 => ?_) (fun c_5 => ?_)
      · have i_5 := z_eq c_5
        rw [hsl, hfa] at i_5
        have hsf := i_5
        have hmt := (zper_iff hper (i := i) (j := 2 * i) (by omega)).mp i_5
        rw [show 2 * i - i = i by omega] at hmt
        refine lv_aload_n hx hb dX10_findPeriod_55 rfl (lv_at hl 0 rfl) ?_
        refine lv_iconst (v := 0) hx hb dX10_findPeriod_56 (by decide) ?_
        refine z_put (fs' := [.ref (Z.2.1 42), .ref (Z.2.1 43), .ref (Z.2.1 44), .ref (Z.2.1 45), .int 0, .int v5, .int v6, .ref (Z.2.1 46), .ref (Z.2.1 47), .ref (Z.2.1 48), .ref (Z.2.1 49), .ref (Z.2.1 50), .ref (Z.2.1 51), .ref (Z.2.1 52), .ref (Z.2.1 53), .long v15, .long v16, .int v17, .ref (Z.2.1 54), .ref (Z.2.1 55), .ref (Z.2.1 56)]) (own := RX10) (C := RX10) (T := TX10) (N := 21) hx hb hts in_X10_findPeriod_10 tyX10 tyX10_ok nmX10 hown hK hS h_m hM41 rfl 4 (by decide) (List.mem_of_getElem? (i := 1) rfl) rfl rfl rfl rfl (Nat.le_of_ble_eq_true rfl) rfl dX10_findPeriod_57 (fun g_6 H locs hg_6 hS => ?_)
        have h_m : g_6 41 = .inr (10, [.ref (Z.2.1 42), .ref (Z.2.1 43), .ref (Z.2.1 44), .ref (Z.2.1 45), .int 0, .int v5, .int v6, .ref (Z.2.1 46), .ref (Z.2.1 47), .ref (Z.2.1 48), .ref (Z.2.1 49), .ref (Z.2.1 50), .ref (Z.2.1 51), .ref (Z.2.1 52), .ref (Z.2.1 53), .long v15, .long v16, .int v17, .ref (Z.2.1 54), .ref (Z.2.1 55), .ref (Z.2.1 56)]) := z_up_s hg_6
        have h_u := z_up_n hg_6 h_u (by omega)
        have h_q := z_up_n hg_6 h_q (by omega)
        have h_n9 := z_up_n hg_6 h_n9 (by omega)
        have h_g := z_up_n hg_6 h_g (by omega)
        refine lv_iload_n hx hb dX10_findPeriod_60 rfl (lv_at hl 2 rfl) ?_
        refine lv_istore (lv' := [(4, .int x), (0, .ref (Z.2.1 41)), (1, .int (nI s1)), (2, .int x), (3, .int y), (5, .int fa)]) hx hb dX10_findPeriod_61 hl (by decide) rfl (fun ls hl => ?_)
        have hcut_63 : ∀ (nn_63 : Nat) (k9 : Nat) (sl2 : Int32) (fa2 : Int32) (ga : Nat → va_E) (h_m : ga 41 = .inr (10, [.ref (Z.2.1 42), .ref (Z.2.1 43), .ref (Z.2.1 44), .ref (Z.2.1 45), .int (nI k9), .int v5, .int v6, .ref (Z.2.1 46), .ref (Z.2.1 47), .ref (Z.2.1 48), .ref (Z.2.1 49), .ref (Z.2.1 50), .ref (Z.2.1 51), .ref (Z.2.1 52), .ref (Z.2.1 53), .long v15, .long v16, .int v17, .ref (Z.2.1 54), .ref (Z.2.1 55), .ref (Z.2.1 56)])) (h_u : ga 42 = .inl (Z.2.2.2 0, 2, .inl fu)) (h_q : ga 43 = .inl (Z.2.2.2 0, 2, .inl fq)) (h_n9 : ga 44 = .inl (Z.2.2.2 0, 2, .inl fm)) (h_g : ga 45 = .inl (Z.2.2.2 0, 24, .inl fd)) (hfr_ga : z_fr 41 1 g ga) (hk9 : k9 ≤ mu) (hsl2 : sl2.toInt = zor (zst (sg s1) y.toInt) x.toInt k9) (hfa2 : fa2.toInt = zor (zst (sg s1) y.toInt) x.toInt (i + k9)) (hm_63 : mu - k9 < nn_63) (H : Heap) (locs : List Loc) (ls : Array Slot), z_S Z (z_A Z sz) s.heap ga H locs → lv_has ls 6 [(0, .ref (Z.2.1 41)), (1, .int (nI s1)), (2, .int x), (3, .int y), (4, .int sl2), (5, .int fa2)] → W p l e (headSpec wsX10_findPeriod (z_rm 3 68)).room s m args below meth c H locs 0 0 (MQ below (va_Qv (fun g1 => z_mp Z g1 sg (nI mu) (nI la) v6 v15 v16 v17 ∧ z_fr 41 1 g g1) (z_B Z) (z_A Z sz)) args s 0 0 (z_A Z sz)) (F0 m 63 ls []) := by
          intro nn_63
          induction nn_63 with
          | zero => intro k9 sl2 fa2 ga h_m h_u h_q h_n9 h_g hfr_ga hk9 hsl2 hfa2 hm_63 H locs ls hS hl; exact absurd hm_63 (Nat.not_lt_zero _)
          | succ nn_63 ih_63 =>
            intro k9 sl2 fa2 ga h_m h_u h_q h_n9 h_g hfr_ga hk9 hsl2 hfa2 hm_63 H locs ls hS hl
            refine lv_iload hx hb dX10_findPeriod_63 (lv_at hl 4 rfl) ?_
            refine lv_iload hx hb dX10_findPeriod_65 (lv_at hl 5 rfl) ?_
            refine lv_icmp_eq (tgt := 103) hx hb dX10_findPeriod_67 (by decide) (fun c_7 => ?_) (fun c_7 => ?_)
            · have i_7 := z_eq c_7
              rw [hsl2, hfa2] at i_7
              have hmt2 := (zper_iff hper (i := k9) (j := i + k9) (by omega)).mp i_7
              have hk9m : k9 = mu := by omega
              refine lv_aload_n hx hb dX10_findPeriod_103 rfl (lv_at hl 0 rfl) ?_
              refine lv_iconst (v := 1) hx hb dX10_findPeriod_104 (by decide) ?_
              refine z_put (fs' := [.ref (Z.2.1 42), .ref (Z.2.1 43), .ref (Z.2.1 44), .ref (Z.2.1 45), .int (nI k9), .int 1, .int v6, .ref (Z.2.1 46), .ref (Z.2.1 47), .ref (Z.2.1 48), .ref (Z.2.1 49), .ref (Z.2.1 50), .ref (Z.2.1 51), .ref (Z.2.1 52), .ref (Z.2.1 53), .long v15, .long v16, .int v17, .ref (Z.2.1 54), .ref (Z.2.1 55), .ref (Z.2.1 56)]) (own := RX10) (C := RX10) (T := TX10) (N := 21) hx hb hts in_X10_findPeriod_10 tyX10 tyX10_ok nmX10 hown hK hS h_m hM41 rfl 5 (by decide) (List.mem_of_getElem? (i := 2) rfl) rfl rfl rfl rfl (Nat.le_of_ble_eq_true rfl) rfl dX10_findPeriod_105 (fun g_8 H locs hg_8 hS => ?_)
              have h_m : g_8 41 = .inr (10, [.ref (Z.2.1 42), .ref (Z.2.1 43), .ref (Z.2.1 44), .ref (Z.2.1 45), .int (nI k9), .int 1, .int v6, .ref (Z.2.1 46), .ref (Z.2.1 47), .ref (Z.2.1 48), .ref (Z.2.1 49), .ref (Z.2.1 50), .ref (Z.2.1 51), .ref (Z.2.1 52), .ref (Z.2.1 53), .long v15, .long v16, .int v17, .ref (Z.2.1 54), .ref (Z.2.1 55), .ref (Z.2.1 56)]) := z_up_s hg_8
              have h_u := z_up_n hg_8 h_u (by omega)
              have h_q := z_up_n hg_8 h_q (by omega)
              have h_n9 := z_up_n hg_8 h_n9 (by omega)
              have h_g := z_up_n hg_8 h_g (by omega)
              refine lv_aload_n hx hb dX10_findPeriod_108 rfl (lv_at hl 0 rfl) ?_
              refine lv_iload_n hx hb dX10_findPeriod_109 rfl (lv_at hl 1 rfl) ?_
              refine lv_iload hx hb dX10_findPeriod_110 (lv_at hl 4 rfl) ?_
              refine lv_iload_n hx hb dX10_findPeriod_112 rfl (lv_at hl 3 rfl) ?_
              refine z_calli (z_runV (As := [.int (nI s1), .int sl2, .int y]) (rest := []) ⟨hx, hb, hml, hown, hts⟩ hK hS ((m_step Z g_8 sg ⟨_, _, _, _, _, _, fu, fq, fm, fd, h_m, h_u, h_q, h_n9, h_g, hMN, hSg⟩ s1 hs1 sl2 y (by rw [hsl2]; exact hbz _) hy6) l _) gX10_findPeriod_X10_step rfl 3 (by decide +kernel) ⟨Nat.le_of_ble_eq_true rfl, Nat.le_of_ble_eq_true rfl⟩ h_m hM41 rfl rfl hl.1 rfl (Nat.le_of_ble_eq_true rfl) dX10_findPeriod_113 ⟨Nat.le_of_ble_eq_true rfl, Nat.le_of_ble_eq_true rfl⟩) hS (fun r8 g_9 H locs hp_10 hS => ?_)
              obtain ⟨rfl, hp_10⟩ := hp_10
              have hr8 : r8.toInt = zor (zst (sg s1) y.toInt) x.toInt (k9 + 1) := by rw [hp_10, hsl2]; rfl
              refine lv_istore (lv' := [(5, .int r8), (0, .ref (Z.2.1 41)), (1, .int (nI s1)), (2, .int x), (3, .int y), (4, .int sl2)]) hx hb dX10_findPeriod_116 hl (by decide) rfl (fun ls hl => ?_)
              have hcut_118 : ∀ (nn_118 : Nat) (t9 : Nat) (fa3 : Int32) (gb : Nat → va_E) (h_m : gb 41 = .inr (10, [.ref (Z.2.1 42), .ref (Z.2.1 43), .ref (Z.2.1 44), .ref (Z.2.1 45), .int (nI k9), .int (nI t9), .int v6, .ref (Z.2.1 46), .ref (Z.2.1 47), .ref (Z.2.1 48), .ref (Z.2.1 49), .ref (Z.2.1 50), .ref (Z.2.1 51), .ref (Z.2.1 52), .ref (Z.2.1 53), .long v15, .long v16, .int v17, .ref (Z.2.1 54), .ref (Z.2.1 55), .ref (Z.2.1 56)])) (h_u : gb 42 = .inl (Z.2.2.2 0, 2, .inl fu)) (h_q : gb 43 = .inl (Z.2.2.2 0, 2, .inl fq)) (h_n9 : gb 44 = .inl (Z.2.2.2 0, 2, .inl fm)) (h_g : gb 45 = .inl (Z.2.2.2 0, 24, .inl fd)) (hfr_gb : z_fr 41 1 g gb) (ht9 : 1 ≤ t9 ∧ t9 ≤ la) (hfa3 : fa3.toInt = zor (zst (sg s1) y.toInt) x.toInt (mu + t9)) (hm_118 : la - t9 < nn_118) (H : Heap) (locs : List Loc) (ls : Array Slot), z_S Z (z_A Z sz) s.heap gb H locs → lv_has ls 6 [(0, .ref (Z.2.1 41)), (1, .int (nI s1)), (2, .int x), (3, .int y), (4, .int sl2), (5, .int fa3)] → W p l e (headSpec wsX10_findPeriod (z_rm 3 68)).room s m args below meth c H locs 0 0 (MQ below (va_Qv (fun g1 => z_mp Z g1 sg (nI mu) (nI la) v6 v15 v16 v17 ∧ z_fr 41 1 g g1) (z_B Z) (z_A Z sz)) args s 0 0 (z_A Z sz)) (F0 m 118 ls []) := by
                intro nn_118
                induction nn_118 with
                | zero => intro t9 fa3 gb h_m h_u h_q h_n9 h_g hfr_gb ht9 hfa3 hm_118 H locs ls hS hl; exact absurd hm_118 (Nat.not_lt_zero _)
                | succ nn_118 ih_118 =>
                  intro t9 fa3 gb h_m h_u h_q h_n9 h_g hfr_gb ht9 hfa3 hm_118 H locs ls hS hl
                  refine lv_iload hx hb dX10_findPeriod_118 (lv_at hl 4 rfl) ?_
                  refine lv_iload hx hb dX10_findPeriod_120 (lv_at hl 5 rfl) ?_
                  refine lv_icmp_eq (tgt := 148) hx hb dX10_findPeriod_122 (by decide) (fun c_11 => ?_) (fun c_11 => ?_)
                  · have i_11 := z_eq c_11
                    rw [hsl2, hfa3, hk9m] at i_11
                    have hmt3 := (zper_iff hper (i := mu) (j := mu + t9) (by omega)).mp i_11
                    rw [Nat.add_sub_cancel_left] at hmt3
                    have ht9l : t9 = la := by have := Nat.le_of_dvd (by omega) hmt3.2; omega
                    refine z_vret hx hb hr hlocks hS ?_ dX10_findPeriod_148
                    subst hk9m
                    subst ht9l
                    exact ⟨⟨fu, fq, fm, fd, h_m, h_u, h_q, h_n9, h_g, hMN, hSg⟩, hfr_gb⟩
                  · have i_11 := z_ne c_11
                    rw [hsl2, hfa3, hk9m] at i_11
                    have ht9l : t9 ≠ la := fun h9 => i_11 (by rw [h9]; exact hper.2.1.symm)
                    refine lv_aload_n hx hb dX10_findPeriod_125 rfl (lv_at hl 0 rfl) ?_
                    refine lv_iload_n hx hb dX10_findPeriod_126 rfl (lv_at hl 1 rfl) ?_
                    refine lv_iload hx hb dX10_findPeriod_127 (lv_at hl 5 rfl) ?_
                    refine lv_iload_n hx hb dX10_findPeriod_129 rfl (lv_at hl 3 rfl) ?_
                    refine z_calli (z_runV (As := [.int (nI s1), .int fa3, .int y]) (rest := []) ⟨hx, hb, hml, hown, hts⟩ hK hS ((m_step Z gb sg ⟨_, _, _, _, _, _, fu, fq, fm, fd, h_m, h_u, h_q, h_n9, h_g, hMN, hSg⟩ s1 hs1 fa3 y (by rw [hfa3]; exact hbz _) hy6) l _) gX10_findPeriod_X10_step rfl 3 (by decide +kernel) ⟨Nat.le_of_ble_eq_true rfl, Nat.le_of_ble_eq_true rfl⟩ h_m hM41 rfl rfl hl.1 rfl (Nat.le_of_ble_eq_true rfl) dX10_findPeriod_130 ⟨Nat.le_of_ble_eq_true rfl, Nat.le_of_ble_eq_true rfl⟩) hS (fun r9 g_12 H locs hp_13 hS => ?_)
                    obtain ⟨rfl, hp_13⟩ := hp_13
                    have hr9 : r9.toInt = zor (zst (sg s1) y.toInt) x.toInt (mu + t9 + 1) := by rw [hp_13, hfa3]; rfl
                    refine lv_istore (lv' := [(5, .int r9), (0, .ref (Z.2.1 41)), (1, .int (nI s1)), (2, .int x), (3, .int y), (4, .int sl2)]) hx hb dX10_findPeriod_133 hl (by decide) rfl (fun ls hl => ?_)
                    refine lv_aload_n hx hb dX10_findPeriod_135 rfl (lv_at hl 1 rfl) ?_
                    refine lv_dup hx hb dX10_findPeriod_136 rfl ?_
                    refine z_get (own := RX10) (C := RX10) (T := TX10) (N := 21) hx hb hts in_X10_findPeriod_10 hown hK hS h_m hM41 rfl 5 (by decide) (List.mem_of_getElem? (i := 2) rfl) rfl rfl dX10_findPeriod_137 ?_
                    refine lv_iconst (v := 1) hx hb dX10_findPeriod_140 (by decide) ?_
                    refine lv_iadd hx hb dX10_findPeriod_141 ?_
                    rw [show (nI t9) + 1 = nI (t9 + 1) from nI_1 _]
                    refine z_put (fs' := [.ref (Z.2.1 42), .ref (Z.2.1 43), .ref (Z.2.1 44), .ref (Z.2.1 45), .int (nI k9), .int (nI (t9 + 1)), .int v6, .ref (Z.2.1 46), .ref (Z.2.1 47), .ref (Z.2.1 48), .ref (Z.2.1 49), .ref (Z.2.1 50), .ref (Z.2.1 51), .ref (Z.2.1 52), .ref (Z.2.1 53), .long v15, .long v16, .int v17, .ref (Z.2.1 54), .ref (Z.2.1 55), .ref (Z.2.1 56)]) (own := RX10) (C := RX10) (T := TX10) (N := 21) hx hb hts in_X10_findPeriod_10 tyX10 tyX10_ok nmX10 hown hK hS h_m hM41 rfl 5 (by decide) (List.mem_of_getElem? (i := 2) rfl) rfl rfl rfl rfl (Nat.le_of_ble_eq_true rfl) rfl dX10_findPeriod_142 (fun g_14 H locs hg_14 hS => ?_)
                    have h_m : g_14 41 = .inr (10, [.ref (Z.2.1 42), .ref (Z.2.1 43), .ref (Z.2.1 44), .ref (Z.2.1 45), .int (nI k9), .int (nI (t9 + 1)), .int v6, .ref (Z.2.1 46), .ref (Z.2.1 47), .ref (Z.2.1 48), .ref (Z.2.1 49), .ref (Z.2.1 50), .ref (Z.2.1 51), .ref (Z.2.1 52), .ref (Z.2.1 53), .long v15, .long v16, .int v17, .ref (Z.2.1 54), .ref (Z.2.1 55), .ref (Z.2.1 56)]) := z_up_s hg_14
                    have h_u := z_up_n hg_14 h_u (by omega)
                    have h_q := z_up_n hg_14 h_q (by omega)
                    have h_n9 := z_up_n hg_14 h_n9 (by omega)
                    have h_g := z_up_n hg_14 h_g (by omega)
                    refine lv_goto (tgt := 118) hx hb dX10_findPeriod_145 (by decide) ?_
                    exact ih_118 (t9 + 1) r9 g_14 h_m h_u h_q h_n9 h_g (hfr_gb.up hg_14 (by omega)) (by omega) hr9 (by omega) _ _ _ hS (lv_sub hl [1, 2, 3, 4, 5, 0] rfl)
              exact hcut_118 (la - 1 + 1) 1 r8 g_8 h_m h_u h_q h_n9 h_g (hfr_ga.up hg_8 (by omega)) (by omega) (by rw [← hk9m]; exact hr8) (Nat.lt_succ_self _) _ _ _ hS (lv_sub hl [1, 2, 3, 4, 5, 0] rfl)
            · have i_7 := z_ne c_7
              rw [hsl2, hfa2] at i_7
              have hk9m : k9 < mu := by
                rcases Nat.lt_or_ge k9 mu with h9 | h9
                · exact h9
                · exact absurd ((zper_iff hper (i := k9) (j := i + k9) (by omega)).mpr ⟨h9, by rw [Nat.add_sub_cancel]; exact hmt.2⟩) i_7
              refine lv_aload_n hx hb dX10_findPeriod_70 rfl (lv_at hl 0 rfl) ?_
              refine lv_iload_n hx hb dX10_findPeriod_71 rfl (lv_at hl 1 rfl) ?_
              refine lv_iload hx hb dX10_findPeriod_72 (lv_at hl 4 rfl) ?_
              refine lv_iload_n hx hb dX10_findPeriod_74 rfl (lv_at hl 3 rfl) ?_
              refine z_calli (z_runV (As := [.int (nI s1), .int sl2, .int y]) (rest := []) ⟨hx, hb, hml, hown, hts⟩ hK hS ((m_step Z ga sg ⟨_, _, _, _, _, _, fu, fq, fm, fd, h_m, h_u, h_q, h_n9, h_g, hMN, hSg⟩ s1 hs1 sl2 y (by rw [hsl2]; exact hbz _) hy6) l _) gX10_findPeriod_X10_step rfl 3 (by decide +kernel) ⟨Nat.le_of_ble_eq_true rfl, Nat.le_of_ble_eq_true rfl⟩ h_m hM41 rfl rfl hl.1 rfl (Nat.le_of_ble_eq_true rfl) dX10_findPeriod_75 ⟨Nat.le_of_ble_eq_true rfl, Nat.le_of_ble_eq_true rfl⟩) hS (fun r6 g_15 H locs hp_16 hS => ?_)
              obtain ⟨rfl, hp_16⟩ := hp_16
              have hr6 : r6.toInt = zor (zst (sg s1) y.toInt) x.toInt (k9 + 1) := by rw [hp_16, hsl2]; rfl
              refine lv_istore (lv' := [(4, .int r6), (0, .ref (Z.2.1 41)), (1, .int (nI s1)), (2, .int x), (3, .int y), (5, .int fa2)]) hx hb dX10_findPeriod_78 hl (by decide) rfl (fun ls hl => ?_)
              refine lv_aload_n hx hb dX10_findPeriod_80 rfl (lv_at hl 1 rfl) ?_
              refine lv_iload_n hx hb dX10_findPeriod_81 rfl (lv_at hl 2 rfl) ?_
              refine lv_iload hx hb dX10_findPeriod_82 (lv_at hl 5 rfl) ?_
              refine lv_iload_n hx hb dX10_findPeriod_84 rfl (lv_at hl 4 rfl) ?_
              refine z_calli (z_runV (As := [.int (nI s1), .int fa2, .int y]) (rest := []) ⟨hx, hb, hml, hown, hts⟩ hK hS ((m_step Z ga sg ⟨_, _, _, _, _, _, fu, fq, fm, fd, h_m, h_u, h_q, h_n9, h_g, hMN, hSg⟩ s1 hs1 fa2 y (by rw [hfa2]; exact hbz _) hy6) l _) gX10_findPeriod_X10_step rfl 3 (by decide +kernel) ⟨Nat.le_of_ble_eq_true rfl, Nat.le_of_ble_eq_true rfl⟩ h_m hM41 rfl rfl hl.1 rfl (Nat.le_of_ble_eq_true rfl) dX10_findPeriod_85 ⟨Nat.le_of_ble_eq_true rfl, Nat.le_of_ble_eq_true rfl⟩) hS (fun r7 g_17 H locs hp_18 hS => ?_)
              obtain ⟨rfl, hp_18⟩ := hp_18
              have hr7 : r7.toInt = zor (zst (sg s1) y.toInt) x.toInt (i + k9 + 1) := by rw [hp_18, hfa2]; rfl
              refine lv_istore (lv' := [(5, .int r7), (4, .int r6), (0, .ref (Z.2.1 41)), (1, .int (nI s1)), (2, .int x), (3, .int y)]) hx hb dX10_findPeriod_88 hl (by decide) rfl (fun ls hl => ?_)
              refine lv_aload_n hx hb dX10_findPeriod_90 rfl (lv_at hl 2 rfl) ?_
              refine lv_dup hx hb dX10_findPeriod_91 rfl ?_
              refine z_get (own := RX10) (C := RX10) (T := TX10) (N := 21) hx hb hts in_X10_findPeriod_10 hown hK hS h_m hM41 rfl 4 (by decide) (List.mem_of_getElem? (i := 1) rfl) rfl rfl dX10_findPeriod_92 ?_
              refine lv_iconst (v := 1) hx hb dX10_findPeriod_95 (by decide) ?_
              refine lv_iadd hx hb dX10_findPeriod_96 ?_
              rw [show (nI k9) + 1 = nI (k9 + 1) from nI_1 _]
              refine z_put (fs' := [.ref (Z.2.1 42), .ref (Z.2.1 43), .ref (Z.2.1 44), .ref (Z.2.1 45), .int (nI (k9 + 1)), .int v5, .int v6, .ref (Z.2.1 46), .ref (Z.2.1 47), .ref (Z.2.1 48), .ref (Z.2.1 49), .ref (Z.2.1 50), .ref (Z.2.1 51), .ref (Z.2.1 52), .ref (Z.2.1 53), .long v15, .long v16, .int v17, .ref (Z.2.1 54), .ref (Z.2.1 55), .ref (Z.2.1 56)]) (own := RX10) (C := RX10) (T := TX10) (N := 21) hx hb hts in_X10_findPeriod_10 tyX10 tyX10_ok nmX10 hown hK hS h_m hM41 rfl 4 (by decide) (List.mem_of_getElem? (i := 1) rfl) rfl rfl rfl rfl (Nat.le_of_ble_eq_true rfl) rfl dX10_findPeriod_97 (fun g_19 H locs hg_19 hS => ?_)
              have h_m : g_19 41 = .inr (10, [.ref (Z.2.1 42), .ref (Z.2.1 43), .ref (Z.2.1 44), .ref (Z.2.1 45), .int (nI (k9 + 1)), .int v5, .int v6, .ref (Z.2.1 46), .ref (Z.2.1 47), .ref (Z.2.1 48), .ref (Z.2.1 49), .ref (Z.2.1 50), .ref (Z.2.1 51), .ref (Z.2.1 52), .ref (Z.2.1 53), .long v15, .long v16, .int v17, .ref (Z.2.1 54), .ref (Z.2.1 55), .ref (Z.2.1 56)]) := z_up_s hg_19
              have h_u := z_up_n hg_19 h_u (by omega)
              have h_q := z_up_n hg_19 h_q (by omega)
              have h_n9 := z_up_n hg_19 h_n9 (by omega)
              have h_g := z_up_n hg_19 h_g (by omega)
              refine lv_goto (tgt := 63) hx hb dX10_findPeriod_100 (by decide) ?_
              exact ih_63 (k9 + 1) r6 r7 g_19 h_m h_u h_q h_n9 h_g (hfr_ga.up hg_19 (by omega)) (by omega) hr6 hr7 (by omega) _ _ _ hS (lv_sub hl [2, 3, 4, 5, 1, 0] rfl)
        exact hcut_63 (mu - 0 + 1) 0 x fa g_6 h_m h_u h_q h_n9 h_g (z_fr.rf.up hg_6 (by omega)) (by omega) rfl (by rw [hfa]; exact hsf.symm) (Nat.lt_succ_self _) _ _ _ hS (lv_sub hl [1, 2, 3, 4, 0, 5] rfl)
      · have i_5 := z_ne c_5
        rw [hsl, hfa] at i_5
        have hiq : i ≠ q0 := fun h9 => i_5 ((zper_iff hper (i := i) (j := 2 * i) (by omega)).mpr ⟨by omega, by rw [show 2 * i - i = i by omega, h9]; exact hq0c⟩)
        refine lv_aload_n hx hb dX10_findPeriod_26 rfl (lv_at hl 0 rfl) ?_
        refine lv_iload_n hx hb dX10_findPeriod_27 rfl (lv_at hl 1 rfl) ?_
        refine lv_iload hx hb dX10_findPeriod_28 (lv_at hl 4 rfl) ?_
        refine lv_iload_n hx hb dX10_findPeriod_30 rfl (lv_at hl 3 rfl) ?_
        refine z_calli (z_runV (As := [.int (nI s1), .int sl, .int y]) (rest := []) ⟨hx, hb, hml, hown, hts⟩ hK hS ((m_step Z g sg ⟨_, _, _, _, _, _, fu, fq, fm, fd, h_m, h_u, h_q, h_n9, h_g, hMN, hSg⟩ s1 hs1 sl y (by rw [hsl]; exact hbz _) hy6) l _) gX10_findPeriod_X10_step rfl 3 (by decide +kernel) ⟨Nat.le_of_ble_eq_true rfl, Nat.le_of_ble_eq_true rfl⟩ h_m hM41 rfl rfl hl.1 rfl (Nat.le_of_ble_eq_true rfl) dX10_findPeriod_31 ⟨Nat.le_of_ble_eq_true rfl, Nat.le_of_ble_eq_true rfl⟩) hS (fun r3 g_20 H locs hp_21 hS => ?_)
        obtain ⟨rfl, hp_21⟩ := hp_21
        have hr3 : r3.toInt = zor (zst (sg s1) y.toInt) x.toInt (i + 1) := by rw [hp_21, hsl]; rfl
        refine lv_istore (lv' := [(4, .int r3), (0, .ref (Z.2.1 41)), (1, .int (nI s1)), (2, .int x), (3, .int y), (5, .int fa)]) hx hb dX10_findPeriod_34 hl (by decide) rfl (fun ls hl => ?_)
        refine lv_aload_n hx hb dX10_findPeriod_36 rfl (lv_at hl 1 rfl) ?_
        refine lv_iload_n hx hb dX10_findPeriod_37 rfl (lv_at hl 2 rfl) ?_
        refine lv_aload_n hx hb dX10_findPeriod_38 rfl (lv_at hl 1 rfl) ?_
        refine lv_iload_n hx hb dX10_findPeriod_39 rfl (lv_at hl 2 rfl) ?_
        refine lv_iload hx hb dX10_findPeriod_40 (lv_at hl 5 rfl) ?_
        refine lv_iload_n hx hb dX10_findPeriod_42 rfl (lv_at hl 4 rfl) ?_
        refine z_calli (z_runV (As := [.int (nI s1), .int fa, .int y]) (rest := [.int (nI s1), .ref (Z.2.1 41)]) ⟨hx, hb, hml, hown, hts⟩ hK hS ((m_step Z g sg ⟨_, _, _, _, _, _, fu, fq, fm, fd, h_m, h_u, h_q, h_n9, h_g, hMN, hSg⟩ s1 hs1 fa y (by rw [hfa]; exact hbz _) hy6) l _) gX10_findPeriod_X10_step rfl 3 (by decide +kernel) ⟨Nat.le_of_ble_eq_true rfl, Nat.le_of_ble_eq_true rfl⟩ h_m hM41 rfl rfl hl.1 rfl (Nat.le_of_ble_eq_true rfl) dX10_findPeriod_43 ⟨Nat.le_of_ble_eq_true rfl, Nat.le_of_ble_eq_true rfl⟩) hS (fun r4 g_22 H locs hp_23 hS => ?_)
        obtain ⟨rfl, hp_23⟩ := hp_23
        have hr4 : r4.toInt = zor (zst (sg s1) y.toInt) x.toInt (2 * i + 1) := by rw [hp_23, hfa]; rfl
        refine lv_iload_n hx hb dX10_findPeriod_46 rfl (lv_at hl 4 rfl) ?_
        refine z_calli (z_runV (As := [.int (nI s1), .int r4, .int y]) (rest := []) ⟨hx, hb, hml, hown, hts⟩ hK hS ((m_step Z g sg ⟨_, _, _, _, _, _, fu, fq, fm, fd, h_m, h_u, h_q, h_n9, h_g, hMN, hSg⟩ s1 hs1 r4 y (by rw [hr4]; exact hbz _) hy6) l _) gX10_findPeriod_X10_step rfl 3 (by decide +kernel) ⟨Nat.le_of_ble_eq_true rfl, Nat.le_of_ble_eq_true rfl⟩ h_m hM41 rfl rfl hl.1 rfl (Nat.le_of_ble_eq_true rfl) dX10_findPeriod_47 ⟨Nat.le_of_ble_eq_true rfl, Nat.le_of_ble_eq_true rfl⟩) hS (fun r5 g_24 H locs hp_25 hS => ?_)
        obtain ⟨rfl, hp_25⟩ := hp_25
        have hr5 : r5.toInt = zor (zst (sg s1) y.toInt) x.toInt (2 * i + 1 + 1) := by rw [hp_25, hr4]; rfl
        refine lv_istore (lv' := [(5, .int r5), (4, .int r3), (0, .ref (Z.2.1 41)), (1, .int (nI s1)), (2, .int x), (3, .int y)]) hx hb dX10_findPeriod_50 hl (by decide) rfl (fun ls hl => ?_)
        refine lv_goto (tgt := 19) hx hb dX10_findPeriod_52 (by decide) ?_
        exact ih_19 (i + 1) r3 r5 (by omega) hr3 (by rw [hr5]; rfl) (by omega) _ _ _ hS (lv_sub hl [2, 3, 4, 5, 1, 0] rfl)
  exact hcut_19 (q0 - 1 + 1) 1 r1 r2 (by omega) hr1 hr2 (Nat.lt_succ_self _) _ _ _ hS (lv_sub hl [2, 3, 4, 5, 1, 0] rfl)

theorem in_X10_numeratorAt_10 : ∀ w ∈ wsX100, w ∈ wsX10_numeratorAt := by decide +kernel
set_option maxHeartbeats 4000000 in
set_option maxRecDepth 100000 in
theorem m_numeratorAt (Z : zT) (g : Nat → va_E) (sg : Nat → zb) (v4 v5 v6 : Int32) (v15 v16 : Int64) (v17 : Int32) (hM9 : z_mp Z g sg v4 v5 v6 v15 v16 v17) (s1 : Nat) (hs1 : s1 < 2) (x y : Int32) (hx5 : -100000 ≤ x.toInt ∧ x.toInt ≤ 100000) (hy6 : 1 ≤ y.toInt ∧ y.toInt ≤ 60) (mu la : Nat) (hper : zper (zor (zst (sg s1) y.toInt) x.toInt) mu la) (hml9 : mu + la ≤ 200001) (t : Nat) (ht : t ≤ 1000000000) : z_Mi Z yX10_numeratorAt wsX10_numeratorAt 4 93 [.ref (Z.2.1 41), .int (nI s1), .int x, .int y, .int (nI t)] g (fun r g1 => r.toInt = zor (zst (sg s1) y.toInt) x.toInt t ∧ z_mp Z g1 sg (nI mu) (nI la) v6 v15 v16 v17 ∧ z_fr 41 1 g g1) := by
  intro l sz
  have hM := hM9.mr
  obtain ⟨fu, fq, fm, fd, h_m, h_u, h_q, h_n9, h_g, hMN, hSg⟩ := id hM9
  have hM41 : 41 < Z.1 := by omega
  have hM42 : 42 < Z.1 := by omega
  have hM43 : 43 < Z.1 := by omega
  have hM44 : 44 < Z.1 := by omega
  have hM45 : 45 < Z.1 := by omega
  obtain ⟨hok, hp, hq, hm, hd⟩ := hSg s1 hs1
  have hPb := zP_bd hok
  have hn12 := hok.2.2.2.1
  have hq1 := hok.2.1
  have hbz := zor_bd hok hy6 hx5
  have hx0 : x.toInt = zor (zst (sg s1) y.toInt) x.toInt 0 := rfl
  have hla1 := hper.1
  have hmlt := Nat.mod_lt (t - mu) hla1
  refine z_enter (maxL := 8) (ret := (some .int)) (lv := [(0, .ref (Z.2.1 41)), (1, .int (nI s1)), (2, .int x), (3, .int y), (4, .int (nI t))]) (plainFor_of_name (by decide +kernel)) rfl (fun ls h => by subst h; exact lv_entry [.ref (Z.2.1 41), .int (nI s1), .int x, .int y, .int (nI t)] (n := 8) (Nat.le_of_ble_eq_true rfl)) ?_
  intro p e s m args below meth c hx hb hml hr hlocks hown hts hK hS hsz ls hl
  refine lv_aload_n hx hb dX10_numeratorAt_0 rfl (lv_at hl 0 rfl) ?_
  refine lv_iload_n hx hb dX10_numeratorAt_1 rfl (lv_at hl 1 rfl) ?_
  refine lv_iload_n hx hb dX10_numeratorAt_2 rfl (lv_at hl 2 rfl) ?_
  refine lv_iload_n hx hb dX10_numeratorAt_3 rfl (lv_at hl 3 rfl) ?_
  refine z_callv (z_runV (As := [.int (nI s1), .int x, .int y]) (rest := []) ⟨hx, hb, hml, hown, hts⟩ hK hS ((m_findPeriod Z g sg v4 v5 v6 v15 v16 v17 hM9 s1 hs1 x y hx5 hy6 mu la hper hml9) l _) gX10_numeratorAt_X10_findPeriod rfl 3 (by decide +kernel) ⟨Nat.le_of_ble_eq_true rfl, Nat.le_of_ble_eq_true rfl⟩ h_m hM41 rfl rfl hl.1 rfl (Nat.le_of_ble_eq_true rfl) dX10_numeratorAt_4 ⟨Nat.le_of_ble_eq_true rfl, Nat.le_of_ble_eq_true rfl⟩) hS (fun g_2 H locs hp_3 hS => ?_)
  obtain ⟨⟨fu, fq, fm, fd, h_m, h_u, h_q, h_n9, h_g, -, hSg2⟩, hfr_4⟩ := hp_3
  have hSg := hSg2
  obtain ⟨-, hp, hq, hm, hd⟩ := hSg s1 hs1
  refine lv_iload hx hb dX10_numeratorAt_7 (lv_at hl 4 rfl) ?_
  refine lv_aload_n hx hb dX10_numeratorAt_9 rfl (lv_at hl 0 rfl) ?_
  refine z_get (own := RX10) (C := RX10) (T := TX10) (N := 21) hx hb hts in_X10_numeratorAt_10 hown hK hS h_m hM41 rfl 4 (by decide) (List.mem_of_getElem? (i := 1) rfl) rfl rfl dX10_numeratorAt_10 ?_
  refine lv_icmp_ge (tgt := 21) hx hb dX10_numeratorAt_13 (by decide) (fun c_5 => ?_) (fun c_5 => ?_)
  · have i_5 := z_le c_5
    rw [nI_toInt (by omega)] at i_5
    rw [nI_toInt (by omega)] at i_5
    obtain ⟨lf9, elf9⟩ : ∃ lf9 : Nat, lf9 = mu + (t - mu) % la := ⟨_, rfl⟩
    have hlf : zor (zst (sg s1) y.toInt) x.toInt (mu + (t - mu) % la) = zor (zst (sg s1) y.toInt) x.toInt t := (zper_red hper (by omega)).symm
    have hlb : mu + (t - mu) % la < 200002 := by omega
    refine lv_aload_n hx hb dX10_numeratorAt_21 rfl (lv_at hl 0 rfl) ?_
    refine z_get (own := RX10) (C := RX10) (T := TX10) (N := 21) hx hb hts in_X10_numeratorAt_10 hown hK hS h_m hM41 rfl 4 (by decide) (List.mem_of_getElem? (i := 1) rfl) rfl rfl dX10_numeratorAt_22 ?_
    refine lv_iload hx hb dX10_numeratorAt_25 (lv_at hl 4 rfl) ?_
    refine lv_aload_n hx hb dX10_numeratorAt_27 rfl (lv_at hl 0 rfl) ?_
    refine z_get (own := RX10) (C := RX10) (T := TX10) (N := 21) hx hb hts in_X10_numeratorAt_10 hown hK hS h_m hM41 rfl 4 (by decide) (List.mem_of_getElem? (i := 1) rfl) rfl rfl dX10_numeratorAt_28 ?_
    refine lv_isub hx hb dX10_numeratorAt_31 ?_
    rw [show (nI t) - (nI mu) = nI (t - mu) from zm_sub (by omega) (by omega)]
    refine lv_aload_n hx hb dX10_numeratorAt_32 rfl (lv_at hl 0 rfl) ?_
    refine z_get (own := RX10) (C := RX10) (T := TX10) (N := 21) hx hb hts in_X10_numeratorAt_10 hown hK hS h_m hM41 rfl 5 (by decide) (List.mem_of_getElem? (i := 2) rfl) rfl rfl dX10_numeratorAt_33 ?_
    refine lv_irem hx hb dX10_numeratorAt_36 (fun h => by have := congrArg Int32.toInt h; rw [nI_toInt (by omega), show (0 : Int32).toInt = 0 from rfl] at this; omega) ?_
    rw [show (nI (t - mu)) - (nI (t - mu)) / (nI la) * (nI la) = nI ((t - mu) % la) from zm_rem (by omega) (by omega) (by omega)]
    refine lv_iadd hx hb dX10_numeratorAt_37 ?_
    rw [show (nI mu) + (nI ((t - mu) % la)) = nI (mu + (t - mu) % la) from zm_add (by omega)]
    refine lv_istore (lv' := [(5, .int (nI (mu + (t - mu) % la))), (0, .ref (Z.2.1 41)), (1, .int (nI s1)), (2, .int x), (3, .int y), (4, .int (nI t))]) hx hb dX10_numeratorAt_38 hl (by decide) rfl (fun ls hl => ?_)
    refine lv_iload_n hx hb dX10_numeratorAt_40 rfl (lv_at hl 3 rfl) ?_
    refine lv_istore (lv' := [(6, .int x), (5, .int (nI (mu + (t - mu) % la))), (0, .ref (Z.2.1 41)), (1, .int (nI s1)), (2, .int x), (3, .int y), (4, .int (nI t))]) hx hb dX10_numeratorAt_41 hl (by decide) rfl (fun ls hl => ?_)
    refine lv_iconst (v := 0) hx hb dX10_numeratorAt_43 (by decide) ?_
    refine lv_istore (lv' := [(7, .int 0), (6, .int x), (5, .int (nI (mu + (t - mu) % la))), (0, .ref (Z.2.1 41)), (1, .int (nI s1)), (2, .int x), (3, .int y), (4, .int (nI t))]) hx hb dX10_numeratorAt_44 hl (by decide) rfl (fun ls hl => ?_)
    have hcut_46 : ∀ (nn_46 : Nat) (j : Nat) (x6 : Int32) (hj : j ≤ lf9) (hx6 : x6.toInt = zor (zst (sg s1) y.toInt) x.toInt j) (hm_46 : lf9 - j < nn_46) (H : Heap) (locs : List Loc) (ls : Array Slot), z_S Z (z_A Z sz) s.heap g_2 H locs → lv_has ls 8 [(0, .ref (Z.2.1 41)), (1, .int (nI s1)), (2, .int x), (3, .int y), (4, .int (nI t)), (5, .int (nI (mu + (t - mu) % la))), (6, .int x6), (7, .int (nI j))] → W p l e (headSpec wsX10_numeratorAt (z_rm 4 93)).room s m args below meth c H locs 0 0 (MQ below (va_Qi (fun r g1 => r.toInt = zor (zst (sg s1) y.toInt) x.toInt t ∧ z_mp Z g1 sg (nI mu) (nI la) v6 v15 v16 v17 ∧ z_fr 41 1 g g1) (z_B Z) (z_A Z sz)) args s 0 0 (z_A Z sz)) (F0 m 46 ls []) := by
      intro nn_46
      induction nn_46 with
      | zero => intro j x6 hj hx6 hm_46 H locs ls hS hl; exact absurd hm_46 (Nat.not_lt_zero _)
      | succ nn_46 ih_46 =>
        intro j x6 hj hx6 hm_46 H locs ls hS hl
        refine lv_iload hx hb dX10_numeratorAt_46 (lv_at hl 7 rfl) ?_
        refine lv_iload hx hb dX10_numeratorAt_48 (lv_at hl 5 rfl) ?_
        refine lv_icmp_ge (tgt := 69) hx hb dX10_numeratorAt_50 (by decide) (fun c_6 => ?_) (fun c_6 => ?_)
        · have i_6 := z_le c_6
          rw [nI_toInt (by omega)] at i_6
          rw [nI_toInt (by omega)] at i_6
          refine lv_iload hx hb dX10_numeratorAt_69 (lv_at hl 6 rfl) ?_
          refine z_iret hx hb hr hlocks hS ?_ dX10_numeratorAt_71
          exact ⟨by rw [hx6, show j = mu + (t - mu) % la by omega]; exact hlf, ⟨fu, fq, fm, fd, h_m, h_u, h_q, h_n9, h_g, hMN, hSg⟩, (z_fr.rf.tr (hfr_4.wide (by omega) (by omega)))⟩
        · have i_6 := z_nle c_6
          rw [nI_toInt (by omega)] at i_6
          rw [nI_toInt (by omega)] at i_6
          refine lv_aload_n hx hb dX10_numeratorAt_53 rfl (lv_at hl 0 rfl) ?_
          refine lv_iload_n hx hb dX10_numeratorAt_54 rfl (lv_at hl 1 rfl) ?_
          refine lv_iload hx hb dX10_numeratorAt_55 (lv_at hl 6 rfl) ?_
          refine lv_iload_n hx hb dX10_numeratorAt_57 rfl (lv_at hl 3 rfl) ?_
          refine z_calli (z_runV (As := [.int (nI s1), .int x6, .int y]) (rest := []) ⟨hx, hb, hml, hown, hts⟩ hK hS ((m_step Z g_2 sg ⟨_, _, _, _, _, _, fu, fq, fm, fd, h_m, h_u, h_q, h_n9, h_g, hMN, hSg⟩ s1 hs1 x6 y (by rw [hx6]; exact hbz _) hy6) l _) gX10_numeratorAt_X10_step rfl 3 (by decide +kernel) ⟨Nat.le_of_ble_eq_true rfl, Nat.le_of_ble_eq_true rfl⟩ h_m hM41 rfl rfl hl.1 rfl (Nat.le_of_ble_eq_true rfl) dX10_numeratorAt_58 ⟨Nat.le_of_ble_eq_true rfl, Nat.le_of_ble_eq_true rfl⟩) hS (fun r6 g_7 H locs hp_8 hS => ?_)
          obtain ⟨rfl, hp_8⟩ := hp_8
          have hr6 : r6.toInt = zor (zst (sg s1) y.toInt) x.toInt (j + 1) := by rw [hp_8, hx6]; rfl
          refine lv_istore (lv' := [(6, .int r6), (0, .ref (Z.2.1 41)), (1, .int (nI s1)), (2, .int x), (3, .int y), (4, .int (nI t)), (5, .int (nI (mu + (t - mu) % la))), (7, .int (nI j))]) hx hb dX10_numeratorAt_61 hl (by decide) rfl (fun ls hl => ?_)
          refine lv_iinc (v := (nI (j + 1))) (lv' := [(7, .int (nI (j + 1))), (6, .int r6), (0, .ref (Z.2.1 41)), (1, .int (nI s1)), (2, .int x), (3, .int y), (4, .int (nI t)), (5, .int (nI (mu + (t - mu) % la)))]) hx hb dX10_numeratorAt_63 hl (k := 7) rfl (nI_1 _) (by decide) rfl (fun ls hl => ?_)
          refine lv_goto (tgt := 46) hx hb dX10_numeratorAt_66 (by decide) ?_
          exact ih_46 (j + 1) r6 (by omega) hr6 (by omega) _ _ _ hS (lv_sub hl [2, 3, 4, 5, 6, 7, 1, 0] rfl)
    exact hcut_46 (lf9 - 0 + 1) 0 x (by omega) rfl (Nat.lt_succ_self _) _ _ _ hS (lv_sub hl [3, 4, 5, 6, 7, 2, 1, 0] rfl)
  · have i_5 := z_nle c_5
    rw [nI_toInt (by omega)] at i_5
    rw [nI_toInt (by omega)] at i_5
    obtain ⟨lf9, elf9⟩ : ∃ lf9 : Nat, lf9 = t := ⟨_, rfl⟩
    have hlf : zor (zst (sg s1) y.toInt) x.toInt t = zor (zst (sg s1) y.toInt) x.toInt t := rfl
    have hlb : t < 200002 := by omega
    refine lv_iload hx hb dX10_numeratorAt_16 (lv_at hl 4 rfl) ?_
    refine lv_goto (tgt := 38) hx hb dX10_numeratorAt_18 (by decide) ?_
    refine lv_istore (lv' := [(5, .int (nI t)), (0, .ref (Z.2.1 41)), (1, .int (nI s1)), (2, .int x), (3, .int y), (4, .int (nI t))]) hx hb dX10_numeratorAt_38 hl (by decide) rfl (fun ls hl => ?_)
    refine lv_iload_n hx hb dX10_numeratorAt_40 rfl (lv_at hl 3 rfl) ?_
    refine lv_istore (lv' := [(6, .int x), (5, .int (nI t)), (0, .ref (Z.2.1 41)), (1, .int (nI s1)), (2, .int x), (3, .int y), (4, .int (nI t))]) hx hb dX10_numeratorAt_41 hl (by decide) rfl (fun ls hl => ?_)
    refine lv_iconst (v := 0) hx hb dX10_numeratorAt_43 (by decide) ?_
    refine lv_istore (lv' := [(7, .int 0), (6, .int x), (5, .int (nI t)), (0, .ref (Z.2.1 41)), (1, .int (nI s1)), (2, .int x), (3, .int y), (4, .int (nI t))]) hx hb dX10_numeratorAt_44 hl (by decide) rfl (fun ls hl => ?_)
    have hcut_46_2 : ∀ (nn_46 : Nat) (j : Nat) (x6 : Int32) (hj : j ≤ lf9) (hx6 : x6.toInt = zor (zst (sg s1) y.toInt) x.toInt j) (hm_46 : lf9 - j < nn_46) (H : Heap) (locs : List Loc) (ls : Array Slot), z_S Z (z_A Z sz) s.heap g_2 H locs → lv_has ls 8 [(0, .ref (Z.2.1 41)), (1, .int (nI s1)), (2, .int x), (3, .int y), (4, .int (nI t)), (5, .int (nI t)), (6, .int x6), (7, .int (nI j))] → W p l e (headSpec wsX10_numeratorAt (z_rm 4 93)).room s m args below meth c H locs 0 0 (MQ below (va_Qi (fun r g1 => r.toInt = zor (zst (sg s1) y.toInt) x.toInt t ∧ z_mp Z g1 sg (nI mu) (nI la) v6 v15 v16 v17 ∧ z_fr 41 1 g g1) (z_B Z) (z_A Z sz)) args s 0 0 (z_A Z sz)) (F0 m 46 ls []) := by
      intro nn_46
      induction nn_46 with
      | zero => intro j x6 hj hx6 hm_46 H locs ls hS hl; exact absurd hm_46 (Nat.not_lt_zero _)
      | succ nn_46 ih_46 =>
        intro j x6 hj hx6 hm_46 H locs ls hS hl
        refine lv_iload hx hb dX10_numeratorAt_46 (lv_at hl 7 rfl) ?_
        refine lv_iload hx hb dX10_numeratorAt_48 (lv_at hl 5 rfl) ?_
        refine lv_icmp_ge (tgt := 69) hx hb dX10_numeratorAt_50 (by decide) (fun c_9 => ?_) (fun c_9 => ?_)
        · have i_9 := z_le c_9
          rw [nI_toInt (by omega)] at i_9
          rw [nI_toInt (by omega)] at i_9
          refine lv_iload hx hb dX10_numeratorAt_69 (lv_at hl 6 rfl) ?_
          refine z_iret hx hb hr hlocks hS ?_ dX10_numeratorAt_71
          exact ⟨by rw [hx6, show j = t by omega], ⟨fu, fq, fm, fd, h_m, h_u, h_q, h_n9, h_g, hMN, hSg⟩, (z_fr.rf.tr (hfr_4.wide (by omega) (by omega)))⟩
        · have i_9 := z_nle c_9
          rw [nI_toInt (by omega)] at i_9
          rw [nI_toInt (by omega)] at i_9
          refine lv_aload_n hx hb dX10_numeratorAt_53 rfl (lv_at hl 0 rfl) ?_
          refine lv_iload_n hx hb dX10_numeratorAt_54 rfl (lv_at hl 1 rfl) ?_
          refine lv_iload hx hb dX10_numeratorAt_55 (lv_at hl 6 rfl) ?_
          refine lv_iload_n hx hb dX10_numeratorAt_57 rfl (lv_at hl 3 rfl) ?_
          refine z_calli (z_runV (As := [.int (nI s1), .int x6, .int y]) (rest := []) ⟨hx, hb, hml, hown, hts⟩ hK hS ((m_step Z g_2 sg ⟨_, _, _, _, _, _, fu, fq, fm, fd, h_m, h_u, h_q, h_n9, h_g, hMN, hSg⟩ s1 hs1 x6 y (by rw [hx6]; exact hbz _) hy6) l _) gX10_numeratorAt_X10_step rfl 3 (by decide +kernel) ⟨Nat.le_of_ble_eq_true rfl, Nat.le_of_ble_eq_true rfl⟩ h_m hM41 rfl rfl hl.1 rfl (Nat.le_of_ble_eq_true rfl) dX10_numeratorAt_58 ⟨Nat.le_of_ble_eq_true rfl, Nat.le_of_ble_eq_true rfl⟩) hS (fun r6 g_10 H locs hp_11 hS => ?_)
          obtain ⟨rfl, hp_11⟩ := hp_11
          have hr6 : r6.toInt = zor (zst (sg s1) y.toInt) x.toInt (j + 1) := by rw [hp_11, hx6]; rfl
          refine lv_istore (lv' := [(6, .int r6), (0, .ref (Z.2.1 41)), (1, .int (nI s1)), (2, .int x), (3, .int y), (4, .int (nI t)), (5, .int (nI t)), (7, .int (nI j))]) hx hb dX10_numeratorAt_61 hl (by decide) rfl (fun ls hl => ?_)
          refine lv_iinc (v := (nI (j + 1))) (lv' := [(7, .int (nI (j + 1))), (6, .int r6), (0, .ref (Z.2.1 41)), (1, .int (nI s1)), (2, .int x), (3, .int y), (4, .int (nI t)), (5, .int (nI t))]) hx hb dX10_numeratorAt_63 hl (k := 7) rfl (nI_1 _) (by decide) rfl (fun ls hl => ?_)
          refine lv_goto (tgt := 46) hx hb dX10_numeratorAt_66 (by decide) ?_
          exact ih_46 (j + 1) r6 (by omega) hr6 (by omega) _ _ _ hS (lv_sub hl [2, 3, 4, 5, 6, 7, 1, 0] rfl)
    exact hcut_46_2 (lf9 - 0 + 1) 0 x (by omega) rfl (Nat.lt_succ_self _) _ _ _ hS (lv_sub hl [3, 4, 5, 6, 7, 2, 1, 0] rfl)

theorem in_X10_finite_10 : ∀ w ∈ wsX100, w ∈ wsX10_finite := by decide +kernel
set_option maxHeartbeats 4000000 in
set_option maxRecDepth 100000 in
theorem m_finite (Z : zT) (g : Nat → va_E) (sg : Nat → zb) (v4 v5 v6 : Int32) (v15 v16 : Int64) (v17 : Int32) (hM9 : z_mp Z g sg v4 v5 v6 v15 v16 v17) (s1 : Nat) (hs1 : s1 < 2) (x y : Int32) (hx5 : -100000 ≤ x.toInt ∧ x.toInt ≤ 100000) (hy6 : 1 ≤ y.toInt ∧ y.toInt ≤ 60) (hcm : zcm (sg s1)) (hgc : Nat.gcd y.toInt.toNat (zP (sg s1)).toNat = 1) : z_Mi Z yX10_finite wsX10_finite 4 93 [.ref (Z.2.1 41), .int (nI s1), .int x, .int y] g (fun r g1 => r.toInt = zite (zmfin (sg s1) y.toInt x.toInt) (zmu (sg s1) y.toInt x.toInt : Int) (-1) ∧ z_mr Z g1 sg ∧ z_fr 41 1 g g1) := by
  intro l sz
  have hM := hM9.mr
  obtain ⟨fu, fq, fm, fd, h_m, h_u, h_q, h_n9, h_g, hMN, hSg⟩ := id hM9
  have hM41 : 41 < Z.1 := by omega
  have hM42 : 42 < Z.1 := by omega
  have hM43 : 43 < Z.1 := by omega
  have hM44 : 44 < Z.1 := by omega
  have hM45 : 45 < Z.1 := by omega
  obtain ⟨hok, hp, hq, hm, hd⟩ := hSg s1 hs1
  have hPb := zP_bd hok
  have hn12 := hok.2.2.2.1
  have hq1 := hok.2.1
  have hbz := zor_bd hok hy6 hx5
  obtain ⟨iv, hiv1, hiv2, hiv3⟩ := z_inv_ex ⟨hPb.1, hPb.2.1⟩ hy6 hgc
  have hf1 := z_fin1 hok hcm hy6.1 hiv3
  have hz0 := hcm 0
  refine z_enter (maxL := 6) (ret := (some .int)) (lv := [(0, .ref (Z.2.1 41)), (1, .int (nI s1)), (2, .int x), (3, .int y)]) (plainFor_of_name (by decide +kernel)) rfl (fun ls h => by subst h; exact lv_entry [.ref (Z.2.1 41), .int (nI s1), .int x, .int y] (n := 6) (Nat.le_of_ble_eq_true rfl)) ?_
  intro p e s m args below meth c hx hb hml hr hlocks hown hts hK hS hsz ls hl
  refine lv_aload_n hx hb dX10_finite_0 rfl (lv_at hl 0 rfl) ?_
  refine lv_iload_n hx hb dX10_finite_1 rfl (lv_at hl 1 rfl) ?_
  refine lv_iconst (v := 0) hx hb dX10_finite_2 (by decide) ?_
  refine z_calli (z_runV (As := [.int (nI s1), .int 0]) (rest := []) ⟨hx, hb, hml, hown, hts⟩ hK hS ((m_chosenDigit Z g sg hM s1 hs1 0 (by rw [tI_0]; omega) (by rw [tI_0]; exact hz0)) l _) gX10_finite_X10_chosenDigit rfl 2 (by decide +kernel) ⟨Nat.le_of_ble_eq_true rfl, Nat.le_of_ble_eq_true rfl⟩ h_m hM41 rfl rfl hl.1 rfl (Nat.le_of_ble_eq_true rfl) dX10_finite_3 ⟨Nat.le_of_ble_eq_true rfl, Nat.le_of_ble_eq_true rfl⟩) hS (fun c0 g_1 H locs hp_2 hS => ?_)
  obtain ⟨rfl, hp_2⟩ := hp_2
  have hc0 := hp_2
  rw [tI_0] at hc0
  refine lv_if_eq (tgt := 11) hx hb dX10_finite_6 (by decide) (fun c_3 => ?_) (fun c_3 => ?_)
  · have i_3 := z_eq c_3
    rw [tI_0] at i_3
    rw [hc0] at i_3
    have hz9 := hf1.mpr i_3
    refine lv_aload_n hx hb dX10_finite_11 rfl (lv_at hl 0 rfl) ?_
    refine lv_iload_n hx hb dX10_finite_12 rfl (lv_at hl 1 rfl) ?_
    refine lv_iload_n hx hb dX10_finite_13 rfl (lv_at hl 2 rfl) ?_
    refine lv_iload_n hx hb dX10_finite_14 rfl (lv_at hl 3 rfl) ?_
    refine z_callv (z_runV (As := [.int (nI s1), .int x, .int y]) (rest := []) ⟨hx, hb, hml, hown, hts⟩ hK hS ((m_findPeriod Z g sg v4 v5 v6 v15 v16 v17 hM9 s1 hs1 x y hx5 hy6 (zmu (sg s1) y.toInt x.toInt) (zla (sg s1) y.toInt x.toInt) (zmula hok hy6 hx5).1 (zmula hok hy6 hx5).2) l _) gX10_finite_X10_findPeriod rfl 3 (by decide +kernel) ⟨Nat.le_of_ble_eq_true rfl, Nat.le_of_ble_eq_true rfl⟩ h_m hM41 rfl rfl hl.1 rfl (Nat.le_of_ble_eq_true rfl) dX10_finite_15 ⟨Nat.le_of_ble_eq_true rfl, Nat.le_of_ble_eq_true rfl⟩) hS (fun g_5 H locs hp_6 hS => ?_)
    obtain ⟨⟨fu, fq, fm, fd, h_m, h_u, h_q, h_n9, h_g, -, hSg2⟩, hfr_7⟩ := hp_6
    have hSg := hSg2
    obtain ⟨-, hp, hq, hm, hd⟩ := hSg s1 hs1
    have hper := (zmula hok (nn := y.toInt) (x := x.toInt) hy6 hx5).1
    have hml9 := (zmula hok (nn := y.toInt) (x := x.toInt) hy6 hx5).2
    refine lv_iload_n hx hb dX10_finite_18 rfl (lv_at hl 2 rfl) ?_
    refine lv_istore (lv' := [(4, .int x), (0, .ref (Z.2.1 41)), (1, .int (nI s1)), (2, .int x), (3, .int y)]) hx hb dX10_finite_19 hl (by decide) rfl (fun ls hl => ?_)
    refine lv_iconst (v := 0) hx hb dX10_finite_21 (by decide) ?_
    refine lv_istore (lv' := [(5, .int 0), (4, .int x), (0, .ref (Z.2.1 41)), (1, .int (nI s1)), (2, .int x), (3, .int y)]) hx hb dX10_finite_22 hl (by decide) rfl (fun ls hl => ?_)
    have hcut_24 : ∀ (nn_24 : Nat) (j : Nat) (x6 : Int32) (hj : j ≤ zmu (sg s1) y.toInt x.toInt + zla (sg s1) y.toInt x.toInt) (hx6 : x6.toInt = zor (zst (sg s1) y.toInt) x.toInt j) (hno : ∀ t, t < j → zor (zst (sg s1) y.toInt) x.toInt t ≠ 0) (hm_24 : zmu (sg s1) y.toInt x.toInt + zla (sg s1) y.toInt x.toInt - j < nn_24) (H : Heap) (locs : List Loc) (ls : Array Slot), z_S Z (z_A Z sz) s.heap g_5 H locs → lv_has ls 6 [(0, .ref (Z.2.1 41)), (1, .int (nI s1)), (2, .int x), (3, .int y), (4, .int x6), (5, .int (nI j))] → W p l e (headSpec wsX10_finite (z_rm 4 93)).room s m args below meth c H locs 0 0 (MQ below (va_Qi (fun r g1 => r.toInt = zite (zmfin (sg s1) y.toInt x.toInt) (zmu (sg s1) y.toInt x.toInt : Int) (-1) ∧ z_mr Z g1 sg ∧ z_fr 41 1 g g1) (z_B Z) (z_A Z sz)) args s 0 0 (z_A Z sz)) (F0 m 24 ls []) := by
      intro nn_24
      induction nn_24 with
      | zero => intro j x6 hj hx6 hno hm_24 H locs ls hS hl; exact absurd hm_24 (Nat.not_lt_zero _)
      | succ nn_24 ih_24 =>
        intro j x6 hj hx6 hno hm_24 H locs ls hS hl
        refine lv_iload hx hb dX10_finite_24 (lv_at hl 5 rfl) ?_
        refine lv_aload_n hx hb dX10_finite_26 rfl (lv_at hl 0 rfl) ?_
        refine z_get (own := RX10) (C := RX10) (T := TX10) (N := 21) hx hb hts in_X10_finite_10 hown hK hS h_m hM41 rfl 4 (by decide) (List.mem_of_getElem? (i := 1) rfl) rfl rfl dX10_finite_27 ?_
        refine lv_aload_n hx hb dX10_finite_30 rfl (lv_at hl 0 rfl) ?_
        refine z_get (own := RX10) (C := RX10) (T := TX10) (N := 21) hx hb hts in_X10_finite_10 hown hK hS h_m hM41 rfl 5 (by decide) (List.mem_of_getElem? (i := 2) rfl) rfl rfl dX10_finite_31 ?_
        refine lv_iadd hx hb dX10_finite_34 ?_
        rw [show (nI (zmu (sg s1) y.toInt x.toInt)) + (nI (zla (sg s1) y.toInt x.toInt)) = nI (zmu (sg s1) y.toInt x.toInt + zla (sg s1) y.toInt x.toInt) from zm_add (by omega)]
        refine lv_icmp_ge (tgt := 62) hx hb dX10_finite_35 (by decide) (fun c_8 => ?_) (fun c_8 => ?_)
        · have i_8 := z_le c_8
          rw [nI_toInt (by omega)] at i_8
          rw [nI_toInt (by omega)] at i_8
          have hnf : ¬ zmfin (sg s1) y.toInt x.toInt := fun h9 => hno _ (by have := hper.1; omega) h9.1
          refine lv_iconst (v := (-1)) hx hb dX10_finite_62 (by decide) ?_
          refine z_iret hx hb hr hlocks hS ?_ dX10_finite_63
          exact ⟨by rw [zite_f hnf]; rfl, ⟨_, _, _, _, _, _, fu, fq, fm, fd, h_m, h_u, h_q, h_n9, h_g, hMN, hSg⟩, (z_fr.rf.tr (hfr_7.wide (by omega) (by omega)))⟩
        · have i_8 := z_nle c_8
          rw [nI_toInt (by omega)] at i_8
          rw [nI_toInt (by omega)] at i_8
          refine lv_iload hx hb dX10_finite_38 (lv_at hl 4 rfl) ?_
          refine lv_if_ne (tgt := 46) hx hb dX10_finite_40 (by decide) (fun c_9 => ?_) (fun c_9 => ?_)
          · have i_9 := z_ne c_9
            rw [tI_0] at i_9
            rw [hx6] at i_9
            have hnz : zor (zst (sg s1) y.toInt) x.toInt j ≠ 0 := i_9
            refine lv_aload_n hx hb dX10_finite_46 rfl (lv_at hl 0 rfl) ?_
            refine lv_iload_n hx hb dX10_finite_47 rfl (lv_at hl 1 rfl) ?_
            refine lv_iload hx hb dX10_finite_48 (lv_at hl 4 rfl) ?_
            refine lv_iload_n hx hb dX10_finite_50 rfl (lv_at hl 3 rfl) ?_
            refine z_calli (z_runV (As := [.int (nI s1), .int x6, .int y]) (rest := []) ⟨hx, hb, hml, hown, hts⟩ hK hS ((m_step Z g_5 sg ⟨_, _, _, _, _, _, fu, fq, fm, fd, h_m, h_u, h_q, h_n9, h_g, hMN, hSg⟩ s1 hs1 x6 y (by rw [hx6]; exact hbz _) hy6) l _) gX10_finite_X10_step rfl 3 (by decide +kernel) ⟨Nat.le_of_ble_eq_true rfl, Nat.le_of_ble_eq_true rfl⟩ h_m hM41 rfl rfl hl.1 rfl (Nat.le_of_ble_eq_true rfl) dX10_finite_51 ⟨Nat.le_of_ble_eq_true rfl, Nat.le_of_ble_eq_true rfl⟩) hS (fun r6 g_10 H locs hp_11 hS => ?_)
            obtain ⟨rfl, hp_11⟩ := hp_11
            have hr6 : r6.toInt = zor (zst (sg s1) y.toInt) x.toInt (j + 1) := by rw [hp_11, hx6]; rfl
            refine lv_istore (lv' := [(4, .int r6), (0, .ref (Z.2.1 41)), (1, .int (nI s1)), (2, .int x), (3, .int y), (5, .int (nI j))]) hx hb dX10_finite_54 hl (by decide) rfl (fun ls hl => ?_)
            refine lv_iinc (v := (nI (j + 1))) (lv' := [(5, .int (nI (j + 1))), (4, .int r6), (0, .ref (Z.2.1 41)), (1, .int (nI s1)), (2, .int x), (3, .int y)]) hx hb dX10_finite_56 hl (k := 5) rfl (nI_1 _) (by decide) rfl (fun ls hl => ?_)
            refine lv_goto (tgt := 24) hx hb dX10_finite_59 (by decide) ?_
            exact ih_24 (j + 1) r6 (by omega) hr6 (fun t ht => by
                rcases Nat.lt_or_ge t j with q9 | q9
                · exact hno t q9
                · have : t = j := by omega
                  subst this; exact hnz) (by omega) _ _ _ hS (lv_sub hl [2, 3, 4, 5, 1, 0] rfl)
          · have i_9 := z_eq c_9
            rw [tI_0] at i_9
            rw [hx6] at i_9
            have hnx : zor (zst (sg s1) y.toInt) x.toInt (j + 1) = zor (zst (sg s1) y.toInt) x.toInt j := by show zst (sg s1) y.toInt (zor (zst (sg s1) y.toInt) x.toInt j) = _; rw [i_9]; exact hz9
            have hmm := (zper_iff hper (i := j) (j := j + 1) (by omega)).mp hnx.symm
            rw [Nat.add_sub_cancel_left] at hmm
            have hla1 : zla (sg s1) y.toInt x.toInt = 1 := Nat.dvd_one.mp hmm.2
            have hjm : j = zmu (sg s1) y.toInt x.toInt := by omega
            have hfin : zmfin (sg s1) y.toInt x.toInt := ⟨by rw [← hjm]; exact i_9, hla1⟩
            refine lv_iload hx hb dX10_finite_43 (lv_at hl 5 rfl) ?_
            refine z_iret hx hb hr hlocks hS ?_ dX10_finite_45
            exact ⟨by rw [zite_t hfin, ← hjm]; exact nI_toInt (by omega), ⟨_, _, _, _, _, _, fu, fq, fm, fd, h_m, h_u, h_q, h_n9, h_g, hMN, hSg⟩, (z_fr.rf.tr (hfr_7.wide (by omega) (by omega)))⟩
    exact hcut_24 (zmu (sg s1) y.toInt x.toInt + zla (sg s1) y.toInt x.toInt - 0 + 1) 0 x (by omega) rfl (fun t ht => absurd ht (Nat.not_lt_zero t)) (Nat.lt_succ_self _) _ _ _ hS (lv_sub hl [2, 3, 4, 5, 1, 0] rfl)
  · have i_3 := z_ne c_3
    rw [tI_0] at i_3
    rw [hc0] at i_3
    refine lv_iconst (v := (-1)) hx hb dX10_finite_9 (by decide) ?_
    refine z_iret hx hb hr hlocks hS ?_ dX10_finite_10
    refine ⟨?_, hM, z_fr.rf⟩
    rw [zite_f (fun h9 => ?_)]
    · rfl
    · obtain ⟨h8, h7⟩ := h9
      have hper := (zmula hok (nn := y.toInt) (x := x.toInt) hy6 hx5).1
      have h6 := hper.2.1
      rw [h7, h8] at h6
      have h5 : zst (sg s1) y.toInt (zor (zst (sg s1) y.toInt) x.toInt (zmu (sg s1) y.toInt x.toInt)) = 0 := h6
      rw [h8] at h5
      exact i_3 (hf1.mp h5)

