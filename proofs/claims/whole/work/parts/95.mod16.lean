/-! the reference: the value of a row, step by step in lowest terms -/
abbrev z_pml (Z : zT) (g : Nat → va_E) (R : Int × zS) (r : Int64) (g1 : Nat → va_E) : Prop := r.toInt = R.1 ∧ z_mw Z g1 R.2.1 R.2.2 ∧ z_fr 41 16 g g1
def zog9 (p q : Int) (w : zr) (j : Nat) : Nat := Nat.gcd (zvT p q w j).1.natAbs (zvT p q w j).2.natAbs
def zvo (p q : Int) (w : zr) (j : Nat) : Int := (zvT p q w j).1 / (zog9 p q w j : Nat)
def zvu (p q : Int) (w : zr) (j : Nat) : Int := (zvT p q w j).2 / (zog9 p q w j : Nat)
theorem z_lowp {a c : Int} (hc : 1 ≤ c) : ∃ G : Nat, 0 < G ∧ G = Nat.gcd a.natAbs c.natAbs ∧ (G : Int) * (a / (G : Int)) = a ∧ (G : Int) * (c / (G : Int)) = c := by
  refine ⟨_, Nat.gcd_pos_of_pos_right _ (by omega), rfl, ?_, ?_⟩
  · exact Int.mul_ediv_cancel' (Int.ofNat_dvd_left.mpr (Nat.gcd_dvd_left _ _))
  · exact Int.mul_ediv_cancel' (Int.ofNat_dvd_left.mpr (Nat.gcd_dvd_right _ _))
theorem z_lowq {a c : Int} {G : Nat} (hG : 0 < G) : ((G : Int) * a) / ((Nat.gcd ((G : Int) * a).natAbs ((G : Int) * c).natAbs : Nat) : Int) = a / ((Nat.gcd a.natAbs c.natAbs : Nat) : Int) ∧ ((G : Int) * c) / ((Nat.gcd ((G : Int) * a).natAbs ((G : Int) * c).natAbs : Nat) : Int) = c / ((Nat.gcd a.natAbs c.natAbs : Nat) : Int) := by
  rw [Int.natAbs_mul, Int.natAbs_mul, Int.natAbs_natCast, Nat.gcd_mul_left, Int.natCast_mul, Int.mul_ediv_mul_of_pos _ _ (by omega), Int.mul_ediv_mul_of_pos _ _ (by omega)]
  exact ⟨rfl, rfl⟩
theorem z_lowb {a c G : Int} (hG : 0 < G) (e : G * a = c) : a.natAbs ≤ c.natAbs := by
  rw [← e, Int.natAbs_mul]; exact Nat.le_mul_of_pos_left _ (by omega)
theorem zvo_bd {p q : Int} {w : zr} {j : Nat} (h : 1 ≤ (zvT p q w j).2) : 1 ≤ zvu p q w j ∧ zvu p q w j ≤ (zvT p q w j).2 ∧ (zvo p q w j).natAbs ≤ (zvT p q w j).1.natAbs := by
  obtain ⟨G, hG, eG, e1, e2⟩ := z_lowp (a := (zvT p q w j).1) h
  have e3 : zog9 p q w j = G := eG.symm
  have h1 := z_lowb (by omega) e1
  have h2 := z_lowb (by omega) e2
  unfold zvo zvu
  rw [e3]
  have h3 : 0 < (zvT p q w j).2 / (G : Int) := Int.lt_of_mul_lt_mul_left (a := (G : Int)) (by omega) (by omega)
  omega
theorem zvo_step {p q : Int} {w : zr} {j : Nat} (h : 1 ≤ (zvT p q w j).2) (a c : Int) (ha : a = w.2 (w.1 - (j + 1)) * zvu p q w j + p * zvo p q w j) (hc : c = q * zvu p q w j) : zvo p q w (j + 1) = a / ((Nat.gcd a.natAbs c.natAbs : Nat) : Int) ∧ zvu p q w (j + 1) = c / ((Nat.gcd a.natAbs c.natAbs : Nat) : Int) := by
  obtain ⟨G, hG, eG, e1, e2⟩ := z_lowp (a := (zvT p q w j).1) h
  have e3 : zog9 p q w j = G := eG.symm
  have e4 : zvo p q w j = (zvT p q w j).1 / (G : Int) := by unfold zvo; rw [e3]
  have e5 : zvu p q w j = (zvT p q w j).2 / (G : Int) := by unfold zvu; rw [e3]
  rw [← e4] at e1
  rw [← e5] at e2
  have k1 : (zvT p q w (j + 1)).1 = (G : Int) * a := by
    show w.2 (w.1 - (j + 1)) * (zvT p q w j).2 + p * (zvT p q w j).1 = _
    rw [ha, ← e1, ← e2, Int.mul_add, Int.mul_left_comm, Int.mul_left_comm p]
  have k2 : (zvT p q w (j + 1)).2 = (G : Int) * c := by
    show (zvT p q w j).2 * q = _
    rw [hc, ← e2, Int.mul_left_comm, Int.mul_comm q, Int.mul_assoc, Int.mul_comm (zvu p q w j) q, Int.mul_left_comm]
  have k3 := z_lowq (a := a) (c := c) hG
  unfold zvo zvu zog9
  rw [k1, k2]
  exact k3
theorem zv_fd {x y r : Int} (hy : 0 < y) (m : Int) (h : m + y * r = x) (hm : (x < 0 → m ≤ 0) ∧ (0 ≤ x → 0 ≤ m) ∧ m.natAbs < y.natAbs) : (0 < x - y * r ∨ x - y * r = 0 → y * r ≤ x ∧ x < y * r + y) ∧ (x - y * r < 0 → y * (r - 1) ≤ x ∧ x < y * (r - 1) + y) := by
  rw [Int.mul_sub, Int.mul_one]
  omega
theorem zvo_0 (p q : Int) (w : zr) : (0 : Int64).toInt = zvo p q w 0 := by
  show (0 : Int) = 0 / _
  rw [Int.zero_ediv]
theorem zvu_0 (p q : Int) (w : zr) : (1 : Int64).toInt = zvu p q w 0 := by
  show (1 : Int) = 1 / ((Nat.gcd (0 : Int).natAbs (1 : Int).natAbs : Nat) : Int)
  rw [show (0 : Int).natAbs = 0 from rfl, Nat.gcd_zero_left]
  rfl
theorem in_X10_findValue_10 : ∀ w ∈ wsX100, w ∈ wsX10_findValue := by decide +kernel
set_option maxHeartbeats 4000000 in
set_option maxRecDepth 100000 in
theorem m_findValue (Z : zT) (g : Nat → va_E) (sg : Nat → zb) (v4 v5 v6 : Int32) (v15 v16 : Int64) (v17 : Int32) (hM9 : z_mp Z g sg v4 v5 v6 v15 v16 v17) (s1 : Nat) (hs1 : s1 < 2) (rw9 : Nat → zr) (hx9 : z_mx Z g rw9) (r1 : Nat) (hr1 : r1 < 3) : z_Mv Z yX10_findValue wsX10_findValue 1 29 [.ref (Z.2.1 41), .int (nI s1), .int (nI r1)] g (fun g1 => ∃ o9 b9 : Int64, z_mp Z g1 sg v4 v5 v6 o9 b9 v17 ∧ o9.toInt = zvt (sg s1) (rw9 r1) ∧ b9.toInt = zvb (sg s1) (rw9 r1) ∧ z_fr 41 1 g g1) := by
  intro l sz
  have hM := hM9.mr
  obtain ⟨fu, fq, fm, fd, h_m, h_u, h_q, h_n9, h_g, hMN, hSg⟩ := id hM9
  have hM41 : 41 < Z.1 := by omega
  have hM42 : 42 < Z.1 := by omega
  have hM43 : 43 < Z.1 := by omega
  have hM44 : 44 < Z.1 := by omega
  have hM45 : 45 < Z.1 := by omega
  obtain ⟨hok, hp, hq, hm, hd⟩ := hSg s1 hs1
  have hPb := zP_bd hok
  have hn12 := hok.2.2.2.1
  have hq1 := hok.2.1
  obtain ⟨-, -, -, -, -, -, ⟨fl, h_l, hfl⟩, ⟨fe, h_e, hfe⟩, -, -, -⟩ := id hx9
  have hM52 : 52 < Z.1 := by omega
  have hM53 : 53 < Z.1 := by omega
  obtain ⟨hlr1, hn12r⟩ := hfl r1 hr1
  have hev := hfe r1 hr1
  have hwb : ∀ i, i < (rw9 r1).1 → -20 ≤ (rw9 r1).2 i ∧ (rw9 r1).2 i ≤ 20 := fun i hi => (hev i hi).2
  refine z_enter (maxL := 10) (ret := none) (lv := [(0, .ref (Z.2.1 41)), (1, .int (nI s1)), (2, .int (nI r1))]) (plainFor_of_name (by decide +kernel)) rfl (fun ls h => by subst h; exact lv_entry [.ref (Z.2.1 41), .int (nI s1), .int (nI r1)] (n := 10) (Nat.le_of_ble_eq_true rfl)) ?_
  intro p e s m args below meth c hx hb hml hr hlocks hown hts hK hS hsz ls hl
  refine lv_aload_n hx hb dX10_findValue_0 rfl (lv_at hl 0 rfl) ?_
  refine lv_lconst (v := 0) hx hb dX10_findValue_1 rfl ?_
  refine z_put (fs' := [.ref (Z.2.1 42), .ref (Z.2.1 43), .ref (Z.2.1 44), .ref (Z.2.1 45), .int v4, .int v5, .int v6, .ref (Z.2.1 46), .ref (Z.2.1 47), .ref (Z.2.1 48), .ref (Z.2.1 49), .ref (Z.2.1 50), .ref (Z.2.1 51), .ref (Z.2.1 52), .ref (Z.2.1 53), .long 0, .long v16, .int v17, .ref (Z.2.1 54), .ref (Z.2.1 55), .ref (Z.2.1 56)]) (own := RX10) (C := RX10) (T := TX10) (N := 21) hx hb hts in_X10_findValue_10 tyX10 tyX10_ok nmX10 hown hK hS h_m hM41 rfl 15 (by decide) (List.mem_of_getElem? (i := 1) rfl) rfl rfl rfl rfl (Nat.le_of_ble_eq_true rfl) rfl dX10_findValue_2 (fun g_1 H locs hg_1 hS => ?_)
  have h_m : g_1 41 = .inr (10, [.ref (Z.2.1 42), .ref (Z.2.1 43), .ref (Z.2.1 44), .ref (Z.2.1 45), .int v4, .int v5, .int v6, .ref (Z.2.1 46), .ref (Z.2.1 47), .ref (Z.2.1 48), .ref (Z.2.1 49), .ref (Z.2.1 50), .ref (Z.2.1 51), .ref (Z.2.1 52), .ref (Z.2.1 53), .long 0, .long v16, .int v17, .ref (Z.2.1 54), .ref (Z.2.1 55), .ref (Z.2.1 56)]) := z_up_s hg_1
  have h_u := z_up_n hg_1 h_u (by omega)
  have h_q := z_up_n hg_1 h_q (by omega)
  have h_n9 := z_up_n hg_1 h_n9 (by omega)
  have h_g := z_up_n hg_1 h_g (by omega)
  have h_l := z_up_n hg_1 h_l (by omega)
  have h_e := z_up_n hg_1 h_e (by omega)
  refine lv_aload_n hx hb dX10_findValue_5 rfl (lv_at hl 0 rfl) ?_
  refine lv_lconst (v := 1) hx hb dX10_findValue_6 rfl ?_
  refine z_put (fs' := [.ref (Z.2.1 42), .ref (Z.2.1 43), .ref (Z.2.1 44), .ref (Z.2.1 45), .int v4, .int v5, .int v6, .ref (Z.2.1 46), .ref (Z.2.1 47), .ref (Z.2.1 48), .ref (Z.2.1 49), .ref (Z.2.1 50), .ref (Z.2.1 51), .ref (Z.2.1 52), .ref (Z.2.1 53), .long 0, .long 1, .int v17, .ref (Z.2.1 54), .ref (Z.2.1 55), .ref (Z.2.1 56)]) (own := RX10) (C := RX10) (T := TX10) (N := 21) hx hb hts in_X10_findValue_10 tyX10 tyX10_ok nmX10 hown hK hS h_m hM41 rfl 16 (by decide) (List.mem_of_getElem? (i := 2) rfl) rfl rfl rfl rfl (Nat.le_of_ble_eq_true rfl) rfl dX10_findValue_7 (fun g_2 H locs hg_2 hS => ?_)
  have h_m : g_2 41 = .inr (10, [.ref (Z.2.1 42), .ref (Z.2.1 43), .ref (Z.2.1 44), .ref (Z.2.1 45), .int v4, .int v5, .int v6, .ref (Z.2.1 46), .ref (Z.2.1 47), .ref (Z.2.1 48), .ref (Z.2.1 49), .ref (Z.2.1 50), .ref (Z.2.1 51), .ref (Z.2.1 52), .ref (Z.2.1 53), .long 0, .long 1, .int v17, .ref (Z.2.1 54), .ref (Z.2.1 55), .ref (Z.2.1 56)]) := z_up_s hg_2
  have h_u := z_up_n hg_2 h_u (by omega)
  have h_q := z_up_n hg_2 h_q (by omega)
  have h_n9 := z_up_n hg_2 h_n9 (by omega)
  have h_g := z_up_n hg_2 h_g (by omega)
  have h_l := z_up_n hg_2 h_l (by omega)
  have h_e := z_up_n hg_2 h_e (by omega)
  refine lv_aload_n hx hb dX10_findValue_10 rfl (lv_at hl 0 rfl) ?_
  refine z_get (own := RX10) (C := RX10) (T := TX10) (N := 21) hx hb hts in_X10_findValue_10 hown hK hS h_m hM41 rfl 13 (by decide) (List.mem_of_getElem? (i := 3) rfl) rfl rfl dX10_findValue_11 ?_
  refine lv_iload_n hx hb dX10_findValue_14 rfl (lv_at hl 2 rfl) ?_
  refine z_iald hx hb hK hS h_l hM52 (vp_in_nI (by omega) (by omega)) dX10_findValue_15 ?_
  rw [show fl (nI r1).toNatClampNeg = nI (rw9 r1).1 from by rw [nI_clamp (by omega)]; exact hlr1]
  refine lv_iconst (v := 1) hx hb dX10_findValue_16 (by decide) ?_
  refine lv_isub hx hb dX10_findValue_17 ?_
  refine lv_topi (fun i0 ei0 => ?_)
  have hi0 : i0.toInt = ((rw9 r1).1 : Int) - 1 := by rw [ei0]; exact zm_pred (by omega)
  refine lv_istore_n (lv' := [(3, .int i0), (0, .ref (Z.2.1 41)), (1, .int (nI s1)), (2, .int (nI r1))]) hx hb dX10_findValue_18 rfl hl (by decide) rfl (fun ls hl => ?_)
  have hcut_19 : ∀ (nn_19 : Nat) (i : Int32) (j : Nat) (t1 : Int64) (t2 : Int64) (ga : Nat → va_E) (h_m : ga 41 = .inr (10, [.ref (Z.2.1 42), .ref (Z.2.1 43), .ref (Z.2.1 44), .ref (Z.2.1 45), .int v4, .int v5, .int v6, .ref (Z.2.1 46), .ref (Z.2.1 47), .ref (Z.2.1 48), .ref (Z.2.1 49), .ref (Z.2.1 50), .ref (Z.2.1 51), .ref (Z.2.1 52), .ref (Z.2.1 53), .long t1, .long t2, .int v17, .ref (Z.2.1 54), .ref (Z.2.1 55), .ref (Z.2.1 56)])) (h_u : ga 42 = .inl (Z.2.2.2 0, 2, .inl fu)) (h_q : ga 43 = .inl (Z.2.2.2 0, 2, .inl fq)) (h_n9 : ga 44 = .inl (Z.2.2.2 0, 2, .inl fm)) (h_g : ga 45 = .inl (Z.2.2.2 0, 24, .inl fd)) (h_l : ga 52 = .inl (Z.2.2.2 0, 3, .inl fl)) (h_e : ga 53 = .inl (Z.2.2.2 0, 36, .inl fe)) (hfr_ga : z_fr 41 1 g ga) (hi : i.toInt = ((rw9 r1).1 : Int) - 1 - j) (hj : j ≤ (rw9 r1).1) (ht1 : t1.toInt = zvo (sg s1).1 (sg s1).2.1 (rw9 r1) j) (ht2 : t2.toInt = zvu (sg s1).1 (sg s1).2.1 (rw9 r1) j) (hm_19 : (rw9 r1).1 - j < nn_19) (H : Heap) (locs : List Loc) (ls : Array Slot), z_S Z (z_A Z sz) s.heap ga H locs → lv_has ls 10 [(0, .ref (Z.2.1 41)), (1, .int (nI s1)), (2, .int (nI r1)), (3, .int i)] → W p l e (headSpec wsX10_findValue (z_rm 1 29)).room s m args below meth c H locs 0 0 (MQ below (va_Qv (fun g1 => ∃ o9 b9 : Int64, z_mp Z g1 sg v4 v5 v6 o9 b9 v17 ∧ o9.toInt = zvt (sg s1) (rw9 r1) ∧ b9.toInt = zvb (sg s1) (rw9 r1) ∧ z_fr 41 1 g g1) (z_B Z) (z_A Z sz)) args s 0 0 (z_A Z sz)) (F0 m 19 ls []) := by
    intro nn_19
    induction nn_19 with
    | zero => intro i j t1 t2 ga h_m h_u h_q h_n9 h_g h_l h_e hfr_ga hi hj ht1 ht2 hm_19 H locs ls hS hl; exact absurd hm_19 (Nat.not_lt_zero _)
    | succ nn_19 ih_19 =>
      intro i j t1 t2 ga h_m h_u h_q h_n9 h_g h_l h_e hfr_ga hi hj ht1 ht2 hm_19 H locs ls hS hl
      have hT := zvT_12 hok hn12r hwb hj
      have hTb := zvo_bd (p := (sg s1).1) (q := (sg s1).2.1) (w := rw9 r1) (j := j) hT.1
      rw [← ht1, ← ht2] at hTb
      refine lv_iload_n hx hb dX10_findValue_19 rfl (lv_at hl 3 rfl) ?_
      refine lv_if_lt (tgt := 102) hx hb dX10_findValue_20 (by decide) (fun c_3 => ?_) (fun c_3 => ?_)
      · have i_3 := z_lt c_3
        rw [tI_0] at i_3
        have hjn : j = (rw9 r1).1 := by omega
        rw [hjn] at ht1 ht2
        refine z_vret hx hb hr hlocks hS ?_ dX10_findValue_102
        exact ⟨t1, t2, ⟨fu, fq, fm, fd, h_m, h_u, h_q, h_n9, h_g, hMN, hSg⟩, ht1, ht2, hfr_ga⟩
      · have i_3 := z_nlt c_3
        rw [tI_0] at i_3
        obtain ⟨k9, ek9⟩ : ∃ k9 : Nat, k9 + (j + 1) = (rw9 r1).1 := ⟨(rw9 r1).1 - (j + 1), by omega⟩
        have ei9 : i = nI k9 := z_nI_is (by omega)
        subst ei9
        have hk9 : (rw9 r1).1 - (j + 1) = k9 := by omega
        have hee := (hev k9 (by omega)).1
        have heb := hwb k9 (by omega)
        have hm1 := z_mul_bd (x := (rw9 r1).2 k9) (y := t2.toInt) (a := 20) (b := 282429536481) (by omega) (by omega) (by omega) (by omega)
        have hm2 := z_mul_bd (x := (sg s1).1) (y := t1.toInt) (a := 10) (b := 240000000000000) (by omega) (by omega) (by omega) (by omega)
        have hm3 := z_mul_bd (x := (sg s1).2.1) (y := t2.toInt) (a := 9) (b := 282429536481) (by omega) (by omega) (by omega) (by omega)
        have hm4 : 1 * 1 ≤ (sg s1).2.1 * t2.toInt := Int.mul_le_mul (by omega) (by omega) (by omega) (by omega)
        have hq9 : (Int32.toInt64 (fe (12 * r1 + k9)) * t2).toInt = (rw9 r1).2 k9 * t2.toInt := by rw [fb_mulL (by rw [Int32.toInt_toInt64, hee]; omega) (by rw [Int32.toInt_toInt64, hee]; omega), Int32.toInt_toInt64, hee]
        have hq8 : (Int32.toInt64 (fu s1) * t1).toInt = (sg s1).1 * t1.toInt := by rw [fb_mulL (by rw [Int32.toInt_toInt64, hp]; omega) (by rw [Int32.toInt_toInt64, hp]; omega), Int32.toInt_toInt64, hp]
        refine lv_aload_n hx hb dX10_findValue_23 rfl (lv_at hl 0 rfl) ?_
        refine z_get (own := RX10) (C := RX10) (T := TX10) (N := 21) hx hb hts in_X10_findValue_10 hown hK hS h_m hM41 rfl 14 (by decide) (List.mem_of_getElem? (i := 4) rfl) rfl rfl dX10_findValue_24 ?_
        refine lv_bipush (v := 12) hx hb dX10_findValue_27 (by decide) ?_
        refine lv_iload_n hx hb dX10_findValue_29 rfl (lv_at hl 2 rfl) ?_
        refine lv_imul hx hb dX10_findValue_30 ?_
        refine lv_iload_n hx hb dX10_findValue_31 rfl (lv_at hl 3 rfl) ?_
        refine lv_iadd hx hb dX10_findValue_32 ?_
        rw [show (12 * (nI r1)) + (nI k9) = nI (12 * r1 + k9) from zm_ix (by omega) (by omega)]
        refine z_iald hx hb hK hS h_e hM53 (vp_in_nI (by omega) (by omega)) dX10_findValue_33 ?_
        rw [show fe (nI (12 * r1 + k9)).toNatClampNeg = fe (12 * r1 + k9) from by rw [nI_clamp (by omega)]]
        refine lv_i2l hx hb dX10_findValue_34 rfl ?_
        refine lv_aload_n hx hb dX10_findValue_35 rfl (lv_at hl 0 rfl) ?_
        refine z_get (own := RX10) (C := RX10) (T := TX10) (N := 21) hx hb hts in_X10_findValue_10 hown hK hS h_m hM41 rfl 16 (by decide) (List.mem_of_getElem? (i := 2) rfl) rfl rfl dX10_findValue_36 ?_
        refine lv_lmul hx hb dX10_findValue_39 ?_
        refine lv_aload_n hx hb dX10_findValue_40 rfl (lv_at hl 0 rfl) ?_
        refine z_get (own := RX10) (C := RX10) (T := TX10) (N := 21) hx hb hts in_X10_findValue_10 hown hK hS h_m hM41 rfl 0 (by decide) (List.mem_of_getElem? (i := 5) rfl) rfl rfl dX10_findValue_41 ?_
        refine lv_iload_n hx hb dX10_findValue_44 rfl (lv_at hl 1 rfl) ?_
        refine z_iald hx hb hK hS h_u hM42 (vp_in_nI (by omega) (by omega)) dX10_findValue_45 ?_
        rw [show fu (nI s1).toNatClampNeg = fu s1 from by rw [nI_clamp (by omega)]]
        refine lv_i2l hx hb dX10_findValue_46 rfl ?_
        refine lv_aload_n hx hb dX10_findValue_47 rfl (lv_at hl 0 rfl) ?_
        refine z_get (own := RX10) (C := RX10) (T := TX10) (N := 21) hx hb hts in_X10_findValue_10 hown hK hS h_m hM41 rfl 15 (by decide) (List.mem_of_getElem? (i := 1) rfl) rfl rfl dX10_findValue_48 ?_
        refine lv_lmul hx hb dX10_findValue_51 ?_
        refine lv_ladd hx hb dX10_findValue_52 ?_
        refine lv_topl (fun n1 en1 => ?_)
        have hn1 : n1.toInt = (rw9 r1).2 k9 * t2.toInt + (sg s1).1 * t1.toInt := by rw [en1, fb_addL (by omega) (by omega), hq9, hq8]
        refine lv_lstore (lv' := [(4, .long n1), (0, .ref (Z.2.1 41)), (1, .int (nI s1)), (2, .int (nI r1)), (3, .int (nI k9))]) hx hb dX10_findValue_53 hl (by decide) rfl (fun ls hl => ?_)
        refine lv_aload_n hx hb dX10_findValue_55 rfl (lv_at hl 1 rfl) ?_
        refine z_get (own := RX10) (C := RX10) (T := TX10) (N := 21) hx hb hts in_X10_findValue_10 hown hK hS h_m hM41 rfl 1 (by decide) (List.mem_of_getElem? (i := 6) rfl) rfl rfl dX10_findValue_56 ?_
        refine lv_iload_n hx hb dX10_findValue_59 rfl (lv_at hl 2 rfl) ?_
        refine z_iald hx hb hK hS h_q hM43 (vp_in_nI (by omega) (by omega)) dX10_findValue_60 ?_
        rw [show fq (nI s1).toNatClampNeg = fq s1 from by rw [nI_clamp (by omega)]]
        refine lv_i2l hx hb dX10_findValue_61 rfl ?_
        refine lv_aload_n hx hb dX10_findValue_62 rfl (lv_at hl 1 rfl) ?_
        refine z_get (own := RX10) (C := RX10) (T := TX10) (N := 21) hx hb hts in_X10_findValue_10 hown hK hS h_m hM41 rfl 16 (by decide) (List.mem_of_getElem? (i := 2) rfl) rfl rfl dX10_findValue_63 ?_
        refine lv_lmul hx hb dX10_findValue_66 ?_
        refine lv_topl (fun n2 en2 => ?_)
        have hn2 : n2.toInt = (sg s1).2.1 * t2.toInt := by rw [en2, fb_mulL (by rw [Int32.toInt_toInt64, hq]; omega) (by rw [Int32.toInt_toInt64, hq]; omega), Int32.toInt_toInt64, hq]
        refine lv_lstore (lv' := [(6, .long n2), (4, .long n1), (0, .ref (Z.2.1 41)), (1, .int (nI s1)), (2, .int (nI r1)), (3, .int (nI k9))]) hx hb dX10_findValue_67 hl (by decide) rfl (fun ls hl => ?_)
        refine lv_lload hx hb dX10_findValue_69 (lv_at hl 1 rfl) ?_
        refine lv_lload hx hb dX10_findValue_71 (lv_at hl 0 rfl) ?_
        refine z_calll (z_runS (As := [.long n1, .long n2]) (rest := []) ⟨hx, hb, hml, hown, hts⟩ hK hS ((m_common Z ga n1 n2 (by omega) (by omega)) l _) gX10_findValue_X10_common rfl 2 (by decide +kernel) ⟨Nat.le_of_ble_eq_true rfl, Nat.le_of_ble_eq_true rfl⟩ rfl hl.1 rfl (Nat.le_of_ble_eq_true rfl) dX10_findValue_73 ⟨Nat.le_of_ble_eq_true rfl, Nat.le_of_ble_eq_true rfl⟩) hS (fun gd g_4 H locs hp_5 hS => ?_)
        obtain ⟨rfl, hp_5⟩ := hp_5
        have hgd := hp_5
        have hst := zvo_step (p := (sg s1).1) (q := (sg s1).2.1) (w := rw9 r1) (j := j) hT.1 n1.toInt n2.toInt (by rw [hk9, ← ht1, ← ht2]; exact hn1) (by rw [← ht2]; exact hn2)
        obtain ⟨G9, hG9, eG9, e91, e92⟩ := z_lowp (a := n1.toInt) (c := n2.toInt) (by omega)
        rw [← eG9] at hgd hst
        have hdv1 : gd.toInt ∣ n1.toInt := ⟨_, by rw [hgd]; exact e91.symm⟩
        have hdv2 : gd.toInt ∣ n2.toInt := ⟨_, by rw [hgd]; exact e92.symm⟩
        have hd1 := z_tdiv_bd n1.toInt gd.toInt
        have hd2 := z_tdiv_bd n2.toInt gd.toInt
        refine lv_lstore (lv' := [(8, .long gd), (6, .long n2), (4, .long n1), (0, .ref (Z.2.1 41)), (1, .int (nI s1)), (2, .int (nI r1)), (3, .int (nI k9))]) hx hb dX10_findValue_76 hl (by decide) rfl (fun ls hl => ?_)
        refine lv_aload_n hx hb dX10_findValue_78 rfl (lv_at hl 3 rfl) ?_
        refine lv_lload hx hb dX10_findValue_79 (lv_at hl 2 rfl) ?_
        refine lv_lload hx hb dX10_findValue_81 (lv_at hl 0 rfl) ?_
        refine lv_ldiv hx hb dX10_findValue_83 (fun h => by rw [h, show (0 : Int64).toInt = 0 from rfl] at hgd; omega) ?_
        refine lv_topl (fun o1 eo1 => ?_)
        have ho1 : o1.toInt = zvo (sg s1).1 (sg s1).2.1 (rw9 r1) (j + 1) := by rw [eo1, Int64.toInt_div, fb_bmodL (by omega) (by omega), z_ediv_tdiv hdv1, hgd, hst.1]
        refine z_put (fs' := [.ref (Z.2.1 42), .ref (Z.2.1 43), .ref (Z.2.1 44), .ref (Z.2.1 45), .int v4, .int v5, .int v6, .ref (Z.2.1 46), .ref (Z.2.1 47), .ref (Z.2.1 48), .ref (Z.2.1 49), .ref (Z.2.1 50), .ref (Z.2.1 51), .ref (Z.2.1 52), .ref (Z.2.1 53), .long o1, .long t2, .int v17, .ref (Z.2.1 54), .ref (Z.2.1 55), .ref (Z.2.1 56)]) (own := RX10) (C := RX10) (T := TX10) (N := 21) hx hb hts in_X10_findValue_10 tyX10 tyX10_ok nmX10 hown hK hS h_m hM41 rfl 15 (by decide) (List.mem_of_getElem? (i := 1) rfl) rfl rfl rfl rfl (Nat.le_of_ble_eq_true rfl) rfl dX10_findValue_84 (fun g_6 H locs hg_6 hS => ?_)
        have h_m : g_6 41 = .inr (10, [.ref (Z.2.1 42), .ref (Z.2.1 43), .ref (Z.2.1 44), .ref (Z.2.1 45), .int v4, .int v5, .int v6, .ref (Z.2.1 46), .ref (Z.2.1 47), .ref (Z.2.1 48), .ref (Z.2.1 49), .ref (Z.2.1 50), .ref (Z.2.1 51), .ref (Z.2.1 52), .ref (Z.2.1 53), .long o1, .long t2, .int v17, .ref (Z.2.1 54), .ref (Z.2.1 55), .ref (Z.2.1 56)]) := z_up_s hg_6
        have h_u := z_up_n hg_6 h_u (by omega)
        have h_q := z_up_n hg_6 h_q (by omega)
        have h_n9 := z_up_n hg_6 h_n9 (by omega)
        have h_g := z_up_n hg_6 h_g (by omega)
        have h_l := z_up_n hg_6 h_l (by omega)
        have h_e := z_up_n hg_6 h_e (by omega)
        refine lv_aload_n hx hb dX10_findValue_87 rfl (lv_at hl 3 rfl) ?_
        refine lv_lload hx hb dX10_findValue_88 (lv_at hl 1 rfl) ?_
        refine lv_lload hx hb dX10_findValue_90 (lv_at hl 0 rfl) ?_
        refine lv_ldiv hx hb dX10_findValue_92 (fun h => by rw [h, show (0 : Int64).toInt = 0 from rfl] at hgd; omega) ?_
        refine lv_topl (fun o2 eo2 => ?_)
        have ho2 : o2.toInt = zvu (sg s1).1 (sg s1).2.1 (rw9 r1) (j + 1) := by rw [eo2, Int64.toInt_div, fb_bmodL (by omega) (by omega), z_ediv_tdiv hdv2, hgd, hst.2]
        refine z_put (fs' := [.ref (Z.2.1 42), .ref (Z.2.1 43), .ref (Z.2.1 44), .ref (Z.2.1 45), .int v4, .int v5, .int v6, .ref (Z.2.1 46), .ref (Z.2.1 47), .ref (Z.2.1 48), .ref (Z.2.1 49), .ref (Z.2.1 50), .ref (Z.2.1 51), .ref (Z.2.1 52), .ref (Z.2.1 53), .long o1, .long o2, .int v17, .ref (Z.2.1 54), .ref (Z.2.1 55), .ref (Z.2.1 56)]) (own := RX10) (C := RX10) (T := TX10) (N := 21) hx hb hts in_X10_findValue_10 tyX10 tyX10_ok nmX10 hown hK hS h_m hM41 rfl 16 (by decide) (List.mem_of_getElem? (i := 2) rfl) rfl rfl rfl rfl (Nat.le_of_ble_eq_true rfl) rfl dX10_findValue_93 (fun g_7 H locs hg_7 hS => ?_)
        have h_m : g_7 41 = .inr (10, [.ref (Z.2.1 42), .ref (Z.2.1 43), .ref (Z.2.1 44), .ref (Z.2.1 45), .int v4, .int v5, .int v6, .ref (Z.2.1 46), .ref (Z.2.1 47), .ref (Z.2.1 48), .ref (Z.2.1 49), .ref (Z.2.1 50), .ref (Z.2.1 51), .ref (Z.2.1 52), .ref (Z.2.1 53), .long o1, .long o2, .int v17, .ref (Z.2.1 54), .ref (Z.2.1 55), .ref (Z.2.1 56)]) := z_up_s hg_7
        have h_u := z_up_n hg_7 h_u (by omega)
        have h_q := z_up_n hg_7 h_q (by omega)
        have h_n9 := z_up_n hg_7 h_n9 (by omega)
        have h_g := z_up_n hg_7 h_g (by omega)
        have h_l := z_up_n hg_7 h_l (by omega)
        have h_e := z_up_n hg_7 h_e (by omega)
        obtain ⟨i2, ei2⟩ : ∃ zz9 : Int32, zz9 = nI k9 + (-1) := ⟨_, rfl⟩
        have hi2 : i2.toInt = (k9 : Int) - 1 := by rw [ei2, fb_addI (by rw [nI_toInt (by omega), tI_m1]; omega) (by rw [nI_toInt (by omega), tI_m1]; omega), nI_toInt (by omega), tI_m1]; omega
        refine lv_iinc (v := i2) (lv' := [(3, .int i2), (8, .long gd), (6, .long n2), (4, .long n1), (0, .ref (Z.2.1 41)), (1, .int (nI s1)), (2, .int (nI r1))]) hx hb dX10_findValue_96 hl (k := 6) rfl (by rw [ei2]; rfl) (by decide) rfl (fun ls hl => ?_)
        refine lv_goto (tgt := 19) hx hb dX10_findValue_99 (by decide) ?_
        exact ih_19 i2 (j + 1) o1 o2 g_7 h_m h_u h_q h_n9 h_g h_l h_e ((hfr_ga.up hg_6 (by omega)).up hg_7 (by omega)) (by omega) (by omega) ho1 ho2 (by omega) _ _ _ hS (lv_sub hl [4, 5, 6, 0] rfl)
  exact hcut_19 ((rw9 r1).1 - 0 + 1) i0 0 0 1 g_2 h_m h_u h_q h_n9 h_g h_l h_e ((z_fr.rf.up hg_1 (by omega)).up hg_2 (by omega)) (by omega) (by omega) (zvo_0 _ _ _) (zvu_0 _ _ _) (Nat.lt_succ_self _) _ _ _ hS (lv_sub hl [1, 2, 3, 0] rfl)

set_option maxHeartbeats 4000000 in
set_option maxRecDepth 100000 in
theorem m_down (Z : zT) (g : Nat → va_E) (x y : Int64) (hy9 : 1 ≤ y.toInt ∧ y.toInt ≤ 282429536481) (hx9 : -240000000000000 ≤ x.toInt ∧ x.toInt ≤ 240000000000000) : z_Ml Z yX10_down wsX10_down 0 0 [.long x, .long y] g (fun r g1 => g = g1 ∧ (y.toInt * r.toInt ≤ x.toInt ∧ x.toInt < y.toInt * r.toInt + y.toInt)) := by
  intro l sz
  refine z_enter (maxL := 6) (ret := (some .long)) (lv := [(0, .long x), (2, .long y)]) (plainFor_of_name (by decide +kernel)) rfl (fun ls h => by subst h; exact lv_entry [.long x, .long y] (n := 6) (Nat.le_of_ble_eq_true rfl)) ?_
  intro p e s m args below meth c hx hb hml hr hlocks hown hts hK hS hsz ls hl
  refine lv_lload_n hx hb dX10_down_0 rfl (lv_at hl 0 rfl) ?_
  refine lv_lload_n hx hb dX10_down_1 rfl (lv_at hl 1 rfl) ?_
  refine lv_ldiv hx hb dX10_down_2 (fun h => by rw [h, show (0 : Int64).toInt = 0 from rfl] at hy9; omega) ?_
  refine lv_topl (fun d9 ed9 => ?_)
  have hd9 := z_tdiv_bd x.toInt y.toInt
  have hdd : d9.toInt = x.toInt.tdiv y.toInt := by rw [ed9, Int64.toInt_div, fb_bmodL (by omega) (by omega)]
  have hmd := Int.tmod_add_mul_tdiv x.toInt y.toInt
  have hms := z_tmod_sign x.toInt y.toInt (by omega)
  rw [← hdd] at hmd
  have hfd := zv_fd (x := x.toInt) (y := y.toInt) (r := d9.toInt) (by omega) _ hmd hms
  have hmm : (d9 * y).toInt = y.toInt * d9.toInt := by rw [fb_mulL (by rw [Int.mul_comm]; omega) (by rw [Int.mul_comm]; omega), Int.mul_comm]
  have hcg := z_cmpG (x := d9 * y) (y := x)
  refine lv_lstore (lv' := [(4, .long d9), (0, .long x), (2, .long y)]) hx hb dX10_down_3 hl (by decide) rfl (fun ls hl => ?_)
  refine lv_lload hx hb dX10_down_5 (lv_at hl 0 rfl) ?_
  refine lv_lload_n hx hb dX10_down_7 rfl (lv_at hl 2 rfl) ?_
  refine lv_lmul hx hb dX10_down_8 ?_
  refine lv_lload_n hx hb dX10_down_9 rfl (lv_at hl 1 rfl) ?_
  refine W.lcmp hx hb dX10_down_10 ?_
  refine lv_if_le (tgt := 21) hx hb dX10_down_11 (by decide) (fun c_1 => ?_) (fun c_1 => ?_)
  · have i_1 := z_le c_1
    rw [tI_0] at i_1
    have hle : y.toInt * d9.toInt ≤ x.toInt := by omega
    have hret := hfd.1 (by omega)
    refine lv_lload hx hb dX10_down_21 (lv_at hl 0 rfl) ?_
    refine z_lret hx hb hr hlocks hS ?_ dX10_down_23
    exact ⟨rfl, hret⟩
  · have i_1 := z_nle c_1
    rw [tI_0] at i_1
    have hret := hfd.2 (by omega)
    have hs9 : (d9 - 1).toInt = d9.toInt - 1 := by rw [fb_subL (by rw [show (1 : Int64).toInt = 1 from rfl]; omega) (by rw [show (1 : Int64).toInt = 1 from rfl]; omega)]; rfl
    rw [← hs9] at hret
    refine lv_lload hx hb dX10_down_14 (lv_at hl 0 rfl) ?_
    refine lv_lconst (v := 1) hx hb dX10_down_16 rfl ?_
    refine lv_lsub hx hb dX10_down_17 ?_
    refine lv_goto (tgt := 23) hx hb dX10_down_18 (by decide) ?_
    refine z_lret hx hb hr hlocks hS ?_ dX10_down_23
    exact ⟨rfl, hret⟩

set_option maxHeartbeats 4000000 in
set_option maxRecDepth 100000 in
theorem m_compared (Z : zT) (g : Nat → va_E) (v1 v2 u1 u2 : Int64) (hb1 : 1 ≤ v2.toInt ∧ v2.toInt ≤ 282429536481) (hd1 : 1 ≤ u2.toInt ∧ u2.toInt ≤ 282429536481) (ha1 : -240000000000000 ≤ v1.toInt ∧ v1.toInt ≤ 240000000000000) (hc1 : -240000000000000 ≤ u1.toInt ∧ u1.toInt ≤ 240000000000000) : z_Mi Z yX10_compared wsX10_compared 1 25 [.long v1, .long v2, .long u1, .long u2] g (fun r g1 => g = g1 ∧ r.toInt = zsg (v1.toInt * u2.toInt - u1.toInt * v2.toInt) + 1) := by
  intro l sz
  refine z_enter (maxL := 26) (ret := (some .int)) (lv := [(0, .long v1), (2, .long v2), (4, .long u1), (6, .long u2)]) (plainFor_of_name (by decide +kernel)) rfl (fun ls h => by subst h; exact lv_entry [.long v1, .long v2, .long u1, .long u2] (n := 26) (Nat.le_of_ble_eq_true rfl)) ?_
  intro p e s m args below meth c hx hb hml hr hlocks hown hts hK hS hsz ls hl
  refine lv_lload_n hx hb dX10_compared_0 rfl (lv_at hl 0 rfl) ?_
  refine lv_lstore (lv' := [(8, .long v1), (0, .long v1), (2, .long v2), (4, .long u1), (6, .long u2)]) hx hb dX10_compared_1 hl (by decide) rfl (fun ls hl => ?_)
  refine lv_lload_n hx hb dX10_compared_3 rfl (lv_at hl 2 rfl) ?_
  refine lv_lstore (lv' := [(10, .long v2), (8, .long v1), (0, .long v1), (2, .long v2), (4, .long u1), (6, .long u2)]) hx hb dX10_compared_4 hl (by decide) rfl (fun ls hl => ?_)
  refine lv_lload hx hb dX10_compared_6 (lv_at hl 4 rfl) ?_
  refine lv_lstore (lv' := [(12, .long u1), (10, .long v2), (8, .long v1), (0, .long v1), (2, .long v2), (4, .long u1), (6, .long u2)]) hx hb dX10_compared_8 hl (by decide) rfl (fun ls hl => ?_)
  refine lv_lload hx hb dX10_compared_10 (lv_at hl 6 rfl) ?_
  refine lv_lstore (lv' := [(14, .long u2), (12, .long u1), (10, .long v2), (8, .long v1), (0, .long v1), (2, .long v2), (4, .long u1), (6, .long u2)]) hx hb dX10_compared_12 hl (by decide) rfl (fun ls hl => ?_)
  refine lv_iconst (v := 0) hx hb dX10_compared_14 (by decide) ?_
  refine lv_istore (lv' := [(16, .int 0), (14, .long u2), (12, .long u1), (10, .long v2), (8, .long v1), (0, .long v1), (2, .long v2), (4, .long u1), (6, .long u2)]) hx hb dX10_compared_15 hl (by decide) rfl (fun ls hl => ?_)
  refine lv_iconst (v := (-1)) hx hb dX10_compared_17 (by decide) ?_
  refine lv_istore (lv' := [(17, .int (-1)), (16, .int 0), (14, .long u2), (12, .long u1), (10, .long v2), (8, .long v1), (0, .long v1), (2, .long v2), (4, .long u1), (6, .long u2)]) hx hb dX10_compared_18 hl (by decide) rfl (fun ls hl => ?_)
  have hcut_20 : ∀ (nn_20 : Nat) (a : Int64) (e9 : Int64) (c9 : Int64) (d : Int64) (tu : Int32) (it : Int32) (htu : tu.toInt = 0 ∨ tu.toInt = 1) (hst : (it.toInt = -1 ∧ (1 ≤ e9.toInt ∧ e9.toInt ≤ 282429536481) ∧ (1 ≤ d.toInt ∧ d.toInt ≤ 282429536481) ∧ (-240000000000000 ≤ a.toInt ∧ a.toInt ≤ 240000000000000) ∧ (-240000000000000 ≤ c9.toInt ∧ c9.toInt ≤ 240000000000000) ∧ (1 - 2 * tu.toInt) * zsg (a.toInt * d.toInt - c9.toInt * e9.toInt) = zsg (v1.toInt * u2.toInt - u1.toInt * v2.toInt)) ∨ (0 ≤ it.toInt ∧ it.toInt = zsg (v1.toInt * u2.toInt - u1.toInt * v2.toInt) + 1)) (hm_20 : e9.toInt.toNat + (2 - it.toInt).toNat < nn_20) (H : Heap) (locs : List Loc) (ls : Array Slot), z_S Z (z_A Z sz) s.heap g H locs → lv_has ls 26 [(8, .long a), (10, .long e9), (12, .long c9), (14, .long d), (16, .int tu), (17, .int it)] → W p l e (headSpec wsX10_compared (z_rm 1 25)).room s m args below meth c H locs 0 0 (MQ below (va_Qi (fun r g1 => g = g1 ∧ r.toInt = zsg (v1.toInt * u2.toInt - u1.toInt * v2.toInt) + 1) (z_B Z) (z_A Z sz)) args s 0 0 (z_A Z sz)) (F0 m 20 ls []) := by
    intro nn_20
    induction nn_20 with
    | zero => intro a e9 c9 d tu it htu hst hm_20 H locs ls hS hl; exact absurd hm_20 (Nat.not_lt_zero _)
    | succ nn_20 ih_20 =>
      intro a e9 c9 d tu it htu hst hm_20 H locs ls hS hl
      refine lv_iload hx hb dX10_compared_20 (lv_at hl 5 rfl) ?_
      refine lv_if_ge (tgt := 183) hx hb dX10_compared_22 (by decide) (fun c_1 => ?_) (fun c_1 => ?_)
      · have i_1 := z_le c_1
        rw [tI_0] at i_1
        have hret : it.toInt = zsg (v1.toInt * u2.toInt - u1.toInt * v2.toInt) + 1 := by omega
        refine lv_iload hx hb dX10_compared_183 (lv_at hl 5 rfl) ?_
        refine z_iret hx hb hr hlocks hS ?_ dX10_compared_185
        exact ⟨rfl, hret⟩
      · have i_1 := z_nle c_1
        rw [tI_0] at i_1
        obtain ⟨hit, hbe, hbd, hba, hbc, hsg⟩ : it.toInt = -1 ∧ _ := hst.resolve_right (fun h9 => by omega)
        refine lv_lload hx hb dX10_compared_25 (lv_at hl 0 rfl) ?_
        refine lv_lload hx hb dX10_compared_27 (lv_at hl 1 rfl) ?_
        refine z_calll (z_runS (As := [.long a, .long e9]) (rest := []) ⟨hx, hb, hml, hown, hts⟩ hK hS ((m_down Z g a e9 hbe hba) l _) gX10_compared_X10_down rfl 2 (by decide +kernel) ⟨Nat.le_of_ble_eq_true rfl, Nat.le_of_ble_eq_true rfl⟩ rfl hl.1 rfl (Nat.le_of_ble_eq_true rfl) dX10_compared_29 ⟨Nat.le_of_ble_eq_true rfl, Nat.le_of_ble_eq_true rfl⟩) hS (fun w1 g_2 H locs hp_3 hS => ?_)
        obtain ⟨rfl, hp_3⟩ := hp_3
        have hw1 := hp_3
        refine lv_lstore (lv' := [(18, .long w1), (8, .long a), (10, .long e9), (12, .long c9), (14, .long d), (16, .int tu), (17, .int it)]) hx hb dX10_compared_32 hl (by decide) rfl (fun ls hl => ?_)
        refine lv_lload hx hb dX10_compared_34 (lv_at hl 3 rfl) ?_
        refine lv_lload hx hb dX10_compared_36 (lv_at hl 4 rfl) ?_
        refine z_calll (z_runS (As := [.long c9, .long d]) (rest := []) ⟨hx, hb, hml, hown, hts⟩ hK hS ((m_down Z g c9 d hbd hbc) l _) gX10_compared_X10_down rfl 2 (by decide +kernel) ⟨Nat.le_of_ble_eq_true rfl, Nat.le_of_ble_eq_true rfl⟩ rfl hl.1 rfl (Nat.le_of_ble_eq_true rfl) dX10_compared_38 ⟨Nat.le_of_ble_eq_true rfl, Nat.le_of_ble_eq_true rfl⟩) hS (fun w2 g_4 H locs hp_5 hS => ?_)
        obtain ⟨rfl, hp_5⟩ := hp_5
        have hw2 := hp_5
        have hfd := z_fd_cmp (show 0 < e9.toInt by omega) (show 0 < d.toInt by omega) hw1.1 hw1.2 hw2.1 hw2.2
        have hm1 : (w1 * e9).toInt = w1.toInt * e9.toInt := fb_mulL (by rw [Int.mul_comm]; omega) (by rw [Int.mul_comm]; omega)
        have hm2 : (w2 * d).toInt = w2.toInt * d.toInt := fb_mulL (by rw [Int.mul_comm]; omega) (by rw [Int.mul_comm]; omega)
        have hc9a := Int.mul_comm w1.toInt e9.toInt
        have hc9b := Int.mul_comm w2.toInt d.toInt
        refine lv_lstore (lv' := [(20, .long w2), (18, .long w1), (8, .long a), (10, .long e9), (12, .long c9), (14, .long d), (16, .int tu), (17, .int it)]) hx hb dX10_compared_41 hl (by decide) rfl (fun ls hl => ?_)
        refine lv_lload hx hb dX10_compared_43 (lv_at hl 2 rfl) ?_
        refine lv_lload hx hb dX10_compared_45 (lv_at hl 1 rfl) ?_
        refine lv_lload hx hb dX10_compared_47 (lv_at hl 3 rfl) ?_
        refine lv_lmul hx hb dX10_compared_49 ?_
        refine lv_lsub hx hb dX10_compared_50 ?_
        refine lv_topl (fun r1 er1 => ?_)
        have hr1 : r1.toInt = a.toInt - w1.toInt * e9.toInt := by rw [er1, fb_subL (by omega) (by omega), hm1]
        refine lv_lstore (lv' := [(22, .long r1), (20, .long w2), (18, .long w1), (8, .long a), (10, .long e9), (12, .long c9), (14, .long d), (16, .int tu), (17, .int it)]) hx hb dX10_compared_51 hl (by decide) rfl (fun ls hl => ?_)
        refine lv_lload hx hb dX10_compared_53 (lv_at hl 5 rfl) ?_
        refine lv_lload hx hb dX10_compared_55 (lv_at hl 1 rfl) ?_
        refine lv_lload hx hb dX10_compared_57 (lv_at hl 6 rfl) ?_
        refine lv_lmul hx hb dX10_compared_59 ?_
        refine lv_lsub hx hb dX10_compared_60 ?_
        refine lv_topl (fun r2 er2 => ?_)
        have hr2 : r2.toInt = c9.toInt - w2.toInt * d.toInt := by rw [er2, fb_subL (by omega) (by omega), hm2]
        have hcl := z_cmpL (x := w1) (y := w2)
        refine lv_lstore (lv' := [(24, .long r2), (22, .long r1), (20, .long w2), (18, .long w1), (8, .long a), (10, .long e9), (12, .long c9), (14, .long d), (16, .int tu), (17, .int it)]) hx hb dX10_compared_61 hl (by decide) rfl (fun ls hl => ?_)
        refine lv_lload hx hb dX10_compared_63 (lv_at hl 3 rfl) ?_
        refine lv_lload hx hb dX10_compared_65 (lv_at hl 2 rfl) ?_
        refine W.lcmp hx hb dX10_compared_67 ?_
        refine lv_if_eq (tgt := 99) hx hb dX10_compared_68 (by decide) (fun c_6 => ?_) (fun c_6 => ?_)
        · have i_6 := z_eq c_6
          rw [tI_0] at i_6
          have hww := z_cmp0.mp c_6
          have hfe := hfd.2.2 hww
          rw [← hr1, ← hr2] at hfe
          have hz1 := z_cmp0 (x := r1) (y := 0)
          have hz2 := z_cmp0 (x := r2) (y := 0)
          have hz3 := z_cmp0 (x := r1) (y := r2)
          rw [show (0 : Int64).toInt = 0 from rfl] at hz1 hz2
          have hed : 0 ≤ r1.toInt ∧ r1.toInt < e9.toInt ∧ 0 ≤ r2.toInt ∧ r2.toInt < d.toInt := by omega
          refine lv_lload hx hb dX10_compared_99 (lv_at hl 1 rfl) ?_
          refine lv_lconst (v := 0) hx hb dX10_compared_101 rfl ?_
          refine W.lcmp hx hb dX10_compared_102 ?_
          refine lv_if_eq (tgt := 113) hx hb dX10_compared_103 (by decide) (fun c_7 => ?_) (fun c_7 => ?_)
          · have i_7 := z_eq c_7
            rw [tI_0] at i_7
            have h01 : r1.toInt = 0 ∨ r2.toInt = 0 := Or.inl (hz1.mp c_7)
            refine lv_lload hx hb dX10_compared_113 (lv_at hl 1 rfl) ?_
            refine lv_lload hx hb dX10_compared_115 (lv_at hl 0 rfl) ?_
            refine W.lcmp hx hb dX10_compared_117 ?_
            refine lv_if_ne (tgt := 125) hx hb dX10_compared_118 (by decide) (fun c_8 => ?_) (fun c_8 => ?_)
            · have i_8 := z_ne c_8
              rw [tI_0] at i_8
              have h12 : r1.toInt ≠ r2.toInt := fun q9 => c_8 (hz3.mpr q9)
              refine lv_lload hx hb dX10_compared_125 (lv_at hl 1 rfl) ?_
              refine lv_lconst (v := 0) hx hb dX10_compared_127 rfl ?_
              refine W.lcmp hx hb dX10_compared_128 ?_
              refine lv_if_ne (tgt := 136) hx hb dX10_compared_129 (by decide) (fun c_9 => ?_) (fun c_9 => ?_)
              · have i_9 := z_ne c_9
                rw [tI_0] at i_9
                have h1n : r1.toInt ≠ 0 := fun q9 => c_9 (hz1.mpr q9)
                have h2z : r2.toInt = 0 := by omega
                have hz8 : zsg (a.toInt * d.toInt - c9.toInt * e9.toInt) = 1 := zsg_pos (by
                  rw [hfe, h2z, Int.mul_zero]
                  have := Int.mul_pos (show 0 < d.toInt by omega) (show 0 < r1.toInt by omega); omega)
                rw [hz8] at hsg
                refine lv_iconst (v := 0) hx hb dX10_compared_136 (by decide) ?_
                refine lv_iload hx hb dX10_compared_137 (lv_at hl 8 rfl) ?_
                refine lv_icmp_ne (tgt := 146) hx hb dX10_compared_139 (by decide) (fun c_10 => ?_) (fun c_10 => ?_)
                · have i_10 := z_ne c_10
                  rw [tI_0] at i_10
                  have hB : (0 : Int32).toInt = zsg (v1.toInt * u2.toInt - u1.toInt * v2.toInt) + 1 := by rw [tI_0]; omega
                  refine lv_iconst (v := 0) hx hb dX10_compared_146 (by decide) ?_
                  refine lv_istore (lv' := [(17, .int 0), (24, .long r2), (22, .long r1), (20, .long w2), (18, .long w1), (8, .long a), (10, .long e9), (12, .long c9), (14, .long d), (16, .int tu)]) hx hb dX10_compared_147 hl (by decide) rfl (fun ls hl => ?_)
                  refine lv_goto (tgt := 180) hx hb dX10_compared_149 (by decide) ?_
                  refine lv_goto (tgt := 20) hx hb dX10_compared_180 (by decide) ?_
                  exact ih_20 a e9 c9 d tu 0 htu (Or.inr ⟨by rw [tI_0]; omega, hB⟩) (by rw [tI_0]; omega) _ _ _ hS (lv_sub hl [5, 6, 7, 8, 9, 0] rfl)
                · have i_10 := z_eq c_10
                  rw [tI_0] at i_10
                  have hB : (2 : Int32).toInt = zsg (v1.toInt * u2.toInt - u1.toInt * v2.toInt) + 1 := by rw [tI_2]; omega
                  refine lv_iconst (v := 2) hx hb dX10_compared_142 (by decide) ?_
                  refine lv_goto (tgt := 147) hx hb dX10_compared_143 (by decide) ?_
                  refine lv_istore (lv' := [(17, .int 2), (24, .long r2), (22, .long r1), (20, .long w2), (18, .long w1), (8, .long a), (10, .long e9), (12, .long c9), (14, .long d), (16, .int tu)]) hx hb dX10_compared_147 hl (by decide) rfl (fun ls hl => ?_)
                  refine lv_goto (tgt := 180) hx hb dX10_compared_149 (by decide) ?_
                  refine lv_goto (tgt := 20) hx hb dX10_compared_180 (by decide) ?_
                  exact ih_20 a e9 c9 d tu 2 htu (Or.inr ⟨by rw [tI_2]; omega, hB⟩) (by rw [tI_2]; omega) _ _ _ hS (lv_sub hl [5, 6, 7, 8, 9, 0] rfl)
              · have i_9 := z_eq c_9
                rw [tI_0] at i_9
                have h1z := hz1.mp c_9
                have hz8 : zsg (a.toInt * d.toInt - c9.toInt * e9.toInt) = -1 := zsg_lt (by
                  rw [hfe, h1z, Int.mul_zero]
                  have := Int.mul_pos (show 0 < e9.toInt by omega) (show 0 < r2.toInt by omega); omega)
                rw [hz8] at hsg
                refine lv_iconst (v := 1) hx hb dX10_compared_132 (by decide) ?_
                refine lv_goto (tgt := 137) hx hb dX10_compared_133 (by decide) ?_
                refine lv_iload hx hb dX10_compared_137 (lv_at hl 8 rfl) ?_
                refine lv_icmp_ne (tgt := 146) hx hb dX10_compared_139 (by decide) (fun c_11 => ?_) (fun c_11 => ?_)
                · have i_11 := z_ne c_11
                  rw [tI_1] at i_11
                  have hB : (0 : Int32).toInt = zsg (v1.toInt * u2.toInt - u1.toInt * v2.toInt) + 1 := by rw [tI_0]; omega
                  refine lv_iconst (v := 0) hx hb dX10_compared_146 (by decide) ?_
                  refine lv_istore (lv' := [(17, .int 0), (24, .long r2), (22, .long r1), (20, .long w2), (18, .long w1), (8, .long a), (10, .long e9), (12, .long c9), (14, .long d), (16, .int tu)]) hx hb dX10_compared_147 hl (by decide) rfl (fun ls hl => ?_)
                  refine lv_goto (tgt := 180) hx hb dX10_compared_149 (by decide) ?_
                  refine lv_goto (tgt := 20) hx hb dX10_compared_180 (by decide) ?_
                  exact ih_20 a e9 c9 d tu 0 htu (Or.inr ⟨by rw [tI_0]; omega, hB⟩) (by rw [tI_0]; omega) _ _ _ hS (lv_sub hl [5, 6, 7, 8, 9, 0] rfl)
                · have i_11 := z_eq c_11
                  rw [tI_1] at i_11
                  have hB : (2 : Int32).toInt = zsg (v1.toInt * u2.toInt - u1.toInt * v2.toInt) + 1 := by rw [tI_2]; omega
                  refine lv_iconst (v := 2) hx hb dX10_compared_142 (by decide) ?_
                  refine lv_goto (tgt := 147) hx hb dX10_compared_143 (by decide) ?_
                  refine lv_istore (lv' := [(17, .int 2), (24, .long r2), (22, .long r1), (20, .long w2), (18, .long w1), (8, .long a), (10, .long e9), (12, .long c9), (14, .long d), (16, .int tu)]) hx hb dX10_compared_147 hl (by decide) rfl (fun ls hl => ?_)
                  refine lv_goto (tgt := 180) hx hb dX10_compared_149 (by decide) ?_
                  refine lv_goto (tgt := 20) hx hb dX10_compared_180 (by decide) ?_
                  exact ih_20 a e9 c9 d tu 2 htu (Or.inr ⟨by rw [tI_2]; omega, hB⟩) (by rw [tI_2]; omega) _ _ _ hS (lv_sub hl [5, 6, 7, 8, 9, 0] rfl)
            · have i_8 := z_eq c_8
              rw [tI_0] at i_8
              have h12 := hz3.mp c_8
              have h1z : r1.toInt = 0 := by omega
              have h2z : r2.toInt = 0 := by omega
              have hz8 : zsg (a.toInt * d.toInt - c9.toInt * e9.toInt) = 0 := by rw [hfe, h1z, h2z, Int.mul_zero, Int.mul_zero]; rfl
              rw [hz8, Int.mul_zero] at hsg
              have hB : (1 : Int32).toInt = zsg (v1.toInt * u2.toInt - u1.toInt * v2.toInt) + 1 := by rw [tI_1]; omega
              refine lv_iconst (v := 1) hx hb dX10_compared_121 (by decide) ?_
              refine lv_goto (tgt := 147) hx hb dX10_compared_122 (by decide) ?_
              refine lv_istore (lv' := [(17, .int 1), (24, .long r2), (22, .long r1), (20, .long w2), (18, .long w1), (8, .long a), (10, .long e9), (12, .long c9), (14, .long d), (16, .int tu)]) hx hb dX10_compared_147 hl (by decide) rfl (fun ls hl => ?_)
              refine lv_goto (tgt := 180) hx hb dX10_compared_149 (by decide) ?_
              refine lv_goto (tgt := 20) hx hb dX10_compared_180 (by decide) ?_
              exact ih_20 a e9 c9 d tu 1 htu (Or.inr ⟨by rw [tI_1]; omega, hB⟩) (by rw [tI_1]; omega) _ _ _ hS (lv_sub hl [5, 6, 7, 8, 9, 0] rfl)
          · have i_7 := z_ne c_7
            rw [tI_0] at i_7
            have h1n : r1.toInt ≠ 0 := fun q9 => c_7 (hz1.mpr q9)
            refine lv_lload hx hb dX10_compared_106 (lv_at hl 0 rfl) ?_
            refine lv_lconst (v := 0) hx hb dX10_compared_108 rfl ?_
            refine W.lcmp hx hb dX10_compared_109 ?_
            refine lv_if_ne (tgt := 152) hx hb dX10_compared_110 (by decide) (fun c_12 => ?_) (fun c_12 => ?_)
            · have i_12 := z_ne c_12
              rw [tI_0] at i_12
              have h2n : r2.toInt ≠ 0 := fun q9 => c_12 (hz2.mpr q9)
              refine lv_lload hx hb dX10_compared_152 (lv_at hl 5 rfl) ?_
              refine lv_lstore (lv' := [(8, .long e9), (24, .long r2), (22, .long r1), (20, .long w2), (18, .long w1), (10, .long e9), (12, .long c9), (14, .long d), (16, .int tu), (17, .int it)]) hx hb dX10_compared_154 hl (by decide) rfl (fun ls hl => ?_)
              refine lv_lload hx hb dX10_compared_156 (lv_at hl 2 rfl) ?_
              refine lv_lstore (lv' := [(10, .long r1), (8, .long e9), (24, .long r2), (22, .long r1), (20, .long w2), (18, .long w1), (12, .long c9), (14, .long d), (16, .int tu), (17, .int it)]) hx hb dX10_compared_158 hl (by decide) rfl (fun ls hl => ?_)
              refine lv_lload hx hb dX10_compared_160 (lv_at hl 7 rfl) ?_
              refine lv_lstore (lv' := [(12, .long d), (10, .long r1), (8, .long e9), (24, .long r2), (22, .long r1), (20, .long w2), (18, .long w1), (14, .long d), (16, .int tu), (17, .int it)]) hx hb dX10_compared_162 hl (by decide) rfl (fun ls hl => ?_)
              refine lv_lload hx hb dX10_compared_164 (lv_at hl 3 rfl) ?_
              refine lv_lstore (lv' := [(14, .long r2), (12, .long d), (10, .long r1), (8, .long e9), (24, .long r2), (22, .long r1), (20, .long w2), (18, .long w1), (16, .int tu), (17, .int it)]) hx hb dX10_compared_166 hl (by decide) rfl (fun ls hl => ?_)
              refine lv_iload hx hb dX10_compared_168 (lv_at hl 8 rfl) ?_
              refine lv_if_ne (tgt := 177) hx hb dX10_compared_170 (by decide) (fun c_13 => ?_) (fun c_13 => ?_)
              · have i_13 := z_ne c_13
                rw [tI_0] at i_13
                have hsg2 : (1 - 2 * (0 : Int32).toInt) * zsg (e9.toInt * r2.toInt - d.toInt * r1.toInt) = zsg (v1.toInt * u2.toInt - u1.toInt * v2.toInt) := by
                  have h9 : tu.toInt = 1 := by omega
                  rw [← hsg, hfe, zsg_neg, h9, tI_0]; omega
                have htu2 : (0 : Int32).toInt = 0 ∨ (0 : Int32).toInt = 1 := Or.inl rfl
                refine lv_iconst (v := 0) hx hb dX10_compared_177 (by decide) ?_
                refine lv_istore (lv' := [(16, .int 0), (14, .long r2), (12, .long d), (10, .long r1), (8, .long e9), (24, .long r2), (22, .long r1), (20, .long w2), (18, .long w1), (17, .int it)]) hx hb dX10_compared_178 hl (by decide) rfl (fun ls hl => ?_)
                refine lv_goto (tgt := 20) hx hb dX10_compared_180 (by decide) ?_
                exact ih_20 e9 r1 d r2 0 it htu2 (Or.inl ⟨hit, by omega, by omega, by omega, by omega, hsg2⟩) (by omega) _ _ _ hS (lv_sub hl [4, 3, 2, 1, 0, 9] rfl)
              · have i_13 := z_eq c_13
                rw [tI_0] at i_13
                have hsg2 : (1 - 2 * (1 : Int32).toInt) * zsg (e9.toInt * r2.toInt - d.toInt * r1.toInt) = zsg (v1.toInt * u2.toInt - u1.toInt * v2.toInt) := by
                  rw [← hsg, hfe, zsg_neg, i_13, tI_1]; omega
                have htu2 : (1 : Int32).toInt = 0 ∨ (1 : Int32).toInt = 1 := Or.inr rfl
                refine lv_iconst (v := 1) hx hb dX10_compared_173 (by decide) ?_
                refine lv_goto (tgt := 178) hx hb dX10_compared_174 (by decide) ?_
                refine lv_istore (lv' := [(16, .int 1), (14, .long r2), (12, .long d), (10, .long r1), (8, .long e9), (24, .long r2), (22, .long r1), (20, .long w2), (18, .long w1), (17, .int it)]) hx hb dX10_compared_178 hl (by decide) rfl (fun ls hl => ?_)
                refine lv_goto (tgt := 20) hx hb dX10_compared_180 (by decide) ?_
                exact ih_20 e9 r1 d r2 1 it htu2 (Or.inl ⟨hit, by omega, by omega, by omega, by omega, hsg2⟩) (by omega) _ _ _ hS (lv_sub hl [4, 3, 2, 1, 0, 9] rfl)
            · have i_12 := z_eq c_12
              rw [tI_0] at i_12
              have h01 : r1.toInt = 0 ∨ r2.toInt = 0 := Or.inr (hz2.mp c_12)
              refine lv_lload hx hb dX10_compared_113 (lv_at hl 1 rfl) ?_
              refine lv_lload hx hb dX10_compared_115 (lv_at hl 0 rfl) ?_
              refine W.lcmp hx hb dX10_compared_117 ?_
              refine lv_if_ne (tgt := 125) hx hb dX10_compared_118 (by decide) (fun c_14 => ?_) (fun c_14 => ?_)
              · have i_14 := z_ne c_14
                rw [tI_0] at i_14
                have h12 : r1.toInt ≠ r2.toInt := fun q9 => c_14 (hz3.mpr q9)
                refine lv_lload hx hb dX10_compared_125 (lv_at hl 1 rfl) ?_
                refine lv_lconst (v := 0) hx hb dX10_compared_127 rfl ?_
                refine W.lcmp hx hb dX10_compared_128 ?_
                refine lv_if_ne (tgt := 136) hx hb dX10_compared_129 (by decide) (fun c_15 => ?_) (fun c_15 => ?_)
                · have i_15 := z_ne c_15
                  rw [tI_0] at i_15
                  have h1n : r1.toInt ≠ 0 := fun q9 => c_15 (hz1.mpr q9)
                  have h2z : r2.toInt = 0 := by omega
                  have hz8 : zsg (a.toInt * d.toInt - c9.toInt * e9.toInt) = 1 := zsg_pos (by
                    rw [hfe, h2z, Int.mul_zero]
                    have := Int.mul_pos (show 0 < d.toInt by omega) (show 0 < r1.toInt by omega); omega)
                  rw [hz8] at hsg
                  refine lv_iconst (v := 0) hx hb dX10_compared_136 (by decide) ?_
                  refine lv_iload hx hb dX10_compared_137 (lv_at hl 8 rfl) ?_
                  refine lv_icmp_ne (tgt := 146) hx hb dX10_compared_139 (by decide) (fun c_16 => ?_) (fun c_16 => ?_)
                  · have i_16 := z_ne c_16
                    rw [tI_0] at i_16
                    have hB : (0 : Int32).toInt = zsg (v1.toInt * u2.toInt - u1.toInt * v2.toInt) + 1 := by rw [tI_0]; omega
                    refine lv_iconst (v := 0) hx hb dX10_compared_146 (by decide) ?_
                    refine lv_istore (lv' := [(17, .int 0), (24, .long r2), (22, .long r1), (20, .long w2), (18, .long w1), (8, .long a), (10, .long e9), (12, .long c9), (14, .long d), (16, .int tu)]) hx hb dX10_compared_147 hl (by decide) rfl (fun ls hl => ?_)
                    refine lv_goto (tgt := 180) hx hb dX10_compared_149 (by decide) ?_
                    refine lv_goto (tgt := 20) hx hb dX10_compared_180 (by decide) ?_
                    exact ih_20 a e9 c9 d tu 0 htu (Or.inr ⟨by rw [tI_0]; omega, hB⟩) (by rw [tI_0]; omega) _ _ _ hS (lv_sub hl [5, 6, 7, 8, 9, 0] rfl)
                  · have i_16 := z_eq c_16
                    rw [tI_0] at i_16
                    have hB : (2 : Int32).toInt = zsg (v1.toInt * u2.toInt - u1.toInt * v2.toInt) + 1 := by rw [tI_2]; omega
                    refine lv_iconst (v := 2) hx hb dX10_compared_142 (by decide) ?_
                    refine lv_goto (tgt := 147) hx hb dX10_compared_143 (by decide) ?_
                    refine lv_istore (lv' := [(17, .int 2), (24, .long r2), (22, .long r1), (20, .long w2), (18, .long w1), (8, .long a), (10, .long e9), (12, .long c9), (14, .long d), (16, .int tu)]) hx hb dX10_compared_147 hl (by decide) rfl (fun ls hl => ?_)
                    refine lv_goto (tgt := 180) hx hb dX10_compared_149 (by decide) ?_
                    refine lv_goto (tgt := 20) hx hb dX10_compared_180 (by decide) ?_
                    exact ih_20 a e9 c9 d tu 2 htu (Or.inr ⟨by rw [tI_2]; omega, hB⟩) (by rw [tI_2]; omega) _ _ _ hS (lv_sub hl [5, 6, 7, 8, 9, 0] rfl)
                · have i_15 := z_eq c_15
                  rw [tI_0] at i_15
                  have h1z := hz1.mp c_15
                  have hz8 : zsg (a.toInt * d.toInt - c9.toInt * e9.toInt) = -1 := zsg_lt (by
                    rw [hfe, h1z, Int.mul_zero]
                    have := Int.mul_pos (show 0 < e9.toInt by omega) (show 0 < r2.toInt by omega); omega)
                  rw [hz8] at hsg
                  refine lv_iconst (v := 1) hx hb dX10_compared_132 (by decide) ?_
                  refine lv_goto (tgt := 137) hx hb dX10_compared_133 (by decide) ?_
                  refine lv_iload hx hb dX10_compared_137 (lv_at hl 8 rfl) ?_
                  refine lv_icmp_ne (tgt := 146) hx hb dX10_compared_139 (by decide) (fun c_17 => ?_) (fun c_17 => ?_)
                  · have i_17 := z_ne c_17
                    rw [tI_1] at i_17
                    have hB : (0 : Int32).toInt = zsg (v1.toInt * u2.toInt - u1.toInt * v2.toInt) + 1 := by rw [tI_0]; omega
                    refine lv_iconst (v := 0) hx hb dX10_compared_146 (by decide) ?_
                    refine lv_istore (lv' := [(17, .int 0), (24, .long r2), (22, .long r1), (20, .long w2), (18, .long w1), (8, .long a), (10, .long e9), (12, .long c9), (14, .long d), (16, .int tu)]) hx hb dX10_compared_147 hl (by decide) rfl (fun ls hl => ?_)
                    refine lv_goto (tgt := 180) hx hb dX10_compared_149 (by decide) ?_
                    refine lv_goto (tgt := 20) hx hb dX10_compared_180 (by decide) ?_
                    exact ih_20 a e9 c9 d tu 0 htu (Or.inr ⟨by rw [tI_0]; omega, hB⟩) (by rw [tI_0]; omega) _ _ _ hS (lv_sub hl [5, 6, 7, 8, 9, 0] rfl)
                  · have i_17 := z_eq c_17
                    rw [tI_1] at i_17
                    have hB : (2 : Int32).toInt = zsg (v1.toInt * u2.toInt - u1.toInt * v2.toInt) + 1 := by rw [tI_2]; omega
                    refine lv_iconst (v := 2) hx hb dX10_compared_142 (by decide) ?_
                    refine lv_goto (tgt := 147) hx hb dX10_compared_143 (by decide) ?_
                    refine lv_istore (lv' := [(17, .int 2), (24, .long r2), (22, .long r1), (20, .long w2), (18, .long w1), (8, .long a), (10, .long e9), (12, .long c9), (14, .long d), (16, .int tu)]) hx hb dX10_compared_147 hl (by decide) rfl (fun ls hl => ?_)
                    refine lv_goto (tgt := 180) hx hb dX10_compared_149 (by decide) ?_
                    refine lv_goto (tgt := 20) hx hb dX10_compared_180 (by decide) ?_
                    exact ih_20 a e9 c9 d tu 2 htu (Or.inr ⟨by rw [tI_2]; omega, hB⟩) (by rw [tI_2]; omega) _ _ _ hS (lv_sub hl [5, 6, 7, 8, 9, 0] rfl)
              · have i_14 := z_eq c_14
                rw [tI_0] at i_14
                have h12 := hz3.mp c_14
                have h1z : r1.toInt = 0 := by omega
                have h2z : r2.toInt = 0 := by omega
                have hz8 : zsg (a.toInt * d.toInt - c9.toInt * e9.toInt) = 0 := by rw [hfe, h1z, h2z, Int.mul_zero, Int.mul_zero]; rfl
                rw [hz8, Int.mul_zero] at hsg
                have hB : (1 : Int32).toInt = zsg (v1.toInt * u2.toInt - u1.toInt * v2.toInt) + 1 := by rw [tI_1]; omega
                refine lv_iconst (v := 1) hx hb dX10_compared_121 (by decide) ?_
                refine lv_goto (tgt := 147) hx hb dX10_compared_122 (by decide) ?_
                refine lv_istore (lv' := [(17, .int 1), (24, .long r2), (22, .long r1), (20, .long w2), (18, .long w1), (8, .long a), (10, .long e9), (12, .long c9), (14, .long d), (16, .int tu)]) hx hb dX10_compared_147 hl (by decide) rfl (fun ls hl => ?_)
                refine lv_goto (tgt := 180) hx hb dX10_compared_149 (by decide) ?_
                refine lv_goto (tgt := 20) hx hb dX10_compared_180 (by decide) ?_
                exact ih_20 a e9 c9 d tu 1 htu (Or.inr ⟨by rw [tI_1]; omega, hB⟩) (by rw [tI_1]; omega) _ _ _ hS (lv_sub hl [5, 6, 7, 8, 9, 0] rfl)
        · have i_6 := z_ne c_6
          rw [tI_0] at i_6
          have hww : w1.toInt ≠ w2.toInt := fun q9 => c_6 (z_cmp0.mpr q9)
          refine lv_lload hx hb dX10_compared_71 (lv_at hl 3 rfl) ?_
          refine lv_lload hx hb dX10_compared_73 (lv_at hl 2 rfl) ?_
          refine W.lcmp hx hb dX10_compared_75 ?_
          refine lv_if_ge (tgt := 83) hx hb dX10_compared_76 (by decide) (fun c_18 => ?_) (fun c_18 => ?_)
          · have i_18 := z_le c_18
            rw [tI_0] at i_18
            have hlt9 : w2.toInt < w1.toInt := by omega
            have hz8 := zsg_pos (hfd.1 hlt9)
            rw [hz8] at hsg
            refine lv_iconst (v := 0) hx hb dX10_compared_83 (by decide) ?_
            refine lv_iload hx hb dX10_compared_84 (lv_at hl 8 rfl) ?_
            refine lv_icmp_ne (tgt := 93) hx hb dX10_compared_86 (by decide) (fun c_19 => ?_) (fun c_19 => ?_)
            · have i_19 := z_ne c_19
              rw [tI_0] at i_19
              have hB : (0 : Int32).toInt = zsg (v1.toInt * u2.toInt - u1.toInt * v2.toInt) + 1 := by rw [tI_0]; omega
              refine lv_iconst (v := 0) hx hb dX10_compared_93 (by decide) ?_
              refine lv_istore (lv' := [(17, .int 0), (24, .long r2), (22, .long r1), (20, .long w2), (18, .long w1), (8, .long a), (10, .long e9), (12, .long c9), (14, .long d), (16, .int tu)]) hx hb dX10_compared_94 hl (by decide) rfl (fun ls hl => ?_)
              refine lv_goto (tgt := 180) hx hb dX10_compared_96 (by decide) ?_
              refine lv_goto (tgt := 20) hx hb dX10_compared_180 (by decide) ?_
              exact ih_20 a e9 c9 d tu 0 htu (Or.inr ⟨by rw [tI_0]; omega, hB⟩) (by rw [tI_0]; omega) _ _ _ hS (lv_sub hl [5, 6, 7, 8, 9, 0] rfl)
            · have i_19 := z_eq c_19
              rw [tI_0] at i_19
              have hB : (2 : Int32).toInt = zsg (v1.toInt * u2.toInt - u1.toInt * v2.toInt) + 1 := by rw [tI_2]; omega
              refine lv_iconst (v := 2) hx hb dX10_compared_89 (by decide) ?_
              refine lv_goto (tgt := 94) hx hb dX10_compared_90 (by decide) ?_
              refine lv_istore (lv' := [(17, .int 2), (24, .long r2), (22, .long r1), (20, .long w2), (18, .long w1), (8, .long a), (10, .long e9), (12, .long c9), (14, .long d), (16, .int tu)]) hx hb dX10_compared_94 hl (by decide) rfl (fun ls hl => ?_)
              refine lv_goto (tgt := 180) hx hb dX10_compared_96 (by decide) ?_
              refine lv_goto (tgt := 20) hx hb dX10_compared_180 (by decide) ?_
              exact ih_20 a e9 c9 d tu 2 htu (Or.inr ⟨by rw [tI_2]; omega, hB⟩) (by rw [tI_2]; omega) _ _ _ hS (lv_sub hl [5, 6, 7, 8, 9, 0] rfl)
          · have i_18 := z_nle c_18
            rw [tI_0] at i_18
            have hlt9 : w1.toInt < w2.toInt := by omega
            have hz8 := zsg_lt (hfd.2.1 hlt9)
            rw [hz8] at hsg
            refine lv_iconst (v := 1) hx hb dX10_compared_79 (by decide) ?_
            refine lv_goto (tgt := 84) hx hb dX10_compared_80 (by decide) ?_
            refine lv_iload hx hb dX10_compared_84 (lv_at hl 8 rfl) ?_
            refine lv_icmp_ne (tgt := 93) hx hb dX10_compared_86 (by decide) (fun c_20 => ?_) (fun c_20 => ?_)
            · have i_20 := z_ne c_20
              rw [tI_1] at i_20
              have hB : (0 : Int32).toInt = zsg (v1.toInt * u2.toInt - u1.toInt * v2.toInt) + 1 := by rw [tI_0]; omega
              refine lv_iconst (v := 0) hx hb dX10_compared_93 (by decide) ?_
              refine lv_istore (lv' := [(17, .int 0), (24, .long r2), (22, .long r1), (20, .long w2), (18, .long w1), (8, .long a), (10, .long e9), (12, .long c9), (14, .long d), (16, .int tu)]) hx hb dX10_compared_94 hl (by decide) rfl (fun ls hl => ?_)
              refine lv_goto (tgt := 180) hx hb dX10_compared_96 (by decide) ?_
              refine lv_goto (tgt := 20) hx hb dX10_compared_180 (by decide) ?_
              exact ih_20 a e9 c9 d tu 0 htu (Or.inr ⟨by rw [tI_0]; omega, hB⟩) (by rw [tI_0]; omega) _ _ _ hS (lv_sub hl [5, 6, 7, 8, 9, 0] rfl)
            · have i_20 := z_eq c_20
              rw [tI_1] at i_20
              have hB : (2 : Int32).toInt = zsg (v1.toInt * u2.toInt - u1.toInt * v2.toInt) + 1 := by rw [tI_2]; omega
              refine lv_iconst (v := 2) hx hb dX10_compared_89 (by decide) ?_
              refine lv_goto (tgt := 94) hx hb dX10_compared_90 (by decide) ?_
              refine lv_istore (lv' := [(17, .int 2), (24, .long r2), (22, .long r1), (20, .long w2), (18, .long w1), (8, .long a), (10, .long e9), (12, .long c9), (14, .long d), (16, .int tu)]) hx hb dX10_compared_94 hl (by decide) rfl (fun ls hl => ?_)
              refine lv_goto (tgt := 180) hx hb dX10_compared_96 (by decide) ?_
              refine lv_goto (tgt := 20) hx hb dX10_compared_180 (by decide) ?_
              exact ih_20 a e9 c9 d tu 2 htu (Or.inr ⟨by rw [tI_2]; omega, hB⟩) (by rw [tI_2]; omega) _ _ _ hS (lv_sub hl [5, 6, 7, 8, 9, 0] rfl)
  exact hcut_20 (v2.toInt.toNat + (2 - (-1 : Int32).toInt).toNat + 1) v1 v2 u1 u2 0 (-1 : Int32) (Or.inl rfl) (Or.inl ⟨rfl, hb1, hd1, ha1, hc1, by rw [tI_0]; show (1 - 2 * 0) * _ = _; rw [Int.mul_zero, Int.sub_zero, Int.one_mul]⟩) (Nat.lt_succ_self _) _ _ _ hS (lv_sub hl [5, 4, 3, 2, 1, 0] rfl)

theorem in_X10_value_10 : ∀ w ∈ wsX100, w ∈ wsX10_value := by decide +kernel
set_option maxHeartbeats 4000000 in
set_option maxRecDepth 100000 in
theorem m_value (Z : zT) (g : Nat → va_E) (sg : Nat → zb) (rw9 : Nat → zr) (hW : z_mw Z g sg rw9) (x y u : Int32) : z_Ml Z yX10_value wsX10_value 2 58 [.ref (Z.2.1 41), .int x, .int y, .int u] g (fun r g1 => z_pml Z g (sp_value (sg, rw9) x.toInt y.toInt u.toInt) r g1) := by
  intro l sz
  obtain ⟨v4, v5, v6, v15, v16, v17, hM9⟩ := hW.1.mp
  have hM := hM9.mr
  obtain ⟨fu, fq, fm, fd, h_m, h_u, h_q, h_n9, h_g, hMN, hSg⟩ := id hM9
  have hM41 : 41 < Z.1 := by omega
  have hM42 : 42 < Z.1 := by omega
  have hM43 : 43 < Z.1 := by omega
  have hM44 : 44 < Z.1 := by omega
  have hM45 : 45 < Z.1 := by omega
  obtain ⟨-, -, -, -, -, -, ⟨fl, h_l, hfl⟩, ⟨fe, h_e, hfe⟩, ⟨su, h_su⟩, -, -⟩ := id hW.2
  have hM52 : 52 < Z.1 := by omega
  have hM53 : 53 < Z.1 := by omega
  have hM54 : 54 < Z.1 := by omega
  refine z_enter (maxL := 4) (ret := (some .long)) (lv := [(0, .ref (Z.2.1 41)), (1, .int x), (2, .int y), (3, .int u)]) (plainFor_of_name (by decide +kernel)) rfl (fun ls h => by subst h; exact lv_entry [.ref (Z.2.1 41), .int x, .int y, .int u] (n := 4) (Nat.le_of_ble_eq_true rfl)) ?_
  intro p e s m args below meth c hx hb hml hr hlocks hown hts hK hS hsz ls hl
  refine lv_iload_n hx hb dX10_value_0 rfl (lv_at hl 1 rfl) ?_
  refine z_calli (z_runS (As := [.int x]) (rest := []) ⟨hx, hb, hml, hown, hts⟩ hK hS ((m_noSystem Z g x) l _) gX10_value_X10_noSystem rfl 1 (by decide +kernel) ⟨Nat.le_of_ble_eq_true rfl, Nat.le_of_ble_eq_true rfl⟩ rfl hl.1 rfl (Nat.le_of_ble_eq_true rfl) dX10_value_1 ⟨Nat.le_of_ble_eq_true rfl, Nat.le_of_ble_eq_true rfl⟩) hS (fun rn g_1 H locs hp_2 hS => ?_)
  obtain ⟨rfl, hp_2⟩ := hp_2
  have hrn := hp_2
  refine lv_if_ne (tgt := 14) hx hb dX10_value_4 (by decide) (fun c_3 => ?_) (fun c_3 => ?_)
  · have i_3 := z_ne c_3
    rw [tI_0] at i_3
    have hnv := zbo_t hrn c_3
    refine z_calll (z_runS (As := []) (rest := []) ⟨hx, hb, hml, hown, hts⟩ hK hS ((m_lost Z g) l _) gX10_value_X10_lost rfl 0 (by decide +kernel) ⟨Nat.le_of_ble_eq_true rfl, Nat.le_of_ble_eq_true rfl⟩ rfl hl.1 rfl (Nat.le_of_ble_eq_true rfl) dX10_value_14 ⟨Nat.le_of_ble_eq_true rfl, Nat.le_of_ble_eq_true rfl⟩) hS (fun rl g_4 H locs hp_5 hS => ?_)
    obtain ⟨rfl, hp_5⟩ := hp_5
    have hrl := hp_5
    refine z_lret hx hb hr hlocks hS ?_ dX10_value_17
    show z_pml Z g (sp_value (sg, rw9) x.toInt y.toInt u.toInt) _ _
    unfold sp_value
    rw [zite_f (fun h9 => hnv h9.1)]
    exact ⟨hrl, hW, z_fr.rf⟩
  · have i_3 := z_eq c_3
    rw [tI_0] at i_3
    have hzs : zsy x.toInt := Classical.byContradiction (zbo_f hrn c_3)
    obtain ⟨s1, es1, hs1x, -⟩ := z_nI_of (x := x) hzs.1
    subst es1
    have hs1 : s1 < 2 := by have := hzs.2; omega
    have htn1 : (nI s1).toInt.toNat = s1 := by omega
    obtain ⟨hok, hp, hq, hm, hd⟩ := hSg s1 hs1
    have hPb := zP_bd hok
    have hn12 := hok.2.2.2.1
    have hq1 := hok.2.1
    refine lv_iload_n hx hb dX10_value_7 rfl (lv_at hl 2 rfl) ?_
    refine z_calli (z_runS (As := [.int y]) (rest := []) ⟨hx, hb, hml, hown, hts⟩ hK hS ((m_noRow Z g y) l _) gX10_value_X10_noRow rfl 1 (by decide +kernel) ⟨Nat.le_of_ble_eq_true rfl, Nat.le_of_ble_eq_true rfl⟩ rfl hl.1 rfl (Nat.le_of_ble_eq_true rfl) dX10_value_8 ⟨Nat.le_of_ble_eq_true rfl, Nat.le_of_ble_eq_true rfl⟩) hS (fun rqa g_6 H locs hp_7 hS => ?_)
    obtain ⟨rfl, hp_7⟩ := hp_7
    have hrqa := hp_7
    refine lv_if_eq (tgt := 18) hx hb dX10_value_11 (by decide) (fun c_8 => ?_) (fun c_8 => ?_)
    · have i_8 := z_eq c_8
      rw [tI_0] at i_8
      have hzr1 : zro y.toInt := Classical.byContradiction (zbo_f hrqa c_8)
      obtain ⟨r1, er1, hr1x, -⟩ := z_nI_of (x := y) hzr1.1
      subst er1
      have hr1 : r1 < 3 := by have := hzr1.2; omega
      have htr1 : (nI r1).toInt.toNat = r1 := by omega
      obtain ⟨hlr1, hlr1b⟩ := hfl r1 hr1
      have hev1 := hfe r1 hr1
      have hzb1 := zeg_in (hfe r1 hr1)
      refine lv_aload_n hx hb dX10_value_18 rfl (lv_at hl 0 rfl) ?_
      refine lv_iload_n hx hb dX10_value_19 rfl (lv_at hl 1 rfl) ?_
      refine lv_iload_n hx hb dX10_value_20 rfl (lv_at hl 2 rfl) ?_
      refine z_callv (z_runV (As := [.int (nI s1), .int (nI r1)]) (rest := []) ⟨hx, hb, hml, hown, hts⟩ hK hS ((m_findValue Z g sg _ _ _ _ _ _ ⟨fu, fq, fm, fd, h_m, h_u, h_q, h_n9, h_g, hMN, hSg⟩ s1 hs1 rw9 hW.2 r1 hr1) l _) gX10_value_X10_findValue rfl 2 (by decide +kernel) ⟨Nat.le_of_ble_eq_true rfl, Nat.le_of_ble_eq_true rfl⟩ h_m hM41 rfl rfl hl.1 rfl (Nat.le_of_ble_eq_true rfl) dX10_value_21 ⟨Nat.le_of_ble_eq_true rfl, Nat.le_of_ble_eq_true rfl⟩) hS (fun g_10 H locs hp_11 hS => ?_)
      obtain ⟨o1, b1, ⟨_, _, _, _, h_m, -, -, -, -, -, -⟩, ho1, hb1, hfr_12⟩ := hp_11
      have h_u := (hfr_12 _ (by omega)).trans h_u
      have h_q := (hfr_12 _ (by omega)).trans h_q
      have h_n9 := (hfr_12 _ (by omega)).trans h_n9
      have h_g := (hfr_12 _ (by omega)).trans h_g
      have h_l := (hfr_12 _ (by omega)).trans h_l
      have h_e := (hfr_12 _ (by omega)).trans h_e
      have h_su := (hfr_12 _ (by omega)).trans h_su
      have hfa : z_fr 41 1 g g_10 := hfr_12
      have hv1 := zv_bd (hSg s1 hs1).1 (w := rw9 r1) hlr1b (fun i hi => (hev1 i hi).2)
      rw [← ho1, ← hb1] at hv1
      refine lv_iload_n hx hb dX10_value_24 rfl (lv_at hl 3 rfl) ?_
      refine lv_if_eq (tgt := 35) hx hb dX10_value_25 (by decide) (fun c_13 => ?_) (fun c_13 => ?_)
      · have i_13 := z_eq c_13
        rw [tI_0] at i_13
        have hden : u.toInt = 0 := i_13
        refine lv_aload_n hx hb dX10_value_35 rfl (lv_at hl 0 rfl) ?_
        refine z_get (own := RX10) (C := RX10) (T := TX10) (N := 21) hx hb hts in_X10_value_10 hown hK hS h_m hM41 rfl 15 (by decide) (List.mem_of_getElem? (i := 2) rfl) rfl rfl dX10_value_36 ?_
        refine z_lret hx hb hr hlocks hS ?_ dX10_value_39
        show z_pml Z g (sp_value (sg, rw9) (nI s1).toInt (nI r1).toInt u.toInt) _ _
        unfold sp_value
        rw [zite_t ⟨hzs, hzr1⟩, htn1, htr1, zite_t hden]
        have hfz : z_fr 41 1 g g_10 := (z_fr.rf.tr (hfr_12.wide (by omega) (by omega)))
        exact ⟨ho1, ⟨⟨_, _, _, _, _, _, fu, fq, fm, fd, h_m, h_u, h_q, h_n9, h_g, hMN, hSg⟩, hW.2.congr (fun j h1 h2 => hfz j (by omega))⟩, hfz.wide (by omega) (by omega)⟩
      · have i_13 := z_ne c_13
        rw [tI_0] at i_13
        have hden : ¬ u.toInt = 0 := i_13
        refine lv_aload_n hx hb dX10_value_28 rfl (lv_at hl 0 rfl) ?_
        refine z_get (own := RX10) (C := RX10) (T := TX10) (N := 21) hx hb hts in_X10_value_10 hown hK hS h_m hM41 rfl 16 (by decide) (List.mem_of_getElem? (i := 1) rfl) rfl rfl dX10_value_29 ?_
        refine lv_goto (tgt := 39) hx hb dX10_value_32 (by decide) ?_
        refine z_lret hx hb hr hlocks hS ?_ dX10_value_39
        show z_pml Z g (sp_value (sg, rw9) (nI s1).toInt (nI r1).toInt u.toInt) _ _
        unfold sp_value
        rw [zite_t ⟨hzs, hzr1⟩, htn1, htr1, zite_f hden]
        have hfz : z_fr 41 1 g g_10 := (z_fr.rf.tr (hfr_12.wide (by omega) (by omega)))
        exact ⟨hb1, ⟨⟨_, _, _, _, _, _, fu, fq, fm, fd, h_m, h_u, h_q, h_n9, h_g, hMN, hSg⟩, hW.2.congr (fun j h1 h2 => hfz j (by omega))⟩, hfz.wide (by omega) (by omega)⟩
    · have i_8 := z_ne c_8
      rw [tI_0] at i_8
      have hnr := zbo_t hrqa c_8
      refine z_calll (z_runS (As := []) (rest := []) ⟨hx, hb, hml, hown, hts⟩ hK hS ((m_lost Z g) l _) gX10_value_X10_lost rfl 0 (by decide +kernel) ⟨Nat.le_of_ble_eq_true rfl, Nat.le_of_ble_eq_true rfl⟩ rfl hl.1 rfl (Nat.le_of_ble_eq_true rfl) dX10_value_14 ⟨Nat.le_of_ble_eq_true rfl, Nat.le_of_ble_eq_true rfl⟩) hS (fun rl g_14 H locs hp_15 hS => ?_)
      obtain ⟨rfl, hp_15⟩ := hp_15
      have hrl := hp_15
      refine z_lret hx hb hr hlocks hS ?_ dX10_value_17
      show z_pml Z g (sp_value (sg, rw9) (nI s1).toInt y.toInt u.toInt) _ _
      unfold sp_value
      rw [zite_f (fun h9 => hnr h9.2)]
      exact ⟨hrl, hW, z_fr.rf⟩

theorem in_X10_compare_10 : ∀ w ∈ wsX100, w ∈ wsX10_compare := by decide +kernel
set_option maxHeartbeats 4000000 in
set_option maxRecDepth 100000 in
theorem m_compare (Z : zT) (g : Nat → va_E) (sg : Nat → zb) (rw9 : Nat → zr) (hW : z_mw Z g sg rw9) (x y z u : Int32) : z_Mi Z yX10_compare wsX10_compare 2 70 [.ref (Z.2.1 41), .int x, .int y, .int z, .int u] g (fun r g1 => z_pm Z g (sp_compare (sg, rw9) x.toInt y.toInt z.toInt u.toInt) r g1) := by
  intro l sz
  obtain ⟨v4, v5, v6, v15, v16, v17, hM9⟩ := hW.1.mp
  have hM := hM9.mr
  obtain ⟨fu, fq, fm, fd, h_m, h_u, h_q, h_n9, h_g, hMN, hSg⟩ := id hM9
  have hM41 : 41 < Z.1 := by omega
  have hM42 : 42 < Z.1 := by omega
  have hM43 : 43 < Z.1 := by omega
  have hM44 : 44 < Z.1 := by omega
  have hM45 : 45 < Z.1 := by omega
  obtain ⟨-, -, -, -, -, -, ⟨fl, h_l, hfl⟩, ⟨fe, h_e, hfe⟩, ⟨su, h_su⟩, -, -⟩ := id hW.2
  have hM52 : 52 < Z.1 := by omega
  have hM53 : 53 < Z.1 := by omega
  have hM54 : 54 < Z.1 := by omega
  refine z_enter (maxL := 9) (ret := (some .int)) (lv := [(0, .ref (Z.2.1 41)), (1, .int x), (2, .int y), (3, .int z), (4, .int u)]) (plainFor_of_name (by decide +kernel)) rfl (fun ls h => by subst h; exact lv_entry [.ref (Z.2.1 41), .int x, .int y, .int z, .int u] (n := 9) (Nat.le_of_ble_eq_true rfl)) ?_
  intro p e s m args below meth c hx hb hml hr hlocks hown hts hK hS hsz ls hl
  refine lv_iload_n hx hb dX10_compare_0 rfl (lv_at hl 1 rfl) ?_
  refine z_calli (z_runS (As := [.int x]) (rest := []) ⟨hx, hb, hml, hown, hts⟩ hK hS ((m_noSystem Z g x) l _) gX10_compare_X10_noSystem rfl 1 (by decide +kernel) ⟨Nat.le_of_ble_eq_true rfl, Nat.le_of_ble_eq_true rfl⟩ rfl hl.1 rfl (Nat.le_of_ble_eq_true rfl) dX10_compare_1 ⟨Nat.le_of_ble_eq_true rfl, Nat.le_of_ble_eq_true rfl⟩) hS (fun rn g_1 H locs hp_2 hS => ?_)
  obtain ⟨rfl, hp_2⟩ := hp_2
  have hrn := hp_2
  refine lv_if_ne (tgt := 29) hx hb dX10_compare_4 (by decide) (fun c_3 => ?_) (fun c_3 => ?_)
  · have i_3 := z_ne c_3
    rw [tI_0] at i_3
    have hnv := zbo_t hrn c_3
    refine lv_ldc (v := (-1000001)) hx hb hown (hts _ (List.mem_of_getElem? (i := 1) rfl)) dX10_compare_29 ?_
    refine z_iret hx hb hr hlocks hS ?_ dX10_compare_31
    show z_pm Z g (sp_compare (sg, rw9) x.toInt y.toInt z.toInt u.toInt) _ _
    unfold sp_compare
    rw [zite_f (fun h9 => hnv h9.1)]
    exact ⟨rfl, hW, z_fr.rf⟩
  · have i_3 := z_eq c_3
    rw [tI_0] at i_3
    have hzs : zsy x.toInt := Classical.byContradiction (zbo_f hrn c_3)
    obtain ⟨s1, es1, hs1x, -⟩ := z_nI_of (x := x) hzs.1
    subst es1
    have hs1 : s1 < 2 := by have := hzs.2; omega
    have htn1 : (nI s1).toInt.toNat = s1 := by omega
    obtain ⟨hok, hp, hq, hm, hd⟩ := hSg s1 hs1
    have hPb := zP_bd hok
    have hn12 := hok.2.2.2.1
    have hq1 := hok.2.1
    refine lv_iload_n hx hb dX10_compare_7 rfl (lv_at hl 3 rfl) ?_
    refine z_calli (z_runS (As := [.int z]) (rest := []) ⟨hx, hb, hml, hown, hts⟩ hK hS ((m_noSystem Z g z) l _) gX10_compare_X10_noSystem rfl 1 (by decide +kernel) ⟨Nat.le_of_ble_eq_true rfl, Nat.le_of_ble_eq_true rfl⟩ rfl hl.1 rfl (Nat.le_of_ble_eq_true rfl) dX10_compare_8 ⟨Nat.le_of_ble_eq_true rfl, Nat.le_of_ble_eq_true rfl⟩) hS (fun rn2 g_4 H locs hp_5 hS => ?_)
    obtain ⟨rfl, hp_5⟩ := hp_5
    have hrn2 := hp_5
    refine lv_if_ne (tgt := 29) hx hb dX10_compare_11 (by decide) (fun c_6 => ?_) (fun c_6 => ?_)
    · have i_6 := z_ne c_6
      rw [tI_0] at i_6
      have hnv2 := zbo_t hrn2 c_6
      refine lv_ldc (v := (-1000001)) hx hb hown (hts _ (List.mem_of_getElem? (i := 1) rfl)) dX10_compare_29 ?_
      refine z_iret hx hb hr hlocks hS ?_ dX10_compare_31
      show z_pm Z g (sp_compare (sg, rw9) (nI s1).toInt y.toInt z.toInt u.toInt) _ _
      unfold sp_compare
      rw [zite_f (fun h9 => hnv2 h9.2.2.1)]
      exact ⟨rfl, hW, z_fr.rf⟩
    · have i_6 := z_eq c_6
      rw [tI_0] at i_6
      have hzs2 : zsy z.toInt := Classical.byContradiction (zbo_f hrn2 c_6)
      obtain ⟨s2, es2, hs2x, -⟩ := z_nI_of (x := z) hzs2.1
      subst es2
      have hs2 : s2 < 2 := by have := hzs2.2; omega
      have htn2 : (nI s2).toInt.toNat = s2 := by omega
      refine lv_iload_n hx hb dX10_compare_14 rfl (lv_at hl 2 rfl) ?_
      refine z_calli (z_runS (As := [.int y]) (rest := []) ⟨hx, hb, hml, hown, hts⟩ hK hS ((m_noRow Z g y) l _) gX10_compare_X10_noRow rfl 1 (by decide +kernel) ⟨Nat.le_of_ble_eq_true rfl, Nat.le_of_ble_eq_true rfl⟩ rfl hl.1 rfl (Nat.le_of_ble_eq_true rfl) dX10_compare_15 ⟨Nat.le_of_ble_eq_true rfl, Nat.le_of_ble_eq_true rfl⟩) hS (fun rqa g_7 H locs hp_8 hS => ?_)
      obtain ⟨rfl, hp_8⟩ := hp_8
      have hrqa := hp_8
      refine lv_if_ne (tgt := 29) hx hb dX10_compare_18 (by decide) (fun c_9 => ?_) (fun c_9 => ?_)
      · have i_9 := z_ne c_9
        rw [tI_0] at i_9
        have hnr := zbo_t hrqa c_9
        refine lv_ldc (v := (-1000001)) hx hb hown (hts _ (List.mem_of_getElem? (i := 1) rfl)) dX10_compare_29 ?_
        refine z_iret hx hb hr hlocks hS ?_ dX10_compare_31
        show z_pm Z g (sp_compare (sg, rw9) (nI s1).toInt y.toInt (nI s2).toInt u.toInt) _ _
        unfold sp_compare
        rw [zite_f (fun h9 => hnr h9.2.1)]
        exact ⟨rfl, hW, z_fr.rf⟩
      · have i_9 := z_eq c_9
        rw [tI_0] at i_9
        have hzr1 : zro y.toInt := Classical.byContradiction (zbo_f hrqa c_9)
        obtain ⟨r1, er1, hr1x, -⟩ := z_nI_of (x := y) hzr1.1
        subst er1
        have hr1 : r1 < 3 := by have := hzr1.2; omega
        have htr1 : (nI r1).toInt.toNat = r1 := by omega
        obtain ⟨hlr1, hlr1b⟩ := hfl r1 hr1
        have hev1 := hfe r1 hr1
        have hzb1 := zeg_in (hfe r1 hr1)
        refine lv_iload hx hb dX10_compare_21 (lv_at hl 4 rfl) ?_
        refine z_calli (z_runS (As := [.int u]) (rest := []) ⟨hx, hb, hml, hown, hts⟩ hK hS ((m_noRow Z g u) l _) gX10_compare_X10_noRow rfl 1 (by decide +kernel) ⟨Nat.le_of_ble_eq_true rfl, Nat.le_of_ble_eq_true rfl⟩ rfl hl.1 rfl (Nat.le_of_ble_eq_true rfl) dX10_compare_23 ⟨Nat.le_of_ble_eq_true rfl, Nat.le_of_ble_eq_true rfl⟩) hS (fun rqc g_10 H locs hp_11 hS => ?_)
        obtain ⟨rfl, hp_11⟩ := hp_11
        have hrqc := hp_11
        refine lv_if_eq (tgt := 32) hx hb dX10_compare_26 (by decide) (fun c_12 => ?_) (fun c_12 => ?_)
        · have i_12 := z_eq c_12
          rw [tI_0] at i_12
          have hzr2 : zro u.toInt := Classical.byContradiction (zbo_f hrqc c_12)
          obtain ⟨r2, er2, hr2x, -⟩ := z_nI_of (x := u) hzr2.1
          subst er2
          have hr2 : r2 < 3 := by have := hzr2.2; omega
          have htr2 : (nI r2).toInt.toNat = r2 := by omega
          obtain ⟨hlr2, hlr2b⟩ := hfl r2 hr2
          have hev2 := hfe r2 hr2
          have hzb2 := zeg_in (hfe r2 hr2)
          refine lv_aload_n hx hb dX10_compare_32 rfl (lv_at hl 0 rfl) ?_
          refine lv_iload_n hx hb dX10_compare_33 rfl (lv_at hl 1 rfl) ?_
          refine lv_iload_n hx hb dX10_compare_34 rfl (lv_at hl 2 rfl) ?_
          refine z_callv (z_runV (As := [.int (nI s1), .int (nI r1)]) (rest := []) ⟨hx, hb, hml, hown, hts⟩ hK hS ((m_findValue Z g sg _ _ _ _ _ _ ⟨fu, fq, fm, fd, h_m, h_u, h_q, h_n9, h_g, hMN, hSg⟩ s1 hs1 rw9 hW.2 r1 hr1) l _) gX10_compare_X10_findValue rfl 2 (by decide +kernel) ⟨Nat.le_of_ble_eq_true rfl, Nat.le_of_ble_eq_true rfl⟩ h_m hM41 rfl rfl hl.1 rfl (Nat.le_of_ble_eq_true rfl) dX10_compare_35 ⟨Nat.le_of_ble_eq_true rfl, Nat.le_of_ble_eq_true rfl⟩) hS (fun g_14 H locs hp_15 hS => ?_)
          obtain ⟨o1, b1, ⟨_, _, _, _, h_m, -, -, -, -, -, -⟩, ho1, hb1, hfr_16⟩ := hp_15
          have h_u := (hfr_16 _ (by omega)).trans h_u
          have h_q := (hfr_16 _ (by omega)).trans h_q
          have h_n9 := (hfr_16 _ (by omega)).trans h_n9
          have h_g := (hfr_16 _ (by omega)).trans h_g
          have h_l := (hfr_16 _ (by omega)).trans h_l
          have h_e := (hfr_16 _ (by omega)).trans h_e
          have h_su := (hfr_16 _ (by omega)).trans h_su
          have hfa : z_fr 41 1 g g_14 := hfr_16
          have hv1 := zv_bd (hSg s1 hs1).1 (w := rw9 r1) hlr1b (fun i hi => (hev1 i hi).2)
          rw [← ho1, ← hb1] at hv1
          refine lv_aload_n hx hb dX10_compare_38 rfl (lv_at hl 0 rfl) ?_
          refine z_get (own := RX10) (C := RX10) (T := TX10) (N := 21) hx hb hts in_X10_compare_10 hown hK hS h_m hM41 rfl 15 (by decide) (List.mem_of_getElem? (i := 2) rfl) rfl rfl dX10_compare_39 ?_
          refine lv_lstore (lv' := [(5, .long o1), (0, .ref (Z.2.1 41)), (1, .int (nI s1)), (2, .int (nI r1)), (3, .int (nI s2)), (4, .int (nI r2))]) hx hb dX10_compare_42 hl (by decide) rfl (fun ls hl => ?_)
          refine lv_aload_n hx hb dX10_compare_44 rfl (lv_at hl 1 rfl) ?_
          refine z_get (own := RX10) (C := RX10) (T := TX10) (N := 21) hx hb hts in_X10_compare_10 hown hK hS h_m hM41 rfl 16 (by decide) (List.mem_of_getElem? (i := 3) rfl) rfl rfl dX10_compare_45 ?_
          refine lv_lstore (lv' := [(7, .long b1), (5, .long o1), (0, .ref (Z.2.1 41)), (1, .int (nI s1)), (2, .int (nI r1)), (3, .int (nI s2)), (4, .int (nI r2))]) hx hb dX10_compare_48 hl (by decide) rfl (fun ls hl => ?_)
          refine lv_aload_n hx hb dX10_compare_50 rfl (lv_at hl 2 rfl) ?_
          refine lv_iload_n hx hb dX10_compare_51 rfl (lv_at hl 5 rfl) ?_
          refine lv_iload hx hb dX10_compare_52 (lv_at hl 6 rfl) ?_
          refine z_callv (z_runV (As := [.int (nI s2), .int (nI r2)]) (rest := []) ⟨hx, hb, hml, hown, hts⟩ hK hS ((m_findValue Z g_14 sg _ _ _ _ _ _ ⟨fu, fq, fm, fd, h_m, h_u, h_q, h_n9, h_g, hMN, hSg⟩ s2 hs2 rw9 (hW.2.congr (fun j h1 h2 => hfa j (by omega))) r2 hr2) l _) gX10_compare_X10_findValue rfl 2 (by decide +kernel) ⟨Nat.le_of_ble_eq_true rfl, Nat.le_of_ble_eq_true rfl⟩ h_m hM41 rfl rfl hl.1 rfl (Nat.le_of_ble_eq_true rfl) dX10_compare_54 ⟨Nat.le_of_ble_eq_true rfl, Nat.le_of_ble_eq_true rfl⟩) hS (fun g_18 H locs hp_19 hS => ?_)
          obtain ⟨o2, b2, ⟨_, _, _, _, h_m, -, -, -, -, -, -⟩, ho2, hb2, hfr_20⟩ := hp_19
          have h_u := (hfr_20 _ (by omega)).trans h_u
          have h_q := (hfr_20 _ (by omega)).trans h_q
          have h_n9 := (hfr_20 _ (by omega)).trans h_n9
          have h_g := (hfr_20 _ (by omega)).trans h_g
          have h_l := (hfr_20 _ (by omega)).trans h_l
          have h_e := (hfr_20 _ (by omega)).trans h_e
          have h_su := (hfr_20 _ (by omega)).trans h_su
          have hv2 := zv_bd (hSg s2 hs2).1 (w := rw9 r2) hlr2b (fun i hi => (hev2 i hi).2)
          rw [← ho2, ← hb2] at hv2
          refine lv_lload hx hb dX10_compare_57 (lv_at hl 1 rfl) ?_
          refine lv_lload hx hb dX10_compare_59 (lv_at hl 0 rfl) ?_
          refine lv_aload_n hx hb dX10_compare_61 rfl (lv_at hl 2 rfl) ?_
          refine z_get (own := RX10) (C := RX10) (T := TX10) (N := 21) hx hb hts in_X10_compare_10 hown hK hS h_m hM41 rfl 15 (by decide) (List.mem_of_getElem? (i := 2) rfl) rfl rfl dX10_compare_62 ?_
          refine lv_aload_n hx hb dX10_compare_65 rfl (lv_at hl 2 rfl) ?_
          refine z_get (own := RX10) (C := RX10) (T := TX10) (N := 21) hx hb hts in_X10_compare_10 hown hK hS h_m hM41 rfl 16 (by decide) (List.mem_of_getElem? (i := 3) rfl) rfl rfl dX10_compare_66 ?_
          refine z_calli (z_runS (As := [.long o1, .long b1, .long o2, .long b2]) (rest := []) ⟨hx, hb, hml, hown, hts⟩ hK hS ((m_compared Z g_18 o1 b1 o2 b2 (by omega) (by omega) (by omega) (by omega)) l _) gX10_compare_X10_compared rfl 4 (by decide +kernel) ⟨Nat.le_of_ble_eq_true rfl, Nat.le_of_ble_eq_true rfl⟩ rfl hl.1 rfl (Nat.le_of_ble_eq_true rfl) dX10_compare_69 ⟨Nat.le_of_ble_eq_true rfl, Nat.le_of_ble_eq_true rfl⟩) hS (fun rv g_21 H locs hp_22 hS => ?_)
          obtain ⟨rfl, hp_22⟩ := hp_22
          have hrv := hp_22
          refine z_iret hx hb hr hlocks hS ?_ dX10_compare_72
          show z_pm Z g (sp_compare (sg, rw9) (nI s1).toInt (nI r1).toInt (nI s2).toInt (nI r2).toInt) _ _
          unfold sp_compare
          rw [zite_t ⟨hzs, hzr1, hzs2, hzr2⟩, htn1, htn2, htr1, htr2]
          have hfz : z_fr 41 1 g g_18 := ((z_fr.rf.tr (hfr_16.wide (by omega) (by omega))).tr (hfr_20.wide (by omega) (by omega)))
          exact ⟨by rw [hrv, ho1, ho2, hb1, hb2], ⟨⟨_, _, _, _, _, _, fu, fq, fm, fd, h_m, h_u, h_q, h_n9, h_g, hMN, hSg⟩, hW.2.congr (fun j h1 h2 => hfz j (by omega))⟩, hfz.wide (by omega) (by omega)⟩
        · have i_12 := z_ne c_12
          rw [tI_0] at i_12
          have hnr := zbo_t hrqc c_12
          refine lv_ldc (v := (-1000001)) hx hb hown (hts _ (List.mem_of_getElem? (i := 1) rfl)) dX10_compare_29 ?_
          refine z_iret hx hb hr hlocks hS ?_ dX10_compare_31
          show z_pm Z g (sp_compare (sg, rw9) (nI s1).toInt (nI r1).toInt (nI s2).toInt u.toInt) _ _
          unfold sp_compare
          rw [zite_f (fun h9 => hnr h9.2.2.2)]
          exact ⟨rfl, hW, z_fr.rf⟩

theorem in_X10_convert_10 : ∀ w ∈ wsX100, w ∈ wsX10_convert := by decide +kernel
set_option maxHeartbeats 4000000 in
set_option maxRecDepth 100000 in
theorem m_convert (Z : zT) (g : Nat → va_E) (sg : Nat → zb) (rw9 : Nat → zr) (hW : z_mw Z g sg rw9) (x y z : Int32) : z_Mi Z yX10_convert wsX10_convert 6 144 [.ref (Z.2.1 41), .int x, .int y, .int z] g (fun r g1 => z_pm Z g (sp_convert (sg, rw9) x.toInt y.toInt z.toInt) r g1) := by
  intro l sz
  obtain ⟨v4, v5, v6, v15, v16, v17, hM9⟩ := hW.1.mp
  have hM := hM9.mr
  obtain ⟨fu, fq, fm, fd, h_m, h_u, h_q, h_n9, h_g, hMN, hSg⟩ := id hM9
  have hM41 : 41 < Z.1 := by omega
  have hM42 : 42 < Z.1 := by omega
  have hM43 : 43 < Z.1 := by omega
  have hM44 : 44 < Z.1 := by omega
  have hM45 : 45 < Z.1 := by omega
  obtain ⟨-, -, -, -, -, -, ⟨fl, h_l, hfl⟩, ⟨fe, h_e, hfe⟩, ⟨su, h_su⟩, -, -⟩ := id hW.2
  have hM52 : 52 < Z.1 := by omega
  have hM53 : 53 < Z.1 := by omega
  have hM54 : 54 < Z.1 := by omega
  refine z_enter (maxL := 4) (ret := (some .int)) (lv := [(0, .ref (Z.2.1 41)), (1, .int x), (2, .int y), (3, .int z)]) (plainFor_of_name (by decide +kernel)) rfl (fun ls h => by subst h; exact lv_entry [.ref (Z.2.1 41), .int x, .int y, .int z] (n := 4) (Nat.le_of_ble_eq_true rfl)) ?_
  intro p e s m args below meth c hx hb hml hr hlocks hown hts hK hS hsz ls hl
  refine lv_iload_n hx hb dX10_convert_0 rfl (lv_at hl 1 rfl) ?_
  refine z_calli (z_runS (As := [.int x]) (rest := []) ⟨hx, hb, hml, hown, hts⟩ hK hS ((m_noSystem Z g x) l _) gX10_convert_X10_noSystem rfl 1 (by decide +kernel) ⟨Nat.le_of_ble_eq_true rfl, Nat.le_of_ble_eq_true rfl⟩ rfl hl.1 rfl (Nat.le_of_ble_eq_true rfl) dX10_convert_1 ⟨Nat.le_of_ble_eq_true rfl, Nat.le_of_ble_eq_true rfl⟩) hS (fun rn g_1 H locs hp_2 hS => ?_)
  obtain ⟨rfl, hp_2⟩ := hp_2
  have hrn := hp_2
  refine lv_if_ne (tgt := 21) hx hb dX10_convert_4 (by decide) (fun c_3 => ?_) (fun c_3 => ?_)
  · have i_3 := z_ne c_3
    rw [tI_0] at i_3
    have hnv := zbo_t hrn c_3
    refine lv_ldc (v := (-1000001)) hx hb hown (hts _ (List.mem_of_getElem? (i := 1) rfl)) dX10_convert_21 ?_
    refine z_iret hx hb hr hlocks hS ?_ dX10_convert_23
    show z_pm Z g (sp_convert (sg, rw9) x.toInt y.toInt z.toInt) _ _
    unfold sp_convert
    rw [zite_f (fun h9 => hnv h9.1)]
    exact ⟨rfl, hW, z_fr.rf⟩
  · have i_3 := z_eq c_3
    rw [tI_0] at i_3
    have hzs : zsy x.toInt := Classical.byContradiction (zbo_f hrn c_3)
    obtain ⟨s1, es1, hs1x, -⟩ := z_nI_of (x := x) hzs.1
    subst es1
    have hs1 : s1 < 2 := by have := hzs.2; omega
    have htn1 : (nI s1).toInt.toNat = s1 := by omega
    obtain ⟨hok, hp, hq, hm, hd⟩ := hSg s1 hs1
    have hPb := zP_bd hok
    have hn12 := hok.2.2.2.1
    have hq1 := hok.2.1
    obtain ⟨s2, es2⟩ : ∃ s2 : Nat, s2 = 1 - s1 := ⟨_, rfl⟩
    have hs2 : s2 < 2 := by omega
    have htn2 : (1 - (nI s1).toInt).toNat = s2 := by omega
    have hn12s : (1 : Int32) - nI s1 = nI s2 := by rw [es2]; exact zm_sub (a := 1) (by omega) (by omega)
    refine lv_iload_n hx hb dX10_convert_7 rfl (lv_at hl 2 rfl) ?_
    refine z_calli (z_runS (As := [.int y]) (rest := []) ⟨hx, hb, hml, hown, hts⟩ hK hS ((m_noRow Z g y) l _) gX10_convert_X10_noRow rfl 1 (by decide +kernel) ⟨Nat.le_of_ble_eq_true rfl, Nat.le_of_ble_eq_true rfl⟩ rfl hl.1 rfl (Nat.le_of_ble_eq_true rfl) dX10_convert_8 ⟨Nat.le_of_ble_eq_true rfl, Nat.le_of_ble_eq_true rfl⟩) hS (fun rqa g_4 H locs hp_5 hS => ?_)
    obtain ⟨rfl, hp_5⟩ := hp_5
    have hrqa := hp_5
    refine lv_if_ne (tgt := 21) hx hb dX10_convert_11 (by decide) (fun c_6 => ?_) (fun c_6 => ?_)
    · have i_6 := z_ne c_6
      rw [tI_0] at i_6
      have hnr := zbo_t hrqa c_6
      refine lv_ldc (v := (-1000001)) hx hb hown (hts _ (List.mem_of_getElem? (i := 1) rfl)) dX10_convert_21 ?_
      refine z_iret hx hb hr hlocks hS ?_ dX10_convert_23
      show z_pm Z g (sp_convert (sg, rw9) (nI s1).toInt y.toInt z.toInt) _ _
      unfold sp_convert
      rw [zite_f (fun h9 => hnr h9.2.1)]
      exact ⟨rfl, hW, z_fr.rf⟩
    · have i_6 := z_eq c_6
      rw [tI_0] at i_6
      have hzr1 : zro y.toInt := Classical.byContradiction (zbo_f hrqa c_6)
      obtain ⟨r1, er1, hr1x, -⟩ := z_nI_of (x := y) hzr1.1
      subst er1
      have hr1 : r1 < 3 := by have := hzr1.2; omega
      have htr1 : (nI r1).toInt.toNat = r1 := by omega
      obtain ⟨hlr1, hlr1b⟩ := hfl r1 hr1
      have hev1 := hfe r1 hr1
      have hzb1 := zeg_in (hfe r1 hr1)
      refine lv_iload_n hx hb dX10_convert_14 rfl (lv_at hl 3 rfl) ?_
      refine z_calli (z_runS (As := [.int z]) (rest := []) ⟨hx, hb, hml, hown, hts⟩ hK hS ((m_noRow Z g z) l _) gX10_convert_X10_noRow rfl 1 (by decide +kernel) ⟨Nat.le_of_ble_eq_true rfl, Nat.le_of_ble_eq_true rfl⟩ rfl hl.1 rfl (Nat.le_of_ble_eq_true rfl) dX10_convert_15 ⟨Nat.le_of_ble_eq_true rfl, Nat.le_of_ble_eq_true rfl⟩) hS (fun rqc g_7 H locs hp_8 hS => ?_)
      obtain ⟨rfl, hp_8⟩ := hp_8
      have hrqc := hp_8
      refine lv_if_eq (tgt := 24) hx hb dX10_convert_18 (by decide) (fun c_9 => ?_) (fun c_9 => ?_)
      · have i_9 := z_eq c_9
        rw [tI_0] at i_9
        have hzr3 : zro z.toInt := Classical.byContradiction (zbo_f hrqc c_9)
        obtain ⟨r3, er3, hr3x, -⟩ := z_nI_of (x := z) hzr3.1
        subst er3
        have hr3 : r3 < 3 := by have := hzr3.2; omega
        have htr3 : (nI r3).toInt.toNat = r3 := by omega
        obtain ⟨hlr3, hlr3b⟩ := hfl r3 hr3
        have hev3 := hfe r3 hr3
        have hzb3 := zeg_in (hfe r3 hr3)
        refine lv_aload_n hx hb dX10_convert_24 rfl (lv_at hl 0 rfl) ?_
        refine lv_iconst (v := 1) hx hb dX10_convert_25 (by decide) ?_
        refine lv_iload_n hx hb dX10_convert_26 rfl (lv_at hl 1 rfl) ?_
        refine lv_isub hx hb dX10_convert_27 ?_
        rw [show 1 - (nI s1) = nI s2 from hn12s]
        refine z_calli (z_runV (As := [.int (nI s2)]) (rest := []) ⟨hx, hb, hml, hown, hts⟩ hK hS ((m_isComplete Z g sg hM s2 hs2) l _) gX10_convert_X10_isComplete rfl 1 (by decide +kernel) ⟨Nat.le_of_ble_eq_true rfl, Nat.le_of_ble_eq_true rfl⟩ h_m hM41 rfl rfl hl.1 rfl (Nat.le_of_ble_eq_true rfl) dX10_convert_28 ⟨Nat.le_of_ble_eq_true rfl, Nat.le_of_ble_eq_true rfl⟩) hS (fun rc g_10 H locs hp_11 hS => ?_)
        obtain ⟨rfl, hp_11⟩ := hp_11
        have hrc := hp_11
        refine lv_if_ne (tgt := 37) hx hb dX10_convert_31 (by decide) (fun c_12 => ?_) (fun c_12 => ?_)
        · have i_12 := z_ne c_12
          rw [tI_0] at i_12
          have hcm := zbo_t hrc c_12
          refine lv_aload_n hx hb dX10_convert_37 rfl (lv_at hl 0 rfl) ?_
          refine lv_iload_n hx hb dX10_convert_38 rfl (lv_at hl 1 rfl) ?_
          refine lv_iload_n hx hb dX10_convert_39 rfl (lv_at hl 2 rfl) ?_
          refine z_callv (z_runV (As := [.int (nI s1), .int (nI r1)]) (rest := []) ⟨hx, hb, hml, hown, hts⟩ hK hS ((m_findValue Z g sg _ _ _ _ _ _ ⟨fu, fq, fm, fd, h_m, h_u, h_q, h_n9, h_g, hMN, hSg⟩ s1 hs1 rw9 hW.2 r1 hr1) l _) gX10_convert_X10_findValue rfl 2 (by decide +kernel) ⟨Nat.le_of_ble_eq_true rfl, Nat.le_of_ble_eq_true rfl⟩ h_m hM41 rfl rfl hl.1 rfl (Nat.le_of_ble_eq_true rfl) dX10_convert_40 ⟨Nat.le_of_ble_eq_true rfl, Nat.le_of_ble_eq_true rfl⟩) hS (fun g_14 H locs hp_15 hS => ?_)
          obtain ⟨o1, b1, ⟨_, _, _, _, h_m, -, -, -, -, -, -⟩, ho1, hb1, hfr_16⟩ := hp_15
          have h_u := (hfr_16 _ (by omega)).trans h_u
          have h_q := (hfr_16 _ (by omega)).trans h_q
          have h_n9 := (hfr_16 _ (by omega)).trans h_n9
          have h_g := (hfr_16 _ (by omega)).trans h_g
          have h_l := (hfr_16 _ (by omega)).trans h_l
          have h_e := (hfr_16 _ (by omega)).trans h_e
          have h_su := (hfr_16 _ (by omega)).trans h_su
          have hfa : z_fr 41 1 g g_14 := hfr_16
          have hv1 := zv_bd (hSg s1 hs1).1 (w := rw9 r1) hlr1b (fun i hi => (hev1 i hi).2)
          rw [← ho1, ← hb1] at hv1
          refine lv_aload_n hx hb dX10_convert_43 rfl (lv_at hl 0 rfl) ?_
          refine z_get (own := RX10) (C := RX10) (T := TX10) (N := 21) hx hb hts in_X10_convert_10 hown hK hS h_m hM41 rfl 16 (by decide) (List.mem_of_getElem? (i := 3) rfl) rfl rfl dX10_convert_44 ?_
          refine lv_lconst (v := 1) hx hb dX10_convert_47 rfl ?_
          have hc1 := z_cmp0 (x := b1) (y := 1)
          rw [show (1 : Int64).toInt = 1 from rfl, hb1] at hc1
          refine W.lcmp hx hb dX10_convert_48 ?_
          refine lv_if_ne (tgt := 74) hx hb dX10_convert_49 (by decide) (fun c_17 => ?_) (fun c_17 => ?_)
          · have i_17 := z_ne c_17
            rw [tI_0] at i_17
            have hb11 : ¬ zvb (sg s1) (rw9 r1) = 1 := fun h9 => c_17 (hc1.mpr h9)
            have hnpo : ¬ (zvb (sg s1) (rw9 r1) = 1 ∧ -100000 ≤ zvt (sg s1) (rw9 r1) ∧ zvt (sg s1) (rw9 r1) ≤ 100000) := fun h9 => by omega
            refine lv_ldc (v := (-1000004)) hx hb hown (hts _ (List.mem_of_getElem? (i := 7) rfl)) dX10_convert_74 ?_
            refine z_iret hx hb hr hlocks hS ?_ dX10_convert_76
            show z_pm Z g (sp_convert (sg, rw9) (nI s1).toInt (nI r1).toInt (nI r3).toInt) _ _
            unfold sp_convert
            rw [zite_t ⟨hzs, hzr1, hzr3⟩, htn2, zite_t hcm, htn1, htr1, zite_f hnpo]
            have hfz : z_fr 41 1 g g_14 := (z_fr.rf.tr (hfr_16.wide (by omega) (by omega)))
            exact ⟨rfl, ⟨⟨_, _, _, _, _, _, fu, fq, fm, fd, h_m, h_u, h_q, h_n9, h_g, hMN, hSg⟩, hW.2.congr (fun j h1 h2 => hfz j (by omega))⟩, hfz.wide (by omega) (by omega)⟩
          · have i_17 := z_eq c_17
            rw [tI_0] at i_17
            have hb11 := hc1.mp c_17
            refine lv_aload_n hx hb dX10_convert_52 rfl (lv_at hl 0 rfl) ?_
            refine z_get (own := RX10) (C := RX10) (T := TX10) (N := 21) hx hb hts in_X10_convert_10 hown hK hS h_m hM41 rfl 15 (by decide) (List.mem_of_getElem? (i := 4) rfl) rfl rfl dX10_convert_53 ?_
            refine lv_ldc2 (v := 100000) hx hb hown (hts _ (List.mem_of_getElem? (i := 5) rfl)) dX10_convert_56 ?_
            have hc3 := z_cmpG (x := o1) (y := 100000)
            rw [show (100000 : Int64).toInt = 100000 from by decide, ho1] at hc3
            refine W.lcmp hx hb dX10_convert_59 ?_
            refine lv_if_gt (tgt := 74) hx hb dX10_convert_60 (by decide) (fun c_18 => ?_) (fun c_18 => ?_)
            · have i_18 := z_lt c_18
              rw [tI_0] at i_18
              have hnpo : ¬ (zvb (sg s1) (rw9 r1) = 1 ∧ -100000 ≤ zvt (sg s1) (rw9 r1) ∧ zvt (sg s1) (rw9 r1) ≤ 100000) := fun h9 => by omega
              refine lv_ldc (v := (-1000004)) hx hb hown (hts _ (List.mem_of_getElem? (i := 7) rfl)) dX10_convert_74 ?_
              refine z_iret hx hb hr hlocks hS ?_ dX10_convert_76
              show z_pm Z g (sp_convert (sg, rw9) (nI s1).toInt (nI r1).toInt (nI r3).toInt) _ _
              unfold sp_convert
              rw [zite_t ⟨hzs, hzr1, hzr3⟩, htn2, zite_t hcm, htn1, htr1, zite_f hnpo]
              have hfz : z_fr 41 1 g g_14 := (z_fr.rf.tr (hfr_16.wide (by omega) (by omega)))
              exact ⟨rfl, ⟨⟨_, _, _, _, _, _, fu, fq, fm, fd, h_m, h_u, h_q, h_n9, h_g, hMN, hSg⟩, hW.2.congr (fun j h1 h2 => hfz j (by omega))⟩, hfz.wide (by omega) (by omega)⟩
            · have i_18 := z_nlt c_18
              rw [tI_0] at i_18
              refine lv_aload_n hx hb dX10_convert_63 rfl (lv_at hl 0 rfl) ?_
              refine z_get (own := RX10) (C := RX10) (T := TX10) (N := 21) hx hb hts in_X10_convert_10 hown hK hS h_m hM41 rfl 15 (by decide) (List.mem_of_getElem? (i := 4) rfl) rfl rfl dX10_convert_64 ?_
              refine lv_ldc2 (v := (-100000)) hx hb hown (hts _ (List.mem_of_getElem? (i := 6) rfl)) dX10_convert_67 ?_
              have hc2 := z_cmpL (x := o1) (y := -100000)
              rw [show (-100000 : Int64).toInt = -100000 from by decide, ho1] at hc2
              refine W.lcmp hx hb dX10_convert_70 ?_
              refine lv_if_ge (tgt := 77) hx hb dX10_convert_71 (by decide) (fun c_19 => ?_) (fun c_19 => ?_)
              · have i_19 := z_le c_19
                rw [tI_0] at i_19
                have hpo9 : zvb (sg s1) (rw9 r1) = 1 ∧ -100000 ≤ zvt (sg s1) (rw9 r1) ∧ zvt (sg s1) (rw9 r1) ≤ 100000 := ⟨hb11, by omega, by omega⟩
                refine lv_aload_n hx hb dX10_convert_77 rfl (lv_at hl 0 rfl) ?_
                refine lv_iconst (v := 1) hx hb dX10_convert_78 (by decide) ?_
                refine lv_iload_n hx hb dX10_convert_79 rfl (lv_at hl 1 rfl) ?_
                refine lv_isub hx hb dX10_convert_80 ?_
                rw [show 1 - (nI s1) = nI s2 from hn12s]
                refine lv_aload_n hx hb dX10_convert_81 rfl (lv_at hl 0 rfl) ?_
                refine z_get (own := RX10) (C := RX10) (T := TX10) (N := 21) hx hb hts in_X10_convert_10 hown hK hS h_m hM41 rfl 15 (by decide) (List.mem_of_getElem? (i := 4) rfl) rfl rfl dX10_convert_82 ?_
                refine lv_l2i hx hb dX10_convert_85 rfl ?_
                refine lv_iload_n hx hb dX10_convert_86 rfl (lv_at hl 3 rfl) ?_
                refine z_calli (z_runV (As := [.int (nI s2), .int (Int64.toInt32 o1), .int (nI r3)]) (rest := []) ⟨hx, hb, hml, hown, hts⟩ hK hS ((m_expand Z g_14 sg rw9 ⟨⟨_, _, _, _, _, _, fu, fq, fm, fd, h_m, h_u, h_q, h_n9, h_g, hMN, hSg⟩, hW.2.congr (fun j h1 h2 => hfa j (by omega))⟩ s2 r3 hs2 hr3 (Int64.toInt32 o1) (by rw [z_l2i (by omega) (by omega)]; omega) hcm) l _) gX10_convert_X10_expand rfl 3 (by decide +kernel) ⟨Nat.le_of_ble_eq_true rfl, Nat.le_of_ble_eq_true rfl⟩ h_m hM41 rfl rfl hl.1 rfl (Nat.le_of_ble_eq_true rfl) dX10_convert_87 ⟨Nat.le_of_ble_eq_true rfl, Nat.le_of_ble_eq_true rfl⟩) hS (fun re g_20 H locs hp_21 hS => ?_)
                have hpo := hp_21
                rw [z_l2i (by omega) (by omega), ho1] at hpo
                refine z_iret hx hb hr hlocks hS ?_ dX10_convert_90
                show z_pm Z g (sp_convert (sg, rw9) (nI s1).toInt (nI r1).toInt (nI r3).toInt) _ _
                unfold sp_convert
                rw [zite_t ⟨hzs, hzr1, hzr3⟩, htn2, zite_t hcm, htn1, htr1, htr3, zite_t hpo9]
                exact ⟨hpo.1, hpo.2.1, (hfa.wide (by omega) (by omega)).tr hpo.2.2⟩
              · have i_19 := z_nle c_19
                rw [tI_0] at i_19
                have hnpo : ¬ (zvb (sg s1) (rw9 r1) = 1 ∧ -100000 ≤ zvt (sg s1) (rw9 r1) ∧ zvt (sg s1) (rw9 r1) ≤ 100000) := fun h9 => by omega
                refine lv_ldc (v := (-1000004)) hx hb hown (hts _ (List.mem_of_getElem? (i := 7) rfl)) dX10_convert_74 ?_
                refine z_iret hx hb hr hlocks hS ?_ dX10_convert_76
                show z_pm Z g (sp_convert (sg, rw9) (nI s1).toInt (nI r1).toInt (nI r3).toInt) _ _
                unfold sp_convert
                rw [zite_t ⟨hzs, hzr1, hzr3⟩, htn2, zite_t hcm, htn1, htr1, zite_f hnpo]
                have hfz : z_fr 41 1 g g_14 := (z_fr.rf.tr (hfr_16.wide (by omega) (by omega)))
                exact ⟨rfl, ⟨⟨_, _, _, _, _, _, fu, fq, fm, fd, h_m, h_u, h_q, h_n9, h_g, hMN, hSg⟩, hW.2.congr (fun j h1 h2 => hfz j (by omega))⟩, hfz.wide (by omega) (by omega)⟩
        · have i_12 := z_eq c_12
          rw [tI_0] at i_12
          have hncm := zbo_f hrc c_12
          refine lv_ldc (v := (-1000003)) hx hb hown (hts _ (List.mem_of_getElem? (i := 2) rfl)) dX10_convert_34 ?_
          refine z_iret hx hb hr hlocks hS ?_ dX10_convert_36
          show z_pm Z g (sp_convert (sg, rw9) (nI s1).toInt (nI r1).toInt (nI r3).toInt) _ _
          unfold sp_convert
          rw [zite_t ⟨hzs, hzr1, hzr3⟩, htn2, zite_f hncm]
          exact ⟨rfl, hW, z_fr.rf⟩
      · have i_9 := z_ne c_9
        rw [tI_0] at i_9
        have hnr := zbo_t hrqc c_9
        refine lv_ldc (v := (-1000001)) hx hb hown (hts _ (List.mem_of_getElem? (i := 1) rfl)) dX10_convert_21 ?_
        refine z_iret hx hb hr hlocks hS ?_ dX10_convert_23
        show z_pm Z g (sp_convert (sg, rw9) (nI s1).toInt (nI r1).toInt z.toInt) _ _
        unfold sp_convert
        rw [zite_f (fun h9 => hnr h9.2.2)]
        exact ⟨rfl, hW, z_fr.rf⟩

