/-! the reference: cycles -/
def zmnP (o : Nat → Int) (j : Nat) (x : Int) : Prop := (∃ i, i < j ∧ x = o i) ∧ ∀ i, i < j → x ≤ o i
def zmxP (o : Nat → Int) (j : Nat) (x : Int) : Prop := (∃ i, i < j ∧ x = o i) ∧ ∀ i, i < j → o i ≤ x
theorem zmnP.one (o : Nat → Int) : zmnP o 1 (o 0) := ⟨⟨0, by omega, rfl⟩, fun i hi => by rw [show i = 0 by omega]; exact Int.le_refl _⟩
theorem zmxP.one (o : Nat → Int) : zmxP o 1 (o 0) := ⟨⟨0, by omega, rfl⟩, fun i hi => by rw [show i = 0 by omega]; exact Int.le_refl _⟩
theorem zmnP.keep {o : Nat → Int} {j : Nat} {x : Int} (h : zmnP o j x) (h2 : x ≤ o j) : zmnP o (j + 1) x := by
  obtain ⟨⟨i, h3, h4⟩, h5⟩ := h
  refine ⟨⟨i, by omega, h4⟩, fun k hk => ?_⟩
  rcases Nat.lt_or_ge k j with q | q
  · exact h5 k q
  · rw [show k = j by omega]; exact h2
theorem zmxP.keep {o : Nat → Int} {j : Nat} {x : Int} (h : zmxP o j x) (h2 : o j ≤ x) : zmxP o (j + 1) x := by
  obtain ⟨⟨i, h3, h4⟩, h5⟩ := h
  refine ⟨⟨i, by omega, h4⟩, fun k hk => ?_⟩
  rcases Nat.lt_or_ge k j with q | q
  · exact h5 k q
  · rw [show k = j by omega]; exact h2
theorem zmnP.new {o : Nat → Int} {j : Nat} {x : Int} (h : zmnP o j x) (h2 : o j ≤ x) : zmnP o (j + 1) (o j) :=
  ⟨⟨j, by omega, rfl⟩, fun k hk => by
    rcases Nat.lt_or_ge k j with q | q
    · exact Int.le_trans h2 (h.2 k q)
    · rw [show k = j by omega]; exact Int.le_refl _⟩
theorem zmxP.new {o : Nat → Int} {j : Nat} {x : Int} (h : zmxP o j x) (h2 : x ≤ o j) : zmxP o (j + 1) (o j) :=
  ⟨⟨j, by omega, rfl⟩, fun k hk => by
    rcases Nat.lt_or_ge k j with q | q
    · exact Int.le_trans (h.2 k q) h2
    · rw [show k = j by omega]; exact Int.le_refl _⟩
theorem zmnP.ol {f : Int → Int} {x y : Int} {la : Nat} (h : zmnP (zor f x) la y) (hp : zper (zor f x) 0 la) : zol f x y := by
  obtain ⟨⟨i, h3, h4⟩, h5⟩ := h
  exact ⟨⟨i, h4⟩, fun k => by rw [zper_mod hp k]; exact h5 _ (Nat.mod_lt _ hp.1)⟩
theorem zmxP.og {f : Int → Int} {x y : Int} {la : Nat} (h : zmxP (zor f x) la y) (hp : zper (zor f x) 0 la) : zog f x y := by
  obtain ⟨⟨i, h3, h4⟩, h5⟩ := h
  exact ⟨⟨i, h4⟩, fun k => by rw [zper_mod hp k]; exact h5 _ (Nat.mod_lt _ hp.1)⟩
def zcyT (b : zb) (t : Nat) (cl cm cn : Nat → Int32) : Prop := ∀ u, u < t → zlB (zst b 1) u = true → (cl (zct (zlB (zst b 1)) u)).toInt = (u : Int) - 25 ∧ (cm (zct (zlB (zst b 1)) u)).toInt = zgr (zst b 1) ((u : Int) - 25) ∧ cn (zct (zlB (zst b 1)) u) = nI (zla b 1 ((u : Int) - 25))
theorem zcyT.no {b : zb} {t : Nat} {cl cm cn : Nat → Int32} (h : zcyT b t cl cm cn) (hn : zlB (zst b 1) t = false) : zcyT b (t + 1) cl cm cn := fun u hu hl => by
  rcases Nat.lt_or_ge u t with q | q
  · exact h u q hl
  · rw [show u = t by omega, hn] at hl; cases hl
theorem zcyT.yes {b : zb} {t : Nat} {cl cm cn : Nat → Int32} {x y z : Int32} (h : zcyT b t cl cm cn) (hx : x.toInt = (t : Int) - 25) (hy : y.toInt = zgr (zst b 1) ((t : Int) - 25)) (hz : z = nI (zla b 1 ((t : Int) - 25))) : zcyT b (t + 1) (upd cl (zct (zlB (zst b 1)) t) x) (upd cm (zct (zlB (zst b 1)) t) y) (upd cn (zct (zlB (zst b 1)) t) z) := fun u hu hl => by
  rcases Nat.lt_or_ge u t with q | q
  · have h1 := zct_lt hl q
    rw [pk_un (by omega), pk_un (by omega), pk_un (by omega)]
    exact h u q hl
  · rw [show u = t by omega, pk_us, pk_us, pk_us]; exact ⟨hx, hy, hz⟩
theorem zct_t {c : Nat → Bool} {t : Nat} (h : c t = true) : zct c (t + 1) = zct c t + 1 := by
  show zct c t + (if c t then 1 else 0) = _
  rw [h]; rfl
theorem zct_f {c : Nat → Bool} {t : Nat} (h : c t = false) : zct c (t + 1) = zct c t := by
  show zct c t + (if c t then 1 else 0) = _
  rw [h]; rfl
theorem zlB_no {f : Int → Int} {t : Nat} (h : ¬ zlc f ((t : Int) - 25)) : zlB f t = false := by
  cases e : zlB f t
  · rfl
  · exact absurd (zlB_iff.mp e) h
theorem z_mx.cyc {Z : zT} {g g1 : Nat → va_E} {rw9 : Nat → zr} (h : z_mx Z g rw9) {f1 f2 f3 : Nat → Int32} (h1 : g1 46 = .inl (Z.2.2.2 0, 64, .inl f1)) (h2 : g1 47 = .inl (Z.2.2.2 0, 64, .inl f2)) (h3 : g1 48 = .inl (Z.2.2.2 0, 64, .inl f3)) (h0 : ∀ j, 49 ≤ j → j < 57 → g1 j = g j) : z_mx Z g1 rw9 := by
  obtain ⟨-, -, -, ⟨f4, a4⟩, ⟨f5, a5⟩, ⟨f6, a6⟩, ⟨f7, a7, b7⟩, ⟨f8, a8, b8⟩, ⟨f9, a9⟩, ⟨f10, a10⟩, f11, a11⟩ := h
  exact ⟨⟨f1, h1⟩, ⟨f2, h2⟩, ⟨f3, h3⟩, ⟨f4, (h0 _ (by omega) (by omega)).trans a4⟩, ⟨f5, (h0 _ (by omega) (by omega)).trans a5⟩, ⟨f6, (h0 _ (by omega) (by omega)).trans a6⟩, ⟨f7, (h0 _ (by omega) (by omega)).trans a7, b7⟩, ⟨f8, (h0 _ (by omega) (by omega)).trans a8, b8⟩, ⟨f9, (h0 _ (by omega) (by omega)).trans a9⟩, ⟨f10, (h0 _ (by omega) (by omega)).trans a10⟩, f11, (h0 _ (by omega) (by omega)).trans a11⟩
theorem in_X10_findCycles_10 : ∀ w ∈ wsX100, w ∈ wsX10_findCycles := by decide +kernel
set_option maxHeartbeats 4000000 in
set_option maxRecDepth 100000 in
theorem m_findCycles (Z : zT) (g : Nat → va_E) (sg : Nat → zb) (v4 v5 v6 : Int32) (v15 v16 : Int64) (v17 : Int32) (hM9 : z_mp Z g sg v4 v5 v6 v15 v16 v17) (s1 : Nat) (hs1 : s1 < 2) (cl cm cn : Nat → Int32) (h_c1 : g 46 = .inl (Z.2.2.2 0, 64, .inl cl)) (h_c2 : g 47 = .inl (Z.2.2.2 0, 64, .inl cm)) (h_c3 : g 48 = .inl (Z.2.2.2 0, 64, .inl cn)) (hcm : zcm (sg s1)) : z_Mv Z yX10_findCycles wsX10_findCycles 4 93 [.ref (Z.2.1 41), .int (nI s1)] g (fun g1 => ∃ va vb cl cm cn, z_mp Z g1 sg va vb (nI (zcyc (sg s1))) v15 v16 v17 ∧ g1 46 = .inl (Z.2.2.2 0, 64, .inl cl) ∧ g1 47 = .inl (Z.2.2.2 0, 64, .inl cm) ∧ g1 48 = .inl (Z.2.2.2 0, 64, .inl cn) ∧ zcyT (sg s1) 51 cl cm cn ∧ z_fr 41 8 g g1) := by
  intro l sz
  have hM := hM9.mr
  obtain ⟨fu, fq, fm, fd, h_m, h_u, h_q, h_n9, h_g, hMN, hSg⟩ := id hM9
  have hM41 : 41 < Z.1 := by omega
  have hM42 : 42 < Z.1 := by omega
  have hM43 : 43 < Z.1 := by omega
  have hM44 : 44 < Z.1 := by omega
  have hM45 : 45 < Z.1 := by omega
  obtain ⟨hok, hp, hq, hm, hd⟩ := hSg s1 hs1
  have hPb := zP_bd hok
  have hn12 := hok.2.2.2.1
  have hq1 := hok.2.1
  have hM46 : 46 < Z.1 := by omega
  have hM47 : 47 < Z.1 := by omega
  have hM48 : 48 < Z.1 := by omega
  refine z_enter (maxL := 7) (ret := none) (lv := [(0, .ref (Z.2.1 41)), (1, .int (nI s1))]) (plainFor_of_name (by decide +kernel)) rfl (fun ls h => by subst h; exact lv_entry [.ref (Z.2.1 41), .int (nI s1)] (n := 7) (Nat.le_of_ble_eq_true rfl)) ?_
  intro p e s m args below meth c hx hb hml hr hlocks hown hts hK hS hsz ls hl
  refine lv_aload_n hx hb dX10_findCycles_0 rfl (lv_at hl 0 rfl) ?_
  refine lv_iconst (v := 0) hx hb dX10_findCycles_1 (by decide) ?_
  refine z_put (fs' := [.ref (Z.2.1 42), .ref (Z.2.1 43), .ref (Z.2.1 44), .ref (Z.2.1 45), .int v4, .int v5, .int 0, .ref (Z.2.1 46), .ref (Z.2.1 47), .ref (Z.2.1 48), .ref (Z.2.1 49), .ref (Z.2.1 50), .ref (Z.2.1 51), .ref (Z.2.1 52), .ref (Z.2.1 53), .long v15, .long v16, .int v17, .ref (Z.2.1 54), .ref (Z.2.1 55), .ref (Z.2.1 56)]) (own := RX10) (C := RX10) (T := TX10) (N := 21) hx hb hts in_X10_findCycles_10 tyX10 tyX10_ok nmX10 hown hK hS h_m hM41 rfl 6 (by decide) (List.mem_of_getElem? (i := 1) rfl) rfl rfl rfl rfl (Nat.le_of_ble_eq_true rfl) rfl dX10_findCycles_2 (fun g_1 H locs hg_1 hS => ?_)
  have h_m : g_1 41 = .inr (10, [.ref (Z.2.1 42), .ref (Z.2.1 43), .ref (Z.2.1 44), .ref (Z.2.1 45), .int v4, .int v5, .int 0, .ref (Z.2.1 46), .ref (Z.2.1 47), .ref (Z.2.1 48), .ref (Z.2.1 49), .ref (Z.2.1 50), .ref (Z.2.1 51), .ref (Z.2.1 52), .ref (Z.2.1 53), .long v15, .long v16, .int v17, .ref (Z.2.1 54), .ref (Z.2.1 55), .ref (Z.2.1 56)]) := z_up_s hg_1
  have h_u := z_up_n hg_1 h_u (by omega)
  have h_q := z_up_n hg_1 h_q (by omega)
  have h_n9 := z_up_n hg_1 h_n9 (by omega)
  have h_g := z_up_n hg_1 h_g (by omega)
  have h_c1 := z_up_n hg_1 h_c1 (by omega)
  have h_c2 := z_up_n hg_1 h_c2 (by omega)
  have h_c3 := z_up_n hg_1 h_c3 (by omega)
  refine lv_bipush (v := (-25)) hx hb dX10_findCycles_5 (by decide) ?_
  refine lv_istore_n (lv' := [(2, .int (-25)), (0, .ref (Z.2.1 41)), (1, .int (nI s1))]) hx hb dX10_findCycles_7 rfl hl (by decide) rfl (fun ls hl => ?_)
  have hcut_8 : ∀ (nn_8 : Nat) (t : Nat) (mI : Int32) (va : Int32) (vb : Int32) (cl1 : Nat → Int32) (cm1 : Nat → Int32) (cn1 : Nat → Int32) (ga : Nat → va_E) (h_m : ga 41 = .inr (10, [.ref (Z.2.1 42), .ref (Z.2.1 43), .ref (Z.2.1 44), .ref (Z.2.1 45), .int va, .int vb, .int (nI (zct (zlB (zst (sg s1) 1)) t)), .ref (Z.2.1 46), .ref (Z.2.1 47), .ref (Z.2.1 48), .ref (Z.2.1 49), .ref (Z.2.1 50), .ref (Z.2.1 51), .ref (Z.2.1 52), .ref (Z.2.1 53), .long v15, .long v16, .int v17, .ref (Z.2.1 54), .ref (Z.2.1 55), .ref (Z.2.1 56)])) (h_u : ga 42 = .inl (Z.2.2.2 0, 2, .inl fu)) (h_q : ga 43 = .inl (Z.2.2.2 0, 2, .inl fq)) (h_n9 : ga 44 = .inl (Z.2.2.2 0, 2, .inl fm)) (h_g : ga 45 = .inl (Z.2.2.2 0, 24, .inl fd)) (h_c1 : ga 46 = .inl (Z.2.2.2 0, 64, .inl cl1)) (h_c2 : ga 47 = .inl (Z.2.2.2 0, 64, .inl cm1)) (h_c3 : ga 48 = .inl (Z.2.2.2 0, 64, .inl cn1)) (hfr_ga : z_fr 41 8 g ga) (ht : t ≤ 51) (hmI : mI.toInt = (t : Int) - 25) (hcy : zcyT (sg s1) t cl1 cm1 cn1) (hm_8 : 51 - t < nn_8) (H : Heap) (locs : List Loc) (ls : Array Slot), z_S Z (z_A Z sz) s.heap ga H locs → lv_has ls 7 [(0, .ref (Z.2.1 41)), (1, .int (nI s1)), (2, .int mI)] → W p l e (headSpec wsX10_findCycles (z_rm 4 93)).room s m args below meth c H locs 0 0 (MQ below (va_Qv (fun g1 => ∃ va vb cl cm cn, z_mp Z g1 sg va vb (nI (zcyc (sg s1))) v15 v16 v17 ∧ g1 46 = .inl (Z.2.2.2 0, 64, .inl cl) ∧ g1 47 = .inl (Z.2.2.2 0, 64, .inl cm) ∧ g1 48 = .inl (Z.2.2.2 0, 64, .inl cn) ∧ zcyT (sg s1) 51 cl cm cn ∧ z_fr 41 8 g g1) (z_B Z) (z_A Z sz)) args s 0 0 (z_A Z sz)) (F0 m 8 ls []) := by
    intro nn_8
    induction nn_8 with
    | zero => intro t mI va vb cl1 cm1 cn1 ga h_m h_u h_q h_n9 h_g h_c1 h_c2 h_c3 hfr_ga ht hmI hcy hm_8 H locs ls hS hl; exact absurd hm_8 (Nat.not_lt_zero _)
    | succ nn_8 ih_8 =>
      intro t mI va vb cl1 cm1 cn1 ga h_m h_u h_q h_n9 h_g h_c1 h_c2 h_c3 hfr_ga ht hmI hcy hm_8 H locs ls hS hl
      have hmI5 : -100000 ≤ mI.toInt ∧ mI.toInt ≤ 100000 := by omega
      have hzb : zct (zlB (zst (sg s1) 1)) t ≤ t := zct_le _ _
      refine lv_iload_n hx hb dX10_findCycles_8 rfl (lv_at hl 2 rfl) ?_
      refine lv_bipush (v := 25) hx hb dX10_findCycles_9 (by decide) ?_
      refine lv_icmp_gt (tgt := 155) hx hb dX10_findCycles_11 (by decide) (fun c_2 => ?_) (fun c_2 => ?_)
      · have i_2 := z_lt c_2
        rw [tI_25] at i_2
        have ht51 : t = 51 := by omega
        refine z_vret hx hb hr hlocks hS ?_ dX10_findCycles_155
        subst ht51
        exact ⟨_, _, _, _, _, ⟨fu, fq, fm, fd, h_m, h_u, h_q, h_n9, h_g, hMN, hSg⟩, h_c1, h_c2, h_c3, hcy, hfr_ga⟩
      · have i_2 := z_nlt c_2
        rw [tI_25] at i_2
        refine lv_aload_n hx hb dX10_findCycles_14 rfl (lv_at hl 0 rfl) ?_
        refine lv_iload_n hx hb dX10_findCycles_15 rfl (lv_at hl 1 rfl) ?_
        refine lv_iload_n hx hb dX10_findCycles_16 rfl (lv_at hl 2 rfl) ?_
        refine lv_iconst (v := 1) hx hb dX10_findCycles_17 (by decide) ?_
        refine z_callv (z_runV (As := [.int (nI s1), .int mI, .int 1]) (rest := []) ⟨hx, hb, hml, hown, hts⟩ hK hS ((m_findPeriod Z ga sg _ _ _ _ _ _ ⟨fu, fq, fm, fd, h_m, h_u, h_q, h_n9, h_g, hMN, hSg⟩ s1 hs1 mI 1 hmI5 (by rw [tI_1]; omega) (zmu (sg s1) 1 mI.toInt) (zla (sg s1) 1 mI.toInt) (by rw [tI_1]; exact (zmula hok (by omega) hmI5).1) (zmula hok (by omega) hmI5).2) l _) gX10_findCycles_X10_findPeriod rfl 3 (by decide +kernel) ⟨Nat.le_of_ble_eq_true rfl, Nat.le_of_ble_eq_true rfl⟩ h_m hM41 rfl rfl hl.1 rfl (Nat.le_of_ble_eq_true rfl) dX10_findCycles_18 ⟨Nat.le_of_ble_eq_true rfl, Nat.le_of_ble_eq_true rfl⟩) hS (fun g_4 H locs hp_5 hS => ?_)
        obtain ⟨⟨_, _, _, _, h_m, -, -, -, -, -, -⟩, hfr_6⟩ := hp_5
        have h_u := (hfr_6 _ (by omega)).trans h_u
        have h_q := (hfr_6 _ (by omega)).trans h_q
        have h_n9 := (hfr_6 _ (by omega)).trans h_n9
        have h_g := (hfr_6 _ (by omega)).trans h_g
        have h_c1 := (hfr_6 _ (by omega)).trans h_c1
        have h_c2 := (hfr_6 _ (by omega)).trans h_c2
        have h_c3 := (hfr_6 _ (by omega)).trans h_c3
        have hper := (zmula hok (nn := 1) (x := mI.toInt) (by omega) hmI5).1
        have hml9 := (zmula hok (nn := 1) (x := mI.toInt) (by omega) hmI5).2
        have hbz := zor_bd hok (nn := 1) (by omega) hmI5
        have hla1 := hper.1
        refine lv_iload_n hx hb dX10_findCycles_21 rfl (lv_at hl 2 rfl) ?_
        refine lv_istore_n (lv' := [(3, .int mI), (0, .ref (Z.2.1 41)), (1, .int (nI s1)), (2, .int mI)]) hx hb dX10_findCycles_22 rfl hl (by decide) rfl (fun ls hl => ?_)
        refine lv_iload_n hx hb dX10_findCycles_23 rfl (lv_at hl 3 rfl) ?_
        refine lv_istore (lv' := [(4, .int mI), (3, .int mI), (0, .ref (Z.2.1 41)), (1, .int (nI s1)), (2, .int mI)]) hx hb dX10_findCycles_24 hl (by decide) rfl (fun ls hl => ?_)
        refine lv_iload_n hx hb dX10_findCycles_26 rfl (lv_at hl 4 rfl) ?_
        refine lv_istore (lv' := [(5, .int mI), (4, .int mI), (3, .int mI), (0, .ref (Z.2.1 41)), (1, .int (nI s1)), (2, .int mI)]) hx hb dX10_findCycles_27 hl (by decide) rfl (fun ls hl => ?_)
        refine lv_iconst (v := 1) hx hb dX10_findCycles_29 (by decide) ?_
        refine lv_istore (lv' := [(6, .int 1), (5, .int mI), (4, .int mI), (3, .int mI), (0, .ref (Z.2.1 41)), (1, .int (nI s1)), (2, .int mI)]) hx hb dX10_findCycles_30 hl (by decide) rfl (fun ls hl => ?_)
        have hcut_32 : ∀ (nn_32 : Nat) (j : Nat) (le : Int32) (mo : Int32) (its : Int32) (hj : 1 ≤ j ∧ j ≤ zla (sg s1) 1 mI.toInt) (hits : its.toInt = (zor (zst (sg s1) 1) mI.toInt) (j - 1)) (hle : zmnP (zor (zst (sg s1) 1) mI.toInt) j le.toInt) (hmo : zmxP (zor (zst (sg s1) 1) mI.toInt) j mo.toInt) (hm_32 : zla (sg s1) 1 mI.toInt - j < nn_32) (H : Heap) (locs : List Loc) (ls : Array Slot), z_S Z (z_A Z sz) s.heap g_4 H locs → lv_has ls 7 [(0, .ref (Z.2.1 41)), (1, .int (nI s1)), (2, .int mI), (3, .int le), (4, .int mo), (5, .int its), (6, .int (nI j))] → W p l e (headSpec wsX10_findCycles (z_rm 4 93)).room s m args below meth c H locs 0 0 (MQ below (va_Qv (fun g1 => ∃ va vb cl cm cn, z_mp Z g1 sg va vb (nI (zcyc (sg s1))) v15 v16 v17 ∧ g1 46 = .inl (Z.2.2.2 0, 64, .inl cl) ∧ g1 47 = .inl (Z.2.2.2 0, 64, .inl cm) ∧ g1 48 = .inl (Z.2.2.2 0, 64, .inl cn) ∧ zcyT (sg s1) 51 cl cm cn ∧ z_fr 41 8 g g1) (z_B Z) (z_A Z sz)) args s 0 0 (z_A Z sz)) (F0 m 32 ls []) := by
          intro nn_32
          induction nn_32 with
          | zero => intro j le mo its hj hits hle hmo hm_32 H locs ls hS hl; exact absurd hm_32 (Nat.not_lt_zero _)
          | succ nn_32 ih_32 =>
            intro j le mo its hj hits hle hmo hm_32 H locs ls hS hl
            refine lv_iload hx hb dX10_findCycles_32 (lv_at hl 6 rfl) ?_
            refine lv_aload_n hx hb dX10_findCycles_34 rfl (lv_at hl 0 rfl) ?_
            refine z_get (own := RX10) (C := RX10) (T := TX10) (N := 21) hx hb hts in_X10_findCycles_10 hown hK hS h_m hM41 rfl 5 (by decide) (List.mem_of_getElem? (i := 2) rfl) rfl rfl dX10_findCycles_35 ?_
            refine lv_icmp_ge (tgt := 93) hx hb dX10_findCycles_38 (by decide) (fun c_7 => ?_) (fun c_7 => ?_)
            · have i_7 := z_le c_7
              rw [nI_toInt (by omega)] at i_7
              rw [nI_toInt (by omega)] at i_7
              have hjl : j = zla (sg s1) 1 mI.toInt := by omega
              refine lv_aload_n hx hb dX10_findCycles_93 rfl (lv_at hl 0 rfl) ?_
              refine z_get (own := RX10) (C := RX10) (T := TX10) (N := 21) hx hb hts in_X10_findCycles_10 hown hK hS h_m hM41 rfl 4 (by decide) (List.mem_of_getElem? (i := 3) rfl) rfl rfl dX10_findCycles_94 ?_
              refine lv_if_ne (tgt := 149) hx hb dX10_findCycles_97 (by decide) (fun c_8 => ?_) (fun c_8 => ?_)
              · have i_8 := z_ne c_8
                rw [nI_toInt (by omega)] at i_8
                rw [tI_0] at i_8
                have hmu0 : zmu (sg s1) 1 mI.toInt ≠ 0 := by omega
                have hnl : zlB (zst (sg s1) 1) t = false := zlB_no (fun h9 => by
                  rw [← hmI] at h9
                  obtain ⟨⟨d, hd1, hd2⟩, -⟩ := h9
                  exact hmu0 (zper_0 hper hd1 hd2))
                have hcy2 := hcy.no hnl
                have hz1 := zct_f hnl
                obtain ⟨mI2, emI2⟩ : ∃ zz9 : Int32, zz9 = mI + 1 := ⟨_, rfl⟩
                have hmI2 : mI2.toInt = ((t + 1 : Nat) : Int) - 25 := by rw [emI2, fb_addI (by rw [tI_1]; omega) (by rw [tI_1]; omega), tI_1, hmI]; omega
                refine lv_iinc (v := mI2) (lv' := [(2, .int mI2), (0, .ref (Z.2.1 41)), (1, .int (nI s1)), (3, .int le), (4, .int mo), (5, .int its), (6, .int (nI j))]) hx hb dX10_findCycles_149 hl (k := 2) rfl (by rw [emI2]; rfl) (by decide) rfl (fun ls hl => ?_)
                refine lv_goto (tgt := 8) hx hb dX10_findCycles_152 (by decide) ?_
                exact ih_8 (t + 1) mI2 (nI (zmu (sg s1) 1 mI.toInt)) (nI (zla (sg s1) 1 mI.toInt)) cl1 cm1 cn1 g_4 (by rw [hz1]; exact h_m) h_u h_q h_n9 h_g h_c1 h_c2 h_c3 (hfr_ga.tr (hfr_6.wide (by omega) (by omega))) (by omega) (by omega) hcy2 (by omega) _ _ _ hS (lv_sub hl [1, 2, 0] rfl)
              · have i_8 := z_eq c_8
                rw [nI_toInt (by omega)] at i_8
                rw [tI_0] at i_8
                have hmu0 : zmu (sg s1) 1 mI.toInt = 0 := by omega
                rw [hjl] at hle hmo
                rw [hmu0] at hper
                have hol := hle.ol hper
                have hog := hmo.og hper
                refine lv_iload_n hx hb dX10_findCycles_100 rfl (lv_at hl 3 rfl) ?_
                refine lv_iload_n hx hb dX10_findCycles_101 rfl (lv_at hl 2 rfl) ?_
                refine lv_icmp_ne (tgt := 149) hx hb dX10_findCycles_102 (by decide) (fun c_9 => ?_) (fun c_9 => ?_)
                · have i_9 := z_ne c_9
                  have hnl : zlB (zst (sg s1) 1) t = false := zlB_no (fun h9 => by
                    rw [← hmI] at h9
                    exact (show ¬ le.toInt = mI.toInt from i_9) (zol_one hol ⟨⟨0, rfl⟩, h9.2⟩))
                  have hcy2 := hcy.no hnl
                  have hz1 := zct_f hnl
                  obtain ⟨mI2, emI2⟩ : ∃ zz9 : Int32, zz9 = mI + 1 := ⟨_, rfl⟩
                  have hmI2 : mI2.toInt = ((t + 1 : Nat) : Int) - 25 := by rw [emI2, fb_addI (by rw [tI_1]; omega) (by rw [tI_1]; omega), tI_1, hmI]; omega
                  refine lv_iinc (v := mI2) (lv' := [(2, .int mI2), (0, .ref (Z.2.1 41)), (1, .int (nI s1)), (3, .int le), (4, .int mo), (5, .int its), (6, .int (nI j))]) hx hb dX10_findCycles_149 hl (k := 2) rfl (by rw [emI2]; rfl) (by decide) rfl (fun ls hl => ?_)
                  refine lv_goto (tgt := 8) hx hb dX10_findCycles_152 (by decide) ?_
                  exact ih_8 (t + 1) mI2 (nI (zmu (sg s1) 1 mI.toInt)) (nI (zla (sg s1) 1 mI.toInt)) cl1 cm1 cn1 g_4 (by rw [hz1]; exact h_m) h_u h_q h_n9 h_g h_c1 h_c2 h_c3 (hfr_ga.tr (hfr_6.wide (by omega) (by omega))) (by omega) (by omega) hcy2 (by omega) _ _ _ hS (lv_sub hl [1, 2, 0] rfl)
                · have i_9 := z_eq c_9
                  have hyl : zlB (zst (sg s1) 1) t = true := zlB_iff.mpr (by
                    rw [← hmI]
                    have h9 := zlc_of hper hol
                    rw [i_9] at h9; exact h9)
                  have hgr := zgr_is hog
                  rw [hmI] at hgr
                  have hz1 := zct_t hyl
                  have hlt9 : le.toInt = (t : Int) - 25 := by rw [← hmI]; exact i_9
                  have hcy2 := hcy.yes (x := le) (y := mo) (z := nI (zla (sg s1) 1 mI.toInt)) hlt9 hgr (by rw [hmI])
                  refine lv_aload_n hx hb dX10_findCycles_105 rfl (lv_at hl 0 rfl) ?_
                  refine z_get (own := RX10) (C := RX10) (T := TX10) (N := 21) hx hb hts in_X10_findCycles_10 hown hK hS h_m hM41 rfl 7 (by decide) (List.mem_of_getElem? (i := 4) rfl) rfl rfl dX10_findCycles_106 ?_
                  refine lv_aload_n hx hb dX10_findCycles_109 rfl (lv_at hl 0 rfl) ?_
                  refine z_get (own := RX10) (C := RX10) (T := TX10) (N := 21) hx hb hts in_X10_findCycles_10 hown hK hS h_m hM41 rfl 6 (by decide) (List.mem_of_getElem? (i := 1) rfl) rfl rfl dX10_findCycles_110 ?_
                  refine lv_iload_n hx hb dX10_findCycles_113 rfl (lv_at hl 3 rfl) ?_
                  refine z_iast hx hb hK hS h_c1 hM46 (vp_in_nI (by omega) (by omega)) dX10_findCycles_114 (fun g_10 H locs hg_10 hS => ?_)
                  have h_c1 : g_10 46 = .inl (Z.2.2.2 0, 64, .inl (upd cl1 (nI (zct (zlB (zst (sg s1) 1)) t)).toNatClampNeg le)) := z_up_s hg_10
                  have h_u := z_up_n hg_10 h_u (by omega)
                  have h_q := z_up_n hg_10 h_q (by omega)
                  have h_n9 := z_up_n hg_10 h_n9 (by omega)
                  have h_g := z_up_n hg_10 h_g (by omega)
                  have h_c2 := z_up_n hg_10 h_c2 (by omega)
                  have h_c3 := z_up_n hg_10 h_c3 (by omega)
                  have h_m := z_up_n hg_10 h_m (by omega)
                  refine lv_aload_n hx hb dX10_findCycles_115 rfl (lv_at hl 0 rfl) ?_
                  refine z_get (own := RX10) (C := RX10) (T := TX10) (N := 21) hx hb hts in_X10_findCycles_10 hown hK hS h_m hM41 rfl 8 (by decide) (List.mem_of_getElem? (i := 5) rfl) rfl rfl dX10_findCycles_116 ?_
                  refine lv_aload_n hx hb dX10_findCycles_119 rfl (lv_at hl 0 rfl) ?_
                  refine z_get (own := RX10) (C := RX10) (T := TX10) (N := 21) hx hb hts in_X10_findCycles_10 hown hK hS h_m hM41 rfl 6 (by decide) (List.mem_of_getElem? (i := 1) rfl) rfl rfl dX10_findCycles_120 ?_
                  refine lv_iload hx hb dX10_findCycles_123 (lv_at hl 4 rfl) ?_
                  refine z_iast hx hb hK hS h_c2 hM47 (vp_in_nI (by omega) (by omega)) dX10_findCycles_125 (fun g_11 H locs hg_11 hS => ?_)
                  have h_c2 : g_11 47 = .inl (Z.2.2.2 0, 64, .inl (upd cm1 (nI (zct (zlB (zst (sg s1) 1)) t)).toNatClampNeg mo)) := z_up_s hg_11
                  have h_u := z_up_n hg_11 h_u (by omega)
                  have h_q := z_up_n hg_11 h_q (by omega)
                  have h_n9 := z_up_n hg_11 h_n9 (by omega)
                  have h_g := z_up_n hg_11 h_g (by omega)
                  have h_c1 := z_up_n hg_11 h_c1 (by omega)
                  have h_c3 := z_up_n hg_11 h_c3 (by omega)
                  have h_m := z_up_n hg_11 h_m (by omega)
                  refine lv_aload_n hx hb dX10_findCycles_126 rfl (lv_at hl 0 rfl) ?_
                  refine z_get (own := RX10) (C := RX10) (T := TX10) (N := 21) hx hb hts in_X10_findCycles_10 hown hK hS h_m hM41 rfl 9 (by decide) (List.mem_of_getElem? (i := 6) rfl) rfl rfl dX10_findCycles_127 ?_
                  refine lv_aload_n hx hb dX10_findCycles_130 rfl (lv_at hl 0 rfl) ?_
                  refine z_get (own := RX10) (C := RX10) (T := TX10) (N := 21) hx hb hts in_X10_findCycles_10 hown hK hS h_m hM41 rfl 6 (by decide) (List.mem_of_getElem? (i := 1) rfl) rfl rfl dX10_findCycles_131 ?_
                  refine lv_aload_n hx hb dX10_findCycles_134 rfl (lv_at hl 0 rfl) ?_
                  refine z_get (own := RX10) (C := RX10) (T := TX10) (N := 21) hx hb hts in_X10_findCycles_10 hown hK hS h_m hM41 rfl 5 (by decide) (List.mem_of_getElem? (i := 2) rfl) rfl rfl dX10_findCycles_135 ?_
                  refine z_iast hx hb hK hS h_c3 hM48 (vp_in_nI (by omega) (by omega)) dX10_findCycles_138 (fun g_12 H locs hg_12 hS => ?_)
                  have h_c3 : g_12 48 = .inl (Z.2.2.2 0, 64, .inl (upd cn1 (nI (zct (zlB (zst (sg s1) 1)) t)).toNatClampNeg (nI (zla (sg s1) 1 mI.toInt)))) := z_up_s hg_12
                  have h_u := z_up_n hg_12 h_u (by omega)
                  have h_q := z_up_n hg_12 h_q (by omega)
                  have h_n9 := z_up_n hg_12 h_n9 (by omega)
                  have h_g := z_up_n hg_12 h_g (by omega)
                  have h_c1 := z_up_n hg_12 h_c1 (by omega)
                  have h_c2 := z_up_n hg_12 h_c2 (by omega)
                  have h_m := z_up_n hg_12 h_m (by omega)
                  refine lv_aload_n hx hb dX10_findCycles_139 rfl (lv_at hl 0 rfl) ?_
                  refine lv_dup hx hb dX10_findCycles_140 rfl ?_
                  refine z_get (own := RX10) (C := RX10) (T := TX10) (N := 21) hx hb hts in_X10_findCycles_10 hown hK hS h_m hM41 rfl 6 (by decide) (List.mem_of_getElem? (i := 1) rfl) rfl rfl dX10_findCycles_141 ?_
                  refine lv_iconst (v := 1) hx hb dX10_findCycles_144 (by decide) ?_
                  refine lv_iadd hx hb dX10_findCycles_145 ?_
                  rw [show (nI (zct (zlB (zst (sg s1) 1)) t)) + 1 = nI (zct (zlB (zst (sg s1) 1)) t + 1) from nI_1 _]
                  refine z_put (fs' := [.ref (Z.2.1 42), .ref (Z.2.1 43), .ref (Z.2.1 44), .ref (Z.2.1 45), .int (nI (zmu (sg s1) 1 mI.toInt)), .int (nI (zla (sg s1) 1 mI.toInt)), .int (nI (zct (zlB (zst (sg s1) 1)) t + 1)), .ref (Z.2.1 46), .ref (Z.2.1 47), .ref (Z.2.1 48), .ref (Z.2.1 49), .ref (Z.2.1 50), .ref (Z.2.1 51), .ref (Z.2.1 52), .ref (Z.2.1 53), .long v15, .long v16, .int v17, .ref (Z.2.1 54), .ref (Z.2.1 55), .ref (Z.2.1 56)]) (own := RX10) (C := RX10) (T := TX10) (N := 21) hx hb hts in_X10_findCycles_10 tyX10 tyX10_ok nmX10 hown hK hS h_m hM41 rfl 6 (by decide) (List.mem_of_getElem? (i := 1) rfl) rfl rfl rfl rfl (Nat.le_of_ble_eq_true rfl) rfl dX10_findCycles_146 (fun g_13 H locs hg_13 hS => ?_)
                  have h_m : g_13 41 = .inr (10, [.ref (Z.2.1 42), .ref (Z.2.1 43), .ref (Z.2.1 44), .ref (Z.2.1 45), .int (nI (zmu (sg s1) 1 mI.toInt)), .int (nI (zla (sg s1) 1 mI.toInt)), .int (nI (zct (zlB (zst (sg s1) 1)) t + 1)), .ref (Z.2.1 46), .ref (Z.2.1 47), .ref (Z.2.1 48), .ref (Z.2.1 49), .ref (Z.2.1 50), .ref (Z.2.1 51), .ref (Z.2.1 52), .ref (Z.2.1 53), .long v15, .long v16, .int v17, .ref (Z.2.1 54), .ref (Z.2.1 55), .ref (Z.2.1 56)]) := z_up_s hg_13
                  have h_u := z_up_n hg_13 h_u (by omega)
                  have h_q := z_up_n hg_13 h_q (by omega)
                  have h_n9 := z_up_n hg_13 h_n9 (by omega)
                  have h_g := z_up_n hg_13 h_g (by omega)
                  have h_c1 := z_up_n hg_13 h_c1 (by omega)
                  have h_c2 := z_up_n hg_13 h_c2 (by omega)
                  have h_c3 := z_up_n hg_13 h_c3 (by omega)
                  obtain ⟨mI2, emI2⟩ : ∃ zz9 : Int32, zz9 = mI + 1 := ⟨_, rfl⟩
                  have hmI2 : mI2.toInt = ((t + 1 : Nat) : Int) - 25 := by rw [emI2, fb_addI (by rw [tI_1]; omega) (by rw [tI_1]; omega), tI_1, hmI]; omega
                  refine lv_iinc (v := mI2) (lv' := [(2, .int mI2), (0, .ref (Z.2.1 41)), (1, .int (nI s1)), (3, .int le), (4, .int mo), (5, .int its), (6, .int (nI j))]) hx hb dX10_findCycles_149 hl (k := 2) rfl (by rw [emI2]; rfl) (by decide) rfl (fun ls hl => ?_)
                  refine lv_goto (tgt := 8) hx hb dX10_findCycles_152 (by decide) ?_
                  exact ih_8 (t + 1) mI2 (nI (zmu (sg s1) 1 mI.toInt)) (nI (zla (sg s1) 1 mI.toInt)) (upd cl1 (zct (zlB (zst (sg s1) 1)) t) le) (upd cm1 (zct (zlB (zst (sg s1) 1)) t) mo) (upd cn1 (zct (zlB (zst (sg s1) 1)) t) (nI (zla (sg s1) 1 mI.toInt))) g_13 (by rw [hz1]; exact h_m) h_u h_q h_n9 h_g (by rw [nI_clamp (by omega)] at h_c1; exact h_c1) (by rw [nI_clamp (by omega)] at h_c2; exact h_c2) (by rw [nI_clamp (by omega)] at h_c3; exact h_c3) (((((hfr_ga.tr (hfr_6.wide (by omega) (by omega))).up hg_10 (by omega)).up hg_11 (by omega)).up hg_12 (by omega)).up hg_13 (by omega)) (by omega) (by omega) hcy2 (by omega) _ _ _ hS (lv_sub hl [1, 2, 0] rfl)
            · have i_7 := z_nle c_7
              rw [nI_toInt (by omega)] at i_7
              rw [nI_toInt (by omega)] at i_7
              refine lv_aload_n hx hb dX10_findCycles_41 rfl (lv_at hl 0 rfl) ?_
              refine z_get (own := RX10) (C := RX10) (T := TX10) (N := 21) hx hb hts in_X10_findCycles_10 hown hK hS h_m hM41 rfl 4 (by decide) (List.mem_of_getElem? (i := 3) rfl) rfl rfl dX10_findCycles_42 ?_
              refine lv_if_ne (tgt := 93) hx hb dX10_findCycles_45 (by decide) (fun c_14 => ?_) (fun c_14 => ?_)
              · have i_14 := z_ne c_14
                rw [nI_toInt (by omega)] at i_14
                rw [tI_0] at i_14
                have hmu0 : zmu (sg s1) 1 mI.toInt ≠ 0 := by omega
                refine lv_aload_n hx hb dX10_findCycles_93 rfl (lv_at hl 0 rfl) ?_
                refine z_get (own := RX10) (C := RX10) (T := TX10) (N := 21) hx hb hts in_X10_findCycles_10 hown hK hS h_m hM41 rfl 4 (by decide) (List.mem_of_getElem? (i := 3) rfl) rfl rfl dX10_findCycles_94 ?_
                refine lv_if_ne (tgt := 149) hx hb dX10_findCycles_97 (by decide) (fun c_15 => ?_) (fun c_15 => ?_)
                · have i_15 := z_ne c_15
                  rw [nI_toInt (by omega)] at i_15
                  rw [tI_0] at i_15
                  have hnl : zlB (zst (sg s1) 1) t = false := zlB_no (fun h9 => by
                    rw [← hmI] at h9
                    obtain ⟨⟨d, hd1, hd2⟩, -⟩ := h9
                    exact hmu0 (zper_0 hper hd1 hd2))
                  have hcy2 := hcy.no hnl
                  have hz1 := zct_f hnl
                  obtain ⟨mI2, emI2⟩ : ∃ zz9 : Int32, zz9 = mI + 1 := ⟨_, rfl⟩
                  have hmI2 : mI2.toInt = ((t + 1 : Nat) : Int) - 25 := by rw [emI2, fb_addI (by rw [tI_1]; omega) (by rw [tI_1]; omega), tI_1, hmI]; omega
                  refine lv_iinc (v := mI2) (lv' := [(2, .int mI2), (0, .ref (Z.2.1 41)), (1, .int (nI s1)), (3, .int le), (4, .int mo), (5, .int its), (6, .int (nI j))]) hx hb dX10_findCycles_149 hl (k := 2) rfl (by rw [emI2]; rfl) (by decide) rfl (fun ls hl => ?_)
                  refine lv_goto (tgt := 8) hx hb dX10_findCycles_152 (by decide) ?_
                  exact ih_8 (t + 1) mI2 (nI (zmu (sg s1) 1 mI.toInt)) (nI (zla (sg s1) 1 mI.toInt)) cl1 cm1 cn1 g_4 (by rw [hz1]; exact h_m) h_u h_q h_n9 h_g h_c1 h_c2 h_c3 (hfr_ga.tr (hfr_6.wide (by omega) (by omega))) (by omega) (by omega) hcy2 (by omega) _ _ _ hS (lv_sub hl [1, 2, 0] rfl)
                · have i_15 := z_eq c_15
                  rw [nI_toInt (by omega)] at i_15
                  rw [tI_0] at i_15
                  exfalso; omega
              · have i_14 := z_eq c_14
                rw [nI_toInt (by omega)] at i_14
                rw [tI_0] at i_14
                have hmu0 : zmu (sg s1) 1 mI.toInt = 0 := by omega
                refine lv_aload_n hx hb dX10_findCycles_48 rfl (lv_at hl 0 rfl) ?_
                refine lv_iload_n hx hb dX10_findCycles_49 rfl (lv_at hl 1 rfl) ?_
                refine lv_iload hx hb dX10_findCycles_50 (lv_at hl 5 rfl) ?_
                refine lv_iconst (v := 1) hx hb dX10_findCycles_52 (by decide) ?_
                refine z_calli (z_runV (As := [.int (nI s1), .int its, .int 1]) (rest := []) ⟨hx, hb, hml, hown, hts⟩ hK hS ((m_step Z g_4 sg ⟨_, _, _, _, _, _, fu, fq, fm, fd, h_m, h_u, h_q, h_n9, h_g, hMN, hSg⟩ s1 hs1 its 1 (by rw [hits]; exact hbz _) (by rw [tI_1]; omega)) l _) gX10_findCycles_X10_step rfl 3 (by decide +kernel) ⟨Nat.le_of_ble_eq_true rfl, Nat.le_of_ble_eq_true rfl⟩ h_m hM41 rfl rfl hl.1 rfl (Nat.le_of_ble_eq_true rfl) dX10_findCycles_53 ⟨Nat.le_of_ble_eq_true rfl, Nat.le_of_ble_eq_true rfl⟩) hS (fun r1 g_16 H locs hp_17 hS => ?_)
                obtain ⟨rfl, hp_17⟩ := hp_17
                have hr1 : r1.toInt = (zor (zst (sg s1) 1) mI.toInt) j := by
                  rw [hp_17, tI_1, hits]
                  show zst (sg s1) 1 ((zor (zst (sg s1) 1) mI.toInt) (j - 1)) = _
                  have e9 : j = (j - 1) + 1 := by omega
                  conv => rhs; rw [e9]
                  rfl
                refine lv_istore (lv' := [(5, .int r1), (0, .ref (Z.2.1 41)), (1, .int (nI s1)), (2, .int mI), (3, .int le), (4, .int mo), (6, .int (nI j))]) hx hb dX10_findCycles_56 hl (by decide) rfl (fun ls hl => ?_)
                refine lv_iload hx hb dX10_findCycles_58 (lv_at hl 0 rfl) ?_
                refine lv_iload_n hx hb dX10_findCycles_60 rfl (lv_at hl 4 rfl) ?_
                refine lv_icmp_ge (tgt := 69) hx hb dX10_findCycles_61 (by decide) (fun c_18 => ?_) (fun c_18 => ?_)
                · have i_18 := z_le c_18
                  have hle2 : zmnP (zor (zst (sg s1) 1) mI.toInt) (j + 1) le.toInt := hle.keep (by omega)
                  refine lv_iload_n hx hb dX10_findCycles_69 rfl (lv_at hl 4 rfl) ?_
                  refine lv_istore_n (lv' := [(3, .int le), (5, .int r1), (0, .ref (Z.2.1 41)), (1, .int (nI s1)), (2, .int mI), (4, .int mo), (6, .int (nI j))]) hx hb dX10_findCycles_70 rfl hl (by decide) rfl (fun ls hl => ?_)
                  refine lv_iload hx hb dX10_findCycles_71 (lv_at hl 1 rfl) ?_
                  refine lv_iload hx hb dX10_findCycles_73 (lv_at hl 5 rfl) ?_
                  refine lv_icmp_le (tgt := 83) hx hb dX10_findCycles_75 (by decide) (fun c_19 => ?_) (fun c_19 => ?_)
                  · have i_19 := z_le c_19
                    have hmo2 : zmxP (zor (zst (sg s1) 1) mI.toInt) (j + 1) mo.toInt := hmo.keep (by omega)
                    refine lv_iload hx hb dX10_findCycles_83 (lv_at hl 5 rfl) ?_
                    refine lv_istore (lv' := [(4, .int mo), (3, .int le), (5, .int r1), (0, .ref (Z.2.1 41)), (1, .int (nI s1)), (2, .int mI), (6, .int (nI j))]) hx hb dX10_findCycles_85 hl (by decide) rfl (fun ls hl => ?_)
                    refine lv_iinc (v := (nI (j + 1))) (lv' := [(6, .int (nI (j + 1))), (4, .int mo), (3, .int le), (5, .int r1), (0, .ref (Z.2.1 41)), (1, .int (nI s1)), (2, .int mI)]) hx hb dX10_findCycles_87 hl (k := 6) rfl (nI_1 _) (by decide) rfl (fun ls hl => ?_)
                    refine lv_goto (tgt := 32) hx hb dX10_findCycles_90 (by decide) ?_
                    exact ih_32 (j + 1) le mo r1 (by omega) hr1 hle2 hmo2 (by omega) _ _ _ hS (lv_sub hl [4, 5, 6, 2, 1, 3, 0] rfl)
                  · have i_19 := z_nle c_19
                    have hmo2 : zmxP (zor (zst (sg s1) 1) mI.toInt) (j + 1) r1.toInt := by rw [hr1]; exact hmo.new (by omega)
                    refine lv_iload hx hb dX10_findCycles_78 (lv_at hl 1 rfl) ?_
                    refine lv_goto (tgt := 85) hx hb dX10_findCycles_80 (by decide) ?_
                    refine lv_istore (lv' := [(4, .int r1), (3, .int le), (5, .int r1), (0, .ref (Z.2.1 41)), (1, .int (nI s1)), (2, .int mI), (6, .int (nI j))]) hx hb dX10_findCycles_85 hl (by decide) rfl (fun ls hl => ?_)
                    refine lv_iinc (v := (nI (j + 1))) (lv' := [(6, .int (nI (j + 1))), (4, .int r1), (3, .int le), (5, .int r1), (0, .ref (Z.2.1 41)), (1, .int (nI s1)), (2, .int mI)]) hx hb dX10_findCycles_87 hl (k := 6) rfl (nI_1 _) (by decide) rfl (fun ls hl => ?_)
                    refine lv_goto (tgt := 32) hx hb dX10_findCycles_90 (by decide) ?_
                    exact ih_32 (j + 1) le r1 r1 (by omega) hr1 hle2 hmo2 (by omega) _ _ _ hS (lv_sub hl [4, 5, 6, 2, 1, 3, 0] rfl)
                · have i_18 := z_nle c_18
                  have hle2 : zmnP (zor (zst (sg s1) 1) mI.toInt) (j + 1) r1.toInt := by rw [hr1]; exact hle.new (by omega)
                  refine lv_iload hx hb dX10_findCycles_64 (lv_at hl 0 rfl) ?_
                  refine lv_goto (tgt := 70) hx hb dX10_findCycles_66 (by decide) ?_
                  refine lv_istore_n (lv' := [(3, .int r1), (5, .int r1), (0, .ref (Z.2.1 41)), (1, .int (nI s1)), (2, .int mI), (4, .int mo), (6, .int (nI j))]) hx hb dX10_findCycles_70 rfl hl (by decide) rfl (fun ls hl => ?_)
                  refine lv_iload hx hb dX10_findCycles_71 (lv_at hl 1 rfl) ?_
                  refine lv_iload hx hb dX10_findCycles_73 (lv_at hl 5 rfl) ?_
                  refine lv_icmp_le (tgt := 83) hx hb dX10_findCycles_75 (by decide) (fun c_20 => ?_) (fun c_20 => ?_)
                  · have i_20 := z_le c_20
                    have hmo2 : zmxP (zor (zst (sg s1) 1) mI.toInt) (j + 1) mo.toInt := hmo.keep (by omega)
                    refine lv_iload hx hb dX10_findCycles_83 (lv_at hl 5 rfl) ?_
                    refine lv_istore (lv' := [(4, .int mo), (3, .int r1), (5, .int r1), (0, .ref (Z.2.1 41)), (1, .int (nI s1)), (2, .int mI), (6, .int (nI j))]) hx hb dX10_findCycles_85 hl (by decide) rfl (fun ls hl => ?_)
                    refine lv_iinc (v := (nI (j + 1))) (lv' := [(6, .int (nI (j + 1))), (4, .int mo), (3, .int r1), (5, .int r1), (0, .ref (Z.2.1 41)), (1, .int (nI s1)), (2, .int mI)]) hx hb dX10_findCycles_87 hl (k := 6) rfl (nI_1 _) (by decide) rfl (fun ls hl => ?_)
                    refine lv_goto (tgt := 32) hx hb dX10_findCycles_90 (by decide) ?_
                    exact ih_32 (j + 1) r1 mo r1 (by omega) hr1 hle2 hmo2 (by omega) _ _ _ hS (lv_sub hl [4, 5, 6, 2, 1, 3, 0] rfl)
                  · have i_20 := z_nle c_20
                    have hmo2 : zmxP (zor (zst (sg s1) 1) mI.toInt) (j + 1) r1.toInt := by rw [hr1]; exact hmo.new (by omega)
                    refine lv_iload hx hb dX10_findCycles_78 (lv_at hl 1 rfl) ?_
                    refine lv_goto (tgt := 85) hx hb dX10_findCycles_80 (by decide) ?_
                    refine lv_istore (lv' := [(4, .int r1), (3, .int r1), (5, .int r1), (0, .ref (Z.2.1 41)), (1, .int (nI s1)), (2, .int mI), (6, .int (nI j))]) hx hb dX10_findCycles_85 hl (by decide) rfl (fun ls hl => ?_)
                    refine lv_iinc (v := (nI (j + 1))) (lv' := [(6, .int (nI (j + 1))), (4, .int r1), (3, .int r1), (5, .int r1), (0, .ref (Z.2.1 41)), (1, .int (nI s1)), (2, .int mI)]) hx hb dX10_findCycles_87 hl (k := 6) rfl (nI_1 _) (by decide) rfl (fun ls hl => ?_)
                    refine lv_goto (tgt := 32) hx hb dX10_findCycles_90 (by decide) ?_
                    exact ih_32 (j + 1) r1 r1 r1 (by omega) hr1 hle2 hmo2 (by omega) _ _ _ hS (lv_sub hl [4, 5, 6, 2, 1, 3, 0] rfl)
        exact hcut_32 (zla (sg s1) 1 mI.toInt - 1 + 1) 1 mI mI mI (by omega) rfl (zmnP.one _) (zmxP.one _) (Nat.lt_succ_self _) _ _ _ hS (lv_sub hl [4, 5, 6, 3, 2, 1, 0] rfl)
  exact hcut_8 (51 - 0 + 1) 0 (-25) v4 v5 cl cm cn g_1 h_m h_u h_q h_n9 h_g h_c1 h_c2 h_c3 (z_fr.rf.up hg_1 (by omega)) (by omega) rfl (fun u hu => absurd hu (Nat.not_lt_zero u)) (Nat.lt_succ_self _) _ _ _ hS (lv_sub hl [1, 2, 0] rfl)

