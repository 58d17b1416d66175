/-! the law: its loop, its start -/
set_option maxRecDepth 100000 in
theorem y_nm_in : ∀ q ∈ z_Nm, Cond.methodLinkNest q.1 q.2.1 q.2.2.1 q.2.2.2 ∈ lw_tbl := fun q hq => y_idx (ws := z_Nm.map (fun q => Cond.methodLinkNest q.1 q.2.1 q.2.2.1 q.2.2.2)) [439, 524, 541, 546, 550, 457, 559, 569, 577, 647, 660, 680, 696, 705, 715, 734, 769, 783, 788, 810, 170, 240, 271, 281, 310, 329, 118, 488, 495, 499, 729, 744, 761, 152, 354, 394, 399, 405, 413, 421, 429, 434, 801, 800, 124, 739, 753, 754, 755, 756, 752, 532, 709, 710, 465, 475, 476, 627, 618, 623, 585, 590] (by decide +kernel) _ (List.mem_map.mpr ⟨q, hq, rfl⟩)
set_option maxRecDepth 100000 in
theorem y_nf_in : ∀ q ∈ z_Nf, Cond.fieldLinkNest q.1 q.2.1 q.2.2.1 q.2.2.2.1 q.2.2.2.2.1 q.2.2.2.2.2 ∈ lw_tbl := fun q hq => y_idx (ws := z_Nf.map (fun q => Cond.fieldLinkNest q.1 q.2.1 q.2.2.1 q.2.2.2.1 q.2.2.2.2.1 q.2.2.2.2.2)) [210, 219, 338, 336, 253, 340, 132, 159, 157, 342, 318, 249, 251, 142, 334, 212, 216, 203, 215, 130, 209, 131, 202, 206, 213, 208, 207, 217, 204] (by decide +kernel) _ (List.mem_map.mpr ⟨q, hq, rfl⟩)
theorem y_ao5 : Cond.arrayOver (.object RX5) ∈ lw_tbl := List.mem_of_getElem? (i := 113) (by decide +kernel)
theorem y_ao6 : Cond.arrayOver (.object RX6) ∈ lw_tbl := List.mem_of_getElem? (i := 115) (by decide +kernel)
theorem y_arr_int {s : State} {A : Array Value} (h : (Cond.arrayClass .int).before A s = true) : ∃ cA, ArrOfT s cA .int ∧ va_RA s cA .int := by
  obtain ⟨c, k, comp, h1, h2, h3⟩ := Cond.arrayClass_spec h
  exact ⟨c, fun n z => ⟨fun k h => (by cases h), k, h2, comp, h3⟩, h1⟩
theorem y_arr_long {s : State} {A : Array Value} (h : (Cond.arrayClass .long).before A s = true) : ∃ cA, ArrOfT s cA .long ∧ va_RA s cA .long := by
  obtain ⟨c, k, comp, h1, h2, h3⟩ := Cond.arrayClass_spec h
  exact ⟨c, fun n z => ⟨fun k h => (by cases h), k, h2, comp, h3⟩, h1⟩
theorem y_arr_boolean {s : State} {A : Array Value} (h : (Cond.arrayClass .boolean).before A s = true) : ∃ cA, ArrOfT s cA .boolean ∧ va_RA s cA .boolean := by
  obtain ⟨c, k, comp, h1, h2, h3⟩ := Cond.arrayClass_spec h
  exact ⟨c, fun n z => ⟨fun k h => (by cases h), k, h2, comp, h3⟩, h1⟩
theorem y_arrq {s : State} {A : Array Value} {C : String} (h : (Cond.arrayOver (.object C)).before A s = true) : ∃ cA, ArrOfT s cA (.object C) ∧ va_RA s cA (.object C) := by
  obtain ⟨comp, c, k, h1, h2, h3, h4, h5⟩ := Cond.arrayOver_spec h
  exact ⟨c, fun n z => ⟨fun k h => (by cases h), k, h3, comp, h4⟩, k, comp, h3, h4, h1, h5⟩
def y_two_a {α : Type} (f1 f2 : Nat → α) : Nat → α := fun k => if k < 41 then f1 k else f2 (k - 41)
theorem y_two (D : va_G) (cA : Nat → ClassId) (a1 a2 : Nat → Nat) (f1 f2 : Nat → va_E) : z_w (41, a1, D, cA) f1 ++ z_w (16, a2, D, cA) f2 = z_w (57, y_two_a a1 a2, D, cA) (y_two_a f1 f2) := rfl
set_option maxHeartbeats 4000000 in
set_option maxRecDepth 100000 in
theorem law_loop {p : Program} {e : Env} {s : State} {m : MethodId} {below : List Frame} {meth : Method} {c : Code} (l : Launch) {b L : Nat} {xs : Nat → Int32} (C0 : lw_At p s m meth c b L xs) (hL : L ≤ 3072) (Z : zT) (hZ : 57 ≤ Z.1) (hK : z_K Z s) {cells slots : Nat} (hcs : cells ≤ room_1.cells ∧ slots ≤ room_1.slots) : ∀ (nn : Nat) (iv : Int32) (g : Nat → va_E) (sg : Nat → zb) (rw9 : Nat → zr) (H : Heap) (locs : List Loc) (ls : Array Slot), 0 ≤ iv.toInt → iv.toInt ≤ L + 6 → (L + 12 - iv.toInt).toNat < nn → z_xw Z g g sg rw9 → z_mw Z g sg rw9 → z_S Z (fun q : Nat => s.heap.size ≤ q) s.heap g H locs → lv_has ls 4 [(0, .ref b), (1, .ref (Z.2.1 0)), (2, .ref (Z.2.1 41)), (3, .int iv)] → W p l e room_1 s m #[Value.ref b] below meth c H locs cells slots (lw_Z below #[Value.ref b] s) (F0 m 18 ls []) := by
  obtain ⟨hx, hb, hr, hml, hown, hts0, hX, hbl, hlocks, hgv⟩ := id C0
  have hbA : ¬ (fun q : Nat => s.heap.size ≤ q) b := Nat.not_le.mpr hbl
  intro nn
  induction nn with
  | zero => intro iv g sg rw9 H locs ls _ _ hm; exact absurd hm (Nat.not_lt_zero _)
  | succ nn ih =>
    intro iv g sg rw9 H locs ls hi0 hi6 hm hXw hMw hS hl
    refine lv_iload_n hx hb dL_law_18 rfl (lv_at hl 3 rfl) ?_
    refine lv_aload_n hx hb dL_law_19 rfl (lv_at hl 0 rfl) ?_
    refine va_slen hx hb hX hbl hbA hS.2.2.1 dL_law_20 ?_
    refine lv_bipush (v := 6) hx hb dL_law_21 (by decide) ?_
    refine lv_isub hx hb dL_law_23 ?_
    have hLn : (Int32.ofNat L).toInt = (L : Int) := nI_toInt (by omega)
    have h6 : (6 : Int32).toInt = 6 := rfl
    have hsub : (Int32.ofNat L - 6).toInt = (L : Int) - 6 := by rw [fb_subI (by rw [hLn, h6]; omega) (by rw [hLn, h6]; omega), hLn, h6]
    refine lv_icmp_gt (tgt := 1435) hx hb dL_law_24 (by decide) (fun c1 => ?_) (fun c1 => ?_)
    · refine lv_iconst (v := 1) hx hb dL_law_1435 (by decide) ?_
      refine va_forget (fun q hq => hS.2.2.1.2.2 q hq) ?_
      refine W.widen (k := 600000) (n := 7302249) hcs.1 hcs.2 ?_
      exact lw_ret hx hb hr hlocks dL_law_1436
    · have i1 := z_nlt c1
      have hiL : iv.toInt + 6 ≤ L := by omega
      refine lv_aload_n hx hb dL_law_27 rfl (lv_at hl 0 rfl) ?_
      refine lv_iload_n hx hb dL_law_28 rfl (lv_at hl 3 rfl) ?_
      refine va_sld hx hb hX hbl hbA hS.2.2.1 (vp_in_iff.mpr ⟨hi0, by omega⟩) dL_law_29 ?_
      refine lv_bipush (v := 31) hx hb dL_law_30 (by decide) ?_
      refine lv_iand hx hb dL_law_32 ?_
      refine lv_topi (fun sv esv => ?_)
      have back : ∀ (g2 : Nat → va_E) (sg2 : Nat → zb) (rw2 : Nat → zr) (H2 : Heap) (locs2 : List Loc) (ls2 : Array Slot), z_xw Z g2 g2 sg2 rw2 → z_mw Z g2 sg2 rw2 → z_S Z (fun q : Nat => s.heap.size ≤ q) s.heap g2 H2 locs2 → lv_has ls2 4 [(0, .ref b), (1, .ref (Z.2.1 0)), (2, .ref (Z.2.1 41)), (3, .int iv)] → W p l e room_1 s m #[Value.ref b] below meth c H2 locs2 cells slots (lw_Z below #[Value.ref b] s) (F0 m 1429 ls2 []) := by
        intro g2 sg2 rw2 H2 locs2 ls2 h1 h2 h3 h4
        obtain ⟨iv2, eiv2⟩ : ∃ z : Int32, z = iv + 6 := ⟨_, rfl⟩
        have hiv2 : iv2.toInt = iv.toInt + 6 := by rw [eiv2, fb_addI (by rw [h6]; omega) (by rw [h6]; omega), h6]
        refine lv_iinc (v := iv2) (lv' := [(3, .int iv2), (0, .ref b), (1, .ref (Z.2.1 0)), (2, .ref (Z.2.1 41))]) hx hb dL_law_1429 h4 (k := 3) rfl (by rw [eiv2]; rfl) (by decide) rfl (fun ls3 h5 => ?_)
        refine lv_goto (tgt := 18) hx hb dL_law_1432 (by decide) ?_
        exact ih iv2 g2 sg2 rw2 H2 locs2 ls3 (by omega) (by omega) (by omega) h1 h2 h3 (lv_sub h5 [1, 2, 3, 0] rfl)
      by_cases hsw : sv.toInt < 0 ∨ 31 < sv.toInt
      · refine lv_tableOut (tgt := 1429) hx hb dL_law_33 hsw (by decide) ?_
        exact back g sg rw9 H locs ls hXw hMw hS hl
      · clear esv
        obtain ⟨k, ek, hk, -⟩ := z_nI_of (x := sv) (by omega)
        have hk32 : k < 32 := by omega
        clear hk hsw
        subst ek
        match k, hk32 with
        | 0, _ =>
          rw [show nI 0 = (0 : Int32) from rfl]
          refine lv_tableIn (tgt := 176) hx hb dL_law_33 (by decide) (by decide) rfl (by decide) ?_
          exact lw_case_0 l C0 hL Z hZ hK hcs hi0 hiL hXw hMw hS hl back
        | 1, _ =>
          rw [show nI 1 = (1 : Int32) from rfl]
          refine lv_tableIn (tgt := 219) hx hb dL_law_33 (by decide) (by decide) rfl (by decide) ?_
          exact lw_case_1 l C0 hL Z hZ hK hcs hi0 hiL hXw hMw hS hl back
        | 2, _ =>
          rw [show nI 2 = (2 : Int32) from rfl]
          refine lv_tableIn (tgt := 252) hx hb dL_law_33 (by decide) (by decide) rfl (by decide) ?_
          exact lw_case_2 l C0 hL Z hZ hK hcs hi0 hiL hXw hMw hS hl back
        | 3, _ =>
          rw [show nI 3 = (3 : Int32) from rfl]
          refine lv_tableIn (tgt := 285) hx hb dL_law_33 (by decide) (by decide) rfl (by decide) ?_
          exact lw_case_3 l C0 hL Z hZ hK hcs hi0 hiL hXw hMw hS hl back
        | 4, _ =>
          rw [show nI 4 = (4 : Int32) from rfl]
          refine lv_tableIn (tgt := 318) hx hb dL_law_33 (by decide) (by decide) rfl (by decide) ?_
          exact lw_case_4 l C0 hL Z hZ hK hcs hi0 hiL hXw hMw hS hl back
        | 5, _ =>
          rw [show nI 5 = (5 : Int32) from rfl]
          refine lv_tableIn (tgt := 351) hx hb dL_law_33 (by decide) (by decide) rfl (by decide) ?_
          exact lw_case_5 l C0 hL Z hZ hK hcs hi0 hiL hXw hMw hS hl back
        | 6, _ =>
          rw [show nI 6 = (6 : Int32) from rfl]
          refine lv_tableIn (tgt := 384) hx hb dL_law_33 (by decide) (by decide) rfl (by decide) ?_
          exact lw_case_6 l C0 hL Z hZ hK hcs hi0 hiL hXw hMw hS hl back
        | 7, _ =>
          rw [show nI 7 = (7 : Int32) from rfl]
          refine lv_tableIn (tgt := 417) hx hb dL_law_33 (by decide) (by decide) rfl (by decide) ?_
          exact lw_case_7 l C0 hL Z hZ hK hcs hi0 hiL hXw hMw hS hl back
        | 8, _ =>
          rw [show nI 8 = (8 : Int32) from rfl]
          refine lv_tableIn (tgt := 470) hx hb dL_law_33 (by decide) (by decide) rfl (by decide) ?_
          exact lw_case_8 l C0 hL Z hZ hK hcs hi0 hiL hXw hMw hS hl back
        | 9, _ =>
          rw [show nI 9 = (9 : Int32) from rfl]
          refine lv_tableIn (tgt := 523) hx hb dL_law_33 (by decide) (by decide) rfl (by decide) ?_
          exact lw_case_9 l C0 hL Z hZ hK hcs hi0 hiL hXw hMw hS hl back
        | 10, _ =>
          rw [show nI 10 = (10 : Int32) from rfl]
          refine lv_tableIn (tgt := 566) hx hb dL_law_33 (by decide) (by decide) rfl (by decide) ?_
          exact lw_case_10 l C0 hL Z hZ hK hcs hi0 hiL hXw hMw hS hl back
        | 11, _ =>
          rw [show nI 11 = (11 : Int32) from rfl]
          refine lv_tableIn (tgt := 609) hx hb dL_law_33 (by decide) (by decide) rfl (by decide) ?_
          exact lw_case_11 l C0 hL Z hZ hK hcs hi0 hiL hXw hMw hS hl back
        | 12, _ =>
          rw [show nI 12 = (12 : Int32) from rfl]
          refine lv_tableIn (tgt := 652) hx hb dL_law_33 (by decide) (by decide) rfl (by decide) ?_
          exact lw_case_12 l C0 hL Z hZ hK hcs hi0 hiL hXw hMw hS hl back
        | 13, _ =>
          rw [show nI 13 = (13 : Int32) from rfl]
          refine lv_tableIn (tgt := 675) hx hb dL_law_33 (by decide) (by decide) rfl (by decide) ?_
          exact lw_case_13 l C0 hL Z hZ hK hcs hi0 hiL hXw hMw hS hl back
        | 14, _ =>
          rw [show nI 14 = (14 : Int32) from rfl]
          refine lv_tableIn (tgt := 718) hx hb dL_law_33 (by decide) (by decide) rfl (by decide) ?_
          exact lw_case_14 l C0 hL Z hZ hK hcs hi0 hiL hXw hMw hS hl back
        | 15, _ =>
          rw [show nI 15 = (15 : Int32) from rfl]
          refine lv_tableIn (tgt := 751) hx hb dL_law_33 (by decide) (by decide) rfl (by decide) ?_
          exact lw_case_15 l C0 hL Z hZ hK hcs hi0 hiL hXw hMw hS hl back
        | 16, _ =>
          rw [show nI 16 = (16 : Int32) from rfl]
          refine lv_tableIn (tgt := 774) hx hb dL_law_33 (by decide) (by decide) rfl (by decide) ?_
          exact lw_case_16 l C0 hL Z hZ hK hcs hi0 hiL hXw hMw hS hl back
        | 17, _ =>
          rw [show nI 17 = (17 : Int32) from rfl]
          refine lv_tableIn (tgt := 817) hx hb dL_law_33 (by decide) (by decide) rfl (by decide) ?_
          exact lw_case_17 l C0 hL Z hZ hK hcs hi0 hiL hXw hMw hS hl back
        | 18, _ =>
          rw [show nI 18 = (18 : Int32) from rfl]
          refine lv_tableIn (tgt := 880) hx hb dL_law_33 (by decide) (by decide) rfl (by decide) ?_
          exact lw_case_18 l C0 hL Z hZ hK hcs hi0 hiL hXw hMw hS hl back
        | 19, _ =>
          rw [show nI 19 = (19 : Int32) from rfl]
          refine lv_tableIn (tgt := 913) hx hb dL_law_33 (by decide) (by decide) rfl (by decide) ?_
          exact lw_case_19 l C0 hL Z hZ hK hcs hi0 hiL hXw hMw hS hl back
        | 20, _ =>
          rw [show nI 20 = (20 : Int32) from rfl]
          refine lv_tableIn (tgt := 946) hx hb dL_law_33 (by decide) (by decide) rfl (by decide) ?_
          exact lw_case_20 l C0 hL Z hZ hK hcs hi0 hiL hXw hMw hS hl back
        | 21, _ =>
          rw [show nI 21 = (21 : Int32) from rfl]
          refine lv_tableIn (tgt := 969) hx hb dL_law_33 (by decide) (by decide) rfl (by decide) ?_
          exact lw_case_21 l C0 hL Z hZ hK hcs hi0 hiL hXw hMw hS hl back
        | 22, _ =>
          rw [show nI 22 = (22 : Int32) from rfl]
          refine lv_tableIn (tgt := 992) hx hb dL_law_33 (by decide) (by decide) rfl (by decide) ?_
          exact lw_case_22 l C0 hL Z hZ hK hcs hi0 hiL hXw hMw hS hl back
        | 23, _ =>
          rw [show nI 23 = (23 : Int32) from rfl]
          refine lv_tableIn (tgt := 1025) hx hb dL_law_33 (by decide) (by decide) rfl (by decide) ?_
          exact lw_case_23 l C0 hL Z hZ hK hcs hi0 hiL hXw hMw hS hl back
        | 24, _ =>
          rw [show nI 24 = (24 : Int32) from rfl]
          refine lv_tableIn (tgt := 1085) hx hb dL_law_33 (by decide) (by decide) rfl (by decide) ?_
          exact lw_case_24 l C0 hL Z hZ hK hcs hi0 hiL hXw hMw hS hl back
        | 25, _ =>
          rw [show nI 25 = (25 : Int32) from rfl]
          refine lv_tableIn (tgt := 1138) hx hb dL_law_33 (by decide) (by decide) rfl (by decide) ?_
          exact lw_case_25 l C0 hL Z hZ hK hcs hi0 hiL hXw hMw hS hl back
        | 26, _ =>
          rw [show nI 26 = (26 : Int32) from rfl]
          refine lv_tableIn (tgt := 1181) hx hb dL_law_33 (by decide) (by decide) rfl (by decide) ?_
          exact lw_case_26 l C0 hL Z hZ hK hcs hi0 hiL hXw hMw hS hl back
        | 27, _ =>
          rw [show nI 27 = (27 : Int32) from rfl]
          refine lv_tableIn (tgt := 1234) hx hb dL_law_33 (by decide) (by decide) rfl (by decide) ?_
          exact lw_case_27 l C0 hL Z hZ hK hcs hi0 hiL hXw hMw hS hl back
        | 28, _ =>
          rw [show nI 28 = (28 : Int32) from rfl]
          refine lv_tableIn (tgt := 1287) hx hb dL_law_33 (by decide) (by decide) rfl (by decide) ?_
          exact lw_case_28 l C0 hL Z hZ hK hcs hi0 hiL hXw hMw hS hl back
        | 29, _ =>
          rw [show nI 29 = (29 : Int32) from rfl]
          refine lv_tableIn (tgt := 1330) hx hb dL_law_33 (by decide) (by decide) rfl (by decide) ?_
          exact lw_case_29 l C0 hL Z hZ hK hcs hi0 hiL hXw hMw hS hl back
        | 30, _ =>
          rw [show nI 30 = (30 : Int32) from rfl]
          refine lv_tableIn (tgt := 1373) hx hb dL_law_33 (by decide) (by decide) rfl (by decide) ?_
          exact lw_case_30 l C0 hL Z hZ hK hcs hi0 hiL hXw hMw hS hl back
        | 31, _ =>
          rw [show nI 31 = (31 : Int32) from rfl]
          refine lv_tableIn (tgt := 1396) hx hb dL_law_33 (by decide) (by decide) rfl (by decide) ?_
          exact lw_case_31 l C0 hL Z hZ hK hcs hi0 hiL hXw hMw hS hl back
        | k + 32, h9 => exact absurd h9 (by omega)
set_option maxHeartbeats 8000000 in
set_option maxRecDepth 100000 in
theorem whole_start {p : Program} {e : Env} {s : State} {m : MethodId} {below : List Frame} {meth : Method} {c : Code} (l : Launch) (hflags : l.flags = flags0) {b L : Nat} {xs : Nat → Int32} (hL : L ≤ 3072) (C0 : lw_At p s m meth c b L xs) : W p l e room_1 s m #[Value.ref b] below meth c s.heap [] 0 0 (lw_Z below #[Value.ref b] s) (entryFrame m ([Value.ref b] : List Value).toArray 4) := by
  obtain ⟨hx, hb, hr, hml, hown, hts0, hX, hbl, hlocks, hgv⟩ := id C0
  have hts : ∀ w ∈ wsL_law, w.before #[Value.ref b] s = true := fun w h => hts0 w (wsL_law_in w h)
  have hown : s.vm.findClass RL = some m.cls := hown
  obtain ⟨c0, i0, k0⟩ := u_known (C := RX0) (T := TX0) (N := 7) (n := 7) hts inlX0 (hts _ (List.mem_of_getElem? (i := 46) rfl))
  obtain ⟨c1, i1, k1⟩ := u_known (C := RX1) (T := TX1) (N := 4) (n := 4) hts inlX1 (hts _ (List.mem_of_getElem? (i := 60) rfl))
  obtain ⟨c2, i2, k2⟩ := u_known (C := RX2) (T := TX2) (N := 3) (n := 3) hts inlX2 (hts _ (List.mem_of_getElem? (i := 17) rfl))
  obtain ⟨c3, i3, k3⟩ := u_known (C := RX3) (T := TX3) (N := 1) (n := 1) hts inlX3 (hts _ (List.mem_of_getElem? (i := 54) rfl))
  obtain ⟨c4, i4, k4⟩ := u_known (C := RX4) (T := TX4) (N := 2) (n := 2) hts inlX4 (hts _ (List.mem_of_getElem? (i := 21) rfl))
  obtain ⟨c5, i5, k5⟩ := u_known (C := RX5) (T := TX5) (N := 5) (n := 5) hts inlX5 (hts _ (List.mem_of_getElem? (i := 48) rfl))
  obtain ⟨c6, i6, k6⟩ := u_known (C := RX6) (T := TX6) (N := 2) (n := 2) hts inlX6 (hts _ (List.mem_of_getElem? (i := 25) rfl))
  obtain ⟨c7, i7, k7⟩ := u_known (C := RX7) (T := TX7) (N := 7) (n := 7) hts inlX7 (hts _ (List.mem_of_getElem? (i := 51) rfl))
  obtain ⟨c8, i8, k8⟩ := u_known (C := RX8) (T := TX8) (N := 7) (n := 7) hts inlX8 (hts _ (List.mem_of_getElem? (i := 57) rfl))
  obtain ⟨c9, i9, k9⟩ := u_known (C := RX9) (T := TX9) (N := 5) (n := 5) hts inlX9 (hts _ (List.mem_of_getElem? (i := 1) rfl))
  obtain ⟨c10, i10, k10⟩ := u_known (C := RX10) (T := TX10) (N := 21) (n := 21) hts inlX10 (hts _ (List.mem_of_getElem? (i := 4) rfl))
  obtain ⟨D, hKc⟩ : ∃ D : va_G, ∀ (k : Nat) (q : vw_C), vwCl[k]? = some q → u_Kn s q.1 q.2.1 q.2.2 (D.1 k) (D.2 k) := by
    refine ⟨(fun k => match k with | 0 => c0 | 1 => c1 | 2 => c2 | 3 => c3 | 4 => c4 | 5 => c5 | 6 => c6 | 7 => c7 | 8 => c8 | 9 => c9 | _ => c10, fun k => match k with | 0 => i0 | 1 => i1 | 2 => i2 | 3 => i3 | 4 => i4 | 5 => i5 | 6 => i6 | 7 => i7 | 8 => i8 | 9 => i9 | _ => i10), ?_⟩
    intro k q hq
    match k, hq with
    | 0, hq => cases hq; exact k0
    | 1, hq => cases hq; exact k1
    | 2, hq => cases hq; exact k2
    | 3, hq => cases hq; exact k3
    | 4, hq => cases hq; exact k4
    | 5, hq => cases hq; exact k5
    | 6, hq => cases hq; exact k6
    | 7, hq => cases hq; exact k7
    | 8, hq => cases hq; exact k8
    | 9, hq => cases hq; exact k9
    | 10, hq => cases hq; exact k10
    | k + 11, hq => simp [vwCl] at hq
  obtain ⟨t0, u0⟩ := y_arr_int (hts _ (List.mem_of_getElem? (i := 30) rfl))
  obtain ⟨t1, u1⟩ := y_arr_long (hts _ (List.mem_of_getElem? (i := 117) rfl))
  obtain ⟨t2, u2⟩ := y_arr_boolean (hts _ (List.mem_of_getElem? (i := 124) rfl))
  obtain ⟨t3, u3⟩ := y_arrq (hts0 _ y_ao5)
  obtain ⟨t4, u4⟩ := y_arrq (hts0 _ y_ao6)
  obtain ⟨cA, hcA⟩ : ∃ cA : Nat → ClassId, va_K D vwCl (z_tys cA) s := by
    refine ⟨fun k => match k with | 0 => t0 | 1 => t1 | 2 => t2 | 3 => t3 | _ => t4, hKc, ?_⟩
    intro k q hq
    match k, hq with
    | 0, hq => cases hq; exact u0
    | 1, hq => cases hq; exact u1
    | 2, hq => cases hq; exact u2
    | 3, hq => cases hq; exact u3
    | 4, hq => cases hq; exact u4
    | k + 5, hq => simp [z_tys] at hq
  have hK : y_K D cA s := ⟨hcA, ⟨fun q hq => va_Nw.of rfl (hts0 _ (y_nm_in q hq)), fun q hq => va_Nw.of rfl (hts0 _ (y_nf_in q hq))⟩, va_AO.of (hts0 _ y_ao5), va_AO.of (hts0 _ y_ao6)⟩
  have hS : y_S D (fun q : Nat => s.heap.size ≤ q) s.heap [] s.heap [] := ⟨fun k q h => by simp at h, ⟨fun i j p q h => by simp at h, fun k q h => by simp at h⟩, va_S.rf, fun _ h => h⟩
  have hl := lv_entry ([.ref b]) (n := 4) (Nat.le_of_ble_eq_true rfl)
  rw [lg_entry_eq]
  generalize (lg_sl ([.ref b]) ++ List.replicate (4 - (lg_sl ([.ref b])).length) Slot.unset).toArray = ls at hl ⊢
  have hl : lv_has ls 4 [(0, .ref b)] := hl
  refine y_new (ci := 9) (fs := [.null, .null, .null, .null, .null]) (C := RX9) (T := TX9) (N := 5) hx hb hts inlX9 tyX9 tyX9_ok hown (List.mem_of_getElem? (i := 0) rfl) (List.mem_of_getElem? (i := 1) rfl) (List.mem_of_getElem? (i := 2) rfl) hK hS rfl (fun j hj => match j, hj with | 0, _ => rfl | 1, _ => rfl | 2, _ => rfl | 3, _ => rfl | 4, _ => rfl | (k + 5), h => absurd h (by omega)) (Nat.le_of_ble_eq_true rfl) (Nat.le_of_ble_eq_true rfl) dL_law_0 (fun q0 H hS => ?_)
  have hS : y_S D (fun q : Nat => s.heap.size ≤ q) s.heap [(q0, .inr (9, [.null, .null, .null, .null, .null]))] H _ := hS
  refine lv_dup hx hb dL_law_3 rfl ?_
  refine y_callv (wr := []) (y_runI (As := []) (rest := [.ref q0]) ⟨hx, hb, hml, hown, hts⟩ hK hS [0] rfl rfl rfl (c_class D cA q0 l _) gL_law_X9_init rfl 0 (List.mem_of_getElem? (i := 6) rfl) (List.mem_of_getElem? (i := 2) rfl) rfl (List.mem_of_getElem? (i := 7) rfl) (by decide +kernel) ⟨(Nat.le_of_ble_eq_true rfl), (Nat.le_of_ble_eq_true rfl)⟩ rfl hl.1 rfl (Nat.le_of_ble_eq_true rfl) dL_law_4 ⟨(Nat.le_of_ble_eq_true rfl), (Nat.le_of_ble_eq_true rfl)⟩) hS [0] rfl [] rfl rfl (by decide) (fun u H locs hu hS => ?_)
  have hS : y_S D (fun q : Nat => s.heap.size ≤ q) s.heap (z_w (41, u.1, D, cA) u.2) H _ := hS
  refine lv_astore_n (lv' := [(1, .ref q0), (0, .ref b)]) hx hb dL_law_7 rfl hl (by decide) rfl (fun ls hl => ?_)
  refine y_new (ci := 10) (fs := [.null, .null, .null, .null, .int 0, .int 0, .int 0, .null, .null, .null, .null, .null, .null, .null, .null, .long 0, .long 0, .int 0, .null, .null, .null]) (C := RX10) (T := TX10) (N := 21) hx hb hts inlX10 tyX10 tyX10_ok hown (List.mem_of_getElem? (i := 3) rfl) (List.mem_of_getElem? (i := 4) rfl) (List.mem_of_getElem? (i := 5) rfl) hK hS rfl (fun j hj => match j, hj with | 0, _ => rfl | 1, _ => rfl | 2, _ => rfl | 3, _ => rfl | 4, _ => rfl | 5, _ => rfl | 6, _ => rfl | 7, _ => rfl | 8, _ => rfl | 9, _ => rfl | 10, _ => rfl | 11, _ => rfl | 12, _ => rfl | 13, _ => rfl | 14, _ => rfl | 15, _ => rfl | 16, _ => rfl | 17, _ => rfl | 18, _ => rfl | 19, _ => rfl | 20, _ => rfl | (k + 21), h => absurd h (by omega)) (Nat.le_of_ble_eq_true rfl) (Nat.le_of_ble_eq_true rfl) dL_law_8 (fun q1 H hS => ?_)
  refine lv_dup hx hb dL_law_11 rfl ?_
  refine y_callv (wc := [(q1, .inr (10, [.null, .null, .null, .null, .int 0, .int 0, .int 0, .null, .null, .null, .null, .null, .null, .null, .null, .long 0, .long 0, .int 0, .null, .null, .null]))]) (wr := z_w (41, u.1, D, cA) u.2) (y_runI (As := []) (rest := [.ref q1]) ⟨hx, hb, hml, hown, hts⟩ hK hS [41] rfl rfl rfl (c_model D cA q1 l _) gL_law_X10_init rfl 0 (List.mem_of_getElem? (i := 135) rfl) (List.mem_of_getElem? (i := 5) rfl) rfl (List.mem_of_getElem? (i := 136) rfl) (by decide +kernel) ⟨(Nat.le_of_ble_eq_true rfl), (Nat.le_of_ble_eq_true rfl)⟩ rfl hl.1 rfl (Nat.le_of_ble_eq_true rfl) dL_law_12 ⟨(Nat.le_of_ble_eq_true rfl), (Nat.le_of_ble_eq_true rfl)⟩) hS [41] rfl [0, 1, 2, 3, 4, 5, 6, 7, 8, 9, 10, 11, 12, 13, 14, 15, 16, 17, 18, 19, 20, 21, 22, 23, 24, 25, 26, 27, 28, 29, 30, 31, 32, 33, 34, 35, 36, 37, 38, 39, 40] rfl rfl (by decide) (fun v H locs hv hS => ?_)
  refine lv_astore_n (lv' := [(2, .ref q1), (1, .ref q0), (0, .ref b)]) hx hb dL_law_15 rfl hl (by decide) rfl (fun ls hl => ?_)
  refine lv_iconst (v := 0) hx hb dL_law_16 (by decide) ?_
  refine lv_istore_n (lv' := [(3, .int 0), (2, .ref q1), (1, .ref q0), (0, .ref b)]) hx hb dL_law_17 rfl hl (by decide) rfl (fun ls hl => ?_)
  have hS : y_S D (fun q : Nat => s.heap.size ≤ q) s.heap (z_w (41, u.1, D, cA) u.2 ++ z_w (16, v.1, D, cA) v.2) H locs := hS
  have eW := y_two D cA u.1 v.1 u.2 v.2
  obtain ⟨Z, eZ⟩ : ∃ Z : zT, Z = (57, y_two_a u.1 v.1, D, cA) := ⟨_, rfl⟩
  obtain ⟨g, eg⟩ : ∃ g : Nat → va_E, g = y_two_a u.2 v.2 := ⟨_, rfl⟩
  rw [eW, ← eZ, ← eg] at hS
  have hSz : z_S Z (fun q : Nat => s.heap.size ≤ q) s.heap g H locs := ⟨by rw [eZ] at hS ⊢; exact hS.1, z_D.of (g := g) hS.2.1, hS.2.2.1, hS.2.2.2⟩
  have hKz : z_K Z s := by rw [eZ]; exact ⟨hK.1, hK.2.1⟩
  have hZ1 : Z.1 = 57 := by rw [eZ]
  have hZ2 : Z.2.2 = (D, cA) := by rw [eZ]
  have hA1 : ∀ i, i < 41 → Z.2.1 i = u.1 i := fun i hi => by rw [eZ]; exact if_pos hi
  have hG1 : ∀ i, i < 41 → g i = u.2 i := fun i hi => by rw [eg]; exact if_pos hi
  have hA2 : ∀ i, i < 16 → Z.2.1 (41 + i) = v.1 i := fun i hi => by rw [eZ]; exact (if_neg (by omega)).trans (by rw [Nat.add_sub_cancel_left])
  have hG2 : ∀ i, i < 16 → g (41 + i) = v.2 i := fun i hi => by rw [eg]; exact (if_neg (by omega)).trans (by rw [Nat.add_sub_cancel_left])
  have hXw := hu.2 Z g (by omega) hZ2 hA1 hG1
  have hMw := hv.2 Z g (by omega) hZ2 hA2 hG2
  have e0 : Z.2.1 0 = q0 := (hA1 0 (by omega)).trans hu.1
  have e41 : Z.2.1 41 = q1 := (hA2 0 (by omega)).trans hv.1
  rw [← e0, ← e41] at hl
  exact law_loop l C0 hL Z (by omega) hKz ⟨(Nat.le_of_ble_eq_true rfl), (Nat.le_of_ble_eq_true rfl)⟩ (L + 13) 0 g _ _ H locs ls (by decide) (by show (0 : Int) ≤ (L : Int) + 6; omega) (by show ((L : Int) + 12 - (0 : Int)).toNat < L + 13; omega) hXw hMw hSz (lv_sub hl [3, 2, 1, 0] rfl)
set_option maxHeartbeats 4000000 in
theorem lw_walk (l : Launch) (hflags : l.flags = flags0) (b : Addr) (xs : List Int32) : MetFree l x (headSpec (Jvm.Cond.code x code maxLocals ret :: tables_1) room_1) (lw_P b xs) (fun _ _ _ _ _ => True) lw_Q := by
  refine MetFree.of_bodyS (code := code) (maxLocals := maxLocals) (ret := ret) (by decide) ?_ ?_
  · intro args s m h hn
    obtain ⟨meth, c, h1, h2, h3, h4, h5, h6, -, -⟩ := Cond.code_spec hn (atoms_spec (ws := Jvm.Cond.code x code maxLocals ret :: tables_1) h _ List.mem_cons_self)
    exact ⟨meth, c, h1, h2, h3, h4, h5, h6⟩
  · intro p e s m args below meth c s₁ B hml0 hP _
    obtain ⟨rfl, hx, hbd, hgv⟩ := hP
    obtain ⟨scr, harrAt, hlist, hof, hsmall⟩ := hx
    obtain ⟨hcb, hkn, -, -⟩ := State.arrayAt?_spec harrAt
    have hown : s.vm.findClass R_law = some m.cls := findClass_of_methodNamed B.named
    have hts0 : ∀ c ∈ (Jvm.Cond.code x code maxLocals ret :: tables_1), c.before #[Value.ref b] s = true := atoms_spec (ws := Jvm.Cond.code x code maxLocals ret :: tables_1) B.pre
    have hts : ∀ w ∈ lw_tbl, w.before #[Value.ref b] s = true := k2_hts_sels lw_privs (fun w hw => hts0 w (List.mem_cons_of_mem _ hw)) lw_privs_ok
    have hml : c.maxLocals = 4 := B.maxLocals_eq (hts0 _ List.mem_cons_self)
    have X₀ : Stand p l e room_1 s m #[Value.ref b] below meth c s₁ [] 0 0 := Stand.of_body B
    have hh0 : s₁.heap = s.heap := by rw [B.state]; rfl
    have hsz : scr.slots.size = xs.length := by rw [← Array.length_toList, hlist, List.length_map]
    have hval : ∀ j : Nat, j < xs.length → scr.slots[j]? = some (.int (xs.getD j 0)) := fun j hj => by
      rw [← Array.getElem?_toList, hlist]
      simp [hj]
    have hbl : b < s.heap.size := (Array.getElem?_eq_some_iff.mp hcb).1
    have hX : va_X b xs.length (fun j => xs.getD j 0) s s.heap := ⟨scr, hcb, hof, hkn, hsz, hval⟩
    have K : W p l e room_1 s m #[Value.ref b] below meth c s₁.heap [] 0 0 (lw_Z below #[Value.ref b] s) (entryFrame m ([Value.ref b] : List Value).toArray 4) := by
      rw [hh0]
      exact whole_start l hflags hbd ⟨B.exec, B.bytes, B.returns, hml, hown, hts, hX, hbl, B.notSynchronized, hgv⟩
    obtain ⟨t, a1, o, b1, b2, b3⟩ := K s₁ rfl X₀
    exact ⟨t, o, a1, b1, b2, b3⟩
theorem lw_pre_spec {args : Array Value} {s : State} (h : (Jvm.Cond.and given_1 narrow_1).before args s = true) (hr : rest_1_c.before args s = true) : ∃ (b : Addr) (xs : List Int32), lw_P b xs args s := by
  have hs := flat_of_before _ h
  have hq := flat_of_before _ hr
  have hc : (Cond.count 1).before args s = true := hs _ (by decide +kernel)
  have harr : (Cond.arrayOf (.arg 0) .int).before args s = true := hs _ (by decide +kernel)
  have hle : (Cond.le (.length (.arg 0)) (.int 3072)).before args s = true := hs _ (by decide +kernel)
  have hlen : (Cond.isInt (.length (.arg 0))).before args s = true := hq _ (by decide +kernel)
  have hall : (Cond.all (.arg 0) (.isInt (.elem (.arg 0) (.index 0)))).before args s = true := hq _ (by decide +kernel)
  obtain ⟨b, xs, hb, hx⟩ := State.ints_of_pre rfl harr hlen hall
  have hsm : xs.length < 2 ^ 31 := hx.choose_spec.2.2.2
  have hev : (Term.length (.arg 0)).eval args s none [] s = some (.int xs.length.toInt32) := hx.length_eval hb
  have hv := Cond.le_ints hev (show (Term.int 3072).eval args s none [] s = some (.int 3072) from rfl)
  have hd : xs.length.toInt32 ≤ 3072 := by
    simpa [Cond.before, Cond.holds, hv] using hle
  have hN : xs.length ≤ 3072 := (Int32.ofNat_le_ofNat hsm (by decide)).mp (show Int32.ofNat xs.length ≤ Int32.ofNat 3072 from hd)
  exact ⟨b, xs, Cond.one_arg hc (show args[0]? = some (.ref b) from hb), hx, hN, h⟩
theorem lw_comes (l : Launch) (hflags : l.flags = flags0) : Comes l x (Jvm.Cond.code x code maxLocals ret :: tables_1) room_1 (fun tb e args s => Calls_1 tb e args s ∧ rest_1 tb e args s ∧ Pre_1 tb e args s)
    (fun _ _ args s o t => lw_Q args s o t) := by
  intro p e ha hc hk s m args below hf hfit hheap happ hpre
  obtain ⟨b, xs, hP⟩ := lw_pre_spec hpre.2.2 hpre.2.1
  obtain ⟨k, o, h1, h2, h3, hQ⟩ := lw_walk l hflags b xs p e ha hc hk s m args below hf ((Spec.applies_iff_loose hf).mp happ).1 hP trivial
  exact ⟨k, o, h1, h2, h3, hQ⟩
theorem lw_frame {s t : State} {o : Outcome} {args : Array Value} (h : Framed s o t [] 600000 7302249) :
    Framed s o t (fieldLocs frame_1_writes args s ++ arrayLocs frame_1_arrays args s ++ staticLocs frame_1_statics s) 600000 7302249 := h
theorem lw_limb (L : Cond) (hL : ∀ (args : Array Value) (s t : State), L.after args s (.returned (some (.int 1))) t = true) :
    ArmFor flags0 classFile x code maxLocals ret World_1 tables_1 room_1 Calls_1 rest_1 Pre_1
      (fun tb e a s o t => postC L tb e a s o t ∧ Framed s o t (fieldLocs frame_1_writes a s ++ arrayLocs frame_1_arrays a s ++ staticLocs frame_1_statics s) 600000 7302249) := by
  intro l hflags _ _ p e ha hc hk s m args below hf hfit hheap happ hpre
  obtain ⟨k, o, h1, h2, h3, rfl, hF⟩ := lw_comes l hflags p e ha hc hk s m args below hf hfit hheap happ hpre
  exact ⟨k, _, h1, h2, h3, hL args s _, lw_frame hF⟩
theorem i_vc : Claimed_1_1 ∧ Claimed_1_2 := ⟨lw_limb limb_1_1 (fun args s t => by simp [limb_1_1, Cond.after, Cond.holds, Cond.value]), lw_limb limb_1_2 (fun args s t => Cond.after_iff.mpr (by
  first | (rw [show limb_1_2 = Cond.eq .result (.int 1) from rfl, Cond.eq_ints (x := 1) (y := 1) rfl rfl]; simp; done) | (simp [limb_1_2, Cond.value, Term.eval]; done)))⟩
