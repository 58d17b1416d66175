/-! constructors -/
def y_ad (l : List Nat) : Nat → Nat := fun k => l.getD k 0
def y_gg (l : List va_E) : Nat → va_E := fun k => l.getD k (.inr (0, []))
def y_b0 : zb := (10, 1, 10, fun i => (i : Int))
theorem iy_X6_init_6 : ∀ w ∈ wsX60, w ∈ wsX6_init := by decide +kernel
set_option maxHeartbeats 4000000 in
set_option maxRecDepth 100000 in
theorem c_row (D : va_G) (cA : Nat → ClassId) (q0 : Nat) : y_M (S := Nat → Nat) D cA yX6_init wsX6_init 1 1 12 12 [.ref q0] [(q0, .inr (6, [.null, .int 0]))] (fun u => [(q0, .inr (6, [.ref (u 0), .int 0])), ((u 0), .inl (cA 0, 12, .inl (fun _ => 0)))]) (fun _ => True) := by
  intro l sz
  refine y_enter (maxL := 1) (ret := none) (lv := [(0, .ref q0)]) (plainFor_of_name (by decide +kernel)) rfl (fun ls h => by subst h; exact lv_entry [.ref q0] (n := 1) (Nat.le_of_ble_eq_true rfl)) ?_
  intro p e s m args below meth c hx hb hml hr hlocks hown hts hnm hK hS ls hl
  have hnm : meth.name = yX6_init.name := hnm
  refine lv_aload_n hx hb dX6_init_0 rfl (lv_at hl 0 rfl) ?_
  refine y_obj hx hb hown hts (List.mem_of_getElem? (i := 1) rfl) (List.mem_of_getElem? (i := 2) rfl) (List.mem_of_getElem? (i := 3) rfl) hml hl.1 dX6_init_1 (Nat.le_of_ble_eq_true rfl) (Nat.le_of_ble_eq_true rfl) ?_
  refine lv_aload_n hx hb dX6_init_4 rfl (lv_at hl 0 rfl) ?_
  refine lv_bipush (v := 12) hx hb dX6_init_5 (by decide) ?_
  refine y_newi (N' := 12) hx hb hts (List.mem_of_getElem? (i := 4) rfl) hK hS (by decide) rfl (Nat.le_of_ble_eq_true rfl) (Nat.le_of_ble_eq_true rfl) (Nat.le_of_ble_eq_true rfl) dX6_init_7 (fun a1 H hS => ?_)
  have hS : y_S D (va_A [(q0, .inr (6, [.null, .int 0]))] sz) s.heap [(q0, .inr (6, [.null, .int 0])), (a1, .inl (cA 0, 12, .inl (fun _ => 0)))] H _ := hS
  refine y_put (ws' := [(q0, .inr (6, [.ref a1, .int 0])), (a1, .inl (cA 0, 12, .inl (fun _ => 0)))]) (own := RX6) (C := RX6) (T := TX6) (N := 2) hx hb hts iy_X6_init_6 tyX6 tyX6_ok nmX6 hown hK hS 0 rfl rfl 0 (by decide) (List.mem_of_getElem? (i := 5) rfl) rfl (Or.inr ⟨rfl, hnm, rfl⟩) rfl rfl (Nat.le_of_ble_eq_true rfl) rfl dX6_init_9 (fun H locs hS => ?_)
  exact y_vret (y_ad [a1]) hx hb hr hlocks hS trivial dX6_init_12

theorem iy_X3_init_3 : ∀ w ∈ wsX30, w ∈ wsX3_init := by decide +kernel
set_option maxHeartbeats 4000000 in
set_option maxRecDepth 100000 in
theorem c_cycles (D : va_G) (cA : Nat → ClassId) (q0 b1 : Nat) : y_M (S := Nat → Nat) D cA yX3_init wsX3_init 1 0 0 12 [.ref q0, .ref b1] [(q0, .inr (3, [.null]))] (fun u => [(q0, .inr (3, [.ref b1]))]) (fun _ => True) := by
  intro l sz
  refine y_enter (maxL := 2) (ret := none) (lv := [(0, .ref q0), (1, .ref b1)]) (plainFor_of_name (by decide +kernel)) rfl (fun ls h => by subst h; exact lv_entry [.ref q0, .ref b1] (n := 2) (Nat.le_of_ble_eq_true rfl)) ?_
  intro p e s m args below meth c hx hb hml hr hlocks hown hts hnm hK hS ls hl
  have hnm : meth.name = yX3_init.name := hnm
  refine lv_aload_n hx hb dX3_init_0 rfl (lv_at hl 0 rfl) ?_
  refine y_obj hx hb hown hts (List.mem_of_getElem? (i := 1) rfl) (List.mem_of_getElem? (i := 2) rfl) (List.mem_of_getElem? (i := 3) rfl) hml hl.1 dX3_init_1 (Nat.le_of_ble_eq_true rfl) (Nat.le_of_ble_eq_true rfl) ?_
  refine lv_aload_n hx hb dX3_init_4 rfl (lv_at hl 0 rfl) ?_
  refine lv_aload_n hx hb dX3_init_5 rfl (lv_at hl 1 rfl) ?_
  refine y_put (ws' := [(q0, .inr (3, [.ref b1]))]) (own := RX3) (C := RX3) (T := TX3) (N := 1) hx hb hts iy_X3_init_3 tyX3 tyX3_ok nmX3 hown hK hS 0 rfl rfl 0 (by decide) (List.mem_of_getElem? (i := 4) rfl) rfl (Or.inr ⟨rfl, hnm, rfl⟩) rfl rfl (Nat.le_of_ble_eq_true rfl) rfl dX3_init_6 (fun H locs hS => ?_)
  exact y_vret (y_ad []) hx hb hr hlocks hS trivial dX3_init_9

theorem iy_X4_init_4 : ∀ w ∈ wsX40, w ∈ wsX4_init := by decide +kernel
set_option maxHeartbeats 4000000 in
set_option maxRecDepth 100000 in
theorem c_frac (D : va_G) (cA : Nat → ClassId) (q0 : Nat) : y_M (S := Nat → Nat) D cA yX4_init wsX4_init 1 0 0 12 [.ref q0] [(q0, .inr (4, [.long 0, .long 0]))] (fun u => [(q0, .inr (4, [.long 0, .long 1]))]) (fun _ => True) := by
  intro l sz
  refine y_enter (maxL := 1) (ret := none) (lv := [(0, .ref q0)]) (plainFor_of_name (by decide +kernel)) rfl (fun ls h => by subst h; exact lv_entry [.ref q0] (n := 1) (Nat.le_of_ble_eq_true rfl)) ?_
  intro p e s m args below meth c hx hb hml hr hlocks hown hts hnm hK hS ls hl
  have hnm : meth.name = yX4_init.name := hnm
  refine lv_aload_n hx hb dX4_init_0 rfl (lv_at hl 0 rfl) ?_
  refine y_obj hx hb hown hts (List.mem_of_getElem? (i := 1) rfl) (List.mem_of_getElem? (i := 2) rfl) (List.mem_of_getElem? (i := 3) rfl) hml hl.1 dX4_init_1 (Nat.le_of_ble_eq_true rfl) (Nat.le_of_ble_eq_true rfl) ?_
  refine lv_aload_n hx hb dX4_init_4 rfl (lv_at hl 0 rfl) ?_
  refine lv_lconst (v := 1) hx hb dX4_init_5 rfl ?_
  refine y_put (ws' := [(q0, .inr (4, [.long 0, .long 1]))]) (own := RX4) (C := RX4) (T := TX4) (N := 2) hx hb hts iy_X4_init_4 tyX4 tyX4_ok nmX4 hown hK hS 0 rfl rfl 1 (by decide) (List.mem_of_getElem? (i := 4) rfl) rfl (Or.inl rfl) rfl rfl (Nat.le_of_ble_eq_true rfl) rfl dX4_init_6 (fun H locs hS => ?_)
  exact y_vret (y_ad []) hx hb hr hlocks hS trivial dX4_init_9

theorem iy_X7_init_7 : ∀ w ∈ wsX70, w ∈ wsX7_init := by decide +kernel
set_option maxHeartbeats 4000000 in
set_option maxRecDepth 100000 in
theorem c_walk (D : va_G) (cA : Nat → ClassId) (q0 b1 : Nat) : y_M (S := Nat → Nat) D cA yX7_init wsX7_init 1 0 0 12 [.ref q0, .ref b1] [(q0, .inr (7, [.null, .int 0, .int 0, .int 0, .int 0, .int 0, .int 0]))] (fun u => [(q0, .inr (7, [.ref b1, .int 0, .int 1, .int 1, .int 0, .int 1, .int 0]))]) (fun _ => True) := by
  intro l sz
  refine y_enter (maxL := 2) (ret := none) (lv := [(0, .ref q0), (1, .ref b1)]) (plainFor_of_name (by decide +kernel)) rfl (fun ls h => by subst h; exact lv_entry [.ref q0, .ref b1] (n := 2) (Nat.le_of_ble_eq_true rfl)) ?_
  intro p e s m args below meth c hx hb hml hr hlocks hown hts hnm hK hS ls hl
  have hnm : meth.name = yX7_init.name := hnm
  refine lv_aload_n hx hb dX7_init_0 rfl (lv_at hl 0 rfl) ?_
  refine y_obj hx hb hown hts (List.mem_of_getElem? (i := 1) rfl) (List.mem_of_getElem? (i := 2) rfl) (List.mem_of_getElem? (i := 3) rfl) hml hl.1 dX7_init_1 (Nat.le_of_ble_eq_true rfl) (Nat.le_of_ble_eq_true rfl) ?_
  refine lv_aload_n hx hb dX7_init_4 rfl (lv_at hl 0 rfl) ?_
  refine lv_iconst (v := 1) hx hb dX7_init_5 (by decide) ?_
  refine y_put (ws' := [(q0, .inr (7, [.null, .int 0, .int 1, .int 0, .int 0, .int 0, .int 0]))]) (own := RX7) (C := RX7) (T := TX7) (N := 7) hx hb hts iy_X7_init_7 tyX7 tyX7_ok nmX7 hown hK hS 0 rfl rfl 2 (by decide) (List.mem_of_getElem? (i := 4) rfl) rfl (Or.inl rfl) rfl rfl (Nat.le_of_ble_eq_true rfl) rfl dX7_init_6 (fun H locs hS => ?_)
  refine lv_aload_n hx hb dX7_init_9 rfl (lv_at hl 0 rfl) ?_
  refine lv_iconst (v := 1) hx hb dX7_init_10 (by decide) ?_
  refine y_put (ws' := [(q0, .inr (7, [.null, .int 0, .int 1, .int 1, .int 0, .int 0, .int 0]))]) (own := RX7) (C := RX7) (T := TX7) (N := 7) hx hb hts iy_X7_init_7 tyX7 tyX7_ok nmX7 hown hK hS 0 rfl rfl 3 (by decide) (List.mem_of_getElem? (i := 5) rfl) rfl (Or.inl rfl) rfl rfl (Nat.le_of_ble_eq_true rfl) rfl dX7_init_11 (fun H locs hS => ?_)
  refine lv_aload_n hx hb dX7_init_14 rfl (lv_at hl 0 rfl) ?_
  refine lv_iconst (v := 1) hx hb dX7_init_15 (by decide) ?_
  refine y_put (ws' := [(q0, .inr (7, [.null, .int 0, .int 1, .int 1, .int 0, .int 1, .int 0]))]) (own := RX7) (C := RX7) (T := TX7) (N := 7) hx hb hts iy_X7_init_7 tyX7 tyX7_ok nmX7 hown hK hS 0 rfl rfl 5 (by decide) (List.mem_of_getElem? (i := 6) rfl) rfl (Or.inl rfl) rfl rfl (Nat.le_of_ble_eq_true rfl) rfl dX7_init_16 (fun H locs hS => ?_)
  refine lv_aload_n hx hb dX7_init_19 rfl (lv_at hl 0 rfl) ?_
  refine lv_aload_n hx hb dX7_init_20 rfl (lv_at hl 1 rfl) ?_
  refine y_put (ws' := [(q0, .inr (7, [.ref b1, .int 0, .int 1, .int 1, .int 0, .int 1, .int 0]))]) (own := RX7) (C := RX7) (T := TX7) (N := 7) hx hb hts iy_X7_init_7 tyX7 tyX7_ok nmX7 hown hK hS 0 rfl rfl 0 (by decide) (List.mem_of_getElem? (i := 7) rfl) rfl (Or.inr ⟨rfl, hnm, rfl⟩) rfl rfl (Nat.le_of_ble_eq_true rfl) rfl dX7_init_21 (fun H locs hS => ?_)
  exact y_vret (y_ad []) hx hb hr hlocks hS trivial dX7_init_24

theorem iy_X1_init_1 : ∀ w ∈ wsX10, w ∈ wsX1_init := by decide +kernel
set_option maxHeartbeats 4000000 in
set_option maxRecDepth 100000 in
theorem c_cset (D : va_G) (cA : Nat → ClassId) (q0 b1 : Nat) : y_M (S := Nat → Nat) D cA yX1_init wsX1_init 1 2 242 12 [.ref q0, .ref b1] [(q0, .inr (1, [.null, .null, .null, .int 0]))] (fun u => [(q0, .inr (1, [.ref b1, .ref (u 0), .ref (u 1), .int 0])), ((u 0), .inl (cA 0, 121, .inl (fun _ => 0))), ((u 1), .inl (cA 2, 121, .inl (fun _ => 0)))]) (fun _ => True) := by
  intro l sz
  refine y_enter (maxL := 2) (ret := none) (lv := [(0, .ref q0), (1, .ref b1)]) (plainFor_of_name (by decide +kernel)) rfl (fun ls h => by subst h; exact lv_entry [.ref q0, .ref b1] (n := 2) (Nat.le_of_ble_eq_true rfl)) ?_
  intro p e s m args below meth c hx hb hml hr hlocks hown hts hnm hK hS ls hl
  have hnm : meth.name = yX1_init.name := hnm
  refine lv_aload_n hx hb dX1_init_0 rfl (lv_at hl 0 rfl) ?_
  refine y_obj hx hb hown hts (List.mem_of_getElem? (i := 1) rfl) (List.mem_of_getElem? (i := 2) rfl) (List.mem_of_getElem? (i := 3) rfl) hml hl.1 dX1_init_1 (Nat.le_of_ble_eq_true rfl) (Nat.le_of_ble_eq_true rfl) ?_
  refine lv_aload_n hx hb dX1_init_4 rfl (lv_at hl 0 rfl) ?_
  refine lv_bipush (v := 121) hx hb dX1_init_5 (by decide) ?_
  refine y_newi (N' := 121) hx hb hts (List.mem_of_getElem? (i := 4) rfl) hK hS (by decide) rfl (Nat.le_of_ble_eq_true rfl) (Nat.le_of_ble_eq_true rfl) (Nat.le_of_ble_eq_true rfl) dX1_init_7 (fun a1 H hS => ?_)
  have hS : y_S D (va_A [(q0, .inr (1, [.null, .null, .null, .int 0]))] sz) s.heap [(q0, .inr (1, [.null, .null, .null, .int 0])), (a1, .inl (cA 0, 121, .inl (fun _ => 0)))] H _ := hS
  refine y_put (ws' := [(q0, .inr (1, [.null, .ref a1, .null, .int 0])), (a1, .inl (cA 0, 121, .inl (fun _ => 0)))]) (own := RX1) (C := RX1) (T := TX1) (N := 4) hx hb hts iy_X1_init_1 tyX1 tyX1_ok nmX1 hown hK hS 0 rfl rfl 1 (by decide) (List.mem_of_getElem? (i := 5) rfl) rfl (Or.inr ⟨rfl, hnm, rfl⟩) rfl rfl (Nat.le_of_ble_eq_true rfl) rfl dX1_init_9 (fun H locs hS => ?_)
  refine lv_aload_n hx hb dX1_init_12 rfl (lv_at hl 0 rfl) ?_
  refine lv_bipush (v := 121) hx hb dX1_init_13 (by decide) ?_
  refine y_newz (N' := 121) hx hb hts (List.mem_of_getElem? (i := 6) rfl) hK hS (by decide) rfl (Nat.le_of_ble_eq_true rfl) (Nat.le_of_ble_eq_true rfl) (Nat.le_of_ble_eq_true rfl) dX1_init_15 (fun a2 H hS => ?_)
  have hS : y_S D (va_A [(q0, .inr (1, [.null, .null, .null, .int 0]))] sz) s.heap [(q0, .inr (1, [.null, .ref a1, .null, .int 0])), (a1, .inl (cA 0, 121, .inl (fun _ => 0))), (a2, .inl (cA 2, 121, .inl (fun _ => 0)))] H _ := hS
  refine y_put (ws' := [(q0, .inr (1, [.null, .ref a1, .ref a2, .int 0])), (a1, .inl (cA 0, 121, .inl (fun _ => 0))), (a2, .inl (cA 2, 121, .inl (fun _ => 0)))]) (own := RX1) (C := RX1) (T := TX1) (N := 4) hx hb hts iy_X1_init_1 tyX1 tyX1_ok nmX1 hown hK hS 0 rfl rfl 2 (by decide) (List.mem_of_getElem? (i := 7) rfl) rfl (Or.inr ⟨rfl, hnm, rfl⟩) rfl rfl (Nat.le_of_ble_eq_true rfl) rfl dX1_init_17 (fun H locs hS => ?_)
  refine lv_aload_n hx hb dX1_init_20 rfl (lv_at hl 0 rfl) ?_
  refine lv_aload_n hx hb dX1_init_21 rfl (lv_at hl 1 rfl) ?_
  refine y_put (ws' := [(q0, .inr (1, [.ref b1, .ref a1, .ref a2, .int 0])), (a1, .inl (cA 0, 121, .inl (fun _ => 0))), (a2, .inl (cA 2, 121, .inl (fun _ => 0)))]) (own := RX1) (C := RX1) (T := TX1) (N := 4) hx hb hts iy_X1_init_1 tyX1 tyX1_ok nmX1 hown hK hS 0 rfl rfl 0 (by decide) (List.mem_of_getElem? (i := 8) rfl) rfl (Or.inr ⟨rfl, hnm, rfl⟩) rfl rfl (Nat.le_of_ble_eq_true rfl) rfl dX1_init_22 (fun H locs hS => ?_)
  exact y_vret (y_ad [a1, a2]) hx hb hr hlocks hS trivial dX1_init_25

theorem iy_X8_init_8 : ∀ w ∈ wsX80, w ∈ wsX8_init := by decide +kernel
set_option maxHeartbeats 4000000 in
set_option maxRecDepth 100000 in
theorem c_ways (D : va_G) (cA : Nat → ClassId) (q0 b1 : Nat) : y_M (S := Nat → Nat) D cA yX8_init wsX8_init 1 3 559 12 [.ref q0, .ref b1] [(q0, .inr (8, [.null, .null, .null, .null, .int 0, .int 0, .long 0]))] (fun u => [(q0, .inr (8, [.ref b1, .ref (u 0), .ref (u 1), .ref (u 2), .int 0, .int 0, .long 0])), ((u 0), .inl (cA 0, 13, .inl (fun _ => 0))), ((u 1), .inl (cA 0, 13, .inl (fun _ => 0))), ((u 2), .inl (cA 1, 533, .inr (.inl (fun _ => 0))))]) (fun _ => True) := by
  intro l sz
  refine y_enter (maxL := 2) (ret := none) (lv := [(0, .ref q0), (1, .ref b1)]) (plainFor_of_name (by decide +kernel)) rfl (fun ls h => by subst h; exact lv_entry [.ref q0, .ref b1] (n := 2) (Nat.le_of_ble_eq_true rfl)) ?_
  intro p e s m args below meth c hx hb hml hr hlocks hown hts hnm hK hS ls hl
  have hnm : meth.name = yX8_init.name := hnm
  refine lv_aload_n hx hb dX8_init_0 rfl (lv_at hl 0 rfl) ?_
  refine y_obj hx hb hown hts (List.mem_of_getElem? (i := 1) rfl) (List.mem_of_getElem? (i := 2) rfl) (List.mem_of_getElem? (i := 3) rfl) hml hl.1 dX8_init_1 (Nat.le_of_ble_eq_true rfl) (Nat.le_of_ble_eq_true rfl) ?_
  refine lv_aload_n hx hb dX8_init_4 rfl (lv_at hl 0 rfl) ?_
  refine lv_bipush (v := 13) hx hb dX8_init_5 (by decide) ?_
  refine y_newi (N' := 13) hx hb hts (List.mem_of_getElem? (i := 4) rfl) hK hS (by decide) rfl (Nat.le_of_ble_eq_true rfl) (Nat.le_of_ble_eq_true rfl) (Nat.le_of_ble_eq_true rfl) dX8_init_7 (fun a1 H hS => ?_)
  have hS : y_S D (va_A [(q0, .inr (8, [.null, .null, .null, .null, .int 0, .int 0, .long 0]))] sz) s.heap [(q0, .inr (8, [.null, .null, .null, .null, .int 0, .int 0, .long 0])), (a1, .inl (cA 0, 13, .inl (fun _ => 0)))] H _ := hS
  refine y_put (ws' := [(q0, .inr (8, [.null, .ref a1, .null, .null, .int 0, .int 0, .long 0])), (a1, .inl (cA 0, 13, .inl (fun _ => 0)))]) (own := RX8) (C := RX8) (T := TX8) (N := 7) hx hb hts iy_X8_init_8 tyX8 tyX8_ok nmX8 hown hK hS 0 rfl rfl 1 (by decide) (List.mem_of_getElem? (i := 5) rfl) rfl (Or.inr ⟨rfl, hnm, rfl⟩) rfl rfl (Nat.le_of_ble_eq_true rfl) rfl dX8_init_9 (fun H locs hS => ?_)
  refine lv_aload_n hx hb dX8_init_12 rfl (lv_at hl 0 rfl) ?_
  refine lv_bipush (v := 13) hx hb dX8_init_13 (by decide) ?_
  refine y_newi (N' := 13) hx hb hts (List.mem_of_getElem? (i := 4) rfl) hK hS (by decide) rfl (Nat.le_of_ble_eq_true rfl) (Nat.le_of_ble_eq_true rfl) (Nat.le_of_ble_eq_true rfl) dX8_init_15 (fun a2 H hS => ?_)
  have hS : y_S D (va_A [(q0, .inr (8, [.null, .null, .null, .null, .int 0, .int 0, .long 0]))] sz) s.heap [(q0, .inr (8, [.null, .ref a1, .null, .null, .int 0, .int 0, .long 0])), (a1, .inl (cA 0, 13, .inl (fun _ => 0))), (a2, .inl (cA 0, 13, .inl (fun _ => 0)))] H _ := hS
  refine y_put (ws' := [(q0, .inr (8, [.null, .ref a1, .ref a2, .null, .int 0, .int 0, .long 0])), (a1, .inl (cA 0, 13, .inl (fun _ => 0))), (a2, .inl (cA 0, 13, .inl (fun _ => 0)))]) (own := RX8) (C := RX8) (T := TX8) (N := 7) hx hb hts iy_X8_init_8 tyX8 tyX8_ok nmX8 hown hK hS 0 rfl rfl 2 (by decide) (List.mem_of_getElem? (i := 6) rfl) rfl (Or.inr ⟨rfl, hnm, rfl⟩) rfl rfl (Nat.le_of_ble_eq_true rfl) rfl dX8_init_17 (fun H locs hS => ?_)
  refine lv_aload_n hx hb dX8_init_20 rfl (lv_at hl 0 rfl) ?_
  refine lv_sipush (v := 533) hx hb dX8_init_21 (by decide) ?_
  refine y_newl (N' := 533) hx hb hts (List.mem_of_getElem? (i := 7) rfl) hK hS (by decide) rfl (Nat.le_of_ble_eq_true rfl) (Nat.le_of_ble_eq_true rfl) (Nat.le_of_ble_eq_true rfl) dX8_init_24 (fun a3 H hS => ?_)
  have hS : y_S D (va_A [(q0, .inr (8, [.null, .null, .null, .null, .int 0, .int 0, .long 0]))] sz) s.heap [(q0, .inr (8, [.null, .ref a1, .ref a2, .null, .int 0, .int 0, .long 0])), (a1, .inl (cA 0, 13, .inl (fun _ => 0))), (a2, .inl (cA 0, 13, .inl (fun _ => 0))), (a3, .inl (cA 1, 533, .inr (.inl (fun _ => 0))))] H _ := hS
  refine y_put (ws' := [(q0, .inr (8, [.null, .ref a1, .ref a2, .ref a3, .int 0, .int 0, .long 0])), (a1, .inl (cA 0, 13, .inl (fun _ => 0))), (a2, .inl (cA 0, 13, .inl (fun _ => 0))), (a3, .inl (cA 1, 533, .inr (.inl (fun _ => 0))))]) (own := RX8) (C := RX8) (T := TX8) (N := 7) hx hb hts iy_X8_init_8 tyX8 tyX8_ok nmX8 hown hK hS 0 rfl rfl 3 (by decide) (List.mem_of_getElem? (i := 8) rfl) rfl (Or.inr ⟨rfl, hnm, rfl⟩) rfl rfl (Nat.le_of_ble_eq_true rfl) rfl dX8_init_26 (fun H locs hS => ?_)
  refine lv_aload_n hx hb dX8_init_29 rfl (lv_at hl 0 rfl) ?_
  refine lv_aload_n hx hb dX8_init_30 rfl (lv_at hl 1 rfl) ?_
  refine y_put (ws' := [(q0, .inr (8, [.ref b1, .ref a1, .ref a2, .ref a3, .int 0, .int 0, .long 0])), (a1, .inl (cA 0, 13, .inl (fun _ => 0))), (a2, .inl (cA 0, 13, .inl (fun _ => 0))), (a3, .inl (cA 1, 533, .inr (.inl (fun _ => 0))))]) (own := RX8) (C := RX8) (T := TX8) (N := 7) hx hb hts iy_X8_init_8 tyX8 tyX8_ok nmX8 hown hK hS 0 rfl rfl 0 (by decide) (List.mem_of_getElem? (i := 9) rfl) rfl (Or.inr ⟨rfl, hnm, rfl⟩) rfl rfl (Nat.le_of_ble_eq_true rfl) rfl dX8_init_31 (fun H locs hS => ?_)
  exact y_vret (y_ad [a1, a2, a3]) hx hb hr hlocks hS trivial dX8_init_34

theorem iy_X5_init_5 : ∀ w ∈ wsX50, w ∈ wsX5_init := by decide +kernel
set_option maxHeartbeats 4000000 in
set_option maxRecDepth 100000 in
theorem c_sys (D : va_G) (cA : Nat → ClassId) (q0 b1 b2 b3 b4 b5 : Nat) : y_M (S := Nat → Nat) D cA yX5_init wsX5_init 1 0 0 12 [.ref q0, .ref b1, .ref b2, .ref b3, .ref b4, .ref b5] [(q0, .inr (5, [.null, .null, .null, .null, .null]))] (fun u => [(q0, .inr (5, [.ref b1, .ref b2, .ref b3, .ref b4, .ref b5]))]) (fun _ => True) := by
  intro l sz
  refine y_enter (maxL := 6) (ret := none) (lv := [(0, .ref q0), (1, .ref b1), (2, .ref b2), (3, .ref b3), (4, .ref b4), (5, .ref b5)]) (plainFor_of_name (by decide +kernel)) rfl (fun ls h => by subst h; exact lv_entry [.ref q0, .ref b1, .ref b2, .ref b3, .ref b4, .ref b5] (n := 6) (Nat.le_of_ble_eq_true rfl)) ?_
  intro p e s m args below meth c hx hb hml hr hlocks hown hts hnm hK hS ls hl
  have hnm : meth.name = yX5_init.name := hnm
  refine lv_aload_n hx hb dX5_init_0 rfl (lv_at hl 0 rfl) ?_
  refine y_obj hx hb hown hts (List.mem_of_getElem? (i := 1) rfl) (List.mem_of_getElem? (i := 2) rfl) (List.mem_of_getElem? (i := 3) rfl) hml hl.1 dX5_init_1 (Nat.le_of_ble_eq_true rfl) (Nat.le_of_ble_eq_true rfl) ?_
  refine lv_aload_n hx hb dX5_init_4 rfl (lv_at hl 0 rfl) ?_
  refine lv_aload_n hx hb dX5_init_5 rfl (lv_at hl 1 rfl) ?_
  refine y_put (ws' := [(q0, .inr (5, [.ref b1, .null, .null, .null, .null]))]) (own := RX5) (C := RX5) (T := TX5) (N := 5) hx hb hts iy_X5_init_5 tyX5 tyX5_ok nmX5 hown hK hS 0 rfl rfl 0 (by decide) (List.mem_of_getElem? (i := 4) rfl) rfl (Or.inr ⟨rfl, hnm, rfl⟩) rfl rfl (Nat.le_of_ble_eq_true rfl) rfl dX5_init_6 (fun H locs hS => ?_)
  refine lv_aload_n hx hb dX5_init_9 rfl (lv_at hl 0 rfl) ?_
  refine lv_aload_n hx hb dX5_init_10 rfl (lv_at hl 2 rfl) ?_
  refine y_put (ws' := [(q0, .inr (5, [.ref b1, .ref b2, .null, .null, .null]))]) (own := RX5) (C := RX5) (T := TX5) (N := 5) hx hb hts iy_X5_init_5 tyX5 tyX5_ok nmX5 hown hK hS 0 rfl rfl 1 (by decide) (List.mem_of_getElem? (i := 5) rfl) rfl (Or.inr ⟨rfl, hnm, rfl⟩) rfl rfl (Nat.le_of_ble_eq_true rfl) rfl dX5_init_11 (fun H locs hS => ?_)
  refine lv_aload_n hx hb dX5_init_14 rfl (lv_at hl 0 rfl) ?_
  refine lv_aload_n hx hb dX5_init_15 rfl (lv_at hl 3 rfl) ?_
  refine y_put (ws' := [(q0, .inr (5, [.ref b1, .ref b2, .ref b3, .null, .null]))]) (own := RX5) (C := RX5) (T := TX5) (N := 5) hx hb hts iy_X5_init_5 tyX5 tyX5_ok nmX5 hown hK hS 0 rfl rfl 2 (by decide) (List.mem_of_getElem? (i := 6) rfl) rfl (Or.inr ⟨rfl, hnm, rfl⟩) rfl rfl (Nat.le_of_ble_eq_true rfl) rfl dX5_init_16 (fun H locs hS => ?_)
  refine lv_aload_n hx hb dX5_init_19 rfl (lv_at hl 0 rfl) ?_
  refine lv_aload hx hb dX5_init_20 (lv_at hl 4 rfl) ?_
  refine y_put (ws' := [(q0, .inr (5, [.ref b1, .ref b2, .ref b3, .ref b4, .null]))]) (own := RX5) (C := RX5) (T := TX5) (N := 5) hx hb hts iy_X5_init_5 tyX5 tyX5_ok nmX5 hown hK hS 0 rfl rfl 3 (by decide) (List.mem_of_getElem? (i := 7) rfl) rfl (Or.inr ⟨rfl, hnm, rfl⟩) rfl rfl (Nat.le_of_ble_eq_true rfl) rfl dX5_init_22 (fun H locs hS => ?_)
  refine lv_aload_n hx hb dX5_init_25 rfl (lv_at hl 0 rfl) ?_
  refine lv_aload hx hb dX5_init_26 (lv_at hl 5 rfl) ?_
  refine y_put (ws' := [(q0, .inr (5, [.ref b1, .ref b2, .ref b3, .ref b4, .ref b5]))]) (own := RX5) (C := RX5) (T := TX5) (N := 5) hx hb hts iy_X5_init_5 tyX5 tyX5_ok nmX5 hown hK hS 0 rfl rfl 4 (by decide) (List.mem_of_getElem? (i := 8) rfl) rfl (Or.inr ⟨rfl, hnm, rfl⟩) rfl rfl (Nat.le_of_ble_eq_true rfl) rfl dX5_init_28 (fun H locs hS => ?_)
  exact y_vret (y_ad []) hx hb hr hlocks hS trivial dX5_init_31

theorem iy_X2_init_2 : ∀ w ∈ wsX20, w ∈ wsX2_init := by decide +kernel
theorem iy_X2_init_6 : ∀ w ∈ wsX60, w ∈ wsX2_init := by decide +kernel
set_option maxHeartbeats 4000000 in
set_option maxRecDepth 100000 in
theorem c_comp (D : va_G) (cA : Nat → ClassId) (q0 : Nat) : y_M (S := Nat → Nat) D cA yX2_init wsX2_init 2 3 26 32 [.ref q0] [(q0, .inr (2, [.null, .int 0, .null]))] (fun u => [(q0, .inr (2, [.ref (u 0), .int 0, .ref (u 1)])), ((u 0), .inl (cA 0, 12, .inl (fun _ => 0))), ((u 1), .inr (6, [.ref (u 2), .int 0])), ((u 2), .inl (cA 0, 12, .inl (fun _ => 0)))]) (fun _ => True) := by
  intro l sz
  refine y_enter (maxL := 1) (ret := none) (lv := [(0, .ref q0)]) (plainFor_of_name (by decide +kernel)) rfl (fun ls h => by subst h; exact lv_entry [.ref q0] (n := 1) (Nat.le_of_ble_eq_true rfl)) ?_
  intro p e s m args below meth c hx hb hml hr hlocks hown hts hnm hK hS ls hl
  have hnm : meth.name = yX2_init.name := hnm
  refine lv_aload_n hx hb dX2_init_0 rfl (lv_at hl 0 rfl) ?_
  refine y_obj hx hb hown hts (List.mem_of_getElem? (i := 1) rfl) (List.mem_of_getElem? (i := 2) rfl) (List.mem_of_getElem? (i := 3) rfl) hml hl.1 dX2_init_1 (Nat.le_of_ble_eq_true rfl) (Nat.le_of_ble_eq_true rfl) ?_
  refine lv_aload_n hx hb dX2_init_4 rfl (lv_at hl 0 rfl) ?_
  refine lv_bipush (v := 12) hx hb dX2_init_5 (by decide) ?_
  refine y_newi (N' := 12) hx hb hts (List.mem_of_getElem? (i := 4) rfl) hK hS (by decide) rfl (Nat.le_of_ble_eq_true rfl) (Nat.le_of_ble_eq_true rfl) (Nat.le_of_ble_eq_true rfl) dX2_init_7 (fun a1 H hS => ?_)
  have hS : y_S D (va_A [(q0, .inr (2, [.null, .int 0, .null]))] sz) s.heap [(q0, .inr (2, [.null, .int 0, .null])), (a1, .inl (cA 0, 12, .inl (fun _ => 0)))] H _ := hS
  refine y_put (ws' := [(q0, .inr (2, [.ref a1, .int 0, .null])), (a1, .inl (cA 0, 12, .inl (fun _ => 0)))]) (own := RX2) (C := RX2) (T := TX2) (N := 3) hx hb hts iy_X2_init_2 tyX2 tyX2_ok nmX2 hown hK hS 0 rfl rfl 0 (by decide) (List.mem_of_getElem? (i := 5) rfl) rfl (Or.inr ⟨rfl, hnm, rfl⟩) rfl rfl (Nat.le_of_ble_eq_true rfl) rfl dX2_init_9 (fun H locs hS => ?_)
  refine lv_aload_n hx hb dX2_init_12 rfl (lv_at hl 0 rfl) ?_
  refine y_new (ci := 6) (fs := [.null, .int 0]) (C := RX6) (T := TX6) (N := 2) hx hb hts iy_X2_init_6 tyX6 tyX6_ok hown (List.mem_of_getElem? (i := 6) rfl) (List.mem_of_getElem? (i := 7) rfl) (List.mem_of_getElem? (i := 8) rfl) hK hS rfl (fun j hj => match j, hj with | 0, _ => rfl | 1, _ => rfl | (k + 2), h => absurd h (by omega)) (Nat.le_of_ble_eq_true rfl) (Nat.le_of_ble_eq_true rfl) dX2_init_13 (fun q2 H hS => ?_)
  have hS : y_S D (va_A [(q0, .inr (2, [.null, .int 0, .null]))] sz) s.heap [(q0, .inr (2, [.ref a1, .int 0, .null])), (a1, .inl (cA 0, 12, .inl (fun _ => 0))), (q2, .inr (6, [.null, .int 0]))] H _ := hS
  refine lv_dup hx hb dX2_init_16 rfl ?_
  refine y_callv (wr := [(q0, .inr (2, [.ref a1, .int 0, .null])), (a1, .inl (cA 0, 12, .inl (fun _ => 0)))]) (y_runIN (As := []) (rest := [.ref q2, .ref q0]) ⟨hx, hb, hml, hown, hts⟩ hK hS [2] rfl rfl rfl (c_row D cA q2 l _) gX2_init_X6_init_n17 rfl 0 44 rfl (List.mem_of_getElem? (i := 8) rfl) rfl (List.mem_of_getElem? (i := 10) rfl) (by decide +kernel) ⟨(Nat.le_of_ble_eq_true rfl), (Nat.le_of_ble_eq_true rfl)⟩ rfl hl.1 rfl (Nat.le_of_ble_eq_true rfl) dX2_init_17 ⟨(Nat.le_of_ble_eq_true rfl), (Nat.le_of_ble_eq_true rfl)⟩) hS [2] rfl [0, 1] rfl rfl (by decide) (fun u3 H locs huu3 hS => ?_)
  have hS : y_S D (va_A [(q0, .inr (2, [.null, .int 0, .null]))] sz) s.heap [(q0, .inr (2, [.ref a1, .int 0, .null])), (a1, .inl (cA 0, 12, .inl (fun _ => 0))), (q2, .inr (6, [.ref (u3 0), .int 0])), ((u3 0), .inl (cA 0, 12, .inl (fun _ => 0)))] H _ := hS
  refine y_put (ws' := [(q0, .inr (2, [.ref a1, .int 0, .ref q2])), (a1, .inl (cA 0, 12, .inl (fun _ => 0))), (q2, .inr (6, [.ref (u3 0), .int 0])), ((u3 0), .inl (cA 0, 12, .inl (fun _ => 0)))]) (own := RX2) (C := RX2) (T := TX2) (N := 3) hx hb hts iy_X2_init_2 tyX2 tyX2_ok nmX2 hown hK hS 0 rfl rfl 2 (by decide) (List.mem_of_getElem? (i := 9) rfl) rfl (Or.inr ⟨rfl, hnm, rfl⟩) rfl rfl (Nat.le_of_ble_eq_true rfl) rfl dX2_init_20 (fun H locs hS => ?_)
  exact y_vret (y_ad [a1, q2, (u3 0)]) hx hb hr hlocks hS trivial dX2_init_23

theorem iy_X0_init_0 : ∀ w ∈ wsX00, w ∈ wsX0_init := by decide +kernel
set_option maxHeartbeats 4000000 in
set_option maxRecDepth 100000 in
theorem c_base (D : va_G) (cA : Nat → ClassId) (q0 : Nat) : y_M (S := (Nat → Nat) × (Nat → va_E)) D cA yX0_init wsX0_init 4 2 22 90 [.ref q0] [(q0, .inr (0, [.int 0, .int 0, .int 0, .int 0, .int 0, .null, .null]))] (fun u => [(q0, u.2 0), (u.1 0, u.2 1), (u.1 1, u.2 2)]) (fun u => z_bs (3, y_ad [q0, u.1 0, u.1 1], D, cA) u.2 0 y_b0) := by
  intro l sz
  refine y_enter (maxL := 1) (ret := none) (lv := [(0, .ref q0)]) (plainFor_of_name (by decide +kernel)) rfl (fun ls h => by subst h; exact lv_entry [.ref q0] (n := 1) (Nat.le_of_ble_eq_true rfl)) ?_
  intro p e s m args below meth c hx hb hml hr hlocks hown hts hnm hK hS ls hl
  have hnm : meth.name = yX0_init.name := hnm
  refine lv_aload_n hx hb dX0_init_0 rfl (lv_at hl 0 rfl) ?_
  refine y_obj hx hb hown hts (List.mem_of_getElem? (i := 1) rfl) (List.mem_of_getElem? (i := 2) rfl) (List.mem_of_getElem? (i := 3) rfl) hml hl.1 dX0_init_1 (Nat.le_of_ble_eq_true rfl) (Nat.le_of_ble_eq_true rfl) ?_
  refine lv_aload_n hx hb dX0_init_4 rfl (lv_at hl 0 rfl) ?_
  refine lv_bipush (v := 12) hx hb dX0_init_5 (by decide) ?_
  refine y_newi (N' := 12) hx hb hts (List.mem_of_getElem? (i := 4) rfl) hK hS (by decide) rfl (Nat.le_of_ble_eq_true rfl) (Nat.le_of_ble_eq_true rfl) (Nat.le_of_ble_eq_true rfl) dX0_init_7 (fun a1 H hS => ?_)
  have hS : y_S D (va_A [(q0, .inr (0, [.int 0, .int 0, .int 0, .int 0, .int 0, .null, .null]))] sz) s.heap [(q0, .inr (0, [.int 0, .int 0, .int 0, .int 0, .int 0, .null, .null])), (a1, .inl (cA 0, 12, .inl (fun _ => 0)))] H _ := hS
  refine y_put (ws' := [(q0, .inr (0, [.int 0, .int 0, .int 0, .int 0, .int 0, .ref a1, .null])), (a1, .inl (cA 0, 12, .inl (fun _ => 0)))]) (own := RX0) (C := RX0) (T := TX0) (N := 7) hx hb hts iy_X0_init_0 tyX0 tyX0_ok nmX0 hown hK hS 0 rfl rfl 5 (by decide) (List.mem_of_getElem? (i := 5) rfl) rfl (Or.inr ⟨rfl, hnm, rfl⟩) rfl rfl (Nat.le_of_ble_eq_true rfl) rfl dX0_init_9 (fun H locs hS => ?_)
  refine lv_aload_n hx hb dX0_init_12 rfl (lv_at hl 0 rfl) ?_
  refine lv_bipush (v := 10) hx hb dX0_init_13 (by decide) ?_
  refine y_newi (N' := 10) hx hb hts (List.mem_of_getElem? (i := 4) rfl) hK hS (by decide) rfl (Nat.le_of_ble_eq_true rfl) (Nat.le_of_ble_eq_true rfl) (Nat.le_of_ble_eq_true rfl) dX0_init_15 (fun a2 H hS => ?_)
  have hS : y_S D (va_A [(q0, .inr (0, [.int 0, .int 0, .int 0, .int 0, .int 0, .null, .null]))] sz) s.heap [(q0, .inr (0, [.int 0, .int 0, .int 0, .int 0, .int 0, .ref a1, .null])), (a1, .inl (cA 0, 12, .inl (fun _ => 0))), (a2, .inl (cA 0, 10, .inl (fun _ => 0)))] H _ := hS
  refine y_put (ws' := [(q0, .inr (0, [.int 0, .int 0, .int 0, .int 0, .int 0, .ref a1, .ref a2])), (a1, .inl (cA 0, 12, .inl (fun _ => 0))), (a2, .inl (cA 0, 10, .inl (fun _ => 0)))]) (own := RX0) (C := RX0) (T := TX0) (N := 7) hx hb hts iy_X0_init_0 tyX0 tyX0_ok nmX0 hown hK hS 0 rfl rfl 6 (by decide) (List.mem_of_getElem? (i := 6) rfl) rfl (Or.inr ⟨rfl, hnm, rfl⟩) rfl rfl (Nat.le_of_ble_eq_true rfl) rfl dX0_init_17 (fun H locs hS => ?_)
  refine lv_aload_n hx hb dX0_init_20 rfl (lv_at hl 0 rfl) ?_
  refine lv_bipush (v := 10) hx hb dX0_init_21 (by decide) ?_
  refine lv_iconst (v := 1) hx hb dX0_init_23 (by decide) ?_
  refine y_callvz (g := (y_gg [.inr (0, [.int 0, .int 0, .int 0, .int 0, .int 0, .ref a1, .ref a2]), .inl (cA 0, 12, .inl (fun _ => 0)), .inl (cA 0, 10, .inl (fun _ => 0))])) (wr := []) (y_runVz (As := [.int 10, .int 1]) (rest := []) (n0 := 3) (ad := (y_ad [q0, a1, a2])) (g := (y_gg [.inr (0, [.int 0, .int 0, .int 0, .int 0, .int 0, .ref a1, .ref a2]), .inl (cA 0, 12, .inl (fun _ => 0)), .inl (cA 0, 10, .inl (fun _ => 0))])) ⟨hx, hb, hml, hown, hts⟩ hK hS [0, 1, 2] rfl rfl rfl (k_become (3, y_ad [q0, a1, a2], D, cA) (y_gg [.inr (0, [.int 0, .int 0, .int 0, .int 0, .int 0, .ref a1, .ref a2]), .inl (cA 0, 12, .inl (fun _ => 0)), .inl (cA 0, 10, .inl (fun _ => 0))]) 0 10 1 0 0 0 0 0 (fun _ => 0) (fun _ => 0) rfl rfl rfl (by show 0 + 2 < 3; omega) (by decide) 10 (by decide) (by decide) l _) gX0_init_X0_become rfl 2 (by decide +kernel) ⟨(Nat.le_of_ble_eq_true rfl), (Nat.le_of_ble_eq_true rfl)⟩ 0 rfl rfl rfl hl.1 rfl (Nat.le_of_ble_eq_true rfl) dX0_init_24 ⟨(Nat.le_of_ble_eq_true rfl), (Nat.le_of_ble_eq_true rfl)⟩) hS [0, 1, 2] rfl rfl [] rfl rfl (by decide) (fun g3 H locs hp9 hS => ?_)
  have hS : y_S D (va_A [(q0, .inr (0, [.int 0, .int 0, .int 0, .int 0, .int 0, .null, .null]))] sz) s.heap [(q0, g3 0), (a1, g3 1), (a2, g3 2)] H _ := hS
  exact y_vret (y_ad [a1, a2], g3) hx hb hr hlocks hS hp9.1 dX0_init_27

