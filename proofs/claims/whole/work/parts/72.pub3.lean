/-! expansions, as numbers -/
noncomputable def zmu (b : zb) (nn x : Int) : Nat := Classical.epsilon (fun mu => ∃ la, zper (zor (zst b nn) x) mu la)
noncomputable def zla (b : zb) (nn x : Int) : Nat := Classical.epsilon (fun la => zper (zor (zst b nn) x) (zmu b nn x) la)
theorem zmula_of {b : zb} {nn x : Int} {mu la : Nat} (h : zper (zor (zst b nn) x) mu la) : zper (zor (zst b nn) x) (zmu b nn x) (zla b nn x) :=
  Classical.epsilon_spec (p := fun la => zper (zor (zst b nn) x) (zmu b nn x) la) (Classical.epsilon_spec (p := fun mu => ∃ la, zper (zor (zst b nn) x) mu la) ⟨mu, la, h⟩)
theorem zmula_is {b : zb} {nn x : Int} {mu la : Nat} (h : zper (zor (zst b nn) x) mu la) : zmu b nn x = mu ∧ zla b nn x = la := zper_uniq (zmula_of h) h
theorem zmula {b : zb} (hok : zb_ok b) {nn x : Int} (hn : 1 ≤ nn ∧ nn ≤ 60) (hx : -100000 ≤ x ∧ x ≤ 100000) : zper (zor (zst b nn) x) (zmu b nn x) (zla b nn x) ∧ zmu b nn x + zla b nn x ≤ 200001 := by
  obtain ⟨mu, la, h1, h2⟩ := zper_exb hok hn hx
  have h3 := zmula_is h1
  rw [h3.1, h3.2]; exact ⟨h1, h2⟩
theorem z_inv60 : ∀ P : Fin 11, ∀ n : Fin 61, 2 ≤ P.val → Nat.gcd n.val P.val = 1 → ∃ iv : Fin 11, 1 ≤ iv.val ∧ iv.val < P.val ∧ (iv.val * n.val) % P.val = 1 := by decide +kernel
theorem z_inv_ex {P n : Int} (hP : 2 ≤ P ∧ P ≤ 10) (hn : 1 ≤ n ∧ n ≤ 60) (h : Nat.gcd n.toNat P.toNat = 1) : ∃ iv : Nat, 1 ≤ iv ∧ (iv : Int) < P ∧ ((iv : Int) * n) % P = 1 := by
  obtain ⟨p, rfl⟩ : ∃ p : Nat, P = p := ⟨P.toNat, by omega⟩
  obtain ⟨m, rfl⟩ : ∃ m : Nat, n = m := ⟨n.toNat, by omega⟩
  rw [Int.toNat_natCast, Int.toNat_natCast] at h
  obtain ⟨iv, h1, h2, h3⟩ := z_inv60 ⟨p, by omega⟩ ⟨m, by omega⟩ (by show 2 ≤ p; omega) h
  exact ⟨iv.val, h1, by have : iv.val < p := h2; omega, by
    have h4 : (iv.val * m) % p = 1 := h3
    exact_mod_cast h4⟩
theorem z_inv_1 {P : Int} (hP : 2 ≤ P ∧ P ≤ 10) : ∃ iv : Nat, 1 ≤ iv ∧ (iv : Int) < P ∧ ((iv : Int) * 1) % P = 1 := ⟨1, Nat.le_refl 1, by omega, by rw [Int.mul_one]; exact Int.emod_eq_of_lt (by omega) (by omega)⟩
noncomputable def ztv (a : Nat) (b : zb) (m n pl : Int) : Int := match a with
  | 0 => zsd b n (zor (zst b n) m pl.toNat)
  | 1 => zor (zst b n) m pl.toNat
  | 2 => (zmu b n m : Int)
  | 3 => (zla b n m : Int)
  | _ => zite (zor (zst b n) m (zmu b n m) = 0 ∧ zla b n m = 1) (zmu b n m : Int) (-1000006)
noncomputable def sp_tell (a : Nat) (S : zS) (sy m n pl : Int) : Int × zS := zite (zsy sy) (zite ((-100000 ≤ m ∧ m ≤ 100000) ∧ (1 ≤ n ∧ n ≤ 60) ∧ (0 ≤ pl ∧ pl ≤ 1000000000)) (zite (zcm (S.1 sy.toNat)) (zite (Nat.gcd n.toNat (zP (S.1 sy.toNat)).toNat = 1) (ztv a (S.1 sy.toNat) m n pl, S) (-1000004, S)) (-1000003, S)) (-1000002, S)) (-1000001, S)
/-! cycles -/
noncomputable def zcyc (b : zb) : Nat := zct (zlB (zst b 1)) 51
theorem zcyc_46 {b : zb} (hok : zb_ok b) : zct (zlB (zst b 1)) 46 = zcyc b := (zct_false (c := zlB (zst b 1)) 46 (j := 5) (fun t h1 _ => zlB_f hok (by omega))).symm
noncomputable def zcyl (b : zb) (k : Nat) : Int := (zfi (fun t => zlB (zst b 1) t && decide (zct (zlB (zst b 1)) t = k)) 51 : Nat) - 25
theorem zcyl_is {b : zb} {k t : Nat} (h1 : t < 51) (h2 : zlB (zst b 1) t = true) (h3 : zct (zlB (zst b 1)) t = k) : zcyl b k = (t : Int) - 25 := by
  unfold zcyl
  rw [zfi_is (j := t) h1 (by simp [h2, h3]) (fun j hj => by
    cases e : zlB (zst b 1) j
    · rfl
    · have := zct_lt e hj
      simp only [Bool.true_and, decide_eq_false_iff_not]
      omega)]
noncomputable def zgr (f : Int → Int) (x : Int) : Int := Classical.epsilon (zog f x)
theorem zgr_is {f : Int → Int} {x y : Int} (h : zog f x y) : y = zgr f x := zog_one h (Classical.epsilon_spec (p := zog f x) ⟨y, h⟩)
noncomputable def zle (f : Int → Int) (x : Int) : Int := Classical.epsilon (zol f x)
theorem zle_is {f : Int → Int} {x y : Int} (h : zol f x y) : y = zle f x := zol_one h (Classical.epsilon_spec (p := zol f x) ⟨y, h⟩)
theorem zper_lc {b : zb} (hok : zb_ok b) {x : Int} (h : zlc (zst b 1) x) : (-20 ≤ x ∧ x ≤ 20) ∧ zper (zor (zst b 1) x) 0 (zla b 1 x) := by
  obtain ⟨⟨d, hd, he⟩, -⟩ := h
  have hx := zcyc_bd hok hd he
  obtain ⟨mu, la, h1, -⟩ := zper20 hok hx
  have h2 := zper_0 h1 hd he
  subst h2
  exact ⟨hx, by rw [(zmula_is h1).2]; exact h1⟩
theorem zper_sub {f : Int → Int} {x : Int} {mu la : Nat} (h : zper (zor f x) mu la) : zper (zor f (zor f x mu)) 0 la := by
  refine ⟨h.1, ?_, fun i j hij hj => ?_⟩
  · rw [Nat.zero_add, ← zor_add, h.2.1]; rfl
  · rw [← zor_add, ← zor_add]; exact h.2.2 _ _ (by omega) (by omega)
noncomputable def zcyv (b : zb) (k : Nat) (what : Int) : Int := zite (what = 0) (zcyl b k) (zite (what = 1) (zla b 1 (zcyl b k) : Int) (zgr (zst b 1) (zcyl b k)))
noncomputable def sp_cycleCount (S : zS) (sy : Int) : Int × zS := zite (zsy sy) (zite (zcm (S.1 sy.toNat)) ((zcyc (S.1 sy.toNat) : Int), S) (-1000003, S)) (-1000001, S)
noncomputable def sp_cycle (S : zS) (sy k what : Int) : Int × zS := zite (zsy sy) (zite (0 ≤ k ∧ 0 ≤ what ∧ what ≤ 2) (zite (zcm (S.1 sy.toNat)) (zite (k < (zcyc (S.1 sy.toNat) : Int)) (zcyv (S.1 sy.toNat) k.toNat what, S) (-1000006, S)) (-1000003, S)) (-1000002, S)) (-1000001, S)
noncomputable def zlead (b : zb) (m : Int) : Nat := zct (zlB (zst b 1)) (zle (zst b 1) (zor (zst b 1) m (zmu b 1 m)) + 25).toNat
noncomputable def sp_leadsTo (S : zS) (sy m : Int) : Int × zS := zite (zsy sy) (zite (-100000 ≤ m ∧ m ≤ 100000) (zite (zcm (S.1 sy.toNat)) ((zlead (S.1 sy.toNat) m : Int), S) (-1000003, S)) (-1000002, S)) (-1000001, S)
noncomputable def sp_reachesAll (S : zS) (sy : Int) : Int × zS := zite (zsy sy) (zite (zcm (S.1 sy.toNat)) (zite (zch (S.1 sy.toNat) 0 = 0 ∧ zcyc (S.1 sy.toNat) = 1) 1 0, S) (-1000003, S)) (-1000001, S)
noncomputable def sp_nextCarry (S : zS) (sy c t : Int) : Int × zS := zite (zsy sy) (zite ((-10000 ≤ c ∧ c ≤ 10000) ∧ (-2000 ≤ t ∧ t ≤ 2000)) (zite (zcm (S.1 sy.toNat)) (zcr (S.1 sy.toNat) c t, S) (-1000003, S)) (-1000002, S)) (-1000001, S)
/-! carries -/
noncomputable def zcsB (b : zb) (t : Nat) : Bool := @decide (zcs b ((t : Int) - 60)) (Classical.propDecidable _)
theorem zcsB_iff {b : zb} {t : Nat} : zcsB b t = true ↔ zcs b ((t : Int) - 60) := by
  unfold zcsB
  exact @decide_eq_true_iff _ (Classical.propDecidable _)
theorem zcsB_m {b : zb} {l : List Int} (h : ∀ y, y ∈ l ↔ zcs b y) : zcm1 l = zcsB b := by
  funext t
  unfold zcm1
  rw [Bool.eq_iff_iff, zcsB_iff, decide_eq_true_iff]
  exact h _
noncomputable def zcc (b : zb) : Nat := zct (zcsB b) 121
noncomputable def zck (b : zb) (k : Nat) : Int := (zfi (fun t => zcsB b t && decide (zct (zcsB b) t = k)) 121 : Nat) - 60
theorem zck_is {b : zb} {k t : Nat} (h1 : t < 121) (h2 : zcsB b t = true) (h3 : zct (zcsB b) t = k) : zck b k = (t : Int) - 60 := by
  unfold zck
  rw [zfi_is (j := t) h1 (by simp [h2, h3]) (fun j hj => by
    cases e : zcsB b j
    · rfl
    · have := zct_lt e hj
      simp only [Bool.true_and, decide_eq_false_iff_not]
      omega)]
noncomputable def sp_carryCount (S : zS) (sy : Int) : Int × zS := zite (zsy sy) (zite (zcm (S.1 sy.toNat)) ((zcc (S.1 sy.toNat) : Int), S) (-1000003, S)) (-1000001, S)
noncomputable def sp_carry (S : zS) (sy k : Int) : Int × zS := zite (zsy sy) (zite (0 ≤ k) (zite (zcm (S.1 sy.toNat)) (zite (k < (zcc (S.1 sy.toNat) : Int)) (zck (S.1 sy.toNat) k.toNat, S) (-1000006, S)) (-1000003, S)) (-1000002, S)) (-1000001, S)
theorem in_X9_tellOfExpansion_0 : ∀ w ∈ wsX00, w ∈ wsX9_tellOfExpansion := by decide +kernel
theorem in_X9_tellOfExpansion_5 : ∀ w ∈ wsX50, w ∈ wsX9_tellOfExpansion := by decide +kernel
theorem in_X9_tellOfExpansion_7 : ∀ w ∈ wsX70, w ∈ wsX9_tellOfExpansion := by decide +kernel
set_option maxHeartbeats 4000000 in
set_option maxRecDepth 100000 in
theorem k_tell (Z : zT) {G9 : Nat → va_E} (g : Nat → va_E) (sg : Nat → zb) (rw9 : Nat → zr) (hX : z_xw Z G9 g sg rw9) (a : Nat) (a9 : Int32) (ha : (a = 0 ∧ a9 = 0) ∨ (a = 1 ∧ a9 = 1) ∨ (a = 2 ∧ a9 = 2) ∨ (a = 3 ∧ a9 = 3) ∨ (a = 4 ∧ a9 = 4)) (x y z u : Int32) : z_Mi Z yX9_tellOfExpansion wsX9_tellOfExpansion 5 113 [.ref (Z.2.1 0), .int a9, .int x, .int y, .int z, .int u] g (fun r g1 => z_po Z G9 (sp_tell a (sg, rw9) x.toInt y.toInt z.toInt u.toInt) r g1) := by
  intro l sz
  have h0 := hX.1
  obtain ⟨hN, h_x, ⟨fS, h_x1, hfS⟩, fR, h_x2, hfR⟩ := id h0
  have hN0 : 0 < Z.1 := by omega
  have hN1 : 1 < Z.1 := by omega
  have hN2 : 2 < Z.1 := by omega
  refine z_enter (maxL := 7) (ret := (some .int)) (lv := [(0, .ref (Z.2.1 0)), (1, .int a9), (2, .int x), (3, .int y), (4, .int z), (5, .int u)]) (plainFor_of_name (by decide +kernel)) rfl (fun ls h => by subst h; exact lv_entry [.ref (Z.2.1 0), .int a9, .int x, .int y, .int z, .int u] (n := 7) (Nat.le_of_ble_eq_true rfl)) ?_
  intro p e s m args below meth c hx hb hml hr hlocks hown hts hK hS hsz ls hl
  refine lv_aload_n hx hb dX9_tellOfExpansion_0 rfl (lv_at hl 0 rfl) ?_
  refine lv_iload_n hx hb dX9_tellOfExpansion_1 rfl (lv_at hl 2 rfl) ?_
  refine z_callq (z_runV (As := [.int x]) (rest := []) ⟨hx, hb, hml, hown, hts⟩ hK hS ((k_systemAt Z g h0 x) l _) gX9_tellOfExpansion_X9_systemAt rfl 1 (by decide +kernel) ⟨Nat.le_of_ble_eq_true rfl, Nat.le_of_ble_eq_true rfl⟩ h_x hN0 rfl rfl hl.1 rfl (Nat.le_of_ble_eq_true rfl) dX9_tellOfExpansion_2 ⟨Nat.le_of_ble_eq_true rfl, Nat.le_of_ble_eq_true rfl⟩) hS (fun r_1 g_2 H locs hp_3 hS => ?_)
  obtain ⟨rfl, hp_3⟩ := hp_3
  rcases hp_3 with ⟨s1, hs2, hsv, er⟩ | ⟨hnv, er⟩
  · subst er
    obtain ⟨h_n, hBs, ⟨w1, w2, w3, w4, w5, w6, hW⟩, h_y, ⟨lw, hw, tb, y1, y2, y3, hO⟩, l0, hC⟩ := hX.2.2.2.2.2 s1 hs2
    have hzs : zsy x.toInt := ⟨by omega, by omega⟩
    have htn : x.toInt.toNat = s1 := by omega
    obtain ⟨pb, qb, res, cmp, dg, ch, ⟨h_b, h_d, h_c, hkN, hok, hp, hq, hres, hdg⟩, hch, hcmp⟩ := id hBs
    have hkn : 15 + 13 * s1 < Z.1 := by omega
    have hk0 : 16 + 13 * s1 < Z.1 := by omega
    have hk1 : 16 + 13 * s1 + 1 < Z.1 := by omega
    have hk2 : 16 + 13 * s1 + 2 < Z.1 := by omega
    have hPb := zP_bd hok
    have hn12 := hok.2.2.2.1
    have hq1 := hok.2.1
    obtain ⟨h_w, hkw, hws⟩ := id hW
    refine lv_astore (lv' := [(6, .ref (Z.2.1 (15 + 13 * s1))), (0, .ref (Z.2.1 0)), (1, .int a9), (2, .int x), (3, .int y), (4, .int z), (5, .int u)]) hx hb dX9_tellOfExpansion_5 hl (by decide) rfl (fun ls hl => ?_)
    refine lv_aload hx hb dX9_tellOfExpansion_7 (lv_at hl 0 rfl) ?_
    refine lv_ifnonnull (tgt := 15) hx hb dX9_tellOfExpansion_9 (by decide) ?_
    refine lv_iload_n hx hb dX9_tellOfExpansion_15 rfl (lv_at hl 4 rfl) ?_
    refine lv_ldc (v := 100000) hx hb hown (hts _ (List.mem_of_getElem? (i := 2) rfl)) dX9_tellOfExpansion_16 ?_
    refine z_calli (z_runS (As := [.int y, .int 100000]) (rest := []) ⟨hx, hb, hml, hown, hts⟩ hK hS ((k_isWithin Z g y 100000 (by rw [tI_100000]; omega)) l _) gX9_tellOfExpansion_X9_isWithin rfl 2 (by decide +kernel) ⟨Nat.le_of_ble_eq_true rfl, Nat.le_of_ble_eq_true rfl⟩ rfl hl.1 rfl (Nat.le_of_ble_eq_true rfl) dX9_tellOfExpansion_18 ⟨Nat.le_of_ble_eq_true rfl, Nat.le_of_ble_eq_true rfl⟩) hS (fun rb g_4 H locs hp_5 hS => ?_)
    obtain ⟨rfl, hp_5⟩ := hp_5
    have hrb := hp_5
    rw [tI_100000] at hrb
    refine lv_if_eq (tgt := 50) hx hb dX9_tellOfExpansion_21 (by decide) (fun c_6 => ?_) (fun c_6 => ?_)
    · have i_6 := z_eq c_6
      rw [tI_0] at i_6
      have hno := zbo_f hrb c_6
      have hbad : ¬ ((-100000 ≤ y.toInt ∧ y.toInt ≤ 100000) ∧ (1 ≤ z.toInt ∧ z.toInt ≤ 60) ∧ (0 ≤ u.toInt ∧ u.toInt ≤ 1000000000)) := fun h9 => by omega
      refine lv_ldc (v := (-1000002)) hx hb hown (hts _ (List.mem_of_getElem? (i := 4) rfl)) dX9_tellOfExpansion_50 ?_
      refine z_iret hx hb hr hlocks hS ?_ dX9_tellOfExpansion_52
      show z_po Z G9 (sp_tell a (sg, rw9) x.toInt y.toInt z.toInt u.toInt) _ _
      unfold sp_tell
      rw [zite_t hzs, zite_f hbad]
      exact ⟨rfl, hX⟩
    · have i_6 := z_ne c_6
      rw [tI_0] at i_6
      have hym := zbo_t hrb c_6
      refine lv_iload hx hb dX9_tellOfExpansion_24 (lv_at hl 5 rfl) ?_
      refine lv_iconst (v := 1) hx hb dX9_tellOfExpansion_26 (by decide) ?_
      refine lv_icmp_lt (tgt := 50) hx hb dX9_tellOfExpansion_27 (by decide) (fun c_7 => ?_) (fun c_7 => ?_)
      · have i_7 := z_lt c_7
        rw [tI_1] at i_7
        have hbad : ¬ ((-100000 ≤ y.toInt ∧ y.toInt ≤ 100000) ∧ (1 ≤ z.toInt ∧ z.toInt ≤ 60) ∧ (0 ≤ u.toInt ∧ u.toInt ≤ 1000000000)) := fun h9 => by omega
        refine lv_ldc (v := (-1000002)) hx hb hown (hts _ (List.mem_of_getElem? (i := 4) rfl)) dX9_tellOfExpansion_50 ?_
        refine z_iret hx hb hr hlocks hS ?_ dX9_tellOfExpansion_52
        show z_po Z G9 (sp_tell a (sg, rw9) x.toInt y.toInt z.toInt u.toInt) _ _
        unfold sp_tell
        rw [zite_t hzs, zite_f hbad]
        exact ⟨rfl, hX⟩
      · have i_7 := z_nlt c_7
        rw [tI_1] at i_7
        refine lv_iload hx hb dX9_tellOfExpansion_30 (lv_at hl 5 rfl) ?_
        refine lv_bipush (v := 60) hx hb dX9_tellOfExpansion_32 (by decide) ?_
        refine lv_icmp_gt (tgt := 50) hx hb dX9_tellOfExpansion_34 (by decide) (fun c_8 => ?_) (fun c_8 => ?_)
        · have i_8 := z_lt c_8
          rw [tI_60] at i_8
          have hbad : ¬ ((-100000 ≤ y.toInt ∧ y.toInt ≤ 100000) ∧ (1 ≤ z.toInt ∧ z.toInt ≤ 60) ∧ (0 ≤ u.toInt ∧ u.toInt ≤ 1000000000)) := fun h9 => by omega
          refine lv_ldc (v := (-1000002)) hx hb hown (hts _ (List.mem_of_getElem? (i := 4) rfl)) dX9_tellOfExpansion_50 ?_
          refine z_iret hx hb hr hlocks hS ?_ dX9_tellOfExpansion_52
          show z_po Z G9 (sp_tell a (sg, rw9) x.toInt y.toInt z.toInt u.toInt) _ _
          unfold sp_tell
          rw [zite_t hzs, zite_f hbad]
          exact ⟨rfl, hX⟩
        · have i_8 := z_nlt c_8
          rw [tI_60] at i_8
          refine lv_iload hx hb dX9_tellOfExpansion_37 (lv_at hl 6 rfl) ?_
          refine lv_if_lt (tgt := 50) hx hb dX9_tellOfExpansion_39 (by decide) (fun c_9 => ?_) (fun c_9 => ?_)
          · have i_9 := z_lt c_9
            rw [tI_0] at i_9
            have hbad : ¬ ((-100000 ≤ y.toInt ∧ y.toInt ≤ 100000) ∧ (1 ≤ z.toInt ∧ z.toInt ≤ 60) ∧ (0 ≤ u.toInt ∧ u.toInt ≤ 1000000000)) := fun h9 => by omega
            refine lv_ldc (v := (-1000002)) hx hb hown (hts _ (List.mem_of_getElem? (i := 4) rfl)) dX9_tellOfExpansion_50 ?_
            refine z_iret hx hb hr hlocks hS ?_ dX9_tellOfExpansion_52
            show z_po Z G9 (sp_tell a (sg, rw9) x.toInt y.toInt z.toInt u.toInt) _ _
            unfold sp_tell
            rw [zite_t hzs, zite_f hbad]
            exact ⟨rfl, hX⟩
          · have i_9 := z_nlt c_9
            rw [tI_0] at i_9
            refine lv_iload hx hb dX9_tellOfExpansion_42 (lv_at hl 6 rfl) ?_
            refine lv_ldcw (v := 1000000000) hx hb hown (hts _ (List.mem_of_getElem? (i := 3) rfl)) dX9_tellOfExpansion_44 ?_
            refine lv_icmp_le (tgt := 53) hx hb dX9_tellOfExpansion_47 (by decide) (fun c_10 => ?_) (fun c_10 => ?_)
            · have i_10 := z_le c_10
              rw [tI_1000000000] at i_10
              have hzn : 1 ≤ z.toInt ∧ z.toInt ≤ 60 := by omega
              obtain ⟨t9, et9, ht9, -⟩ := z_nI_of (x := u) (by omega)
              subst et9
              refine lv_aload hx hb dX9_tellOfExpansion_53 (lv_at hl 0 rfl) ?_
              refine z_getN (own := RX9) (C := RX5) (T := TX5) (N := 5) hx hb hts in_X9_tellOfExpansion_5 hown hK hS h_n hkn rfl 0 (by decide) 14 rfl rfl rfl dX9_tellOfExpansion_55 ?_
              refine z_getN (own := RX9) (C := RX0) (T := TX0) (N := 7) hx hb hts in_X9_tellOfExpansion_0 hown hK hS h_b hk0 rfl 4 (by decide) 1 rfl rfl rfl dX9_tellOfExpansion_58 ?_
              refine lv_if_ne (tgt := 67) hx hb dX9_tellOfExpansion_61 (by decide) (fun c_11 => ?_) (fun c_11 => ?_)
              · have i_11 := z_ne c_11
                rw [tI_0] at i_11
                have hcm := zbo_t hcmp c_11
                refine lv_iload hx hb dX9_tellOfExpansion_67 (lv_at hl 5 rfl) ?_
                refine lv_i2l hx hb dX9_tellOfExpansion_69 rfl ?_
                refine lv_aload hx hb dX9_tellOfExpansion_70 (lv_at hl 0 rfl) ?_
                refine z_getN (own := RX9) (C := RX5) (T := TX5) (N := 5) hx hb hts in_X9_tellOfExpansion_5 hown hK hS h_n hkn rfl 0 (by decide) 14 rfl rfl rfl dX9_tellOfExpansion_72 ?_
                refine z_getN (own := RX9) (C := RX0) (T := TX0) (N := 7) hx hb hts in_X9_tellOfExpansion_0 hown hK hS h_b hk0 rfl 2 (by decide) 15 rfl rfl rfl dX9_tellOfExpansion_75 ?_
                refine lv_i2l hx hb dX9_tellOfExpansion_78 rfl ?_
                refine z_calll (z_runS (As := [.long (Int32.toInt64 z), .long (Int32.toInt64 res)]) (rest := []) ⟨hx, hb, hml, hown, hts⟩ hK hS ((k_commonDivisor Z g (Int32.toInt64 z) (Int32.toInt64 res) (by rw [Int32.toInt_toInt64]; omega) (by rw [Int32.toInt_toInt64]; omega)) l _) gX9_tellOfExpansion_X9_commonDivisor rfl 2 (by decide +kernel) ⟨Nat.le_of_ble_eq_true rfl, Nat.le_of_ble_eq_true rfl⟩ rfl hl.1 rfl (Nat.le_of_ble_eq_true rfl) dX9_tellOfExpansion_79 ⟨Nat.le_of_ble_eq_true rfl, Nat.le_of_ble_eq_true rfl⟩) hS (fun gd g_12 H locs hp_13 hS => ?_)
                obtain ⟨rfl, hp_13⟩ := hp_13
                have hgd := hp_13
                rw [Int32.toInt_toInt64, Int32.toInt_toInt64, hres, show z.toInt.natAbs = z.toInt.toNat from by omega, show (zP (sg s1)).natAbs = (zP (sg s1)).toNat from by omega] at hgd
                have hc0 := z_cmp0 (x := gd) (y := 1)
                rw [show (1 : Int64).toInt = 1 from rfl, hgd] at hc0
                refine lv_lconst (v := 1) hx hb dX9_tellOfExpansion_82 rfl ?_
                refine W.lcmp hx hb dX9_tellOfExpansion_83 ?_
                refine lv_if_eq (tgt := 90) hx hb dX9_tellOfExpansion_84 (by decide) (fun c_14 => ?_) (fun c_14 => ?_)
                · have i_14 := z_eq c_14
                  rw [tI_0] at i_14
                  have hgc : Nat.gcd z.toInt.toNat (zP (sg s1)).toNat = 1 := by have := hc0.mp c_14; omega
                  refine lv_aload hx hb dX9_tellOfExpansion_90 (lv_at hl 0 rfl) ?_
                  refine z_getN (own := RX9) (C := RX5) (T := TX5) (N := 5) hx hb hts in_X9_tellOfExpansion_5 hown hK hS h_n hkn rfl 1 (by decide) 3 rfl rfl rfl dX9_tellOfExpansion_92 ?_
                  refine lv_iload_n hx hb dX9_tellOfExpansion_95 rfl (lv_at hl 4 rfl) ?_
                  refine lv_iload hx hb dX9_tellOfExpansion_96 (lv_at hl 5 rfl) ?_
                  refine z_callv (z_runVN (As := [.int y, .int z]) (rest := []) (C := RX7) ⟨hx, hb, hml, hown, hts⟩ hK hS ((k_begin Z g (19 + 13 * s1) (16 + 13 * s1) (sg s1) w1 w2 w3 w4 w5 w6 ⟨h_w, hkw, hws⟩ ⟨pb, qb, res, cmp, dg, ch, ⟨h_b, h_d, h_c, hkN, hok, hp, hq, hres, hdg⟩, hch⟩ hcm y z hym hzn (z_inv_ex ⟨hPb.1, hPb.2.1⟩ hzn hgc) (zmu (sg s1) z.toInt y.toInt) (zla (sg s1) z.toInt y.toInt) (zmula hok hzn hym).1 (zmula hok hzn hym).2) l _) gX9_tellOfExpansion_X7_begin_n140 rfl 2 5 rfl (List.mem_of_getElem? (i := 25) rfl) (List.mem_of_getElem? (i := 24) rfl) (List.mem_of_getElem? (i := 26) rfl) (by decide +kernel) ⟨Nat.le_of_ble_eq_true rfl, Nat.le_of_ble_eq_true rfl⟩ h_w hkw rfl rfl hl.1 rfl (Nat.le_of_ble_eq_true rfl) dX9_tellOfExpansion_98 ⟨Nat.le_of_ble_eq_true rfl, Nat.le_of_ble_eq_true rfl⟩) hS (fun g_16 H locs hp_17 hS => ?_)
                  obtain ⟨iv9, en9, hok9, hen9, hfr_18, h_w⟩ := hp_17
                  have h_x := (hfr_18 _ (by omega)).trans h_x
                  have h_x1 := (hfr_18 _ (by omega)).trans h_x1
                  have h_x2 := (hfr_18 _ (by omega)).trans h_x2
                  have h_n := (hfr_18 _ (by omega)).trans h_n
                  have h_b := (hfr_18 _ (by omega)).trans h_b
                  have h_d := (hfr_18 _ (by omega)).trans h_d
                  have h_c := (hfr_18 _ (by omega)).trans h_c
                  have hper9 := (zmula hok (nn := z.toInt) hzn hym).1
                  have hml9 := (zmula hok (nn := z.toInt) hzn hym).2
                  refine lv_iload_n hx hb dX9_tellOfExpansion_101 rfl (lv_at hl 2 rfl) ?_
                  rcases ha with ⟨rfl, rfl⟩ | ⟨rfl, rfl⟩ | ⟨rfl, rfl⟩ | ⟨rfl, rfl⟩ | ⟨rfl, rfl⟩
                  · refine lv_tableIn (tgt := 132) hx hb dX9_tellOfExpansion_102 (by decide) (by decide) rfl (by decide) ?_
                    refine lv_aload hx hb dX9_tellOfExpansion_132 (lv_at hl 0 rfl) ?_
                    refine z_getN (own := RX9) (C := RX5) (T := TX5) (N := 5) hx hb hts in_X9_tellOfExpansion_5 hown hK hS h_n hkn rfl 1 (by decide) 3 rfl rfl rfl dX9_tellOfExpansion_134 ?_
                    refine lv_aload hx hb dX9_tellOfExpansion_137 (lv_at hl 0 rfl) ?_
                    refine z_getN (own := RX9) (C := RX5) (T := TX5) (N := 5) hx hb hts in_X9_tellOfExpansion_5 hown hK hS h_n hkn rfl 1 (by decide) 3 rfl rfl rfl dX9_tellOfExpansion_139 ?_
                    refine lv_iload hx hb dX9_tellOfExpansion_142 (lv_at hl 6 rfl) ?_
                    refine z_calli (z_runVN (As := [.int (nI t9)]) (rest := [.ref (Z.2.1 (19 + 13 * s1))]) (C := RX7) ⟨hx, hb, hml, hown, hts⟩ hK hS ((k_numeratorAt Z g_16 (19 + 13 * s1) (16 + 13 * s1) (sg s1) y z iv9 (nI (zmu (sg s1) z.toInt y.toInt)) (nI (zla (sg s1) z.toInt y.toInt)) en9 ⟨h_w, hkw, hws⟩ ⟨pb, qb, res, cmp, dg, ch, ⟨h_b, h_d, h_c, hkN, hok, hp, hq, hres, hdg⟩, hch⟩ z.toInt hok9 (zmu (sg s1) z.toInt y.toInt) (zla (sg s1) z.toInt y.toInt) hper9 hml9 hym rfl rfl hen9 t9 (by omega)) l _) gX9_tellOfExpansion_X7_numeratorAt_n262 rfl 1 27 rfl (List.mem_of_getElem? (i := 25) rfl) (List.mem_of_getElem? (i := 74) rfl) (List.mem_of_getElem? (i := 75) rfl) (by decide +kernel) ⟨Nat.le_of_ble_eq_true rfl, Nat.le_of_ble_eq_true rfl⟩ h_w hkw rfl rfl hl.1 rfl (Nat.le_of_ble_eq_true rfl) dX9_tellOfExpansion_144 ⟨Nat.le_of_ble_eq_true rfl, Nat.le_of_ble_eq_true rfl⟩) hS (fun rn g_19 H locs hp_20 hS => ?_)
                    obtain ⟨rfl, hp_20⟩ := hp_20
                    have hnu := hp_20
                    have hnb := zor_bd hok hzn hym t9
                    rw [← hnu] at hnb
                    refine z_calli (z_runVN (As := [.int rn]) (rest := []) (C := RX7) ⟨hx, hb, hml, hown, hts⟩ hK hS ((k_digitOf Z g_16 (19 + 13 * s1) (16 + 13 * s1) (sg s1) y z iv9 (nI (zmu (sg s1) z.toInt y.toInt)) (nI (zla (sg s1) z.toInt y.toInt)) en9 ⟨h_w, hkw, hws⟩ ⟨pb, qb, res, cmp, dg, ch, ⟨h_b, h_d, h_c, hkN, hok, hp, hq, hres, hdg⟩, hch⟩ z.toInt hok9 rn hnb) l _) gX9_tellOfExpansion_X7_digitOf_n265 rfl 1 28 rfl (List.mem_of_getElem? (i := 25) rfl) (List.mem_of_getElem? (i := 80) rfl) (List.mem_of_getElem? (i := 81) rfl) (by decide +kernel) ⟨Nat.le_of_ble_eq_true rfl, Nat.le_of_ble_eq_true rfl⟩ h_w hkw rfl rfl hl.1 rfl (Nat.le_of_ble_eq_true rfl) dX9_tellOfExpansion_147 ⟨Nat.le_of_ble_eq_true rfl, Nat.le_of_ble_eq_true rfl⟩) hS (fun rd g_21 H locs hp_22 hS => ?_)
                    obtain ⟨rfl, hp_22⟩ := hp_22
                    have hdd := hp_22
                    rw [hnu] at hdd
                    refine z_iret hx hb hr hlocks hS ?_ dX9_tellOfExpansion_150
                    show z_po Z G9 (sp_tell 0 (sg, rw9) x.toInt y.toInt z.toInt (nI t9).toInt) _ _
                    unfold sp_tell
                    rw [zite_t hzs, zite_t ⟨hym, hzn, (show 0 ≤ (nI t9).toInt ∧ (nI t9).toInt ≤ 1000000000 by omega)⟩, htn, zite_t hcm, zite_t hgc]
                    exact ⟨by unfold ztv; simp only []; rw [show (nI t9).toInt.toNat = t9 from by omega]; exact hdd, hX.walk hs2 (z_fr.rf.tr (hfr_18.wide (by omega) (by omega))) ⟨h_w, hkw, hws⟩⟩
                  · refine lv_tableIn (tgt := 151) hx hb dX9_tellOfExpansion_102 (by decide) (by decide) rfl (by decide) ?_
                    refine lv_aload hx hb dX9_tellOfExpansion_151 (lv_at hl 0 rfl) ?_
                    refine z_getN (own := RX9) (C := RX5) (T := TX5) (N := 5) hx hb hts in_X9_tellOfExpansion_5 hown hK hS h_n hkn rfl 1 (by decide) 3 rfl rfl rfl dX9_tellOfExpansion_153 ?_
                    refine lv_iload hx hb dX9_tellOfExpansion_156 (lv_at hl 6 rfl) ?_
                    refine z_calli (z_runVN (As := [.int (nI t9)]) (rest := []) (C := RX7) ⟨hx, hb, hml, hown, hts⟩ hK hS ((k_numeratorAt Z g_16 (19 + 13 * s1) (16 + 13 * s1) (sg s1) y z iv9 (nI (zmu (sg s1) z.toInt y.toInt)) (nI (zla (sg s1) z.toInt y.toInt)) en9 ⟨h_w, hkw, hws⟩ ⟨pb, qb, res, cmp, dg, ch, ⟨h_b, h_d, h_c, hkN, hok, hp, hq, hres, hdg⟩, hch⟩ z.toInt hok9 (zmu (sg s1) z.toInt y.toInt) (zla (sg s1) z.toInt y.toInt) hper9 hml9 hym rfl rfl hen9 t9 (by omega)) l _) gX9_tellOfExpansion_X7_numeratorAt_n262 rfl 1 27 rfl (List.mem_of_getElem? (i := 25) rfl) (List.mem_of_getElem? (i := 74) rfl) (List.mem_of_getElem? (i := 75) rfl) (by decide +kernel) ⟨Nat.le_of_ble_eq_true rfl, Nat.le_of_ble_eq_true rfl⟩ h_w hkw rfl rfl hl.1 rfl (Nat.le_of_ble_eq_true rfl) dX9_tellOfExpansion_158 ⟨Nat.le_of_ble_eq_true rfl, Nat.le_of_ble_eq_true rfl⟩) hS (fun rn g_23 H locs hp_24 hS => ?_)
                    obtain ⟨rfl, hp_24⟩ := hp_24
                    have hnu := hp_24
                    have hnb := zor_bd hok hzn hym t9
                    rw [← hnu] at hnb
                    refine z_iret hx hb hr hlocks hS ?_ dX9_tellOfExpansion_161
                    show z_po Z G9 (sp_tell 1 (sg, rw9) x.toInt y.toInt z.toInt (nI t9).toInt) _ _
                    unfold sp_tell
                    rw [zite_t hzs, zite_t ⟨hym, hzn, (show 0 ≤ (nI t9).toInt ∧ (nI t9).toInt ≤ 1000000000 by omega)⟩, htn, zite_t hcm, zite_t hgc]
                    exact ⟨by unfold ztv; simp only []; rw [show (nI t9).toInt.toNat = t9 from by omega]; exact hnu, hX.walk hs2 (z_fr.rf.tr (hfr_18.wide (by omega) (by omega))) ⟨h_w, hkw, hws⟩⟩
                  · refine lv_tableIn (tgt := 162) hx hb dX9_tellOfExpansion_102 (by decide) (by decide) rfl (by decide) ?_
                    refine lv_aload hx hb dX9_tellOfExpansion_162 (lv_at hl 0 rfl) ?_
                    refine z_getN (own := RX9) (C := RX5) (T := TX5) (N := 5) hx hb hts in_X9_tellOfExpansion_5 hown hK hS h_n hkn rfl 1 (by decide) 3 rfl rfl rfl dX9_tellOfExpansion_164 ?_
                    refine z_getN (own := RX9) (C := RX7) (T := TX7) (N := 7) hx hb hts in_X9_tellOfExpansion_7 hown hK hS h_w hkw rfl 4 (by decide) 11 rfl rfl rfl dX9_tellOfExpansion_167 ?_
                    refine z_iret hx hb hr hlocks hS ?_ dX9_tellOfExpansion_170
                    show z_po Z G9 (sp_tell 2 (sg, rw9) x.toInt y.toInt z.toInt (nI t9).toInt) _ _
                    unfold sp_tell
                    rw [zite_t hzs, zite_t ⟨hym, hzn, (show 0 ≤ (nI t9).toInt ∧ (nI t9).toInt ≤ 1000000000 by omega)⟩, htn, zite_t hcm, zite_t hgc]
                    exact ⟨nI_toInt (by omega), hX.walk hs2 (z_fr.rf.tr (hfr_18.wide (by omega) (by omega))) ⟨h_w, hkw, hws⟩⟩
                  · refine lv_tableIn (tgt := 171) hx hb dX9_tellOfExpansion_102 (by decide) (by decide) rfl (by decide) ?_
                    refine lv_aload hx hb dX9_tellOfExpansion_171 (lv_at hl 0 rfl) ?_
                    refine z_getN (own := RX9) (C := RX5) (T := TX5) (N := 5) hx hb hts in_X9_tellOfExpansion_5 hown hK hS h_n hkn rfl 1 (by decide) 3 rfl rfl rfl dX9_tellOfExpansion_173 ?_
                    refine z_getN (own := RX9) (C := RX7) (T := TX7) (N := 7) hx hb hts in_X9_tellOfExpansion_7 hown hK hS h_w hkw rfl 5 (by decide) 12 rfl rfl rfl dX9_tellOfExpansion_176 ?_
                    refine z_iret hx hb hr hlocks hS ?_ dX9_tellOfExpansion_179
                    show z_po Z G9 (sp_tell 3 (sg, rw9) x.toInt y.toInt z.toInt (nI t9).toInt) _ _
                    unfold sp_tell
                    rw [zite_t hzs, zite_t ⟨hym, hzn, (show 0 ≤ (nI t9).toInt ∧ (nI t9).toInt ≤ 1000000000 by omega)⟩, htn, zite_t hcm, zite_t hgc]
                    exact ⟨nI_toInt (by omega), hX.walk hs2 (z_fr.rf.tr (hfr_18.wide (by omega) (by omega))) ⟨h_w, hkw, hws⟩⟩
                  · refine lv_tableOut (tgt := 180) hx hb dX9_tellOfExpansion_102 (by decide) (by decide) ?_
                    refine lv_aload hx hb dX9_tellOfExpansion_180 (lv_at hl 0 rfl) ?_
                    refine z_getN (own := RX9) (C := RX5) (T := TX5) (N := 5) hx hb hts in_X9_tellOfExpansion_5 hown hK hS h_n hkn rfl 1 (by decide) 3 rfl rfl rfl dX9_tellOfExpansion_182 ?_
                    refine z_calli (z_runVN (As := []) (rest := []) (C := RX7) ⟨hx, hb, hml, hown, hts⟩ hK hS ((k_isFinite Z g_16 (19 + 13 * s1) (16 + 13 * s1) y z iv9 (nI (zmu (sg s1) z.toInt y.toInt)) (nI (zla (sg s1) z.toInt y.toInt)) en9 ⟨h_w, hkw, hws⟩) l _) gX9_tellOfExpansion_X7_isFinite_n274 rfl 0 29 rfl (List.mem_of_getElem? (i := 25) rfl) (List.mem_of_getElem? (i := 83) rfl) (List.mem_of_getElem? (i := 84) rfl) (by decide +kernel) ⟨Nat.le_of_ble_eq_true rfl, Nat.le_of_ble_eq_true rfl⟩ h_w hkw rfl rfl hl.1 rfl (Nat.le_of_ble_eq_true rfl) dX9_tellOfExpansion_185 ⟨Nat.le_of_ble_eq_true rfl, Nat.le_of_ble_eq_true rfl⟩) hS (fun rf9 g_25 H locs hp_26 hS => ?_)
                    obtain ⟨rfl, hp_26⟩ := hp_26
                    have hrf := hp_26
                    rw [hen9, nI_toInt (by omega)] at hrf
                    refine lv_if_eq (tgt := 202) hx hb dX9_tellOfExpansion_188 (by decide) (fun c_27 => ?_) (fun c_27 => ?_)
                    · have i_27 := z_eq c_27
                      rw [tI_0] at i_27
                      have hfin0 := zbo_f hrf c_27
                      have hfin : ¬ (zor (zst (sg s1) z.toInt) y.toInt (zmu (sg s1) z.toInt y.toInt) = 0 ∧ zla (sg s1) z.toInt y.toInt = 1) := fun h9 => hfin0 ⟨h9.1, by omega⟩
                      refine lv_ldc (v := (-1000006)) hx hb hown (hts _ (List.mem_of_getElem? (i := 7) rfl)) dX9_tellOfExpansion_202 ?_
                      refine z_iret hx hb hr hlocks hS ?_ dX9_tellOfExpansion_204
                      show z_po Z G9 (sp_tell 4 (sg, rw9) x.toInt y.toInt z.toInt (nI t9).toInt) _ _
                      unfold sp_tell
                      rw [zite_t hzs, zite_t ⟨hym, hzn, (show 0 ≤ (nI t9).toInt ∧ (nI t9).toInt ≤ 1000000000 by omega)⟩, htn, zite_t hcm, zite_t hgc]
                      exact ⟨by unfold ztv; simp only []; rw [zite_f hfin]; rfl, hX.walk hs2 (z_fr.rf.tr (hfr_18.wide (by omega) (by omega))) ⟨h_w, hkw, hws⟩⟩
                    · have i_27 := z_ne c_27
                      rw [tI_0] at i_27
                      have hfin0 := zbo_t hrf c_27
                      have hfin : zor (zst (sg s1) z.toInt) y.toInt (zmu (sg s1) z.toInt y.toInt) = 0 ∧ zla (sg s1) z.toInt y.toInt = 1 := ⟨hfin0.1, by omega⟩
                      refine lv_aload hx hb dX9_tellOfExpansion_191 (lv_at hl 0 rfl) ?_
                      refine z_getN (own := RX9) (C := RX5) (T := TX5) (N := 5) hx hb hts in_X9_tellOfExpansion_5 hown hK hS h_n hkn rfl 1 (by decide) 3 rfl rfl rfl dX9_tellOfExpansion_193 ?_
                      refine z_getN (own := RX9) (C := RX7) (T := TX7) (N := 7) hx hb hts in_X9_tellOfExpansion_7 hown hK hS h_w hkw rfl 4 (by decide) 11 rfl rfl rfl dX9_tellOfExpansion_196 ?_
                      refine lv_goto (tgt := 204) hx hb dX9_tellOfExpansion_199 (by decide) ?_
                      refine z_iret hx hb hr hlocks hS ?_ dX9_tellOfExpansion_204
                      show z_po Z G9 (sp_tell 4 (sg, rw9) x.toInt y.toInt z.toInt (nI t9).toInt) _ _
                      unfold sp_tell
                      rw [zite_t hzs, zite_t ⟨hym, hzn, (show 0 ≤ (nI t9).toInt ∧ (nI t9).toInt ≤ 1000000000 by omega)⟩, htn, zite_t hcm, zite_t hgc]
                      exact ⟨by unfold ztv; simp only []; rw [zite_t hfin]; exact nI_toInt (by omega), hX.walk hs2 (z_fr.rf.tr (hfr_18.wide (by omega) (by omega))) ⟨h_w, hkw, hws⟩⟩
                · have i_14 := z_ne c_14
                  rw [tI_0] at i_14
                  have hngc : ¬ Nat.gcd z.toInt.toNat (zP (sg s1)).toNat = 1 := fun h9 => c_14 (hc0.mpr (by omega))
                  refine lv_ldc (v := (-1000004)) hx hb hown (hts _ (List.mem_of_getElem? (i := 6) rfl)) dX9_tellOfExpansion_87 ?_
                  refine z_iret hx hb hr hlocks hS ?_ dX9_tellOfExpansion_89
                  show z_po Z G9 (sp_tell a (sg, rw9) x.toInt y.toInt z.toInt (nI t9).toInt) _ _
                  unfold sp_tell
                  rw [zite_t hzs, zite_t ⟨hym, hzn, (show 0 ≤ (nI t9).toInt ∧ (nI t9).toInt ≤ 1000000000 by omega)⟩, htn, zite_t hcm, zite_f hngc]
                  exact ⟨rfl, hX⟩
              · have i_11 := z_eq c_11
                rw [tI_0] at i_11
                have hncm := zbo_f hcmp c_11
                refine lv_ldc (v := (-1000003)) hx hb hown (hts _ (List.mem_of_getElem? (i := 5) rfl)) dX9_tellOfExpansion_64 ?_
                refine z_iret hx hb hr hlocks hS ?_ dX9_tellOfExpansion_66
                show z_po Z G9 (sp_tell a (sg, rw9) x.toInt y.toInt z.toInt (nI t9).toInt) _ _
                unfold sp_tell
                rw [zite_t hzs, zite_t ⟨hym, hzn, (show 0 ≤ (nI t9).toInt ∧ (nI t9).toInt ≤ 1000000000 by omega)⟩, htn, zite_f hncm]
                exact ⟨rfl, hX⟩
            · have i_10 := z_nle c_10
              rw [tI_1000000000] at i_10
              have hbad : ¬ ((-100000 ≤ y.toInt ∧ y.toInt ≤ 100000) ∧ (1 ≤ z.toInt ∧ z.toInt ≤ 60) ∧ (0 ≤ u.toInt ∧ u.toInt ≤ 1000000000)) := fun h9 => by omega
              refine lv_ldc (v := (-1000002)) hx hb hown (hts _ (List.mem_of_getElem? (i := 4) rfl)) dX9_tellOfExpansion_50 ?_
              refine z_iret hx hb hr hlocks hS ?_ dX9_tellOfExpansion_52
              show z_po Z G9 (sp_tell a (sg, rw9) x.toInt y.toInt z.toInt u.toInt) _ _
              unfold sp_tell
              rw [zite_t hzs, zite_f hbad]
              exact ⟨rfl, hX⟩
  · subst er
    refine lv_astoreN (lv' := [(6, .null), (0, .ref (Z.2.1 0)), (1, .int a9), (2, .int x), (3, .int y), (4, .int z), (5, .int u)]) hx hb dX9_tellOfExpansion_5 hl (by decide) rfl (fun ls hl => ?_)
    refine lv_aloadN hx hb dX9_tellOfExpansion_7 (lv_at hl 0 rfl) ?_
    refine lv_ifnonnullN hx hb dX9_tellOfExpansion_9 ?_
    refine lv_ldc (v := (-1000001)) hx hb hown (hts _ (List.mem_of_getElem? (i := 1) rfl)) dX9_tellOfExpansion_12 ?_
    refine z_iret hx hb hr hlocks hS ?_ dX9_tellOfExpansion_14
    show z_po Z G9 (sp_tell a (sg, rw9) x.toInt y.toInt z.toInt u.toInt) _ _
    unfold sp_tell
    rw [zite_f hnv]
    exact ⟨rfl, hX⟩

set_option maxHeartbeats 4000000 in
set_option maxRecDepth 100000 in
theorem k_digit (Z : zT) {G9 : Nat → va_E} (g : Nat → va_E) (sg : Nat → zb) (rw9 : Nat → zr) (hX : z_xw Z G9 g sg rw9) (x y z u : Int32) : z_Mi Z yX9_digit wsX9_digit 6 139 [.ref (Z.2.1 0), .int x, .int y, .int z, .int u] g (fun r g1 => z_po Z G9 (sp_tell 0 (sg, rw9) x.toInt y.toInt z.toInt u.toInt) r g1) := by
  intro l sz
  have h0 := hX.1
  obtain ⟨hN, h_x, ⟨fS, h_x1, hfS⟩, fR, h_x2, hfR⟩ := id h0
  have hN0 : 0 < Z.1 := by omega
  have hN1 : 1 < Z.1 := by omega
  have hN2 : 2 < Z.1 := by omega
  refine z_enter (maxL := 5) (ret := (some .int)) (lv := [(0, .ref (Z.2.1 0)), (1, .int x), (2, .int y), (3, .int z), (4, .int u)]) (plainFor_of_name (by decide +kernel)) rfl (fun ls h => by subst h; exact lv_entry [.ref (Z.2.1 0), .int x, .int y, .int z, .int u] (n := 5) (Nat.le_of_ble_eq_true rfl)) ?_
  intro p e s m args below meth c hx hb hml hr hlocks hown hts hK hS hsz ls hl
  refine lv_aload_n hx hb dX9_digit_0 rfl (lv_at hl 0 rfl) ?_
  refine lv_iconst (v := 0) hx hb dX9_digit_1 (by decide) ?_
  refine lv_iload_n hx hb dX9_digit_2 rfl (lv_at hl 1 rfl) ?_
  refine lv_iload_n hx hb dX9_digit_3 rfl (lv_at hl 2 rfl) ?_
  refine lv_iload_n hx hb dX9_digit_4 rfl (lv_at hl 3 rfl) ?_
  refine lv_iload hx hb dX9_digit_5 (lv_at hl 4 rfl) ?_
  refine z_calli (z_runV (As := [.int 0, .int x, .int y, .int z, .int u]) (rest := []) ⟨hx, hb, hml, hown, hts⟩ hK hS ((k_tell Z g sg rw9 hX 0 0 (by simp) x y z u) l _) gX9_digit_X9_tellOfExpansion rfl 5 (by decide +kernel) ⟨Nat.le_of_ble_eq_true rfl, Nat.le_of_ble_eq_true rfl⟩ h_x hN0 rfl rfl hl.1 rfl (Nat.le_of_ble_eq_true rfl) dX9_digit_7 ⟨Nat.le_of_ble_eq_true rfl, Nat.le_of_ble_eq_true rfl⟩) hS (fun rr g_1 H locs hp_2 hS => ?_)
  have hpo := hp_2
  refine z_iret hx hb hr hlocks hS ?_ dX9_digit_10
  exact hpo

set_option maxHeartbeats 4000000 in
set_option maxRecDepth 100000 in
theorem k_numerator (Z : zT) {G9 : Nat → va_E} (g : Nat → va_E) (sg : Nat → zb) (rw9 : Nat → zr) (hX : z_xw Z G9 g sg rw9) (x y z u : Int32) : z_Mi Z yX9_numerator wsX9_numerator 6 139 [.ref (Z.2.1 0), .int x, .int y, .int z, .int u] g (fun r g1 => z_po Z G9 (sp_tell 1 (sg, rw9) x.toInt y.toInt z.toInt u.toInt) r g1) := by
  intro l sz
  have h0 := hX.1
  obtain ⟨hN, h_x, ⟨fS, h_x1, hfS⟩, fR, h_x2, hfR⟩ := id h0
  have hN0 : 0 < Z.1 := by omega
  have hN1 : 1 < Z.1 := by omega
  have hN2 : 2 < Z.1 := by omega
  refine z_enter (maxL := 5) (ret := (some .int)) (lv := [(0, .ref (Z.2.1 0)), (1, .int x), (2, .int y), (3, .int z), (4, .int u)]) (plainFor_of_name (by decide +kernel)) rfl (fun ls h => by subst h; exact lv_entry [.ref (Z.2.1 0), .int x, .int y, .int z, .int u] (n := 5) (Nat.le_of_ble_eq_true rfl)) ?_
  intro p e s m args below meth c hx hb hml hr hlocks hown hts hK hS hsz ls hl
  refine lv_aload_n hx hb dX9_numerator_0 rfl (lv_at hl 0 rfl) ?_
  refine lv_iconst (v := 1) hx hb dX9_numerator_1 (by decide) ?_
  refine lv_iload_n hx hb dX9_numerator_2 rfl (lv_at hl 1 rfl) ?_
  refine lv_iload_n hx hb dX9_numerator_3 rfl (lv_at hl 2 rfl) ?_
  refine lv_iload_n hx hb dX9_numerator_4 rfl (lv_at hl 3 rfl) ?_
  refine lv_iload hx hb dX9_numerator_5 (lv_at hl 4 rfl) ?_
  refine z_calli (z_runV (As := [.int 1, .int x, .int y, .int z, .int u]) (rest := []) ⟨hx, hb, hml, hown, hts⟩ hK hS ((k_tell Z g sg rw9 hX 1 1 (by simp) x y z u) l _) gX9_numerator_X9_tellOfExpansion rfl 5 (by decide +kernel) ⟨Nat.le_of_ble_eq_true rfl, Nat.le_of_ble_eq_true rfl⟩ h_x hN0 rfl rfl hl.1 rfl (Nat.le_of_ble_eq_true rfl) dX9_numerator_7 ⟨Nat.le_of_ble_eq_true rfl, Nat.le_of_ble_eq_true rfl⟩) hS (fun rr g_1 H locs hp_2 hS => ?_)
  have hpo := hp_2
  refine z_iret hx hb hr hlocks hS ?_ dX9_numerator_10
  exact hpo

set_option maxHeartbeats 4000000 in
set_option maxRecDepth 100000 in
theorem k_preperiod (Z : zT) {G9 : Nat → va_E} (g : Nat → va_E) (sg : Nat → zb) (rw9 : Nat → zr) (hX : z_xw Z G9 g sg rw9) (x y z : Int32) : z_Mi Z yX9_preperiod wsX9_preperiod 6 139 [.ref (Z.2.1 0), .int x, .int y, .int z] g (fun r g1 => z_po Z G9 (sp_tell 2 (sg, rw9) x.toInt y.toInt z.toInt 0) r g1) := by
  intro l sz
  have h0 := hX.1
  obtain ⟨hN, h_x, ⟨fS, h_x1, hfS⟩, fR, h_x2, hfR⟩ := id h0
  have hN0 : 0 < Z.1 := by omega
  have hN1 : 1 < Z.1 := by omega
  have hN2 : 2 < Z.1 := by omega
  refine z_enter (maxL := 4) (ret := (some .int)) (lv := [(0, .ref (Z.2.1 0)), (1, .int x), (2, .int y), (3, .int z)]) (plainFor_of_name (by decide +kernel)) rfl (fun ls h => by subst h; exact lv_entry [.ref (Z.2.1 0), .int x, .int y, .int z] (n := 4) (Nat.le_of_ble_eq_true rfl)) ?_
  intro p e s m args below meth c hx hb hml hr hlocks hown hts hK hS hsz ls hl
  refine lv_aload_n hx hb dX9_preperiod_0 rfl (lv_at hl 0 rfl) ?_
  refine lv_iconst (v := 2) hx hb dX9_preperiod_1 (by decide) ?_
  refine lv_iload_n hx hb dX9_preperiod_2 rfl (lv_at hl 1 rfl) ?_
  refine lv_iload_n hx hb dX9_preperiod_3 rfl (lv_at hl 2 rfl) ?_
  refine lv_iload_n hx hb dX9_preperiod_4 rfl (lv_at hl 3 rfl) ?_
  refine lv_iconst (v := 0) hx hb dX9_preperiod_5 (by decide) ?_
  refine z_calli (z_runV (As := [.int 2, .int x, .int y, .int z, .int 0]) (rest := []) ⟨hx, hb, hml, hown, hts⟩ hK hS ((k_tell Z g sg rw9 hX 2 2 (by simp) x y z 0) l _) gX9_preperiod_X9_tellOfExpansion rfl 5 (by decide +kernel) ⟨Nat.le_of_ble_eq_true rfl, Nat.le_of_ble_eq_true rfl⟩ h_x hN0 rfl rfl hl.1 rfl (Nat.le_of_ble_eq_true rfl) dX9_preperiod_6 ⟨Nat.le_of_ble_eq_true rfl, Nat.le_of_ble_eq_true rfl⟩) hS (fun rr g_1 H locs hp_2 hS => ?_)
  have hpo := hp_2
  refine z_iret hx hb hr hlocks hS ?_ dX9_preperiod_9
  rw [tI_0] at hpo
  exact hpo

set_option maxHeartbeats 4000000 in
set_option maxRecDepth 100000 in
theorem k_period (Z : zT) {G9 : Nat → va_E} (g : Nat → va_E) (sg : Nat → zb) (rw9 : Nat → zr) (hX : z_xw Z G9 g sg rw9) (x y z : Int32) : z_Mi Z yX9_period wsX9_period 6 139 [.ref (Z.2.1 0), .int x, .int y, .int z] g (fun r g1 => z_po Z G9 (sp_tell 3 (sg, rw9) x.toInt y.toInt z.toInt 0) r g1) := by
  intro l sz
  have h0 := hX.1
  obtain ⟨hN, h_x, ⟨fS, h_x1, hfS⟩, fR, h_x2, hfR⟩ := id h0
  have hN0 : 0 < Z.1 := by omega
  have hN1 : 1 < Z.1 := by omega
  have hN2 : 2 < Z.1 := by omega
  refine z_enter (maxL := 4) (ret := (some .int)) (lv := [(0, .ref (Z.2.1 0)), (1, .int x), (2, .int y), (3, .int z)]) (plainFor_of_name (by decide +kernel)) rfl (fun ls h => by subst h; exact lv_entry [.ref (Z.2.1 0), .int x, .int y, .int z] (n := 4) (Nat.le_of_ble_eq_true rfl)) ?_
  intro p e s m args below meth c hx hb hml hr hlocks hown hts hK hS hsz ls hl
  refine lv_aload_n hx hb dX9_period_0 rfl (lv_at hl 0 rfl) ?_
  refine lv_iconst (v := 3) hx hb dX9_period_1 (by decide) ?_
  refine lv_iload_n hx hb dX9_period_2 rfl (lv_at hl 1 rfl) ?_
  refine lv_iload_n hx hb dX9_period_3 rfl (lv_at hl 2 rfl) ?_
  refine lv_iload_n hx hb dX9_period_4 rfl (lv_at hl 3 rfl) ?_
  refine lv_iconst (v := 0) hx hb dX9_period_5 (by decide) ?_
  refine z_calli (z_runV (As := [.int 3, .int x, .int y, .int z, .int 0]) (rest := []) ⟨hx, hb, hml, hown, hts⟩ hK hS ((k_tell Z g sg rw9 hX 3 3 (by simp) x y z 0) l _) gX9_period_X9_tellOfExpansion rfl 5 (by decide +kernel) ⟨Nat.le_of_ble_eq_true rfl, Nat.le_of_ble_eq_true rfl⟩ h_x hN0 rfl rfl hl.1 rfl (Nat.le_of_ble_eq_true rfl) dX9_period_6 ⟨Nat.le_of_ble_eq_true rfl, Nat.le_of_ble_eq_true rfl⟩) hS (fun rr g_1 H locs hp_2 hS => ?_)
  have hpo := hp_2
  refine z_iret hx hb hr hlocks hS ?_ dX9_period_9
  rw [tI_0] at hpo
  exact hpo

set_option maxHeartbeats 4000000 in
set_option maxRecDepth 100000 in
theorem k_length (Z : zT) {G9 : Nat → va_E} (g : Nat → va_E) (sg : Nat → zb) (rw9 : Nat → zr) (hX : z_xw Z G9 g sg rw9) (x y z : Int32) : z_Mi Z yX9_length wsX9_length 6 139 [.ref (Z.2.1 0), .int x, .int y, .int z] g (fun r g1 => z_po Z G9 (sp_tell 4 (sg, rw9) x.toInt y.toInt z.toInt 0) r g1) := by
  intro l sz
  have h0 := hX.1
  obtain ⟨hN, h_x, ⟨fS, h_x1, hfS⟩, fR, h_x2, hfR⟩ := id h0
  have hN0 : 0 < Z.1 := by omega
  have hN1 : 1 < Z.1 := by omega
  have hN2 : 2 < Z.1 := by omega
  refine z_enter (maxL := 4) (ret := (some .int)) (lv := [(0, .ref (Z.2.1 0)), (1, .int x), (2, .int y), (3, .int z)]) (plainFor_of_name (by decide +kernel)) rfl (fun ls h => by subst h; exact lv_entry [.ref (Z.2.1 0), .int x, .int y, .int z] (n := 4) (Nat.le_of_ble_eq_true rfl)) ?_
  intro p e s m args below meth c hx hb hml hr hlocks hown hts hK hS hsz ls hl
  refine lv_aload_n hx hb dX9_length_0 rfl (lv_at hl 0 rfl) ?_
  refine lv_iconst (v := 4) hx hb dX9_length_1 (by decide) ?_
  refine lv_iload_n hx hb dX9_length_2 rfl (lv_at hl 1 rfl) ?_
  refine lv_iload_n hx hb dX9_length_3 rfl (lv_at hl 2 rfl) ?_
  refine lv_iload_n hx hb dX9_length_4 rfl (lv_at hl 3 rfl) ?_
  refine lv_iconst (v := 0) hx hb dX9_length_5 (by decide) ?_
  refine z_calli (z_runV (As := [.int 4, .int x, .int y, .int z, .int 0]) (rest := []) ⟨hx, hb, hml, hown, hts⟩ hK hS ((k_tell Z g sg rw9 hX 4 4 (by simp) x y z 0) l _) gX9_length_X9_tellOfExpansion rfl 5 (by decide +kernel) ⟨Nat.le_of_ble_eq_true rfl, Nat.le_of_ble_eq_true rfl⟩ h_x hN0 rfl rfl hl.1 rfl (Nat.le_of_ble_eq_true rfl) dX9_length_6 ⟨Nat.le_of_ble_eq_true rfl, Nat.le_of_ble_eq_true rfl⟩) hS (fun rr g_1 H locs hp_2 hS => ?_)
  have hpo := hp_2
  refine z_iret hx hb hr hlocks hS ?_ dX9_length_9
  rw [tI_0] at hpo
  exact hpo

