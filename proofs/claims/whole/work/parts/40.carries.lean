/-! carries that can occur -/
def zcl (st : Int → Int → Prop) (S : Int → Prop) (y : Int) : Prop := ∀ X : Int → Prop, (∀ x, S x → X x) → (∀ x z, X x → st x z → X z) → X y
theorem zcl_base {st : Int → Int → Prop} {S : Int → Prop} {y : Int} (h : S y) : zcl st S y := fun _ h1 _ => h1 y h
theorem zcl_step {st : Int → Int → Prop} {S : Int → Prop} {x y : Int} (h : zcl st S x) (h2 : st x y) : zcl st S y := fun X h3 h4 => h4 x y (h X h3 h4) h2
def zs2 (b : zb) (x y : Int) : Prop := ∃ i j, i < b.2.2.1 ∧ j < b.2.2.1 ∧ y = zcr b x (b.2.2.2 i + b.2.2.2 j)
def zs1 (b : zb) (x y : Int) : Prop := ∃ i, i < b.2.2.1 ∧ y = zcr b x (b.2.2.2 i)
def zs0 (b : zb) (x y : Int) : Prop := y = zcr b x 0
def zcs (b : zb) : Int → Prop := zcl (zs0 b) (zcl (zs1 b) (zcl (zs2 b) (fun y => y = 0)))
theorem zcl_same {st : Int → Int → Prop} {S : Int → Prop} {l : List Int} (hb : ∀ y, S y → y ∈ l) (hs : ∀ y, y ∈ l → zcl st S y) (hc : ∀ x y, x ∈ l → st x y → y ∈ l) (y : Int) : y ∈ l ↔ zcl st S y :=
  ⟨hs y, fun h => h (fun y => y ∈ l) hb hc⟩
theorem zcr_bd60 {b : zb} (hok : zb_ok b) (hcm : zcm b) {x t : Int} (hx : -60 ≤ x ∧ x ≤ 60) (ht : -40 ≤ t ∧ t ≤ 40) : -60 ≤ zcr b x t ∧ zcr b x t ≤ 60 := by
  have hP := zP_bd hok
  have h1 := zch_bd hok (hcm (t + b.2.1 * x))
  have h4 := hok.2.2.1
  have h5 := hok.2.1
  have h3 := z_mul_bd (x := b.2.1) (y := x) (a := b.2.1) (b := 60) (by omega) (by omega) (by omega) (by omega)
  exact z_tdiv_le hok (B := 60) (by omega)
theorem zct_ins {c c2 : Nat → Bool} {j : Nat} (hj : c j = false) (hj2 : c2 j = true) (ho : ∀ t, t ≠ j → c2 t = c t) : ∀ n, zct c2 n = zct c n + (if j < n then 1 else 0)
  | 0 => rfl
  | n + 1 => by
    have ih := zct_ins hj hj2 ho n
    show zct c2 n + (if c2 n then 1 else 0) = zct c n + (if c n then 1 else 0) + _
    rw [ih]
    by_cases e : n = j
    · subst e
      rw [hj, hj2]; simp
    · rw [ho n e]
      by_cases h : j < n
      · rw [if_pos h, if_pos (show j < n + 1 by omega)]; omega
      · rw [if_neg h, if_neg (show ¬ j < n + 1 by omega)]; omega
theorem zct_cong {c c2 : Nat → Bool} : ∀ {n : Nat}, (∀ t, t < n → c t = c2 t) → zct c n = zct c2 n
  | 0, _ => rfl
  | n + 1, h => by
    show zct c n + _ = zct c2 n + _
    rw [zct_cong (n := n) (fun t ht => h t (by omega)), h n (by omega)]
def zcm1 (l : List Int) (t : Nat) : Bool := decide ((t : Int) - 60 ∈ l)
def zcnt (l : List Int) : Nat := zct (zcm1 l) 121
theorem zcnt_add {l : List Int} {x : Int} (hx : -60 ≤ x ∧ x ≤ 60) (hn : x ∉ l) : zcnt (l ++ [x]) = zcnt l + 1 := by
  have h := zct_ins (c := zcm1 l) (c2 := zcm1 (l ++ [x])) (j := (x + 60).toNat) (by
    unfold zcm1
    rw [show (((x + 60).toNat : Nat) : Int) - 60 = x by omega]; exact decide_eq_false hn) (by
    unfold zcm1
    rw [show (((x + 60).toNat : Nat) : Int) - 60 = x by omega]; exact decide_eq_true (by simp)) (fun t ht => by
    unfold zcm1
    have : (t : Int) - 60 ≠ x := by omega
    simp [this]) 121
  unfold zcnt
  rw [h, if_pos (by omega)]
theorem zcnt_lt {l : List Int} {x : Int} (hx : -60 ≤ x ∧ x ≤ 60) (hn : x ∉ l) : zcnt l < 121 := by
  have h1 := zcnt_add hx hn
  have h2 := zct_le (zcm1 (l ++ [x])) 121
  unfold zcnt at h1 ⊢
  omega
def z_cs (Z : zT) (g : Nat → va_E) (k kb : Nat) (l : List Int) : Prop := ∃ fd sn : Nat → Int32, g k = .inr (1, [.ref (Z.2.1 kb), .ref (Z.2.1 (k + 1)), .ref (Z.2.1 (k + 2)), .int (nI l.length)]) ∧ g (k + 1) = .inl (Z.2.2.2 0, 121, .inl fd) ∧ g (k + 2) = .inl (Z.2.2.2 2, 121, .inl sn) ∧ k + 2 < Z.1 ∧ (k + 3 ≤ kb ∨ kb + 3 ≤ k) ∧ (∀ i (h : i < l.length), (fd i).toInt = l[i]) ∧ (∀ t, t < 121 → zbo (sn t) ((t : Int) - 60 ∈ l)) ∧ l.length = zcnt l ∧ ∀ x ∈ l, -60 ≤ x ∧ x ≤ 60
def zext (l l2 : List Int) (A : Int → Prop) : Prop := l <+: l2 ∧ ∀ y, y ∈ l2 → y ∈ l ∨ A y
theorem zext.rf {l : List Int} {A : Int → Prop} : zext l l A := ⟨List.prefix_refl l, fun y h => Or.inl h⟩
theorem zext.tr {l l1 l2 : List Int} {A : Int → Prop} (h : zext l l1 A) (h2 : zext l1 l2 A) : zext l l2 A := ⟨h.1.trans h2.1, fun y hy => (h2.2 y hy).elim (fun q => h.2 y q) Or.inr⟩
theorem zext.mono {l l2 : List Int} {A B : Int → Prop} (h : zext l l2 A) (hAB : ∀ y, A y → B y) : zext l l2 B := ⟨h.1, fun y hy => (h.2 y hy).imp id (hAB y)⟩
theorem zpre_mem {l l2 : List Int} (h : l <+: l2) {x : Int} (hx : x ∈ l) : x ∈ l2 := h.subset hx
theorem zpre_len {l l2 : List Int} (h : l <+: l2) : l.length ≤ l2.length := h.length_le
theorem zpre_get {l l2 : List Int} (h : l <+: l2) {i : Nat} (hi : i < l.length) (hi2 : i < l2.length) : l2[i] = l[i] := by
  obtain ⟨r, rfl⟩ := h
  exact List.getElem_append_left hi
theorem in_X1_note_1 : ∀ w ∈ wsX10, w ∈ wsX1_note := by decide +kernel
set_option maxHeartbeats 4000000 in
set_option maxRecDepth 100000 in
theorem k_note (Z : zT) (g : Nat → va_E) (k kb : Nat) (b : zb) (l0 : List Int) (hC : z_cs Z g k kb l0) (x : Int32) (hx6 : -60 ≤ x.toInt ∧ x.toInt ≤ 60) : z_Mv Z yX1_note wsX1_note 0 0 [.ref (Z.2.1 k), .int x] g (fun g1 => ∃ l2, z_cs Z g1 k kb l2 ∧ zext l0 l2 (fun y => y = x.toInt) ∧ x.toInt ∈ l2 ∧ z_fr k 3 g g1) := by
  intro l sz
  obtain ⟨fd, sn, h_k, h_f, h_s, hkM, hsep, hfd, hsn, hlen, hbd⟩ := id hC
  have hkk : k < Z.1 := by omega
  have hkk1 : k + 1 < Z.1 := by omega
  have hkk2 : k + 2 < Z.1 := by omega
  have hl121 : l0.length ≤ 121 := by rw [hlen]; exact zct_le _ _
  refine z_enter (maxL := 3) (ret := none) (lv := [(0, .ref (Z.2.1 k)), (1, .int x)]) (plainFor_of_name (by decide +kernel)) rfl (fun ls h => by subst h; exact lv_entry [.ref (Z.2.1 k), .int x] (n := 3) (Nat.le_of_ble_eq_true rfl)) ?_
  intro p e s m args below meth c hx hb hml hr hlocks hown hts hK hS hsz ls hl
  refine lv_iload_n hx hb dX1_note_0 rfl (lv_at hl 1 rfl) ?_
  refine lv_bipush (v := 60) hx hb dX1_note_1 (by decide) ?_
  refine lv_iadd hx hb dX1_note_3 ?_
  refine lv_topi (fun ii eii => ?_)
  have hii : ii.toInt = x.toInt + 60 := by rw [eii, fb_addI (by rw [tI_60]; omega) (by rw [tI_60]; omega), tI_60]
  obtain ⟨t0, et0, ht0, -⟩ := z_nI_of (x := ii) (by omega)
  subst et0
  have hsx := hsn t0 (by omega)
  rw [show (t0 : Int) - 60 = x.toInt by omega] at hsx
  refine lv_istore_n (lv' := [(2, .int (nI t0)), (0, .ref (Z.2.1 k)), (1, .int x)]) hx hb dX1_note_4 rfl hl (by decide) rfl (fun ls hl => ?_)
  refine lv_iload_n hx hb dX1_note_5 rfl (lv_at hl 0 rfl) ?_
  refine lv_if_lt (tgt := 46) hx hb dX1_note_6 (by decide) (fun c_1 => ?_) (fun c_1 => ?_)
  · have i_1 := z_lt c_1
    rw [nI_toInt (by omega)] at i_1
    rw [tI_0] at i_1
    exfalso; omega
  · have i_1 := z_nlt c_1
    rw [nI_toInt (by omega)] at i_1
    rw [tI_0] at i_1
    refine lv_iload_n hx hb dX1_note_9 rfl (lv_at hl 0 rfl) ?_
    refine lv_aload_n hx hb dX1_note_10 rfl (lv_at hl 1 rfl) ?_
    refine z_get (own := RX1) (C := RX1) (T := TX1) (N := 4) hx hb hts in_X1_note_1 hown hK hS h_k hkk rfl 2 (by decide) (List.mem_of_getElem? (i := 1) rfl) rfl rfl dX1_note_11 ?_
    refine z_alen (v := 121) hx hb hK hS 2 h_s hkk2 rfl rfl dX1_note_14 ?_
    refine lv_icmp_ge (tgt := 46) hx hb dX1_note_15 (by decide) (fun c_2 => ?_) (fun c_2 => ?_)
    · have i_2 := z_le c_2
      rw [nI_toInt (by omega)] at i_2
      rw [tI_121] at i_2
      exfalso; omega
    · have i_2 := z_nle c_2
      rw [nI_toInt (by omega)] at i_2
      rw [tI_121] at i_2
      refine lv_aload_n hx hb dX1_note_18 rfl (lv_at hl 1 rfl) ?_
      refine z_get (own := RX1) (C := RX1) (T := TX1) (N := 4) hx hb hts in_X1_note_1 hown hK hS h_k hkk rfl 2 (by decide) (List.mem_of_getElem? (i := 1) rfl) rfl rfl dX1_note_19 ?_
      refine lv_iload_n hx hb dX1_note_22 rfl (lv_at hl 0 rfl) ?_
      refine z_zald hx hb hK hS h_s hkk2 (vp_in_nI (by omega) (by omega)) dX1_note_23 ?_
      rw [show sn (nI t0).toNatClampNeg = sn t0 from by rw [nI_clamp (by omega)]]
      refine lv_if_ne (tgt := 46) hx hb dX1_note_24 (by decide) (fun c_3 => ?_) (fun c_3 => ?_)
      · have i_3 := z_ne c_3
        rw [tI_0] at i_3
        have hin := zbo_t hsx c_3
        refine z_vret hx hb hr hlocks hS ?_ dX1_note_46
        exact ⟨l0, hC, zext.rf, hin, z_fr.rf⟩
      · have i_3 := z_eq c_3
        rw [tI_0] at i_3
        have hout := zbo_f hsx c_3
        have hl120 : l0.length < 121 := by rw [hlen]; exact zcnt_lt hx6 hout
        refine lv_aload_n hx hb dX1_note_27 rfl (lv_at hl 1 rfl) ?_
        refine z_get (own := RX1) (C := RX1) (T := TX1) (N := 4) hx hb hts in_X1_note_1 hown hK hS h_k hkk rfl 3 (by decide) (List.mem_of_getElem? (i := 2) rfl) rfl rfl dX1_note_28 ?_
        refine lv_if_lt (tgt := 46) hx hb dX1_note_31 (by decide) (fun c_4 => ?_) (fun c_4 => ?_)
        · have i_4 := z_lt c_4
          rw [nI_toInt (by omega)] at i_4
          rw [tI_0] at i_4
          exfalso; omega
        · have i_4 := z_nlt c_4
          rw [nI_toInt (by omega)] at i_4
          rw [tI_0] at i_4
          refine lv_aload_n hx hb dX1_note_34 rfl (lv_at hl 1 rfl) ?_
          refine z_get (own := RX1) (C := RX1) (T := TX1) (N := 4) hx hb hts in_X1_note_1 hown hK hS h_k hkk rfl 3 (by decide) (List.mem_of_getElem? (i := 2) rfl) rfl rfl dX1_note_35 ?_
          refine lv_aload_n hx hb dX1_note_38 rfl (lv_at hl 1 rfl) ?_
          refine z_get (own := RX1) (C := RX1) (T := TX1) (N := 4) hx hb hts in_X1_note_1 hown hK hS h_k hkk rfl 1 (by decide) (List.mem_of_getElem? (i := 3) rfl) rfl rfl dX1_note_39 ?_
          refine z_alen (v := 121) hx hb hK hS 0 h_f hkk1 rfl rfl dX1_note_42 ?_
          refine lv_icmp_lt (tgt := 47) hx hb dX1_note_43 (by decide) (fun c_5 => ?_) (fun c_5 => ?_)
          · have i_5 := z_lt c_5
            rw [nI_toInt (by omega)] at i_5
            rw [tI_121] at i_5
            refine lv_aload_n hx hb dX1_note_47 rfl (lv_at hl 1 rfl) ?_
            refine z_get (own := RX1) (C := RX1) (T := TX1) (N := 4) hx hb hts in_X1_note_1 hown hK hS h_k hkk rfl 2 (by decide) (List.mem_of_getElem? (i := 1) rfl) rfl rfl dX1_note_48 ?_
            refine lv_iload_n hx hb dX1_note_51 rfl (lv_at hl 0 rfl) ?_
            refine lv_iconst (v := 1) hx hb dX1_note_52 (by decide) ?_
            refine z_zast (y := 1) hx hb hK hS h_s hkk2 rfl (vp_in_nI (by omega) (by omega)) dX1_note_53 (fun g_6 H locs hg_6 hS => ?_)
            have h_s : g_6 (k + 2) = .inl (Z.2.2.2 2, 121, .inl (upd sn (nI t0).toNatClampNeg 1)) := z_up_s hg_6
            have h_k := z_up_n hg_6 h_k (by omega)
            have h_f := z_up_n hg_6 h_f (by omega)
            refine lv_aload_n hx hb dX1_note_54 rfl (lv_at hl 1 rfl) ?_
            refine z_get (own := RX1) (C := RX1) (T := TX1) (N := 4) hx hb hts in_X1_note_1 hown hK hS h_k hkk rfl 1 (by decide) (List.mem_of_getElem? (i := 3) rfl) rfl rfl dX1_note_55 ?_
            refine lv_aload_n hx hb dX1_note_58 rfl (lv_at hl 1 rfl) ?_
            refine z_get (own := RX1) (C := RX1) (T := TX1) (N := 4) hx hb hts in_X1_note_1 hown hK hS h_k hkk rfl 3 (by decide) (List.mem_of_getElem? (i := 2) rfl) rfl rfl dX1_note_59 ?_
            refine lv_iload_n hx hb dX1_note_62 rfl (lv_at hl 2 rfl) ?_
            refine z_iast hx hb hK hS h_f hkk1 (vp_in_nI (by omega) (by omega)) dX1_note_63 (fun g_7 H locs hg_7 hS => ?_)
            have h_f : g_7 (k + 1) = .inl (Z.2.2.2 0, 121, .inl (upd fd (nI l0.length).toNatClampNeg x)) := z_up_s hg_7
            have h_k := z_up_n hg_7 h_k (by omega)
            have h_s := z_up_n hg_7 h_s (by omega)
            refine lv_aload_n hx hb dX1_note_64 rfl (lv_at hl 1 rfl) ?_
            refine lv_dup hx hb dX1_note_65 rfl ?_
            refine z_get (own := RX1) (C := RX1) (T := TX1) (N := 4) hx hb hts in_X1_note_1 hown hK hS h_k hkk rfl 3 (by decide) (List.mem_of_getElem? (i := 2) rfl) rfl rfl dX1_note_66 ?_
            refine lv_iconst (v := 1) hx hb dX1_note_69 (by decide) ?_
            refine lv_iadd hx hb dX1_note_70 ?_
            rw [show (nI l0.length) + 1 = nI (l0.length + 1) from nI_1 _]
            refine z_put (fs' := [.ref (Z.2.1 kb), .ref (Z.2.1 (k + 1)), .ref (Z.2.1 (k + 2)), .int (nI (l0.length + 1))]) (own := RX1) (C := RX1) (T := TX1) (N := 4) hx hb hts in_X1_note_1 tyX1 tyX1_ok nmX1 hown hK hS h_k hkk rfl 3 (by decide) (List.mem_of_getElem? (i := 2) rfl) rfl rfl rfl rfl (Nat.le_of_ble_eq_true rfl) rfl dX1_note_71 (fun g_8 H locs hg_8 hS => ?_)
            have h_k : g_8 k = .inr (1, [.ref (Z.2.1 kb), .ref (Z.2.1 (k + 1)), .ref (Z.2.1 (k + 2)), .int (nI (l0.length + 1))]) := z_up_s hg_8
            have h_f := z_up_n hg_8 h_f (by omega)
            have h_s := z_up_n hg_8 h_s (by omega)
            refine z_vret hx hb hr hlocks hS ?_ dX1_note_74
            refine ⟨l0 ++ [x.toInt], ⟨_, _, by rw [List.length_append]; exact h_k, h_f, h_s, hkM, hsep, fun i hi => ?_, fun t ht => ?_, by rw [List.length_append, zcnt_add hx6 hout, hlen]; rfl, fun y hy => ?_⟩, ⟨⟨[x.toInt], rfl⟩, fun y hy => ?_⟩, by simp, (((z_fr.rf.up hg_6 (by omega)).up hg_7 (by omega)).up hg_8 (by omega))⟩
            · rw [nI_clamp (by omega)]
              rcases Nat.lt_or_ge i l0.length with q9 | q9
              · rw [pk_un (by omega), List.getElem_append_left q9]; exact hfd i q9
              · have : i = l0.length := by rw [List.length_append] at hi; simp only [List.length_cons, List.length_nil] at hi; omega
                subst this
                rw [pk_us, List.getElem_append_right (Nat.le_refl _)]; simp
            · rw [nI_clamp (by omega)]
              by_cases h9 : t = t0
              · subst h9; rw [pk_us]; exact zbo_1 (by rw [show (t : Int) - 60 = x.toInt by omega]; simp)
              · rw [pk_un h9]
                have h8 : (t : Int) - 60 ≠ x.toInt := by omega
                rcases hsn t ht with q9 | q9
                · exact Or.inl ⟨List.mem_append_left _ q9.1, q9.2⟩
                · exact Or.inr ⟨fun h7 => q9.1 (by simpa [h8] using h7), q9.2⟩
            · rcases List.mem_append.mp hy with q9 | q9
              · exact hbd y q9
              · have : y = x.toInt := by simpa using q9
                subst this; exact hx6
            · rcases List.mem_append.mp hy with q9 | q9
              · exact Or.inl q9
              · exact Or.inr (by simpa using q9)
          · have i_5 := z_nlt c_5
            rw [nI_toInt (by omega)] at i_5
            rw [tI_121] at i_5
            exfalso; omega

theorem in_X1_noteBehindOneDigit_0 : ∀ w ∈ wsX00, w ∈ wsX1_noteBehindOneDigit := by decide +kernel
theorem in_X1_noteBehindOneDigit_1 : ∀ w ∈ wsX10, w ∈ wsX1_noteBehindOneDigit := by decide +kernel
set_option maxHeartbeats 4000000 in
set_option maxRecDepth 100000 in
theorem k_noteOne (Z : zT) (g : Nat → va_E) (k kb : Nat) (b : zb) (l0 : List Int) (hC : z_cs Z g k kb l0) (hB : z_b1 Z g kb b) (hcm : zcm b) (x : Int32) (hx6 : -60 ≤ x.toInt ∧ x.toInt ≤ 60) : z_Mv Z yX1_noteBehindOneDigit wsX1_noteBehindOneDigit 3 67 [.ref (Z.2.1 k), .int x] g (fun g1 => ∃ l2, z_cs Z g1 k kb l2 ∧ zext l0 l2 (fun y => zs1 b x.toInt y) ∧ (∀ y, zs1 b x.toInt y → y ∈ l2) ∧ z_fr k 3 g g1) := by
  intro l sz
  obtain ⟨pb, qb, res, cmp, dg, ch, ⟨h_b, h_d, h_c, hkN, hok, hp, hq, hres, hdg⟩, hch⟩ := id hB
  have hk0 : kb < Z.1 := by omega
  have hk1 : kb + 1 < Z.1 := by omega
  have hk2 : kb + 2 < Z.1 := by omega
  have hn12 := hok.2.2.2.1
  obtain ⟨fd, sn, h_k, h_f, h_s, hkM, hsep, hfd, hsn, hlen, hbd⟩ := id hC
  have hkk : k < Z.1 := by omega
  have hkk1 : k + 1 < Z.1 := by omega
  have hkk2 : k + 2 < Z.1 := by omega
  have hl121 : l0.length ≤ 121 := by rw [hlen]; exact zct_le _ _
  refine z_enter (maxL := 3) (ret := none) (lv := [(0, .ref (Z.2.1 k)), (1, .int x)]) (plainFor_of_name (by decide +kernel)) rfl (fun ls h => by subst h; exact lv_entry [.ref (Z.2.1 k), .int x] (n := 3) (Nat.le_of_ble_eq_true rfl)) ?_
  intro p e s m args below meth c hx hb hml hr hlocks hown hts hK hS hsz ls hl
  refine lv_iconst (v := 0) hx hb dX1_noteBehindOneDigit_0 (by decide) ?_
  refine lv_istore_n (lv' := [(2, .int 0), (0, .ref (Z.2.1 k)), (1, .int x)]) hx hb dX1_noteBehindOneDigit_1 rfl hl (by decide) rfl (fun ls hl => ?_)
  have hcut_2 : ∀ (nn_2 : Nat) (i : Nat) (l1 : List Int) (ga : Nat → va_E) (h_b : ga kb = .inr (0, [.int pb, .int qb, .int res, .int (nI b.2.2.1), .int cmp, .ref (Z.2.1 (kb + 1)), .ref (Z.2.1 (kb + 2))])) (h_d : ga (kb + 1) = .inl (Z.2.2.2 0, 12, .inl dg)) (h_c : ga (kb + 2) = .inl (Z.2.2.2 0, 10, .inl ch)) (h_k : ga k = .inr (1, [.ref (Z.2.1 kb), .ref (Z.2.1 (k + 1)), .ref (Z.2.1 (k + 2)), .int (nI l1.length)])) (hfr_ga : z_fr k 3 g ga) (hi : i ≤ b.2.2.1) (hl1 : z_cs Z ga k kb l1) (hE : zext l0 l1 (fun y => zs1 b x.toInt y)) (hM : ∀ t, t < i → zcr b x.toInt (b.2.2.2 t) ∈ l1) (hm_2 : b.2.2.1 - i < nn_2) (H : Heap) (locs : List Loc) (ls : Array Slot), z_S Z (z_A Z sz) s.heap ga H locs → lv_has ls 3 [(0, .ref (Z.2.1 k)), (1, .int x), (2, .int (nI i))] → W p l e (headSpec wsX1_noteBehindOneDigit (z_rm 3 67)).room s m args below meth c H locs 0 0 (MQ below (va_Qv (fun g1 => ∃ l2, z_cs Z g1 k kb l2 ∧ zext l0 l2 (fun y => zs1 b x.toInt y) ∧ (∀ y, zs1 b x.toInt y → y ∈ l2) ∧ z_fr k 3 g g1) (z_B Z) (z_A Z sz)) args s 0 0 (z_A Z sz)) (F0 m 2 ls []) := by
    intro nn_2
    induction nn_2 with
    | zero => intro i l1 ga h_b h_d h_c h_k hfr_ga hi hl1 hE hM hm_2 H locs ls hS hl; exact absurd hm_2 (Nat.not_lt_zero _)
    | succ nn_2 ih_2 =>
      intro i l1 ga h_b h_d h_c h_k hfr_ga hi hl1 hE hM hm_2 H locs ls hS hl
      refine lv_iload_n hx hb dX1_noteBehindOneDigit_2 rfl (lv_at hl 2 rfl) ?_
      refine lv_aload_n hx hb dX1_noteBehindOneDigit_3 rfl (lv_at hl 0 rfl) ?_
      refine z_get (own := RX1) (C := RX1) (T := TX1) (N := 4) hx hb hts in_X1_noteBehindOneDigit_1 hown hK hS h_k hkk rfl 0 (by decide) (List.mem_of_getElem? (i := 1) rfl) rfl rfl dX1_noteBehindOneDigit_4 ?_
      refine z_getN (own := RX1) (C := RX0) (T := TX0) (N := 7) hx hb hts in_X1_noteBehindOneDigit_0 hown hK hS h_b hk0 rfl 3 (by decide) 18 rfl rfl rfl dX1_noteBehindOneDigit_7 ?_
      refine lv_icmp_ge (tgt := 39) hx hb dX1_noteBehindOneDigit_10 (by decide) (fun c_1 => ?_) (fun c_1 => ?_)
      · have i_1 := z_le c_1
        rw [nI_toInt (by omega)] at i_1
        rw [nI_toInt (by omega)] at i_1
        have hin : i = b.2.2.1 := by omega
        refine z_vret hx hb hr hlocks hS ?_ dX1_noteBehindOneDigit_39
        exact ⟨l1, hl1, hE, fun y hy => by
          obtain ⟨t, ht, rfl⟩ := hy
          exact hM t (by omega), hfr_ga⟩
      · have i_1 := z_nle c_1
        rw [nI_toInt (by omega)] at i_1
        rw [nI_toInt (by omega)] at i_1
        refine lv_aload_n hx hb dX1_noteBehindOneDigit_13 rfl (lv_at hl 0 rfl) ?_
        refine lv_aload_n hx hb dX1_noteBehindOneDigit_14 rfl (lv_at hl 0 rfl) ?_
        refine z_get (own := RX1) (C := RX1) (T := TX1) (N := 4) hx hb hts in_X1_noteBehindOneDigit_1 hown hK hS h_k hkk rfl 0 (by decide) (List.mem_of_getElem? (i := 1) rfl) rfl rfl dX1_noteBehindOneDigit_15 ?_
        refine lv_iload_n hx hb dX1_noteBehindOneDigit_18 rfl (lv_at hl 1 rfl) ?_
        refine lv_aload_n hx hb dX1_noteBehindOneDigit_19 rfl (lv_at hl 0 rfl) ?_
        refine z_get (own := RX1) (C := RX1) (T := TX1) (N := 4) hx hb hts in_X1_noteBehindOneDigit_1 hown hK hS h_k hkk rfl 0 (by decide) (List.mem_of_getElem? (i := 1) rfl) rfl rfl dX1_noteBehindOneDigit_20 ?_
        refine lv_iload_n hx hb dX1_noteBehindOneDigit_23 rfl (lv_at hl 2 rfl) ?_
        refine z_calli (z_runVN (As := [.int (nI i)]) (rest := [.int x, .ref (Z.2.1 kb), .ref (Z.2.1 k)]) (C := RX0) ⟨hx, hb, hml, hown, hts⟩ hK hS ((k_listed Z ga kb b ⟨pb, qb, res, cmp, dg, ch, h_b, h_d, h_c, hkN, hok, hp, hq, hres, hdg⟩ i (by omega)) l _) gX1_noteBehindOneDigit_X0_listed_n44 rfl 1 43 rfl (List.mem_of_getElem? (i := 3) rfl) (List.mem_of_getElem? (i := 2) rfl) (List.mem_of_getElem? (i := 4) rfl) (by decide +kernel) ⟨Nat.le_of_ble_eq_true rfl, Nat.le_of_ble_eq_true rfl⟩ h_b hk0 rfl rfl hl.1 rfl (Nat.le_of_ble_eq_true rfl) dX1_noteBehindOneDigit_24 ⟨Nat.le_of_ble_eq_true rfl, Nat.le_of_ble_eq_true rfl⟩) hS (fun dd g_2 H locs hp_3 hS => ?_)
        obtain ⟨rfl, hp_3⟩ := hp_3
        have hdd := hp_3
        have hddb := hok.2.2.2.2 i (by omega)
        refine z_calli (z_runVN (As := [.int x, .int dd]) (rest := [.ref (Z.2.1 k)]) (C := RX0) ⟨hx, hb, hml, hown, hts⟩ hK hS ((k_carryBehind Z ga kb b ⟨pb, qb, res, cmp, dg, ch, ⟨h_b, h_d, h_c, hkN, hok, hp, hq, hres, hdg⟩, hch⟩ x dd hcm (by omega) (by omega)) l _) gX1_noteBehindOneDigit_X0_carryBehind_n37 rfl 2 42 rfl (List.mem_of_getElem? (i := 3) rfl) (List.mem_of_getElem? (i := 7) rfl) (List.mem_of_getElem? (i := 8) rfl) (by decide +kernel) ⟨Nat.le_of_ble_eq_true rfl, Nat.le_of_ble_eq_true rfl⟩ h_b hk0 rfl rfl hl.1 rfl (Nat.le_of_ble_eq_true rfl) dX1_noteBehindOneDigit_27 ⟨Nat.le_of_ble_eq_true rfl, Nat.le_of_ble_eq_true rfl⟩) hS (fun cc g_4 H locs hp_5 hS => ?_)
        obtain ⟨rfl, hp_5⟩ := hp_5
        have hcc := hp_5
        rw [hdd] at hcc
        have hccb := zcr_bd60 hok hcm hx6 (t := b.2.2.2 i) (by omega)
        refine z_callv (z_runV (As := [.int cc]) (rest := []) ⟨hx, hb, hml, hown, hts⟩ hK hS ((k_note Z ga k kb b l1 hl1 cc (by rw [hcc]; exact hccb)) l _) gX1_noteBehindOneDigit_X1_note rfl 1 (by decide +kernel) ⟨Nat.le_of_ble_eq_true rfl, Nat.le_of_ble_eq_true rfl⟩ h_k hkk rfl rfl hl.1 rfl (Nat.le_of_ble_eq_true rfl) dX1_noteBehindOneDigit_30 ⟨Nat.le_of_ble_eq_true rfl, Nat.le_of_ble_eq_true rfl⟩) hS (fun g_7 H locs hp_8 hS => ?_)
        obtain ⟨l2, hl2, hex9, hmem9, hfr_9⟩ := hp_8
        have h_b := (hfr_9 _ (by omega)).trans h_b
        have h_d := (hfr_9 _ (by omega)).trans h_d
        have h_c := (hfr_9 _ (by omega)).trans h_c
        obtain ⟨fd9, sn9, h_k, -⟩ := id hl2
        refine lv_iinc (v := (nI (i + 1))) (lv' := [(2, .int (nI (i + 1))), (0, .ref (Z.2.1 k)), (1, .int x)]) hx hb dX1_noteBehindOneDigit_33 hl (k := 2) rfl (nI_1 _) (by decide) rfl (fun ls hl => ?_)
        refine lv_goto (tgt := 2) hx hb dX1_noteBehindOneDigit_36 (by decide) ?_
        exact ih_2 (i + 1) l2 g_7 h_b h_d h_c h_k (hfr_ga.tr (hfr_9.wide (by omega) (by omega))) (by omega) hl2 (hE.tr (hex9.mono (fun y hy => ⟨i, by omega, by rw [hy, hcc]⟩))) (fun t ht => by
            rcases Nat.lt_or_ge t i with q9 | q9
            · exact zpre_mem hex9.1 (hM t q9)
            · have : t = i := by omega
              subst this; rw [← hcc]; exact hmem9) (by omega) _ _ _ hS (lv_sub hl [1, 2, 0] rfl)
  exact hcut_2 (b.2.2.1 - 0 + 1) 0 l0 g h_b h_d h_c h_k z_fr.rf (by omega) hC zext.rf (fun t ht => absurd ht (Nat.not_lt_zero t)) (Nat.lt_succ_self _) _ _ _ hS (lv_sub hl [1, 2, 0] rfl)

theorem in_X1_noteBehindTwoDigits_0 : ∀ w ∈ wsX00, w ∈ wsX1_noteBehindTwoDigits := by decide +kernel
theorem in_X1_noteBehindTwoDigits_1 : ∀ w ∈ wsX10, w ∈ wsX1_noteBehindTwoDigits := by decide +kernel
set_option maxHeartbeats 4000000 in
set_option maxRecDepth 100000 in
theorem k_noteTwo (Z : zT) (g : Nat → va_E) (k kb : Nat) (b : zb) (l0 : List Int) (hC : z_cs Z g k kb l0) (hB : z_b1 Z g kb b) (hcm : zcm b) (x : Int32) (hx6 : -60 ≤ x.toInt ∧ x.toInt ≤ 60) : z_Mv Z yX1_noteBehindTwoDigits wsX1_noteBehindTwoDigits 3 67 [.ref (Z.2.1 k), .int x] g (fun g1 => ∃ l2, z_cs Z g1 k kb l2 ∧ zext l0 l2 (fun y => zs2 b x.toInt y) ∧ (∀ y, zs2 b x.toInt y → y ∈ l2) ∧ z_fr k 3 g g1) := by
  intro l sz
  obtain ⟨pb, qb, res, cmp, dg, ch, ⟨h_b, h_d, h_c, hkN, hok, hp, hq, hres, hdg⟩, hch⟩ := id hB
  have hk0 : kb < Z.1 := by omega
  have hk1 : kb + 1 < Z.1 := by omega
  have hk2 : kb + 2 < Z.1 := by omega
  have hn12 := hok.2.2.2.1
  obtain ⟨fd, sn, h_k, h_f, h_s, hkM, hsep, hfd, hsn, hlen, hbd⟩ := id hC
  have hkk : k < Z.1 := by omega
  have hkk1 : k + 1 < Z.1 := by omega
  have hkk2 : k + 2 < Z.1 := by omega
  have hl121 : l0.length ≤ 121 := by rw [hlen]; exact zct_le _ _
  refine z_enter (maxL := 4) (ret := none) (lv := [(0, .ref (Z.2.1 k)), (1, .int x)]) (plainFor_of_name (by decide +kernel)) rfl (fun ls h => by subst h; exact lv_entry [.ref (Z.2.1 k), .int x] (n := 4) (Nat.le_of_ble_eq_true rfl)) ?_
  intro p e s m args below meth c hx hb hml hr hlocks hown hts hK hS hsz ls hl
  refine lv_iconst (v := 0) hx hb dX1_noteBehindTwoDigits_0 (by decide) ?_
  refine lv_istore_n (lv' := [(2, .int 0), (0, .ref (Z.2.1 k)), (1, .int x)]) hx hb dX1_noteBehindTwoDigits_1 rfl hl (by decide) rfl (fun ls hl => ?_)
  have hcut_2 : ∀ (nn_2 : Nat) (i : Nat) (l1 : List Int) (ga : Nat → va_E) (h_b : ga kb = .inr (0, [.int pb, .int qb, .int res, .int (nI b.2.2.1), .int cmp, .ref (Z.2.1 (kb + 1)), .ref (Z.2.1 (kb + 2))])) (h_d : ga (kb + 1) = .inl (Z.2.2.2 0, 12, .inl dg)) (h_c : ga (kb + 2) = .inl (Z.2.2.2 0, 10, .inl ch)) (h_k : ga k = .inr (1, [.ref (Z.2.1 kb), .ref (Z.2.1 (k + 1)), .ref (Z.2.1 (k + 2)), .int (nI l1.length)])) (hfr_ga : z_fr k 3 g ga) (hi : i ≤ b.2.2.1) (hl1 : z_cs Z ga k kb l1) (hE : zext l0 l1 (fun y => zs2 b x.toInt y)) (hM : ∀ u t, u < i → u ≤ t → t < b.2.2.1 → zcr b x.toInt (b.2.2.2 u + b.2.2.2 t) ∈ l1) (hm_2 : b.2.2.1 - i < nn_2) (H : Heap) (locs : List Loc) (ls : Array Slot), z_S Z (z_A Z sz) s.heap ga H locs → lv_has ls 4 [(0, .ref (Z.2.1 k)), (1, .int x), (2, .int (nI i))] → W p l e (headSpec wsX1_noteBehindTwoDigits (z_rm 3 67)).room s m args below meth c H locs 0 0 (MQ below (va_Qv (fun g1 => ∃ l2, z_cs Z g1 k kb l2 ∧ zext l0 l2 (fun y => zs2 b x.toInt y) ∧ (∀ y, zs2 b x.toInt y → y ∈ l2) ∧ z_fr k 3 g g1) (z_B Z) (z_A Z sz)) args s 0 0 (z_A Z sz)) (F0 m 2 ls []) := by
    intro nn_2
    induction nn_2 with
    | zero => intro i l1 ga h_b h_d h_c h_k hfr_ga hi hl1 hE hM hm_2 H locs ls hS hl; exact absurd hm_2 (Nat.not_lt_zero _)
    | succ nn_2 ih_2 =>
      intro i l1 ga h_b h_d h_c h_k hfr_ga hi hl1 hE hM hm_2 H locs ls hS hl
      refine lv_iload_n hx hb dX1_noteBehindTwoDigits_2 rfl (lv_at hl 2 rfl) ?_
      refine lv_aload_n hx hb dX1_noteBehindTwoDigits_3 rfl (lv_at hl 0 rfl) ?_
      refine z_get (own := RX1) (C := RX1) (T := TX1) (N := 4) hx hb hts in_X1_noteBehindTwoDigits_1 hown hK hS h_k hkk rfl 0 (by decide) (List.mem_of_getElem? (i := 1) rfl) rfl rfl dX1_noteBehindTwoDigits_4 ?_
      refine z_getN (own := RX1) (C := RX0) (T := TX0) (N := 7) hx hb hts in_X1_noteBehindTwoDigits_0 hown hK hS h_b hk0 rfl 3 (by decide) 18 rfl rfl rfl dX1_noteBehindTwoDigits_7 ?_
      refine lv_icmp_ge (tgt := 67) hx hb dX1_noteBehindTwoDigits_10 (by decide) (fun c_1 => ?_) (fun c_1 => ?_)
      · have i_1 := z_le c_1
        rw [nI_toInt (by omega)] at i_1
        rw [nI_toInt (by omega)] at i_1
        have hin : i = b.2.2.1 := by omega
        refine z_vret hx hb hr hlocks hS ?_ dX1_noteBehindTwoDigits_67
        exact ⟨l1, hl1, hE, fun y hy => by
          obtain ⟨u, t, hu, ht, rfl⟩ := hy
          rcases Nat.le_total u t with q9 | q9
          · exact hM u t (by omega) q9 ht
          · rw [Int.add_comm]; exact hM t u (by omega) q9 hu, hfr_ga⟩
      · have i_1 := z_nle c_1
        rw [nI_toInt (by omega)] at i_1
        rw [nI_toInt (by omega)] at i_1
        refine lv_iload_n hx hb dX1_noteBehindTwoDigits_13 rfl (lv_at hl 2 rfl) ?_
        refine lv_istore_n (lv' := [(3, .int (nI i)), (0, .ref (Z.2.1 k)), (1, .int x), (2, .int (nI i))]) hx hb dX1_noteBehindTwoDigits_14 rfl hl (by decide) rfl (fun ls hl => ?_)
        have hcut_15 : ∀ (nn_15 : Nat) (j : Nat) (l3 : List Int) (gb : Nat → va_E) (h_b : gb kb = .inr (0, [.int pb, .int qb, .int res, .int (nI b.2.2.1), .int cmp, .ref (Z.2.1 (kb + 1)), .ref (Z.2.1 (kb + 2))])) (h_d : gb (kb + 1) = .inl (Z.2.2.2 0, 12, .inl dg)) (h_c : gb (kb + 2) = .inl (Z.2.2.2 0, 10, .inl ch)) (h_k : gb k = .inr (1, [.ref (Z.2.1 kb), .ref (Z.2.1 (k + 1)), .ref (Z.2.1 (k + 2)), .int (nI l3.length)])) (hfr_gb : z_fr k 3 g gb) (hij : i ≤ j) (hj : j ≤ b.2.2.1) (hl3 : z_cs Z gb k kb l3) (hE3 : zext l0 l3 (fun y => zs2 b x.toInt y)) (hM3 : ∀ u t, u < i → u ≤ t → t < b.2.2.1 → zcr b x.toInt (b.2.2.2 u + b.2.2.2 t) ∈ l3) (hN3 : ∀ t, i ≤ t → t < j → zcr b x.toInt (b.2.2.2 i + b.2.2.2 t) ∈ l3) (hm_15 : b.2.2.1 - j < nn_15) (H : Heap) (locs : List Loc) (ls : Array Slot), z_S Z (z_A Z sz) s.heap gb H locs → lv_has ls 4 [(0, .ref (Z.2.1 k)), (1, .int x), (2, .int (nI i)), (3, .int (nI j))] → W p l e (headSpec wsX1_noteBehindTwoDigits (z_rm 3 67)).room s m args below meth c H locs 0 0 (MQ below (va_Qv (fun g1 => ∃ l2, z_cs Z g1 k kb l2 ∧ zext l0 l2 (fun y => zs2 b x.toInt y) ∧ (∀ y, zs2 b x.toInt y → y ∈ l2) ∧ z_fr k 3 g g1) (z_B Z) (z_A Z sz)) args s 0 0 (z_A Z sz)) (F0 m 15 ls []) := by
          intro nn_15
          induction nn_15 with
          | zero => intro j l3 gb h_b h_d h_c h_k hfr_gb hij hj hl3 hE3 hM3 hN3 hm_15 H locs ls hS hl; exact absurd hm_15 (Nat.not_lt_zero _)
          | succ nn_15 ih_15 =>
            intro j l3 gb h_b h_d h_c h_k hfr_gb hij hj hl3 hE3 hM3 hN3 hm_15 H locs ls hS hl
            refine lv_iload_n hx hb dX1_noteBehindTwoDigits_15 rfl (lv_at hl 3 rfl) ?_
            refine lv_aload_n hx hb dX1_noteBehindTwoDigits_16 rfl (lv_at hl 0 rfl) ?_
            refine z_get (own := RX1) (C := RX1) (T := TX1) (N := 4) hx hb hts in_X1_noteBehindTwoDigits_1 hown hK hS h_k hkk rfl 0 (by decide) (List.mem_of_getElem? (i := 1) rfl) rfl rfl dX1_noteBehindTwoDigits_17 ?_
            refine z_getN (own := RX1) (C := RX0) (T := TX0) (N := 7) hx hb hts in_X1_noteBehindTwoDigits_0 hown hK hS h_b hk0 rfl 3 (by decide) 18 rfl rfl rfl dX1_noteBehindTwoDigits_20 ?_
            refine lv_icmp_ge (tgt := 61) hx hb dX1_noteBehindTwoDigits_23 (by decide) (fun c_2 => ?_) (fun c_2 => ?_)
            · have i_2 := z_le c_2
              rw [nI_toInt (by omega)] at i_2
              rw [nI_toInt (by omega)] at i_2
              have hjn : j = b.2.2.1 := by omega
              refine lv_iinc (v := (nI (i + 1))) (lv' := [(2, .int (nI (i + 1))), (0, .ref (Z.2.1 k)), (1, .int x), (3, .int (nI j))]) hx hb dX1_noteBehindTwoDigits_61 hl (k := 2) rfl (nI_1 _) (by decide) rfl (fun ls hl => ?_)
              refine lv_goto (tgt := 2) hx hb dX1_noteBehindTwoDigits_64 (by decide) ?_
              exact ih_2 (i + 1) l3 gb h_b h_d h_c h_k hfr_gb (by omega) hl3 hE3 (fun u t h1 h2 h3 => by
                  rcases Nat.lt_or_ge u i with q9 | q9
                  · exact hM3 u t q9 h2 h3
                  · have : u = i := by omega
                    subst this; exact hN3 t h2 (by omega)) (by omega) _ _ _ hS (lv_sub hl [1, 2, 0] rfl)
            · have i_2 := z_nle c_2
              rw [nI_toInt (by omega)] at i_2
              rw [nI_toInt (by omega)] at i_2
              refine lv_aload_n hx hb dX1_noteBehindTwoDigits_26 rfl (lv_at hl 0 rfl) ?_
              refine lv_aload_n hx hb dX1_noteBehindTwoDigits_27 rfl (lv_at hl 0 rfl) ?_
              refine z_get (own := RX1) (C := RX1) (T := TX1) (N := 4) hx hb hts in_X1_noteBehindTwoDigits_1 hown hK hS h_k hkk rfl 0 (by decide) (List.mem_of_getElem? (i := 1) rfl) rfl rfl dX1_noteBehindTwoDigits_28 ?_
              refine lv_iload_n hx hb dX1_noteBehindTwoDigits_31 rfl (lv_at hl 1 rfl) ?_
              refine lv_aload_n hx hb dX1_noteBehindTwoDigits_32 rfl (lv_at hl 0 rfl) ?_
              refine z_get (own := RX1) (C := RX1) (T := TX1) (N := 4) hx hb hts in_X1_noteBehindTwoDigits_1 hown hK hS h_k hkk rfl 0 (by decide) (List.mem_of_getElem? (i := 1) rfl) rfl rfl dX1_noteBehindTwoDigits_33 ?_
              refine lv_iload_n hx hb dX1_noteBehindTwoDigits_36 rfl (lv_at hl 2 rfl) ?_
              refine z_calli (z_runVN (As := [.int (nI i)]) (rest := [.int x, .ref (Z.2.1 kb), .ref (Z.2.1 k)]) (C := RX0) ⟨hx, hb, hml, hown, hts⟩ hK hS ((k_listed Z gb kb b ⟨pb, qb, res, cmp, dg, ch, h_b, h_d, h_c, hkN, hok, hp, hq, hres, hdg⟩ i (by omega)) l _) gX1_noteBehindTwoDigits_X0_listed_n44 rfl 1 43 rfl (List.mem_of_getElem? (i := 3) rfl) (List.mem_of_getElem? (i := 2) rfl) (List.mem_of_getElem? (i := 4) rfl) (by decide +kernel) ⟨Nat.le_of_ble_eq_true rfl, Nat.le_of_ble_eq_true rfl⟩ h_b hk0 rfl rfl hl.1 rfl (Nat.le_of_ble_eq_true rfl) dX1_noteBehindTwoDigits_37 ⟨Nat.le_of_ble_eq_true rfl, Nat.le_of_ble_eq_true rfl⟩) hS (fun dd g_3 H locs hp_4 hS => ?_)
              obtain ⟨rfl, hp_4⟩ := hp_4
              have hdd := hp_4
              have hddb := hok.2.2.2.2 i (by omega)
              refine lv_aload_n hx hb dX1_noteBehindTwoDigits_40 rfl (lv_at hl 0 rfl) ?_
              refine z_get (own := RX1) (C := RX1) (T := TX1) (N := 4) hx hb hts in_X1_noteBehindTwoDigits_1 hown hK hS h_k hkk rfl 0 (by decide) (List.mem_of_getElem? (i := 1) rfl) rfl rfl dX1_noteBehindTwoDigits_41 ?_
              refine lv_iload_n hx hb dX1_noteBehindTwoDigits_44 rfl (lv_at hl 3 rfl) ?_
              refine z_calli (z_runVN (As := [.int (nI j)]) (rest := [.int dd, .int x, .ref (Z.2.1 kb), .ref (Z.2.1 k)]) (C := RX0) ⟨hx, hb, hml, hown, hts⟩ hK hS ((k_listed Z gb kb b ⟨pb, qb, res, cmp, dg, ch, h_b, h_d, h_c, hkN, hok, hp, hq, hres, hdg⟩ j (by omega)) l _) gX1_noteBehindTwoDigits_X0_listed_n44 rfl 1 43 rfl (List.mem_of_getElem? (i := 3) rfl) (List.mem_of_getElem? (i := 2) rfl) (List.mem_of_getElem? (i := 4) rfl) (by decide +kernel) ⟨Nat.le_of_ble_eq_true rfl, Nat.le_of_ble_eq_true rfl⟩ h_b hk0 rfl rfl hl.1 rfl (Nat.le_of_ble_eq_true rfl) dX1_noteBehindTwoDigits_45 ⟨Nat.le_of_ble_eq_true rfl, Nat.le_of_ble_eq_true rfl⟩) hS (fun de g_5 H locs hp_6 hS => ?_)
              obtain ⟨rfl, hp_6⟩ := hp_6
              have hde := hp_6
              have hdeb := hok.2.2.2.2 j (by omega)
              have hsum : (dd + de).toInt = b.2.2.2 i + b.2.2.2 j := by rw [fb_addI (by omega) (by omega), hdd, hde]
              refine lv_iadd hx hb dX1_noteBehindTwoDigits_48 ?_
              refine z_calli (z_runVN (As := [.int x, .int (dd + de)]) (rest := [.ref (Z.2.1 k)]) (C := RX0) ⟨hx, hb, hml, hown, hts⟩ hK hS ((k_carryBehind Z gb kb b ⟨pb, qb, res, cmp, dg, ch, ⟨h_b, h_d, h_c, hkN, hok, hp, hq, hres, hdg⟩, hch⟩ x (dd + de) hcm (by omega) (by omega)) l _) gX1_noteBehindTwoDigits_X0_carryBehind_n37 rfl 2 42 rfl (List.mem_of_getElem? (i := 3) rfl) (List.mem_of_getElem? (i := 7) rfl) (List.mem_of_getElem? (i := 8) rfl) (by decide +kernel) ⟨Nat.le_of_ble_eq_true rfl, Nat.le_of_ble_eq_true rfl⟩ h_b hk0 rfl rfl hl.1 rfl (Nat.le_of_ble_eq_true rfl) dX1_noteBehindTwoDigits_49 ⟨Nat.le_of_ble_eq_true rfl, Nat.le_of_ble_eq_true rfl⟩) hS (fun cc g_7 H locs hp_8 hS => ?_)
              obtain ⟨rfl, hp_8⟩ := hp_8
              have hcc := hp_8
              rw [hsum] at hcc
              have hccb := zcr_bd60 hok hcm hx6 (t := b.2.2.2 i + b.2.2.2 j) (by omega)
              refine z_callv (z_runV (As := [.int cc]) (rest := []) ⟨hx, hb, hml, hown, hts⟩ hK hS ((k_note Z gb k kb b l3 hl3 cc (by rw [hcc]; exact hccb)) l _) gX1_noteBehindTwoDigits_X1_note rfl 1 (by decide +kernel) ⟨Nat.le_of_ble_eq_true rfl, Nat.le_of_ble_eq_true rfl⟩ h_k hkk rfl rfl hl.1 rfl (Nat.le_of_ble_eq_true rfl) dX1_noteBehindTwoDigits_52 ⟨Nat.le_of_ble_eq_true rfl, Nat.le_of_ble_eq_true rfl⟩) hS (fun g_10 H locs hp_11 hS => ?_)
              obtain ⟨l4, hl4, hex9, hmem9, hfr_12⟩ := hp_11
              have h_b := (hfr_12 _ (by omega)).trans h_b
              have h_d := (hfr_12 _ (by omega)).trans h_d
              have h_c := (hfr_12 _ (by omega)).trans h_c
              obtain ⟨fd9, sn9, h_k, -⟩ := id hl4
              refine lv_iinc (v := (nI (j + 1))) (lv' := [(3, .int (nI (j + 1))), (0, .ref (Z.2.1 k)), (1, .int x), (2, .int (nI i))]) hx hb dX1_noteBehindTwoDigits_55 hl (k := 3) rfl (nI_1 _) (by decide) rfl (fun ls hl => ?_)
              refine lv_goto (tgt := 15) hx hb dX1_noteBehindTwoDigits_58 (by decide) ?_
              exact ih_15 (j + 1) l4 g_10 h_b h_d h_c h_k (hfr_gb.tr (hfr_12.wide (by omega) (by omega))) (by omega) (by omega) hl4 (hE3.tr (hex9.mono (fun y hy => ⟨i, j, by omega, by omega, by rw [hy, hcc]⟩))) (fun u t h1 h2 h3 => zpre_mem hex9.1 (hM3 u t h1 h2 h3)) (fun t h1 h2 => by
                  rcases Nat.lt_or_ge t j with q9 | q9
                  · exact zpre_mem hex9.1 (hN3 t h1 q9)
                  · have : t = j := by omega
                    subst this; rw [← hcc]; exact hmem9) (by omega) _ _ _ hS (lv_sub hl [1, 2, 3, 0] rfl)
        exact hcut_15 (b.2.2.1 - i + 1) i l1 ga h_b h_d h_c h_k hfr_ga (by omega) (by omega) hl1 hE hM (fun t h1 h2 => absurd h2 (by omega)) (Nat.lt_succ_self _) _ _ _ hS (lv_sub hl [1, 2, 3, 0] rfl)
  exact hcut_2 (b.2.2.1 - 0 + 1) 0 l0 g h_b h_d h_c h_k z_fr.rf (by omega) hC zext.rf (fun u t ht => absurd ht (Nat.not_lt_zero u)) (Nat.lt_succ_self _) _ _ _ hS (lv_sub hl [1, 2, 0] rfl)

