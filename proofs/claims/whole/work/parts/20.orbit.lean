theorem fb_holes : ∀ (m n : Nat) (f : Nat → Nat), (∀ i, i < n → f i < m) → (∀ i j, i < j → j < n → f i ≠ f j) → n ≤ m := by
  intro m
  induction m with
  | zero =>
    intro n f h1 _
    rcases Nat.eq_zero_or_pos n with h | h
    · omega
    · exact absurd (h1 0 h) (Nat.not_lt_zero _)
  | succ m ih =>
    intro n f h1 h2
    by_cases hx : ∃ i, i < n ∧ f i = m
    · obtain ⟨a, ha, hfa⟩ := hx
      have hg := ih (n - 1) (fun i => if i < a then f i else f (i + 1)) (by
        intro i hi
        by_cases q : i < a
        · simp only [if_pos q]
          have b1 := h1 i (by omega)
          have b2 := h2 i a q ha
          omega
        · simp only [if_neg q]
          have b1 := h1 (i + 1) (by omega)
          have b2 := h2 a (i + 1) (by omega) (by omega)
          omega) (by
        intro i j hij hj
        by_cases q : i < a
        · by_cases r : j < a
          · simp only [if_pos q, if_pos r]
            exact h2 i j hij (by omega)
          · simp only [if_pos q, if_neg r]
            exact h2 i (j + 1) (by omega) (by omega)
        · have r : ¬ j < a := by omega
          simp only [if_neg q, if_neg r]
          exact h2 (i + 1) (j + 1) (by omega) (by omega))
      omega
    · have hg := ih n f (fun i hi => by
        have b1 := h1 i hi
        have b2 : f i ≠ m := fun e => hx ⟨i, hi, e⟩
        omega) h2
      omega
/-- two of them in one place -/
theorem fb_twice {m n : Nat} {f : Nat → Nat} (h : ∀ i, i < n → f i < m) (hm : m < n) : ∃ i j, i < j ∧ j < n ∧ f i = f j := by
  refine Classical.byContradiction fun hx => ?_
  have := fb_holes m n f h (fun i j hij hj e => hx ⟨i, j, hij, hj, e⟩)
  omega

/-! orbits: each is the step of the one before -/
def zor (f : Int → Int) (x : Int) : Nat → Int
  | 0 => x
  | i + 1 => f (zor f x i)
theorem zor_add (f : Int → Int) (x : Int) (i : Nat) : ∀ j, zor f x (i + j) = zor f (zor f x i) j
  | 0 => rfl
  | j + 1 => by
    show f (zor f x (i + j)) = f (zor f (zor f x i) j)
    rw [zor_add f x i j]
theorem zor_eq {f : Int → Int} {x : Int} {i j : Nat} (h : zor f x i = zor f x j) (t : Nat) : zor f x (i + t) = zor f x (j + t) := by
  rw [zor_add, zor_add, h]
def zper (o : Nat → Int) (mu la : Nat) : Prop := 0 < la ∧ o (mu + la) = o mu ∧ ∀ i j, i < j → j < mu + la → o i ≠ o j
theorem zper_back {f : Int → Int} {x : Int} {mu la : Nat} (h : zper (zor f x) mu la) {i : Nat} (hi : mu ≤ i) : ∀ t, zor f x (i + la * t) = zor f x i
  | 0 => rfl
  | t + 1 => by
    have e : i + la * (t + 1) = (mu + la) + (i - mu + la * t) := by rw [Nat.mul_succ]; omega
    rw [e, zor_eq h.2.1, ← zper_back h hi t]
    congr 1; omega
theorem zper_red {f : Int → Int} {x : Int} {mu la : Nat} (h : zper (zor f x) mu la) {i : Nat} (hi : mu ≤ i) : zor f x i = zor f x (mu + (i - mu) % la) := by
  have := zper_back h (i := mu + (i - mu) % la) (by omega) ((i - mu) / la)
  rw [← this]
  congr 1
  have := Nat.mod_add_div (i - mu) la
  omega
theorem zper_iff {f : Int → Int} {x : Int} {mu la : Nat} (h : zper (zor f x) mu la) {i j : Nat} (hij : i < j) : zor f x i = zor f x j ↔ mu ≤ i ∧ la ∣ (j - i) := by
  constructor
  · intro e
    have hml : ∀ a, (a - mu) % la < la := fun a => Nat.mod_lt _ h.1
    have hi : mu ≤ i := by
      rcases Nat.lt_or_ge i mu with q | q
      · exfalso
        rcases Nat.lt_or_ge j (mu + la) with r | r
        · exact h.2.2 i j hij r e
        · rw [zper_red h (i := j) (by omega)] at e
          have := hml j
          exact h.2.2 i _ (by omega) (by omega) e
      · exact q
    refine ⟨hi, ?_⟩
    rw [zper_red h hi, zper_red h (i := j) (by omega)] at e
    have h1 := hml i
    have h2 := hml j
    have hm : (i - mu) % la = (j - mu) % la := by
      rcases Nat.lt_trichotomy ((i - mu) % la) ((j - mu) % la) with q | q | q
      · exact absurd e (h.2.2 _ _ (by omega) (by omega))
      · exact q
      · exact absurd e.symm (h.2.2 _ _ (by omega) (by omega))
    have h3 := Nat.mod_add_div (i - mu) la
    have h4 := Nat.mod_add_div (j - mu) la
    refine ⟨(j - mu) / la - (i - mu) / la, ?_⟩
    rw [Nat.mul_sub]; omega
  · rintro ⟨h1, t, ht⟩
    have := zper_back h h1 t
    rw [← this]; congr 1; omega
theorem zper_uniq {o : Nat → Int} {mu la mu2 la2 : Nat} (h : zper o mu la) (h2 : zper o mu2 la2) : mu = mu2 ∧ la = la2 := by
  have a : mu + la = mu2 + la2 := by
    rcases Nat.lt_trichotomy (mu + la) (mu2 + la2) with q | q | q
    · exact absurd h.2.1.symm (h2.2.2 _ _ (by have := h.1; omega) q)
    · exact q
    · exact absurd h2.2.1.symm (h.2.2 _ _ (by have := h2.1; omega) q)
  have h1 := h.1
  have h3 := h2.1
  rcases Nat.lt_trichotomy mu mu2 with q | q | q
  · have e1 := h.2.1
    have e2 := h2.2.1
    rw [a, e2] at e1
    exact absurd e1.symm (h.2.2 mu mu2 q (by omega))
  · omega
  · have e1 := h.2.1
    have e2 := h2.2.1
    rw [← a, e1] at e2
    exact absurd e2.symm (h2.2.2 mu2 mu q (by omega))
theorem z_least (P : Nat → Prop) (h : ∃ k, P k) : ∃ k, P k ∧ ∀ j, j < k → ¬ P j := pk_least P h
theorem zper_ex {f : Int → Int} {x : Int} {B : Nat} (hb : ∀ i, -(B : Int) ≤ zor f x i ∧ zor f x i ≤ B) : ∃ mu la, zper (zor f x) mu la ∧ mu + la ≤ 2 * B + 1 := by
  obtain ⟨i, j, hij, hj, e⟩ := fb_twice (m := 2 * B + 1) (n := 2 * B + 2) (f := fun i => (zor f x i + B).toNat) (fun i _ => by have := hb i; omega) (by omega)
  have e' : zor f x i = zor f x j := by
    have h1 := hb i
    have h2 := hb j
    have e : (zor f x i + B).toNat = (zor f x j + B).toNat := e
    omega
  obtain ⟨jj, ⟨ii, hii, ee⟩, hl⟩ := z_least (fun j => ∃ i, i < j ∧ zor f x i = zor f x j) ⟨j, i, hij, e'⟩
  have hjj : jj ≤ j := by
    rcases Nat.lt_or_ge j jj with q | q
    · exact absurd ⟨i, hij, e'⟩ (hl j q)
    · exact q
  refine ⟨ii, jj - ii, ⟨by omega, by rw [show ii + (jj - ii) = jj by omega]; exact ee.symm, fun a c hac hc he => hl c (by omega) ⟨a, hac, he⟩⟩, by omega⟩
/-! the step of the division by n -/
def zsi (b : zb) (nn x : Int) : Nat := zfi (fun i => decide ((b.2.1 * x - b.2.2.2 i * nn) % zP b = 0)) b.2.2.1
def zsd (b : zb) (nn x : Int) : Int := if zsi b nn x < b.2.2.1 then b.2.2.2 (zsi b nn x) else 0
def zst (b : zb) (nn x : Int) : Int := (b.2.1 * x - zsd b nn x * nn).tdiv b.1
theorem z_inv_iff {P q x d nn iv : Int} (h : (iv * nn) % P = 1) : (q * x - d * nn) % P = 0 ↔ d % P = (q * x * iv) % P := by
  have hk : iv * nn = 1 + P * ((iv * nn) / P) := by
    have := Int.emod_add_mul_ediv (iv * nn) P
    omega
  generalize (iv * nn) / P = t at hk
  rw [Int.emod_eq_emod_iff_emod_sub_eq_zero]
  constructor
  · intro h1
    apply Int.emod_eq_zero_of_dvd
    obtain ⟨y, hy⟩ := Int.dvd_of_emod_eq_zero h1
    refine ⟨-(iv * y) - d * t, ?_⟩
    have e1 : iv * (q * x - d * nn) = iv * (P * y) := by rw [hy]
    grind
  · intro h1
    apply Int.emod_eq_zero_of_dvd
    obtain ⟨y, hy⟩ := Int.dvd_of_emod_eq_zero h1
    refine ⟨-(nn * y) - q * x * t, ?_⟩
    have e1 : nn * (d - q * x * iv) = nn * (P * y) := by rw [hy]
    grind
theorem zsi_inv {b : zb} {nn iv : Int} (h : (iv * nn) % zP b = 1) (x : Int) : zsi b nn x = zci b (b.2.1 * x * iv) := by
  unfold zsi zci
  exact zfi_cong (fun i _ => by simp only [decide_eq_decide]; exact z_inv_iff h)
theorem zsd_inv {b : zb} (hcm : zcm b) {nn iv : Int} (h : (iv * nn) % zP b = 1) (x : Int) : zsd b nn x = zch b (b.2.1 * x * iv) := by
  unfold zsd zch
  rw [zsi_inv h, if_pos (hcm _), if_pos (hcm _)]
theorem zst_div {b : zb} (hok : zb_ok b) (hcm : zcm b) {nn iv : Int} (h : (iv * nn) % zP b = 1) (x : Int) : b.1 ∣ (b.2.1 * x - zsd b nn x * nn) := by
  have h1 : zsi b nn x < b.2.2.1 := by rw [zsi_inv h]; exact hcm _
  have h2 := zfi_yes _ _ h1
  have h3 : (b.2.1 * x - b.2.2.2 (zsi b nn x) * nn) % zP b = 0 := of_decide_eq_true h2
  unfold zsd
  rw [if_pos h1]
  exact (zP_dvd _).mp (Int.dvd_of_emod_eq_zero h3)
theorem zsd_bd {b : zb} (hok : zb_ok b) (nn x : Int) : -20 ≤ zsd b nn x ∧ zsd b nn x ≤ 20 := by
  unfold zsd
  split
  · exact hok.2.2.2.2 _ ‹_›
  · omega
theorem z_tdiv_le {b : zb} (hok : zb_ok b) {x : Int} {B : Nat} (h : x.natAbs < (B + 1) * (zP b).toNat) : -(B : Int) ≤ x.tdiv b.1 ∧ x.tdiv b.1 ≤ B := by
  have hP := zP_bd hok
  have h1 : (x.tdiv b.1).natAbs ≤ B := by
    rw [Int.natAbs_tdiv]
    change x.natAbs / b.1.natAbs ≤ B
    have hb : b.1.natAbs = (zP b).toNat := by omega
    rw [hb]
    exact Nat.le_of_lt_succ ((Nat.div_lt_iff_lt_mul (by omega)).mpr h)
  omega
theorem zst_bd {b : zb} (hok : zb_ok b) {nn x : Int} (hn : 1 ≤ nn ∧ nn ≤ 60) (hx : -100000 ≤ x ∧ x ≤ 100000) : -100000 ≤ zst b nn x ∧ zst b nn x ≤ 100000 := by
  have hP := zP_bd hok
  have h1 := zsd_bd hok nn x
  have h2 := z_mul_bd (x := zsd b nn x) (y := nn) (a := 20) (b := 60) (by omega) (by omega) (by omega) (by omega)
  have h3 := z_mul_bd (x := b.2.1) (y := x) (a := b.2.1) (b := 100000) (by have := hok.2.1; omega) (by omega) (by omega) (by omega)
  have h4 := hok.2.2.1
  have h5 := hok.2.1
  exact z_tdiv_le hok (B := 100000) (by omega)
theorem zor_bd {b : zb} (hok : zb_ok b) {nn x : Int} (hn : 1 ≤ nn ∧ nn ≤ 60) (hx : -100000 ≤ x ∧ x ≤ 100000) : ∀ i, -100000 ≤ zor (zst b nn) x i ∧ zor (zst b nn) x i ≤ 100000
  | 0 => hx
  | i + 1 => zst_bd hok hn (zor_bd hok hn hx i)
theorem zper_exb {b : zb} (hok : zb_ok b) {nn x : Int} (hn : 1 ≤ nn ∧ nn ≤ 60) (hx : -100000 ≤ x ∧ x ≤ 100000) : ∃ mu la, zper (zor (zst b nn) x) mu la ∧ mu + la ≤ 200001 :=
  zper_ex (B := 100000) (zor_bd hok hn hx)
theorem zcr_zst {b : zb} (hok : zb_ok b) (hcm : zcm b) (x : Int) : zcr b x 0 = zst b 1 x := by
  have hP := zP_bd hok
  have h := zsd_inv hcm (nn := 1) (iv := 1) (by show (1 * 1 : Int) % zP b = 1; rw [Int.one_mul]; exact Int.emod_eq_of_lt (by omega) (by omega)) x
  unfold zcr zst
  rw [h, Int.mul_one, Int.mul_one, Int.zero_add]
/-- Brent's wait: where it began, how long -/
theorem zper_hit {f : Int → Int} {x : Int} {mu la : Nat} (h : zper (zor f x) mu la) {T dd : Nat} (hd : 0 < dd) (he : zor f x (T + dd) = zor f x T) (hno : ∀ t, 0 < t → t < dd → zor f x (T + t) ≠ zor f x T) : dd = la := by
  have h1 := (zper_iff h (i := T) (j := T + dd) (by omega)).mp he.symm
  have h2 : la ∣ dd := by have := h1.2; rwa [Nat.add_sub_cancel_left] at this
  have h3 := h.1
  have h4 : la ≤ dd := Nat.le_of_dvd hd h2
  rcases Nat.lt_or_ge la dd with q | q
  · exfalso
    refine hno la h3 q ((zper_iff h (i := T) (j := T + la) (by omega)).mpr ⟨h1.1, ?_⟩).symm
    rw [Nat.add_sub_cancel_left]; exact Nat.dvd_refl _
  · omega
