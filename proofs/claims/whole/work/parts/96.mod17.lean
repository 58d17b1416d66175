/-! the reference: levels of the numbers that can be left -/
def zcap (x : Int) : Int := if 1000000 < x then 1000000 else x
theorem zcap_bd {x : Int} (h : 0 ≤ x) : 0 ≤ zcap x ∧ zcap x ≤ 1000000 := by
  unfold zcap
  split <;> omega
theorem zcap_add {x y : Int} (hx : 0 ≤ x) (hy : 0 ≤ y) : zcap (x + y) = if 1000000 < zcap x + zcap y then 1000000 else zcap x + zcap y := by
  unfold zcap
  split <;> split <;> split <;> (try split) <;> omega
def zlm (la : Nat → Int32) (t n : Nat) (v : Int) : Prop := ∃ i, i < n ∧ (la (128 * t + i)).toInt = v
noncomputable def zln (la : Nat → Int32) (t n : Nat) (lo : Int) : Nat := zct (fun u => @decide (zlm la t n (lo + (u : Int))) (Classical.propDecidable _)) 41
theorem zdec_t {P : Prop} (h : P) : @decide P (Classical.propDecidable _) = true := @decide_eq_true P (Classical.propDecidable _) h
theorem zdec_f {P : Prop} (h : ¬ P) : @decide P (Classical.propDecidable _) = false := @decide_eq_false P (Classical.propDecidable _) h
theorem zdec_c {P Q : Prop} (h : P ↔ Q) : @decide P (Classical.propDecidable _) = @decide Q (Classical.propDecidable _) := by
  by_cases hP : P
  · rw [zdec_t hP, zdec_t (h.mp hP)]
  · rw [zdec_f hP, zdec_f (fun q => hP (h.mpr q))]
theorem zlm_put {la : Nat → Int32} {t n : Nat} {x : Int32} {v : Int} : zlm (upd la (128 * t + n) x) t (n + 1) v ↔ zlm la t n v ∨ v = x.toInt := by
  constructor
  · intro ⟨i, hi, e⟩
    by_cases h : i = n
    · rw [h, pk_us] at e; exact Or.inr e.symm
    · rw [pk_un (by omega)] at e; exact Or.inl ⟨i, by omega, e⟩
  · intro h
    rcases h with ⟨i, hi, e⟩ | h
    · exact ⟨i, by omega, by rw [pk_un (by omega)]; exact e⟩
    · exact ⟨n, by omega, by rw [pk_us]; exact h.symm⟩
theorem zln_put {la : Nat → Int32} {t n : Nat} {x : Int32} {lo : Int} (h1 : lo ≤ x.toInt) (h2 : x.toInt ≤ lo + 40) (hn : ¬ zlm la t n x.toInt) : zln (upd la (128 * t + n) x) t (n + 1) lo = zln la t n lo + 1 := by
  unfold zln
  have h := zct_ins (c := fun u => @decide (zlm la t n (lo + (u : Int))) (Classical.propDecidable _)) (c2 := fun u => @decide (zlm (upd la (128 * t + n) x) t (n + 1) (lo + (u : Int))) (Classical.propDecidable _)) (j := (x.toInt - lo).toNat) (zdec_f (by rw [show lo + (((x.toInt - lo).toNat : Nat) : Int) = x.toInt by omega]; exact hn)) (zdec_t (zlm_put.mpr (Or.inr (by omega)))) (fun u hu => zdec_c ⟨fun q => (zlm_put.mp q).resolve_right (by omega), fun q => zlm_put.mpr (Or.inl q)⟩) 41
  rw [h, if_pos (by omega)]
theorem zlm_cong {la lb : Nat → Int32} {t n : Nat} (h : ∀ i, i < n → la (128 * t + i) = lb (128 * t + i)) (v : Int) : zlm la t n v ↔ zlm lb t n v :=
  ⟨fun ⟨i, hi, e⟩ => ⟨i, hi, by rw [← h i hi]; exact e⟩, fun ⟨i, hi, e⟩ => ⟨i, hi, by rw [h i hi]; exact e⟩⟩
def zlv (b : zb) (m : Int) (ln la : Nat → Int32) (u : Nat) : Prop := ∃ n : Nat, ln u = nI n ∧ n ≤ 41 ∧ ∀ v, zlm la u n v ↔ zrb b m u v
theorem zlv_cong {b : zb} {m : Int} {ln la ln2 la2 : Nat → Int32} {u : Nat} (h : zlv b m ln la u) (h1 : ln2 u = ln u) (h2 : ∀ k, 128 * u ≤ k → k < 128 * (u + 1) → la2 k = la k) : zlv b m ln2 la2 u := by
  obtain ⟨n, a1, a2, a3⟩ := h
  exact ⟨n, h1.trans a1, a2, fun v => (zlm_cong (fun i hi => h2 _ (by omega) (by omega)) v).trans (a3 v)⟩
theorem zlv_0 {b : zb} {m : Int} {ln la : Nat → Int32} (h1 : ln 0 = 1) (h2 : (la 0).toInt = m) : zlv b m ln la 0 :=
  ⟨1, h1, by omega, fun v => ⟨fun ⟨i, hi, e⟩ => by
    rw [show 128 * 0 + i = 0 by omega, h2] at e; exact e.symm, fun h => ⟨0, by omega, by rw [show 128 * 0 + 0 = 0 by omega, h2]; exact h.symm⟩⟩⟩
def zfrj (b : zb) (u : Int) (j : Nat) (v : Int) : Prop := ∃ i, i < j ∧ b.1 ∣ (b.2.1 * u - b.2.2.2 i) ∧ v = (b.2.1 * u - b.2.2.2 i).tdiv b.1
/-- what is found of the next level behind i numbers and j digits of the one behind them -/
def zpq (b : zb) (la : Nat → Int32) (t i j : Nat) (v : Int) : Prop := (∃ k, k < i ∧ zfrom b (la (128 * t + k)).toInt v) ∨ zfrj b (la (128 * t + i)).toInt j v
theorem zpq_no {b : zb} {la : Nat → Int32} {t i j : Nat} {v : Int} (h : ¬ b.1 ∣ (b.2.1 * (la (128 * t + i)).toInt - b.2.2.2 j)) : zpq b la t i (j + 1) v ↔ zpq b la t i j v := by
  constructor
  · intro q
    rcases q with q | ⟨k, hk, hd, e⟩
    · exact Or.inl q
    · by_cases hkj : k = j
      · subst hkj; exact absurd hd h
      · exact Or.inr ⟨k, by omega, hd, e⟩
  · intro q
    rcases q with q | ⟨k, hk, hd, e⟩
    · exact Or.inl q
    · exact Or.inr ⟨k, by omega, hd, e⟩
theorem zpq_yes {b : zb} {la : Nat → Int32} {t i j : Nat} {v : Int} (h : b.1 ∣ (b.2.1 * (la (128 * t + i)).toInt - b.2.2.2 j)) : zpq b la t i (j + 1) v ↔ zpq b la t i j v ∨ v = (b.2.1 * (la (128 * t + i)).toInt - b.2.2.2 j).tdiv b.1 := by
  constructor
  · intro q
    rcases q with q | ⟨k, hk, hd, e⟩
    · exact Or.inl (Or.inl q)
    · by_cases hkj : k = j
      · subst hkj; exact Or.inr e
      · exact Or.inl (Or.inr ⟨k, by omega, hd, e⟩)
  · intro q
    rcases q with (q | ⟨k, hk, hd, e⟩) | e
    · exact Or.inl q
    · exact Or.inr ⟨k, by omega, hd, e⟩
    · exact Or.inr ⟨j, by omega, h, e⟩
theorem zpq_next {b : zb} {la : Nat → Int32} {t i : Nat} {v : Int} : zpq b la t (i + 1) 0 v ↔ zpq b la t i b.2.2.1 v := by
  constructor
  · intro q
    rcases q with ⟨k, hk, h⟩ | ⟨k, hk, -⟩
    · by_cases hki : k = i
      · subst hki; exact Or.inr h
      · exact Or.inl ⟨k, by omega, h⟩
    · exact absurd hk (Nat.not_lt_zero k)
  · intro q
    rcases q with ⟨k, hk, h⟩ | h
    · exact Or.inl ⟨k, by omega, h⟩
    · exact Or.inl ⟨i, by omega, h⟩
theorem zpq_0 {b : zb} {la : Nat → Int32} {t : Nat} {v : Int} : ¬ zpq b la t 0 0 v := by
  intro q
  rcases q with ⟨k, hk, -⟩ | ⟨k, hk, -⟩
  · exact absurd hk (Nat.not_lt_zero k)
  · exact absurd hk (Nat.not_lt_zero k)
theorem zpq_end {b : zb} {m : Int} {la : Nat → Int32} {t n : Nat} (h : ∀ v, zlm la t n v ↔ zrb b m t v) (v : Int) : zpq b la t n 0 v ↔ zrb b m (t + 1) v := by
  constructor
  · intro q
    rcases q with ⟨k, hk, hf⟩ | ⟨k, hk, -⟩
    · exact ⟨_, (h _).mp ⟨k, hk, rfl⟩, hf⟩
    · exact absurd hk (Nat.not_lt_zero k)
  · intro ⟨u, hu, hf⟩
    obtain ⟨k, hk, e⟩ := (h u).mpr hu
    exact Or.inl ⟨k, hk, by rw [e]; exact hf⟩
theorem zrb_next {b : zb} {m : Int} {t : Nat} {u : Int} (h : zrb b m t u) {j : Nat} (hj : j < b.2.2.1) (hd : b.1 ∣ (b.2.1 * u - b.2.2.2 j)) : zrb b m (t + 1) ((b.2.1 * u - b.2.2.2 j).tdiv b.1) := ⟨u, h, j, hj, hd, rfl⟩
theorem zpq_rb {b : zb} {m : Int} {la : Nat → Int32} {t n i j : Nat} (h : ∀ v, zlm la t n v ↔ zrb b m t v) (hi : i < n) (hj : j ≤ b.2.2.1) {v : Int} (q : zpq b la t i j v) : zrb b m (t + 1) v := by
  rcases q with ⟨k, hk, hf⟩ | ⟨k, hk, hd, e⟩
  · exact ⟨_, (h _).mp ⟨k, by omega, rfl⟩, hf⟩
  · exact ⟨_, (h _).mp ⟨i, hi, rfl⟩, k, by omega, hd, e⟩
/-- the ways, capped -/
def zlw (b : zb) (L : Nat) (ln la wa : Nat → Int32) (u : Nat) : Prop := ∀ n, ln u = nI n → n ≤ 41 → ∀ i, i < n → (wa (128 * u + i)).toInt = zcap (zwy b (L - u) (la (128 * u + i)).toInt)
def zly (b : zb) (m : Int) (L : Nat) (ln la wa : Nat → Int32) : Prop := (∀ u, u ≤ L → zlv b m ln la u) ∧ (∀ u, u ≤ L → zlw b L ln la wa u)
theorem nI_one {a c : Nat} (h : nI a = nI c) (ha : a < 1000) (hc : c < 1000) : a = c := by
  have := congrArg Int32.toInt h
  rw [nI_toInt (by omega), nI_toInt (by omega)] at this; omega
theorem zly_at {b : zb} {m : Int} {L : Nat} {ln la wa : Nat → Int32} (h : zly b m L ln la wa) {u : Nat} (hu : u ≤ L) {v : Int} (hv : zrb b m u v) : ∃ n, ln u = nI n ∧ n ≤ 41 ∧ zlm la u n v ∧ ∀ i, i < n → (la (128 * u + i)).toInt = v → (wa (128 * u + i)).toInt = zcap (zwy b (L - u) v) := by
  obtain ⟨n, a1, a2, a3⟩ := h.1 u hu
  exact ⟨n, a1, a2, (a3 v).mpr hv, fun i hi e => by rw [h.2 u hu n a1 a2 i hi, e]⟩
theorem zly_0 {b : zb} {m : Int} {L : Nat} {ln la wa : Nat → Int32} (h : zly b m L ln la wa) : (wa 0).toInt = zcap (zwy b L m) := by
  obtain ⟨n, a1, a2, ⟨i, hi, -⟩, a4⟩ := zly_at h (Nat.zero_le L) (v := m) rfl
  obtain ⟨n2, b1, b2, b3⟩ := h.1 0 (Nat.zero_le L)
  have e : n2 = n := nI_one (b1.symm.trans a1) (by omega) (by omega)
  subst e
  have h0 : (la (128 * 0 + 0)).toInt = m := (b3 _).mp ⟨0, by omega, rfl⟩
  have := a4 0 (by omega) h0
  rw [Nat.sub_zero] at this
  exact this
theorem zfd_ex (x : Int) {y : Int} (hy : y ≠ 0) : ∃ r, zfd x y r := by
  rcases Int.lt_or_gt_of_ne hy with h | h
  · refine ⟨(-x) / (-y), fun h2 => by omega, fun _ => ?_⟩
    have h1 := Int.emod_nonneg (-x) (b := -y) (by omega)
    have h2 := Int.emod_lt_of_pos (-x) (b := -y) (by omega)
    have h3 := Int.mul_ediv_add_emod (-x) (-y)
    have h4 : y * ((-x) / (-y)) = -(-y * ((-x) / (-y))) := by rw [Int.neg_mul, Int.neg_neg]
    omega
  · refine ⟨x / y, fun _ => ?_, fun h2 => by omega⟩
    have h1 := Int.emod_nonneg x hy
    have h2 := Int.emod_lt_of_pos x h
    have h3 := Int.mul_ediv_add_emod x y
    omega
theorem zbd_ex {b : zb} (hok : zb_ok b) {x : Int} (hx : -100000 ≤ x ∧ x ≤ 100000) : ∀ L : Nat, ∃ lo hi : Nat → Int, lo 0 = x ∧ hi 0 = x ∧ (∀ l, l ≤ L → hi l ≤ lo l + 40 ∧ (-100000 ≤ lo l ∧ lo l ≤ 100000) ∧ (-100000 ≤ hi l ∧ hi l ≤ 100000)) ∧ ∀ l, l < L → ∀ v, lo l ≤ v → v ≤ hi l → ∀ i, i < b.2.2.1 → b.1 ∣ (b.2.1 * v - b.2.2.2 i) → lo (l + 1) ≤ (b.2.1 * v - b.2.2.2 i).tdiv b.1 ∧ (b.2.1 * v - b.2.2.2 i).tdiv b.1 ≤ hi (l + 1)
  | 0 => ⟨fun _ => x, fun _ => x, rfl, rfl, fun l _ => by dsimp only; omega, fun l hl => absurd hl (Nat.not_lt_zero l)⟩
  | L + 1 => by
    obtain ⟨lo, hi, a1, a2, a3, a4⟩ := zbd_ex hok hx L
    have hp : b.1 ≠ 0 := by have := hok.1; omega
    obtain ⟨c1, k1⟩ := zfd_ex (-(b.2.1 * lo L - zmx b.2.2.2 b.2.2.1)) hp
    obtain ⟨c2, k2⟩ := zfd_ex (-(b.2.1 * hi L - zmn b.2.2.2 b.2.2.1)) hp
    obtain ⟨c3, k3⟩ := zfd_ex (b.2.1 * hi L - zmn b.2.2.2 b.2.2.1) hp
    obtain ⟨c4, k4⟩ := zfd_ex (b.2.1 * lo L - zmx b.2.2.2 b.2.2.1) hp
    have hL := a3 L (Nat.le_refl L)
    have hs := zbd_step hok (lo := lo L) (hi := hi L) (nl := if 0 < b.1 then -c1 else -c2) (nh := if 0 < b.1 then c3 else c4) hL.1 hL.2.1 hL.2.2 ⟨fun h => by rw [if_pos h, Int.neg_neg]; exact k1, fun h => by rw [if_neg (by omega), Int.neg_neg]; exact k2⟩ ⟨fun h => by rw [if_pos h]; exact k3, fun h => by rw [if_neg (by omega)]; exact k4⟩
    obtain ⟨nl, enl⟩ : ∃ nl, nl = if 0 < b.1 then -c1 else -c2 := ⟨_, rfl⟩
    obtain ⟨nh, enh⟩ : ∃ nh, nh = if 0 < b.1 then c3 else c4 := ⟨_, rfl⟩
    rw [← enl, ← enh] at hs
    refine ⟨fun l => if l ≤ L then lo l else nl, fun l => if l ≤ L then hi l else nh, ?_, ?_, fun l hl => ?_, fun l hl v h1 h2 i hi' hd => ?_⟩
    · show (if 0 ≤ L then lo 0 else nl) = x
      rw [if_pos (by omega)]; exact a1
    · show (if 0 ≤ L then hi 0 else nh) = x
      rw [if_pos (by omega)]; exact a2
    · dsimp only
      by_cases h : l ≤ L
      · rw [if_pos h, if_pos h]; exact a3 l h
      · rw [if_neg h, if_neg h]; exact ⟨hs.1, hs.2.1, hs.2.2.1⟩
    · dsimp only at h1 h2 ⊢
      rw [if_pos (by omega)] at h1 h2
      by_cases h : l + 1 ≤ L
      · rw [if_pos h, if_pos h]; exact a4 l (by omega) v h1 h2 i hi' hd
      · have e : l = L := by omega
        subst e
        rw [if_neg h, if_neg h]; exact hs.2.2.2 v h1 h2 i hi' hd
theorem zbd_is {b : zb} (hok : zb_ok b) {x : Int} (hx : -100000 ≤ x ∧ x ≤ 100000) : ∃ lo : Nat → Int, ∀ l, l ≤ 12 → (-100000 ≤ lo l ∧ lo l ≤ 100000) ∧ ∀ v, zrb b x l v → lo l ≤ v ∧ v ≤ lo l + 40 ∧ -100000 ≤ v ∧ v ≤ 100000 := by
  obtain ⟨lo, hi, a1, a2, a3, a4⟩ := zbd_ex hok hx 12
  refine ⟨lo, fun l hl => ⟨(a3 l hl).2.1, fun v hv => ?_⟩⟩
  have h1 := zrb_in (lo := lo) (hi := hi) ⟨a1, a2, a4⟩ hl hv
  have h2 := a3 l hl
  omega
theorem zwy_s (b : zb) (d : Nat) (v : Int) : zwy b (d + 1) v = zsum (zwb b d v) b.2.2.1 := zwy_succ b d v
theorem zwb_pos2 {b : zb} (hok : zb_ok b) (d : Nat) (v : Int) (i : Nat) : 0 ≤ zwb b d v i := by
  unfold zwb
  split
  · exact (zwy_bd hok d _).1
  · omega
theorem zsum_pos {f : Nat → Int} (h : ∀ i, 0 ≤ f i) : ∀ n, 0 ≤ zsum f n
  | 0 => by unfold zsum; omega
  | n + 1 => by
    have := zsum_pos h n
    have := h n
    show 0 ≤ zsum f n + f n
    omega
theorem zwb_no {b : zb} {d : Nat} {v : Int} {i : Nat} (h : ¬ b.1 ∣ (b.2.1 * v - b.2.2.2 i)) : zwb b d v i = 0 := by
  unfold zwb
  rw [if_neg h]
theorem zrb_pre {b : zb} {x y : Int} (hxy : zfrom b x y) : ∀ {L : Nat}, ∀ {v : Int}, zrb b y L v → zrb b x (L + 1) v
  | 0, v, h => by
    have e : v = y := h
    rw [e]
    exact ⟨x, rfl, hxy⟩
  | L + 1, v, ⟨u, hu, hf⟩ => ⟨u, zrb_pre hxy hu, hf⟩
theorem zrb_suf {b : zb} {x : Int} : ∀ {L : Nat}, ∀ {v : Int}, zrb b x (L + 1) v → ∃ y, zfrom b x y ∧ zrb b y L v
  | 0, v, ⟨u, hu, hf⟩ => by
    have e : u = x := hu
    subst e
    exact ⟨v, hf, rfl⟩
  | L + 1, v, ⟨u, hu, hf⟩ => by
    obtain ⟨y, h1, h2⟩ := zrb_suf hu
    exact ⟨y, h1, u, h2, hf⟩
theorem zsum_ex {f : Nat → Int} (h : ∀ i, 0 ≤ f i) : ∀ n, 0 < zsum f n ↔ ∃ i, i < n ∧ 0 < f i
  | 0 => ⟨fun q => absurd q (by unfold zsum; omega), fun ⟨i, hi, _⟩ => absurd hi (Nat.not_lt_zero i)⟩
  | n + 1 => by
    have ih := zsum_ex h n
    have h1 := zsum_pos h n
    have h2 := h n
    show 0 < zsum f n + f n ↔ _
    constructor
    · intro q
      rcases Int.lt_or_le 0 (f n) with c | c
      · exact ⟨n, by omega, c⟩
      · obtain ⟨i, hi, e⟩ := ih.mp (by omega)
        exact ⟨i, by omega, e⟩
    · intro ⟨i, hi, e⟩
      by_cases c : i = n
      · subst c; omega
      · have := ih.mpr ⟨i, by omega, e⟩
        omega
theorem zwy_rb {b : zb} (hok : zb_ok b) : ∀ (L : Nat) (v : Int), 0 < zwy b L v ↔ zrb b v L 0
  | 0, v => by
    unfold zwy zrb
    by_cases h : v = 0
    · rw [if_pos h]; exact ⟨fun _ => h.symm, fun _ => by omega⟩
    · rw [if_neg h]; exact ⟨fun q => by omega, fun q => absurd q.symm h⟩
  | L + 1, v => by
    rw [zwy_succ, zsum_ex (zwb_pos2 hok L v)]
    constructor
    · intro ⟨i, hi, e⟩
      by_cases hd : b.1 ∣ (b.2.1 * v - b.2.2.2 i)
      · rw [zwb_pos hd] at e
        exact zrb_pre (v := 0) ⟨i, hi, hd, rfl⟩ ((zwy_rb hok L _).mp e)
      · rw [zwb_no hd] at e; exact absurd e (by omega)
    · intro h
      obtain ⟨y, ⟨i, hi, hd, e⟩, h2⟩ := zrb_suf h
      exact ⟨i, hi, by rw [zwb_pos hd, ← e]; exact (zwy_rb hok L y).mpr h2⟩
theorem zm_ix128 {a j : Nat} (h : a < 1000) (hj : j < 1000) : ((128 : Int32) * nI a) + nI j = nI (128 * a + j) := by
  have e1 : ((128 : Int32) * nI a).toInt = 128 * (a : Int) := by
    rw [fb_mulI (by rw [show (128 : Int32).toInt = 128 from rfl, nI_toInt (by omega)]; omega) (by rw [show (128 : Int32).toInt = 128 from rfl, nI_toInt (by omega)]; omega), show (128 : Int32).toInt = 128 from rfl, nI_toInt (by omega)]
  exact z_inj (by rw [fb_addI (by rw [e1, nI_toInt (by omega)]; omega) (by rw [e1, nI_toInt (by omega)]; omega), e1, nI_toInt (by omega), nI_toInt (by omega)]; omega)
theorem zm_x128 {a : Nat} (h : a < 1000) : (128 : Int32) * nI a = nI (128 * a) :=
  z_inj (by rw [fb_mulI (by rw [show (128 : Int32).toInt = 128 from rfl, nI_toInt (by omega)]; omega) (by rw [show (128 : Int32).toInt = 128 from rfl, nI_toInt (by omega)]; omega), show (128 : Int32).toInt = 128 from rfl, nI_toInt (by omega), nI_toInt (by omega)]; omega)
theorem z_mx.lay {Z : zT} {g g1 : Nat → va_E} {rw9 : Nat → zr} (h : z_mx Z g rw9) {e1 e2 e3 : Nat → Int32} (h49 : g1 49 = .inl (Z.2.2.2 0, 13, .inl e1)) (h50 : g1 50 = .inl (Z.2.2.2 0, 1664, .inl e2)) (h51 : g1 51 = .inl (Z.2.2.2 0, 1664, .inl e3)) (hf : ∀ j, 46 ≤ j → j < 57 → (j < 49 ∨ 52 ≤ j) → g1 j = g j) : z_mx Z g1 rw9 := by
  obtain ⟨⟨f1, a1⟩, ⟨f2, a2⟩, ⟨f3, a3⟩, -, -, -, ⟨f7, a7, b7⟩, ⟨f8, a8, b8⟩, ⟨f9, a9⟩, ⟨f10, a10⟩, f11, a11⟩ := h
  exact ⟨⟨f1, (hf _ (by omega) (by omega) (by omega)).trans a1⟩, ⟨f2, (hf _ (by omega) (by omega) (by omega)).trans a2⟩, ⟨f3, (hf _ (by omega) (by omega) (by omega)).trans a3⟩, ⟨e1, h49⟩, ⟨e2, h50⟩, ⟨e3, h51⟩, ⟨f7, (hf _ (by omega) (by omega) (by omega)).trans a7, b7⟩, ⟨f8, (hf _ (by omega) (by omega) (by omega)).trans a8, b8⟩, ⟨f9, (hf _ (by omega) (by omega) (by omega)).trans a9⟩, ⟨f10, (hf _ (by omega) (by omega) (by omega)).trans a10⟩, f11, (hf _ (by omega) (by omega) (by omega)).trans a11⟩
theorem zln_0 (la : Nat → Int32) (t : Nat) (lo : Int) : zln la t 0 lo = 0 :=
  zct_false (c := fun u => @decide (zlm la t 0 (lo + (u : Int))) (Classical.propDecidable _)) 0 (j := 41) (fun u _ _ => zdec_f (fun ⟨i, hi, _⟩ => absurd hi (Nat.not_lt_zero i)))
def zpw (b : zb) (L t : Nat) (v : Int) (j : Nat) : Int := if t = L then (if v = 0 then 1 else 0) else zsum (zwb b (L - t - 1) v) j
theorem zpw_0 {b : zb} {L t : Nat} {v : Int} (h : ¬ t = L) : (0 : Int32).toInt = zcap (zpw b L t v 0) := by
  unfold zpw
  rw [if_neg h]
  rfl
theorem zpw_e1 {b : zb} {L t : Nat} {v : Int} (h : t = L) (hv : v = 0) : (1 : Int32).toInt = zcap (zpw b L t v 0) := by
  unfold zpw
  rw [if_pos h, if_pos hv]
  rfl
theorem zpw_e0 {b : zb} {L t : Nat} {v : Int} (h : t = L) (hv : ¬ v = 0) : (0 : Int32).toInt = zcap (zpw b L t v 0) := by
  unfold zpw
  rw [if_pos h, if_neg hv]
  rfl
theorem zpw_fL {b : zb} {L t : Nat} {v : Int} {j : Nat} (h : t = L) : zpw b L t v j = zwy b (L - t) v := by
  unfold zpw
  rw [if_pos h, h, Nat.sub_self]
  rfl
theorem zpw_fn {b : zb} {L t : Nat} {v : Int} (h : t ≤ L) : zpw b L t v b.2.2.1 = zwy b (L - t) v := by
  by_cases e : t = L
  · exact zpw_fL e
  · unfold zpw
    rw [if_neg e, show L - t = (L - t - 1) + 1 by omega, zwy_succ, show L - t - 1 + 1 - 1 = L - t - 1 by omega]
theorem zpw_s {b : zb} {L t : Nat} {v : Int} {j : Nat} (h : t < L) : zpw b L t v (j + 1) = zpw b L t v j + zwb b (L - t - 1) v j := by
  unfold zpw
  rw [if_neg (by omega), if_neg (by omega)]
  rfl
theorem zpw_nn {b : zb} (hok : zb_ok b) (L t : Nat) (v : Int) (j : Nat) : 0 ≤ zpw b L t v j := by
  unfold zpw
  split
  · split <;> omega
  · exact zsum_pos (zwb_pos2 hok _ v) j
theorem zcap_zite (x : Int) : zcap x = zite (1000000 < x) 1000000 x := by
  unfold zcap
  by_cases h : 1000000 < x
  · rw [if_pos h, zite_t h]
  · rw [if_neg h, zite_f h]
theorem zcap_lt {k x : Int} (h : k ≤ 999999) : k < zcap x ↔ k < x := by
  unfold zcap
  split <;> omega
theorem zcap_eq {k x : Int} (h : k ≤ 999999) (h2 : zcap x ≤ k) : zcap x = x := by
  unfold zcap at h2 ⊢
  split at h2
  · omega
  · rw [if_neg ‹_›]
theorem zcap_pos {x : Int} : 0 < zcap x ↔ 0 < x := by
  unfold zcap
  split <;> omega
theorem zsel_no {f : Nat → Int} {c a : Nat} {r : Int} (h : a < c) (h2 : ¬ r < f a) : zsel f (c - (a + 1)) (a + 1) (r - f a) = zsel f (c - a) a r := by
  rw [show c - a = (c - (a + 1)) + 1 by omega]
  show _ = if r < f a then (a, r) else zsel f (c - (a + 1)) (a + 1) (r - f a)
  rw [if_neg h2]
theorem zsel_yes {f : Nat → Int} {c a : Nat} {r : Int} (h : a < c) (h2 : r < f a) : zsel f (c - a) a r = (a, r) := by
  rw [show c - a = (c - (a + 1)) + 1 by omega]
  show (if r < f a then (a, r) else zsel f (c - (a + 1)) (a + 1) (r - f a)) = _
  rw [if_pos h2]
theorem zexd_0 {b : zb} {d : Nat} {v r : Int} {a : Nat} {r2 : Int} (h : zsel (zwb b d v) b.2.2.1 0 r = (a, r2)) : zexd b (d + 1) v r 0 = b.2.2.2 a := by
  show b.2.2.2 (zsel (zwb b d v) b.2.2.1 0 r).1 = _
  rw [h]
theorem zexd_s {b : zb} {d : Nat} {v r : Int} {a : Nat} {r2 : Int} (h : zsel (zwb b d v) b.2.2.1 0 r = (a, r2)) (e : Nat) : zexd b (d + 1) v r (e + 1) = zexd b d ((b.2.1 * v - b.2.2.2 a).tdiv b.1) r2 e := by
  show zexd b d ((b.2.1 * v - b.2.2.2 (zsel (zwb b d v) b.2.2.1 0 r).1).tdiv b.1) (zsel (zwb b d v) b.2.2.1 0 r).2 e = _
  rw [h]
theorem in_X10_placeIn_10 : ∀ w ∈ wsX100, w ∈ wsX10_placeIn := by decide +kernel
set_option maxHeartbeats 4000000 in
set_option maxRecDepth 100000 in
theorem m_placeIn (Z : zT) (g : Nat → va_E) (sg : Nat → zb) (hM : z_mr Z g sg) (ln la : Nat → Int32) (h_lm : g 49 = .inl (Z.2.2.2 0, 13, .inl ln)) (h_la : g 50 = .inl (Z.2.2.2 0, 1664, .inl la)) (t n : Nat) (ht : t ≤ 12) (hn : n ≤ 41) (hln : ln t = nI n) (x : Int32) : z_Mi Z yX10_placeIn wsX10_placeIn 0 0 [.ref (Z.2.1 41), .int (nI t), .int x] g (fun r g1 => g = g1 ∧ ((∃ i, i < n ∧ (la (128 * t + i)).toInt = x.toInt ∧ r = nI (128 * t + i)) ∨ ((∀ i, i < n → (la (128 * t + i)).toInt ≠ x.toInt) ∧ r = -1))) := by
  intro l sz
  obtain ⟨v4, v5, v6, v15, v16, v17, fu, fq, fm, fd, h_m, h_u, h_q, h_n9, h_g, hMN, hSg⟩ := id hM
  have hM41 : 41 < Z.1 := by omega
  have hM42 : 42 < Z.1 := by omega
  have hM43 : 43 < Z.1 := by omega
  have hM44 : 44 < Z.1 := by omega
  have hM45 : 45 < Z.1 := by omega
  have hM49 : 49 < Z.1 := by omega
  have hM50 : 50 < Z.1 := by omega
  have hM51 : 51 < Z.1 := by omega
  refine z_enter (maxL := 4) (ret := (some .int)) (lv := [(0, .ref (Z.2.1 41)), (1, .int (nI t)), (2, .int x)]) (plainFor_of_name (by decide +kernel)) rfl (fun ls h => by subst h; exact lv_entry [.ref (Z.2.1 41), .int (nI t), .int x] (n := 4) (Nat.le_of_ble_eq_true rfl)) ?_
  intro p e s m args below meth c hx hb hml hr hlocks hown hts hK hS hsz ls hl
  refine lv_sipush (v := 128) hx hb dX10_placeIn_0 (by decide) ?_
  refine lv_iload_n hx hb dX10_placeIn_3 rfl (lv_at hl 1 rfl) ?_
  refine lv_imul hx hb dX10_placeIn_4 ?_
  rw [show 128 * (nI t) = nI (128 * t) from zm_x128 (by omega)]
  refine lv_istore_n (lv' := [(3, .int (nI (128 * t))), (0, .ref (Z.2.1 41)), (1, .int (nI t)), (2, .int x)]) hx hb dX10_placeIn_5 rfl hl (by decide) rfl (fun ls hl => ?_)
  have hcut_6 : ∀ (nn_6 : Nat) (i : Nat) (hi : i ≤ n) (hno : ∀ k, k < i → (la (128 * t + k)).toInt ≠ x.toInt) (hm_6 : n - i < nn_6) (H : Heap) (locs : List Loc) (ls : Array Slot), z_S Z (z_A Z sz) s.heap g H locs → lv_has ls 4 [(0, .ref (Z.2.1 41)), (1, .int (nI t)), (2, .int x), (3, .int (nI (128 * t + i)))] → W p l e (headSpec wsX10_placeIn (z_rm 0 0)).room s m args below meth c H locs 0 0 (MQ below (va_Qi (fun r g1 => g = g1 ∧ ((∃ i, i < n ∧ (la (128 * t + i)).toInt = x.toInt ∧ r = nI (128 * t + i)) ∨ ((∀ i, i < n → (la (128 * t + i)).toInt ≠ x.toInt) ∧ r = -1))) (z_B Z) (z_A Z sz)) args s 0 0 (z_A Z sz)) (F0 m 6 ls []) := by
    intro nn_6
    induction nn_6 with
    | zero => intro i hi hno hm_6 H locs ls hS hl; exact absurd hm_6 (Nat.not_lt_zero _)
    | succ nn_6 ih_6 =>
      intro i hi hno hm_6 H locs ls hS hl
      refine lv_iload_n hx hb dX10_placeIn_6 rfl (lv_at hl 3 rfl) ?_
      refine lv_sipush (v := 128) hx hb dX10_placeIn_7 (by decide) ?_
      refine lv_iload_n hx hb dX10_placeIn_10 rfl (lv_at hl 1 rfl) ?_
      refine lv_imul hx hb dX10_placeIn_11 ?_
      rw [show 128 * (nI t) = nI (128 * t) from zm_x128 (by omega)]
      refine lv_aload_n hx hb dX10_placeIn_12 rfl (lv_at hl 0 rfl) ?_
      refine z_get (own := RX10) (C := RX10) (T := TX10) (N := 21) hx hb hts in_X10_placeIn_10 hown hK hS h_m hM41 rfl 10 (by decide) (List.mem_of_getElem? (i := 1) rfl) rfl rfl dX10_placeIn_13 ?_
      refine lv_iload_n hx hb dX10_placeIn_16 rfl (lv_at hl 1 rfl) ?_
      refine z_iald hx hb hK hS h_lm hM49 (vp_in_nI (by omega) (by omega)) dX10_placeIn_17 ?_
      rw [show ln (nI t).toNatClampNeg = nI n from by rw [nI_clamp (by omega)]; exact hln]
      refine lv_iadd hx hb dX10_placeIn_18 ?_
      rw [show (nI (128 * t)) + (nI n) = nI (128 * t + n) from zm_add (by omega)]
      refine lv_icmp_ge (tgt := 40) hx hb dX10_placeIn_19 (by decide) (fun c_1 => ?_) (fun c_1 => ?_)
      · have i_1 := z_le c_1
        rw [nI_toInt (by omega)] at i_1
        rw [nI_toInt (by omega)] at i_1
        have hin : n ≤ i := by omega
        refine lv_iconst (v := (-1)) hx hb dX10_placeIn_40 (by decide) ?_
        refine z_iret hx hb hr hlocks hS ?_ dX10_placeIn_41
        exact ⟨rfl, Or.inr ⟨fun k hk => hno k (by omega), rfl⟩⟩
      · have i_1 := z_nle c_1
        rw [nI_toInt (by omega)] at i_1
        rw [nI_toInt (by omega)] at i_1
        have hin : i < n := by omega
        refine lv_aload_n hx hb dX10_placeIn_22 rfl (lv_at hl 0 rfl) ?_
        refine z_get (own := RX10) (C := RX10) (T := TX10) (N := 21) hx hb hts in_X10_placeIn_10 hown hK hS h_m hM41 rfl 11 (by decide) (List.mem_of_getElem? (i := 2) rfl) rfl rfl dX10_placeIn_23 ?_
        refine lv_iload_n hx hb dX10_placeIn_26 rfl (lv_at hl 3 rfl) ?_
        refine z_iald hx hb hK hS h_la hM50 (vp_in_nI (by omega) (by omega)) dX10_placeIn_27 ?_
        rw [show la (nI (128 * t + i)).toNatClampNeg = la (128 * t + i) from by rw [nI_clamp (by omega)]]
        refine lv_iload_n hx hb dX10_placeIn_28 rfl (lv_at hl 2 rfl) ?_
        refine lv_icmp_ne (tgt := 34) hx hb dX10_placeIn_29 (by decide) (fun c_2 => ?_) (fun c_2 => ?_)
        · have i_2 := z_ne c_2
          have hne := i_2
          refine lv_iinc (v := (nI (128 * t + i + 1))) (lv' := [(3, .int (nI (128 * t + i + 1))), (0, .ref (Z.2.1 41)), (1, .int (nI t)), (2, .int x)]) hx hb dX10_placeIn_34 hl (k := 3) rfl (nI_1 _) (by decide) rfl (fun ls hl => ?_)
          refine lv_goto (tgt := 6) hx hb dX10_placeIn_37 (by decide) ?_
          exact ih_6 (i + 1) (by omega) (fun k hk => by
              rcases Nat.lt_or_ge k i with q9 | q9
              · exact hno k q9
              · have : k = i := by omega
                subst this; exact hne) (by omega) _ _ _ hS (lv_sub hl [1, 2, 3, 0] rfl)
        · have i_2 := z_eq c_2
          have hye := i_2
          refine lv_iload_n hx hb dX10_placeIn_32 rfl (lv_at hl 3 rfl) ?_
          refine z_iret hx hb hr hlocks hS ?_ dX10_placeIn_33
          exact ⟨rfl, Or.inl ⟨i, hin, hye, rfl⟩⟩
  exact hcut_6 (n - 0 + 1) 0 (by omega) (fun k hk => absurd hk (Nat.not_lt_zero k)) (Nat.lt_succ_self _) _ _ _ hS (lv_sub hl [1, 2, 3, 0] rfl)

theorem in_X10_layLevels_10 : ∀ w ∈ wsX100, w ∈ wsX10_layLevels := by decide +kernel
set_option maxHeartbeats 4000000 in
set_option maxRecDepth 100000 in
theorem m_layLevels (Z : zT) (g : Nat → va_E) (sg : Nat → zb) (hM : z_mr Z g sg) (s1 : Nat) (hs1 : s1 < 2) (ln la wa : Nat → Int32) (h_lm : g 49 = .inl (Z.2.2.2 0, 13, .inl ln)) (h_la : g 50 = .inl (Z.2.2.2 0, 1664, .inl la)) (h_wa : g 51 = .inl (Z.2.2.2 0, 1664, .inl wa)) (y : Int32) (hym : -100000 ≤ y.toInt ∧ y.toInt ≤ 100000) (L : Nat) (hL : L ≤ 12) : z_Mv Z yX10_layLevels wsX10_layLevels 1 23 [.ref (Z.2.1 41), .int (nI s1), .int y, .int (nI L)] g (fun g1 => ∃ ln1 la1 wa1 : Nat → Int32, g1 49 = .inl (Z.2.2.2 0, 13, .inl ln1) ∧ g1 50 = .inl (Z.2.2.2 0, 1664, .inl la1) ∧ g1 51 = .inl (Z.2.2.2 0, 1664, .inl wa1) ∧ zly (sg s1) y.toInt L ln1 la1 wa1 ∧ z_fr 49 3 g g1) := by
  intro l sz
  obtain ⟨v4, v5, v6, v15, v16, v17, fu, fq, fm, fd, h_m, h_u, h_q, h_n9, h_g, hMN, hSg⟩ := id hM
  have hM41 : 41 < Z.1 := by omega
  have hM42 : 42 < Z.1 := by omega
  have hM43 : 43 < Z.1 := by omega
  have hM44 : 44 < Z.1 := by omega
  have hM45 : 45 < Z.1 := by omega
  obtain ⟨hok, hp, hq, hm, hd⟩ := hSg s1 hs1
  have hPb := zP_bd hok
  have hn12 := hok.2.2.2.1
  have hq1 := hok.2.1
  have hM49 : 49 < Z.1 := by omega
  have hM50 : 50 < Z.1 := by omega
  have hM51 : 51 < Z.1 := by omega
  obtain ⟨lo, hlo⟩ := zbd_is hok hym
  refine z_enter (maxL := 8) (ret := none) (lv := [(0, .ref (Z.2.1 41)), (1, .int (nI s1)), (2, .int y), (3, .int (nI L))]) (plainFor_of_name (by decide +kernel)) rfl (fun ls h => by subst h; exact lv_entry [.ref (Z.2.1 41), .int (nI s1), .int y, .int (nI L)] (n := 8) (Nat.le_of_ble_eq_true rfl)) ?_
  intro p e s m args below meth c hx hb hml hr hlocks hown hts hK hS hsz ls hl
  refine lv_aload_n hx hb dX10_layLevels_0 rfl (lv_at hl 0 rfl) ?_
  refine z_get (own := RX10) (C := RX10) (T := TX10) (N := 21) hx hb hts in_X10_layLevels_10 hown hK hS h_m hM41 rfl 10 (by decide) (List.mem_of_getElem? (i := 1) rfl) rfl rfl dX10_layLevels_1 ?_
  refine lv_iconst (v := 0) hx hb dX10_layLevels_4 (by decide) ?_
  refine lv_iconst (v := 1) hx hb dX10_layLevels_5 (by decide) ?_
  refine z_iast hx hb hK hS h_lm hM49 (vp_in_iff.mpr (by rw [tI_0]; omega)) dX10_layLevels_6 (fun g_1 H locs hg_1 hS => ?_)
  have h_lm : g_1 49 = .inl (Z.2.2.2 0, 13, .inl (upd ln (0 : Int32).toNatClampNeg 1)) := z_up_s hg_1
  have h_m := z_up_n hg_1 h_m (by omega)
  have h_u := z_up_n hg_1 h_u (by omega)
  have h_q := z_up_n hg_1 h_q (by omega)
  have h_n9 := z_up_n hg_1 h_n9 (by omega)
  have h_g := z_up_n hg_1 h_g (by omega)
  have h_la := z_up_n hg_1 h_la (by omega)
  have h_wa := z_up_n hg_1 h_wa (by omega)
  refine lv_aload_n hx hb dX10_layLevels_7 rfl (lv_at hl 0 rfl) ?_
  refine z_get (own := RX10) (C := RX10) (T := TX10) (N := 21) hx hb hts in_X10_layLevels_10 hown hK hS h_m hM41 rfl 11 (by decide) (List.mem_of_getElem? (i := 2) rfl) rfl rfl dX10_layLevels_8 ?_
  refine lv_iconst (v := 0) hx hb dX10_layLevels_11 (by decide) ?_
  refine lv_iload_n hx hb dX10_layLevels_12 rfl (lv_at hl 2 rfl) ?_
  refine z_iast hx hb hK hS h_la hM50 (vp_in_iff.mpr (by rw [tI_0]; omega)) dX10_layLevels_13 (fun g_2 H locs hg_2 hS => ?_)
  have h_la : g_2 50 = .inl (Z.2.2.2 0, 1664, .inl (upd la (0 : Int32).toNatClampNeg y)) := z_up_s hg_2
  have h_m := z_up_n hg_2 h_m (by omega)
  have h_u := z_up_n hg_2 h_u (by omega)
  have h_q := z_up_n hg_2 h_q (by omega)
  have h_n9 := z_up_n hg_2 h_n9 (by omega)
  have h_g := z_up_n hg_2 h_g (by omega)
  have h_lm := z_up_n hg_2 h_lm (by omega)
  have h_wa := z_up_n hg_2 h_wa (by omega)
  rw [show (0 : Int32).toNatClampNeg = 0 from rfl] at h_lm h_la
  refine lv_iconst (v := 0) hx hb dX10_layLevels_14 (by decide) ?_
  refine lv_istore (lv' := [(4, .int 0), (0, .ref (Z.2.1 41)), (1, .int (nI s1)), (2, .int y), (3, .int (nI L))]) hx hb dX10_layLevels_15 hl (by decide) rfl (fun ls hl => ?_)
  have hcut_17 : ∀ (nn_17 : Nat) (t : Nat) (ln1 : Nat → Int32) (la1 : Nat → Int32) (ga : Nat → va_E) (h_m : ga 41 = .inr (10, [.ref (Z.2.1 42), .ref (Z.2.1 43), .ref (Z.2.1 44), .ref (Z.2.1 45), .int v4, .int v5, .int v6, .ref (Z.2.1 46), .ref (Z.2.1 47), .ref (Z.2.1 48), .ref (Z.2.1 49), .ref (Z.2.1 50), .ref (Z.2.1 51), .ref (Z.2.1 52), .ref (Z.2.1 53), .long v15, .long v16, .int v17, .ref (Z.2.1 54), .ref (Z.2.1 55), .ref (Z.2.1 56)])) (h_u : ga 42 = .inl (Z.2.2.2 0, 2, .inl fu)) (h_q : ga 43 = .inl (Z.2.2.2 0, 2, .inl fq)) (h_n9 : ga 44 = .inl (Z.2.2.2 0, 2, .inl fm)) (h_g : ga 45 = .inl (Z.2.2.2 0, 24, .inl fd)) (h_lm : ga 49 = .inl (Z.2.2.2 0, 13, .inl ln1)) (h_la : ga 50 = .inl (Z.2.2.2 0, 1664, .inl la1)) (h_wa : ga 51 = .inl (Z.2.2.2 0, 1664, .inl wa)) (hfr_ga : z_fr 49 3 g ga) (ht : t ≤ L) (hlv : ∀ u, u ≤ t → zlv (sg s1) y.toInt ln1 la1 u) (hm_17 : L - t < nn_17) (H : Heap) (locs : List Loc) (ls : Array Slot), z_S Z (z_A Z sz) s.heap ga H locs → lv_has ls 8 [(0, .ref (Z.2.1 41)), (1, .int (nI s1)), (2, .int y), (3, .int (nI L)), (4, .int (nI t))] → W p l e (headSpec wsX10_layLevels (z_rm 1 23)).room s m args below meth c H locs 0 0 (MQ below (va_Qv (fun g1 => ∃ ln1 la1 wa1 : Nat → Int32, g1 49 = .inl (Z.2.2.2 0, 13, .inl ln1) ∧ g1 50 = .inl (Z.2.2.2 0, 1664, .inl la1) ∧ g1 51 = .inl (Z.2.2.2 0, 1664, .inl wa1) ∧ zly (sg s1) y.toInt L ln1 la1 wa1 ∧ z_fr 49 3 g g1) (z_B Z) (z_A Z sz)) args s 0 0 (z_A Z sz)) (F0 m 17 ls []) := by
    intro nn_17
    induction nn_17 with
    | zero => intro t ln1 la1 ga h_m h_u h_q h_n9 h_g h_lm h_la h_wa hfr_ga ht hlv hm_17 H locs ls hS hl; exact absurd hm_17 (Nat.not_lt_zero _)
    | succ nn_17 ih_17 =>
      intro t ln1 la1 ga h_m h_u h_q h_n9 h_g h_lm h_la h_wa hfr_ga ht hlv hm_17 H locs ls hS hl
      refine lv_iload hx hb dX10_layLevels_17 (lv_at hl 4 rfl) ?_
      refine lv_iload_n hx hb dX10_layLevels_19 rfl (lv_at hl 3 rfl) ?_
      refine lv_icmp_ge (tgt := 184) hx hb dX10_layLevels_20 (by decide) (fun c_3 => ?_) (fun c_3 => ?_)
      · have i_3 := z_le c_3
        rw [nI_toInt (by omega)] at i_3
        rw [nI_toInt (by omega)] at i_3
        have htL : t = L := by omega
        have hlv9 : ∀ u, u ≤ L → zlv (sg s1) y.toInt ln1 la1 u := fun u hu => hlv u (by omega)
        refine lv_iload_n hx hb dX10_layLevels_184 rfl (lv_at hl 3 rfl) ?_
        refine lv_istore (lv' := [(4, .int (nI L)), (0, .ref (Z.2.1 41)), (1, .int (nI s1)), (2, .int y), (3, .int (nI L))]) hx hb dX10_layLevels_185 hl (by decide) rfl (fun ls hl => ?_)
        have hcut_187 : ∀ (nn_187 : Nat) (q : Nat) (lv : Int32) (wa1 : Nat → Int32) (gd : Nat → va_E) (h_m : gd 41 = .inr (10, [.ref (Z.2.1 42), .ref (Z.2.1 43), .ref (Z.2.1 44), .ref (Z.2.1 45), .int v4, .int v5, .int v6, .ref (Z.2.1 46), .ref (Z.2.1 47), .ref (Z.2.1 48), .ref (Z.2.1 49), .ref (Z.2.1 50), .ref (Z.2.1 51), .ref (Z.2.1 52), .ref (Z.2.1 53), .long v15, .long v16, .int v17, .ref (Z.2.1 54), .ref (Z.2.1 55), .ref (Z.2.1 56)])) (h_u : gd 42 = .inl (Z.2.2.2 0, 2, .inl fu)) (h_q : gd 43 = .inl (Z.2.2.2 0, 2, .inl fq)) (h_n9 : gd 44 = .inl (Z.2.2.2 0, 2, .inl fm)) (h_g : gd 45 = .inl (Z.2.2.2 0, 24, .inl fd)) (h_lm : gd 49 = .inl (Z.2.2.2 0, 13, .inl ln1)) (h_la : gd 50 = .inl (Z.2.2.2 0, 1664, .inl la1)) (h_wa : gd 51 = .inl (Z.2.2.2 0, 1664, .inl wa1)) (hfr_gd : z_fr 49 3 g gd) (hq9 : q ≤ L + 1) (hlq : lv.toInt = (q : Int) - 1) (hww : ∀ u, q ≤ u → u ≤ L → zlw (sg s1) L ln1 la1 wa1 u) (hm_187 : q < nn_187) (H : Heap) (locs : List Loc) (ls : Array Slot), z_S Z (z_A Z sz) s.heap gd H locs → lv_has ls 8 [(0, .ref (Z.2.1 41)), (1, .int (nI s1)), (2, .int y), (3, .int (nI L)), (4, .int lv)] → W p l e (headSpec wsX10_layLevels (z_rm 1 23)).room s m args below meth c H locs 0 0 (MQ below (va_Qv (fun g1 => ∃ ln1 la1 wa1 : Nat → Int32, g1 49 = .inl (Z.2.2.2 0, 13, .inl ln1) ∧ g1 50 = .inl (Z.2.2.2 0, 1664, .inl la1) ∧ g1 51 = .inl (Z.2.2.2 0, 1664, .inl wa1) ∧ zly (sg s1) y.toInt L ln1 la1 wa1 ∧ z_fr 49 3 g g1) (z_B Z) (z_A Z sz)) args s 0 0 (z_A Z sz)) (F0 m 187 ls []) := by
          intro nn_187
          induction nn_187 with
          | zero => intro q lv wa1 gd h_m h_u h_q h_n9 h_g h_lm h_la h_wa hfr_gd hq9 hlq hww hm_187 H locs ls hS hl; exact absurd hm_187 (Nat.not_lt_zero _)
          | succ nn_187 ih_187 =>
            intro q lv wa1 gd h_m h_u h_q h_n9 h_g h_lm h_la h_wa hfr_gd hq9 hlq hww hm_187 H locs ls hS hl
            refine lv_iload hx hb dX10_layLevels_187 (lv_at hl 4 rfl) ?_
            refine lv_if_lt (tgt := 372) hx hb dX10_layLevels_189 (by decide) (fun c_4 => ?_) (fun c_4 => ?_)
            · have i_4 := z_lt c_4
              rw [tI_0] at i_4
              have hq0 : q = 0 := by omega
              refine z_vret hx hb hr hlocks hS ?_ dX10_layLevels_372
              exact ⟨ln1, la1, wa1, h_lm, h_la, h_wa, ⟨hlv9, fun u hu => hww u (by omega) hu⟩, hfr_gd⟩
            · have i_4 := z_nlt c_4
              rw [tI_0] at i_4
              obtain ⟨t9, et9⟩ : ∃ t9, q = t9 + 1 := ⟨q - 1, by omega⟩
              subst et9
              have elv : lv = nI t9 := z_nI_is (by omega)
              subst elv
              obtain ⟨n9, hln9, hn941, hlm9⟩ := hlv9 t9 (by omega)
              refine lv_sipush (v := 128) hx hb dX10_layLevels_192 (by decide) ?_
              refine lv_iload hx hb dX10_layLevels_195 (lv_at hl 4 rfl) ?_
              refine lv_imul hx hb dX10_layLevels_197 ?_
              rw [show 128 * (nI t9) = nI (128 * t9) from zm_x128 (by omega)]
              refine lv_istore (lv' := [(5, .int (nI (128 * t9))), (0, .ref (Z.2.1 41)), (1, .int (nI s1)), (2, .int y), (3, .int (nI L)), (4, .int (nI t9))]) hx hb dX10_layLevels_198 hl (by decide) rfl (fun ls hl => ?_)
              have hcut_200 : ∀ (nn_200 : Nat) (i : Nat) (wa2 : Nat → Int32) (gf : Nat → va_E) (h_m : gf 41 = .inr (10, [.ref (Z.2.1 42), .ref (Z.2.1 43), .ref (Z.2.1 44), .ref (Z.2.1 45), .int v4, .int v5, .int v6, .ref (Z.2.1 46), .ref (Z.2.1 47), .ref (Z.2.1 48), .ref (Z.2.1 49), .ref (Z.2.1 50), .ref (Z.2.1 51), .ref (Z.2.1 52), .ref (Z.2.1 53), .long v15, .long v16, .int v17, .ref (Z.2.1 54), .ref (Z.2.1 55), .ref (Z.2.1 56)])) (h_u : gf 42 = .inl (Z.2.2.2 0, 2, .inl fu)) (h_q : gf 43 = .inl (Z.2.2.2 0, 2, .inl fq)) (h_n9 : gf 44 = .inl (Z.2.2.2 0, 2, .inl fm)) (h_g : gf 45 = .inl (Z.2.2.2 0, 24, .inl fd)) (h_lm : gf 49 = .inl (Z.2.2.2 0, 13, .inl ln1)) (h_la : gf 50 = .inl (Z.2.2.2 0, 1664, .inl la1)) (h_wa : gf 51 = .inl (Z.2.2.2 0, 1664, .inl wa2)) (hfr_gf : z_fr 49 3 g gf) (hi : i ≤ n9) (hwi : ∀ k, k < i → (wa2 (128 * t9 + k)).toInt = zcap (zwy (sg s1) (L - t9) (la1 (128 * t9 + k)).toInt)) (hwg : ∀ q, 128 * (t9 + 1) ≤ q → wa2 q = wa1 q) (hm_200 : n9 - i < nn_200) (H : Heap) (locs : List Loc) (ls : Array Slot), z_S Z (z_A Z sz) s.heap gf H locs → lv_has ls 8 [(0, .ref (Z.2.1 41)), (1, .int (nI s1)), (2, .int y), (3, .int (nI L)), (4, .int (nI t9)), (5, .int (nI (128 * t9 + i)))] → W p l e (headSpec wsX10_layLevels (z_rm 1 23)).room s m args below meth c H locs 0 0 (MQ below (va_Qv (fun g1 => ∃ ln1 la1 wa1 : Nat → Int32, g1 49 = .inl (Z.2.2.2 0, 13, .inl ln1) ∧ g1 50 = .inl (Z.2.2.2 0, 1664, .inl la1) ∧ g1 51 = .inl (Z.2.2.2 0, 1664, .inl wa1) ∧ zly (sg s1) y.toInt L ln1 la1 wa1 ∧ z_fr 49 3 g g1) (z_B Z) (z_A Z sz)) args s 0 0 (z_A Z sz)) (F0 m 200 ls []) := by
                intro nn_200
                induction nn_200 with
                | zero => intro i wa2 gf h_m h_u h_q h_n9 h_g h_lm h_la h_wa hfr_gf hi hwi hwg hm_200 H locs ls hS hl; exact absurd hm_200 (Nat.not_lt_zero _)
                | succ nn_200 ih_200 =>
                  intro i wa2 gf h_m h_u h_q h_n9 h_g h_lm h_la h_wa hfr_gf hi hwi hwg hm_200 H locs ls hS hl
                  refine lv_iload hx hb dX10_layLevels_200 (lv_at hl 5 rfl) ?_
                  refine lv_sipush (v := 128) hx hb dX10_layLevels_202 (by decide) ?_
                  refine lv_iload hx hb dX10_layLevels_205 (lv_at hl 4 rfl) ?_
                  refine lv_imul hx hb dX10_layLevels_207 ?_
                  rw [show 128 * (nI t9) = nI (128 * t9) from zm_x128 (by omega)]
                  refine lv_aload_n hx hb dX10_layLevels_208 rfl (lv_at hl 0 rfl) ?_
                  refine z_get (own := RX10) (C := RX10) (T := TX10) (N := 21) hx hb hts in_X10_layLevels_10 hown hK hS h_m hM41 rfl 10 (by decide) (List.mem_of_getElem? (i := 1) rfl) rfl rfl dX10_layLevels_209 ?_
                  refine lv_iload hx hb dX10_layLevels_212 (lv_at hl 4 rfl) ?_
                  refine z_iald hx hb hK hS h_lm hM49 (vp_in_nI (by omega) (by omega)) dX10_layLevels_214 ?_
                  rw [show ln1 (nI t9).toNatClampNeg = nI n9 from by rw [nI_clamp (by omega)]; exact hln9]
                  refine lv_iadd hx hb dX10_layLevels_215 ?_
                  rw [show (nI (128 * t9)) + (nI n9) = nI (128 * t9 + n9) from zm_add (by omega)]
                  refine lv_icmp_ge (tgt := 366) hx hb dX10_layLevels_216 (by decide) (fun c_5 => ?_) (fun c_5 => ?_)
                  · have i_5 := z_le c_5
                    rw [nI_toInt (by omega)] at i_5
                    rw [nI_toInt (by omega)] at i_5
                    have hin : i = n9 := by omega
                    obtain ⟨lv2, elv2⟩ : ∃ zz9 : Int32, zz9 = nI t9 + (-1) := ⟨_, rfl⟩
                    have hlv2 : lv2.toInt = (t9 : Int) - 1 := by rw [elv2, fb_addI (by rw [nI_toInt (by omega), tI_m1]; omega) (by rw [nI_toInt (by omega), tI_m1]; omega), nI_toInt (by omega), tI_m1]; omega
                    refine lv_iinc (v := lv2) (lv' := [(4, .int lv2), (0, .ref (Z.2.1 41)), (1, .int (nI s1)), (2, .int y), (3, .int (nI L)), (5, .int (nI (128 * t9 + i)))]) hx hb dX10_layLevels_366 hl (k := 4) rfl (by rw [elv2]; rfl) (by decide) rfl (fun ls hl => ?_)
                    refine lv_goto (tgt := 187) hx hb dX10_layLevels_369 (by decide) ?_
                    exact ih_187 t9 lv2 wa2 gf h_m h_u h_q h_n9 h_g h_lm h_la h_wa hfr_gf (by omega) hlv2 (fun u h1 h2 => by
                        by_cases h9 : u = t9
                        · subst h9
                          intro n hn hn1 k hk
                          have h8 := nI_one (hln9.symm.trans hn) (by omega) (by omega)
                          exact hwi k (by omega)
                        · intro n hn hn1 k hk
                          rw [hwg _ (by omega)]; exact hww u (by omega) h2 n hn hn1 k hk) (by omega) _ _ _ hS (lv_sub hl [1, 2, 3, 4, 0] rfl)
                  · have i_5 := z_nle c_5
                    rw [nI_toInt (by omega)] at i_5
                    rw [nI_toInt (by omega)] at i_5
                    have hin : i < n9 := by omega
                    have hxv := (hlm9 _).mp ⟨i, hin, rfl⟩
                    have hxr := (hlo t9 (by omega)).2 _ hxv
                    refine lv_aload_n hx hb dX10_layLevels_219 rfl (lv_at hl 0 rfl) ?_
                    refine z_get (own := RX10) (C := RX10) (T := TX10) (N := 21) hx hb hts in_X10_layLevels_10 hown hK hS h_m hM41 rfl 12 (by decide) (List.mem_of_getElem? (i := 4) rfl) rfl rfl dX10_layLevels_220 ?_
                    refine lv_iload hx hb dX10_layLevels_223 (lv_at hl 5 rfl) ?_
                    refine lv_iload hx hb dX10_layLevels_225 (lv_at hl 4 rfl) ?_
                    refine lv_iload_n hx hb dX10_layLevels_227 rfl (lv_at hl 3 rfl) ?_
                    refine lv_icmp_ne (tgt := 245) hx hb dX10_layLevels_228 (by decide) (fun c_6 => ?_) (fun c_6 => ?_)
                    · have i_6 := z_ne c_6
                      rw [nI_toInt (by omega)] at i_6
                      rw [nI_toInt (by omega)] at i_6
                      have hv0 : (0 : Int32).toInt = zcap (zpw (sg s1) L t9 (la1 (128 * t9 + i)).toInt 0) := zpw_0 (by omega)
                      refine lv_iconst (v := 0) hx hb dX10_layLevels_245 (by decide) ?_
                      refine z_iast hx hb hK hS h_wa hM51 (vp_in_nI (by omega) (by omega)) dX10_layLevels_246 (fun g_7 H locs hg_7 hS => ?_)
                      have h_wa : g_7 51 = .inl (Z.2.2.2 0, 1664, .inl (upd wa2 (nI (128 * t9 + i)).toNatClampNeg 0)) := z_up_s hg_7
                      have h_m := z_up_n hg_7 h_m (by omega)
                      have h_u := z_up_n hg_7 h_u (by omega)
                      have h_q := z_up_n hg_7 h_q (by omega)
                      have h_n9 := z_up_n hg_7 h_n9 (by omega)
                      have h_g := z_up_n hg_7 h_g (by omega)
                      have h_lm := z_up_n hg_7 h_lm (by omega)
                      have h_la := z_up_n hg_7 h_la (by omega)
                      rw [nI_clamp (by omega)] at h_wa
                      refine lv_iconst (v := 0) hx hb dX10_layLevels_247 (by decide) ?_
                      refine lv_istore (lv' := [(6, .int 0), (0, .ref (Z.2.1 41)), (1, .int (nI s1)), (2, .int y), (3, .int (nI L)), (4, .int (nI t9)), (5, .int (nI (128 * t9 + i)))]) hx hb dX10_layLevels_248 hl (by decide) rfl (fun ls hl => ?_)
                      have hcut_250 : ∀ (nn_250 : Nat) (j : Nat) (wa3 : Nat → Int32) (gh : Nat → va_E) (h_m : gh 41 = .inr (10, [.ref (Z.2.1 42), .ref (Z.2.1 43), .ref (Z.2.1 44), .ref (Z.2.1 45), .int v4, .int v5, .int v6, .ref (Z.2.1 46), .ref (Z.2.1 47), .ref (Z.2.1 48), .ref (Z.2.1 49), .ref (Z.2.1 50), .ref (Z.2.1 51), .ref (Z.2.1 52), .ref (Z.2.1 53), .long v15, .long v16, .int v17, .ref (Z.2.1 54), .ref (Z.2.1 55), .ref (Z.2.1 56)])) (h_u : gh 42 = .inl (Z.2.2.2 0, 2, .inl fu)) (h_q : gh 43 = .inl (Z.2.2.2 0, 2, .inl fq)) (h_n9 : gh 44 = .inl (Z.2.2.2 0, 2, .inl fm)) (h_g : gh 45 = .inl (Z.2.2.2 0, 24, .inl fd)) (h_lm : gh 49 = .inl (Z.2.2.2 0, 13, .inl ln1)) (h_la : gh 50 = .inl (Z.2.2.2 0, 1664, .inl la1)) (h_wa : gh 51 = .inl (Z.2.2.2 0, 1664, .inl wa3)) (hfr_gh : z_fr 49 3 g gh) (hj : j ≤ (sg s1).2.2.1) (hwj : (wa3 (128 * t9 + i)).toInt = zcap (zpw (sg s1) L t9 (la1 (128 * t9 + i)).toInt j)) (hwi3 : ∀ k, k < i → (wa3 (128 * t9 + k)).toInt = zcap (zwy (sg s1) (L - t9) (la1 (128 * t9 + k)).toInt)) (hwg3 : ∀ q, 128 * (t9 + 1) ≤ q → wa3 q = wa1 q) (hm_250 : (sg s1).2.2.1 - j < nn_250) (H : Heap) (locs : List Loc) (ls : Array Slot), z_S Z (z_A Z sz) s.heap gh H locs → lv_has ls 8 [(0, .ref (Z.2.1 41)), (1, .int (nI s1)), (2, .int y), (3, .int (nI L)), (4, .int (nI t9)), (5, .int (nI (128 * t9 + i))), (6, .int (nI j))] → W p l e (headSpec wsX10_layLevels (z_rm 1 23)).room s m args below meth c H locs 0 0 (MQ below (va_Qv (fun g1 => ∃ ln1 la1 wa1 : Nat → Int32, g1 49 = .inl (Z.2.2.2 0, 13, .inl ln1) ∧ g1 50 = .inl (Z.2.2.2 0, 1664, .inl la1) ∧ g1 51 = .inl (Z.2.2.2 0, 1664, .inl wa1) ∧ zly (sg s1) y.toInt L ln1 la1 wa1 ∧ z_fr 49 3 g g1) (z_B Z) (z_A Z sz)) args s 0 0 (z_A Z sz)) (F0 m 250 ls []) := by
                        intro nn_250
                        induction nn_250 with
                        | zero => intro j wa3 gh h_m h_u h_q h_n9 h_g h_lm h_la h_wa hfr_gh hj hwj hwi3 hwg3 hm_250 H locs ls hS hl; exact absurd hm_250 (Nat.not_lt_zero _)
                        | succ nn_250 ih_250 =>
                          intro j wa3 gh h_m h_u h_q h_n9 h_g h_lm h_la h_wa hfr_gh hj hwj hwi3 hwg3 hm_250 H locs ls hS hl
                          refine lv_iload hx hb dX10_layLevels_250 (lv_at hl 6 rfl) ?_
                          refine lv_aload_n hx hb dX10_layLevels_252 rfl (lv_at hl 0 rfl) ?_
                          refine z_get (own := RX10) (C := RX10) (T := TX10) (N := 21) hx hb hts in_X10_layLevels_10 hown hK hS h_m hM41 rfl 2 (by decide) (List.mem_of_getElem? (i := 3) rfl) rfl rfl dX10_layLevels_253 ?_
                          refine lv_iload_n hx hb dX10_layLevels_256 rfl (lv_at hl 1 rfl) ?_
                          refine z_iald hx hb hK hS h_n9 hM44 (vp_in_nI (by omega) (by omega)) dX10_layLevels_257 ?_
                          rw [show fm (nI s1).toNatClampNeg = nI (sg s1).2.2.1 from by rw [nI_clamp (by omega)]; exact hm]
                          refine lv_icmp_ge (tgt := 360) hx hb dX10_layLevels_258 (by decide) (fun c_8 => ?_) (fun c_8 => ?_)
                          · have i_8 := z_le c_8
                            rw [nI_toInt (by omega)] at i_8
                            rw [nI_toInt (by omega)] at i_8
                            have hjc : j = (sg s1).2.2.1 := by omega
                            have hfin : (wa3 (128 * t9 + i)).toInt = zcap (zwy (sg s1) (L - t9) (la1 (128 * t9 + i)).toInt) := by rw [hwj, hjc, zpw_fn (by omega)]
                            refine lv_iinc (v := (nI (128 * t9 + i + 1))) (lv' := [(5, .int (nI (128 * t9 + i + 1))), (0, .ref (Z.2.1 41)), (1, .int (nI s1)), (2, .int y), (3, .int (nI L)), (4, .int (nI t9)), (6, .int (nI j))]) hx hb dX10_layLevels_360 hl (k := 5) rfl (nI_1 _) (by decide) rfl (fun ls hl => ?_)
                            refine lv_goto (tgt := 200) hx hb dX10_layLevels_363 (by decide) ?_
                            exact ih_200 (i + 1) wa3 gh h_m h_u h_q h_n9 h_g h_lm h_la h_wa hfr_gh (by omega) (fun k hk => by
                                by_cases h9 : k = i
                                · rw [h9]; exact hfin
                                · exact hwi3 k (by omega)) hwg3 (by omega) _ _ _ hS (lv_sub hl [1, 2, 3, 4, 5, 0] rfl)
                          · have i_8 := z_nle c_8
                            rw [nI_toInt (by omega)] at i_8
                            rw [nI_toInt (by omega)] at i_8
                            have hjc : j < (sg s1).2.2.1 := by omega
                            refine lv_iload hx hb dX10_layLevels_261 (lv_at hl 4 rfl) ?_
                            refine lv_iload_n hx hb dX10_layLevels_263 rfl (lv_at hl 3 rfl) ?_
                            refine lv_icmp_ge (tgt := 360) hx hb dX10_layLevels_264 (by decide) (fun c_9 => ?_) (fun c_9 => ?_)
                            · have i_9 := z_le c_9
                              rw [nI_toInt (by omega)] at i_9
                              rw [nI_toInt (by omega)] at i_9
                              have htL8 : t9 = L := by omega
                              have hfin : (wa3 (128 * t9 + i)).toInt = zcap (zwy (sg s1) (L - t9) (la1 (128 * t9 + i)).toInt) := by rw [hwj, zpw_fL htL8]
                              refine lv_iinc (v := (nI (128 * t9 + i + 1))) (lv' := [(5, .int (nI (128 * t9 + i + 1))), (0, .ref (Z.2.1 41)), (1, .int (nI s1)), (2, .int y), (3, .int (nI L)), (4, .int (nI t9)), (6, .int (nI j))]) hx hb dX10_layLevels_360 hl (k := 5) rfl (nI_1 _) (by decide) rfl (fun ls hl => ?_)
                              refine lv_goto (tgt := 200) hx hb dX10_layLevels_363 (by decide) ?_
                              exact ih_200 (i + 1) wa3 gh h_m h_u h_q h_n9 h_g h_lm h_la h_wa hfr_gh (by omega) (fun k hk => by
                                  by_cases h9 : k = i
                                  · rw [h9]; exact hfin
                                  · exact hwi3 k (by omega)) hwg3 (by omega) _ _ _ hS (lv_sub hl [1, 2, 3, 4, 5, 0] rfl)
                            · have i_9 := z_nle c_9
                              rw [nI_toInt (by omega)] at i_9
                              rw [nI_toInt (by omega)] at i_9
                              have htL8 : t9 < L := by omega
                              refine lv_aload_n hx hb dX10_layLevels_267 rfl (lv_at hl 0 rfl) ?_
                              refine lv_iload_n hx hb dX10_layLevels_268 rfl (lv_at hl 1 rfl) ?_
                              refine lv_aload_n hx hb dX10_layLevels_269 rfl (lv_at hl 0 rfl) ?_
                              refine z_get (own := RX10) (C := RX10) (T := TX10) (N := 21) hx hb hts in_X10_layLevels_10 hown hK hS h_m hM41 rfl 11 (by decide) (List.mem_of_getElem? (i := 2) rfl) rfl rfl dX10_layLevels_270 ?_
                              refine lv_iload hx hb dX10_layLevels_273 (lv_at hl 5 rfl) ?_
                              refine z_iald hx hb hK hS h_la hM50 (vp_in_nI (by omega) (by omega)) dX10_layLevels_275 ?_
                              rw [show la1 (nI (128 * t9 + i)).toNatClampNeg = la1 (128 * t9 + i) from by rw [nI_clamp (by omega)]]
                              refine lv_iload hx hb dX10_layLevels_276 (lv_at hl 6 rfl) ?_
                              refine z_calli (z_runV (As := [.int (nI s1), .int (la1 (128 * t9 + i)), .int (nI j)]) (rest := []) ⟨hx, hb, hml, hown, hts⟩ hK hS ((m_fits Z gh sg ⟨_, _, _, _, _, _, fu, fq, fm, fd, h_m, h_u, h_q, h_n9, h_g, hMN, hSg⟩ s1 hs1 (la1 (128 * t9 + i)) (by omega) j (by omega)) l _) gX10_layLevels_X10_fits rfl 3 (by decide +kernel) ⟨Nat.le_of_ble_eq_true rfl, Nat.le_of_ble_eq_true rfl⟩ h_m hM41 rfl rfl hl.1 rfl (Nat.le_of_ble_eq_true rfl) dX10_layLevels_278 ⟨Nat.le_of_ble_eq_true rfl, Nat.le_of_ble_eq_true rfl⟩) hS (fun ft g_10 H locs hp_11 hS => ?_)
                              obtain ⟨rfl, hp_11⟩ := hp_11
                              have hft := hp_11
                              refine lv_if_eq (tgt := 314) hx hb dX10_layLevels_281 (by decide) (fun c_12 => ?_) (fun c_12 => ?_)
                              · have i_12 := z_eq c_12
                                rw [tI_0] at i_12
                                have hnd := zbo_f hft c_12
                                have hwv : (0 : Int32).toInt = zcap (zwb (sg s1) (L - t9 - 1) (la1 (128 * t9 + i)).toInt j) := by rw [zwb_no hnd]; rfl
                                refine lv_iconst (v := 0) hx hb dX10_layLevels_314 (by decide) ?_
                                refine lv_istore (lv' := [(7, .int 0), (0, .ref (Z.2.1 41)), (1, .int (nI s1)), (2, .int y), (3, .int (nI L)), (4, .int (nI t9)), (5, .int (nI (128 * t9 + i))), (6, .int (nI j))]) hx hb dX10_layLevels_315 hl (by decide) rfl (fun ls hl => ?_)
                                refine lv_aload_n hx hb dX10_layLevels_317 rfl (lv_at hl 1 rfl) ?_
                                refine z_get (own := RX10) (C := RX10) (T := TX10) (N := 21) hx hb hts in_X10_layLevels_10 hown hK hS h_m hM41 rfl 12 (by decide) (List.mem_of_getElem? (i := 4) rfl) rfl rfl dX10_layLevels_318 ?_
                                refine lv_iload hx hb dX10_layLevels_321 (lv_at hl 6 rfl) ?_
                                refine lv_aload_n hx hb dX10_layLevels_323 rfl (lv_at hl 1 rfl) ?_
                                refine z_get (own := RX10) (C := RX10) (T := TX10) (N := 21) hx hb hts in_X10_layLevels_10 hown hK hS h_m hM41 rfl 12 (by decide) (List.mem_of_getElem? (i := 4) rfl) rfl rfl dX10_layLevels_324 ?_
                                refine lv_iload hx hb dX10_layLevels_327 (lv_at hl 6 rfl) ?_
                                refine z_iald hx hb hK hS h_wa hM51 (vp_in_nI (by omega) (by omega)) dX10_layLevels_329 ?_
                                rw [show wa3 (nI (128 * t9 + i)).toNatClampNeg = wa3 (128 * t9 + i) from by rw [nI_clamp (by omega)]]
                                refine lv_iload hx hb dX10_layLevels_330 (lv_at hl 0 rfl) ?_
                                refine lv_iadd hx hb dX10_layLevels_332 ?_
                                have hb1 := zcap_bd (zpw_nn hok L t9 (la1 (128 * t9 + i)).toInt j)
                                rw [← hwj] at hb1
                                have hb2 := zcap_bd (zwb_pos2 hok (L - t9 - 1) (la1 (128 * t9 + i)).toInt j)
                                rw [← hwv] at hb2
                                have hsum : ((wa3 (128 * t9 + i)) + 0).toInt = zcap (zpw (sg s1) L t9 (la1 (128 * t9 + i)).toInt j) + zcap (zwb (sg s1) (L - t9 - 1) (la1 (128 * t9 + i)).toInt j) := by rw [fb_addI (by omega) (by omega), hwj, hwv]
                                have hzs : zcap (zpw (sg s1) L t9 (la1 (128 * t9 + i)).toInt (j + 1)) = _ := (congrArg zcap (zpw_s (b := sg s1) (v := (la1 (128 * t9 + i)).toInt) (j := j) (show t9 < L by omega))).trans (zcap_add (zpw_nn hok L t9 (la1 (128 * t9 + i)).toInt j) (zwb_pos2 hok (L - t9 - 1) (la1 (128 * t9 + i)).toInt j))
                                refine lv_ldc (v := 1000000) hx hb hown (hts _ (List.mem_of_getElem? (i := 5) rfl)) dX10_layLevels_333 ?_
                                refine lv_icmp_le (tgt := 343) hx hb dX10_layLevels_335 (by decide) (fun c_13 => ?_) (fun c_13 => ?_)
                                · have i_13 := z_le c_13
                                  rw [tI_1000000] at i_13
                                  have hwn : (wa3 (128 * t9 + i) + 0).toInt = zcap (zpw (sg s1) L t9 (la1 (128 * t9 + i)).toInt (j + 1)) := by rw [hzs, if_neg (by omega)]; exact hsum
                                  refine lv_aload_n hx hb dX10_layLevels_343 rfl (lv_at hl 1 rfl) ?_
                                  refine z_get (own := RX10) (C := RX10) (T := TX10) (N := 21) hx hb hts in_X10_layLevels_10 hown hK hS h_m hM41 rfl 12 (by decide) (List.mem_of_getElem? (i := 4) rfl) rfl rfl dX10_layLevels_344 ?_
                                  refine lv_iload hx hb dX10_layLevels_347 (lv_at hl 6 rfl) ?_
                                  refine z_iald hx hb hK hS h_wa hM51 (vp_in_nI (by omega) (by omega)) dX10_layLevels_349 ?_
                                  rw [show wa3 (nI (128 * t9 + i)).toNatClampNeg = wa3 (128 * t9 + i) from by rw [nI_clamp (by omega)]]
                                  refine lv_iload hx hb dX10_layLevels_350 (lv_at hl 0 rfl) ?_
                                  refine lv_iadd hx hb dX10_layLevels_352 ?_
                                  refine z_iast hx hb hK hS h_wa hM51 (vp_in_nI (by omega) (by omega)) dX10_layLevels_353 (fun g_14 H locs hg_14 hS => ?_)
                                  have h_wa : g_14 51 = .inl (Z.2.2.2 0, 1664, .inl (upd wa3 (nI (128 * t9 + i)).toNatClampNeg ((wa3 (128 * t9 + i)) + 0))) := z_up_s hg_14
                                  have h_m := z_up_n hg_14 h_m (by omega)
                                  have h_u := z_up_n hg_14 h_u (by omega)
                                  have h_q := z_up_n hg_14 h_q (by omega)
                                  have h_n9 := z_up_n hg_14 h_n9 (by omega)
                                  have h_g := z_up_n hg_14 h_g (by omega)
                                  have h_lm := z_up_n hg_14 h_lm (by omega)
                                  have h_la := z_up_n hg_14 h_la (by omega)
                                  rw [nI_clamp (by omega)] at h_wa
                                  refine lv_iinc (v := (nI (j + 1))) (lv' := [(6, .int (nI (j + 1))), (7, .int 0), (0, .ref (Z.2.1 41)), (1, .int (nI s1)), (2, .int y), (3, .int (nI L)), (4, .int (nI t9)), (5, .int (nI (128 * t9 + i)))]) hx hb dX10_layLevels_354 hl (k := 7) rfl (nI_1 _) (by decide) rfl (fun ls hl => ?_)
                                  refine lv_goto (tgt := 250) hx hb dX10_layLevels_357 (by decide) ?_
                                  exact ih_250 (j + 1) (upd wa3 (128 * t9 + i) ((wa3 (128 * t9 + i)) + 0)) g_14 h_m h_u h_q h_n9 h_g h_lm h_la h_wa (hfr_gh.up hg_14 (by omega)) (by omega) (by rw [pk_us]; exact hwn) (fun k hk => by rw [pk_un (by omega)]; exact hwi3 k hk) (fun q hq => by rw [pk_un (by omega)]; exact hwg3 q hq) (by omega) _ _ _ hS (lv_sub hl [2, 3, 4, 5, 6, 7, 0] rfl)
                                · have i_13 := z_nle c_13
                                  rw [tI_1000000] at i_13
                                  have hwn : (1000000 : Int32).toInt = zcap (zpw (sg s1) L t9 (la1 (128 * t9 + i)).toInt (j + 1)) := by rw [hzs, if_pos (by omega)]; rfl
                                  refine lv_ldc (v := 1000000) hx hb hown (hts _ (List.mem_of_getElem? (i := 5) rfl)) dX10_layLevels_338 ?_
                                  refine lv_goto (tgt := 353) hx hb dX10_layLevels_340 (by decide) ?_
                                  refine z_iast hx hb hK hS h_wa hM51 (vp_in_nI (by omega) (by omega)) dX10_layLevels_353 (fun g_15 H locs hg_15 hS => ?_)
                                  have h_wa : g_15 51 = .inl (Z.2.2.2 0, 1664, .inl (upd wa3 (nI (128 * t9 + i)).toNatClampNeg 1000000)) := z_up_s hg_15
                                  have h_m := z_up_n hg_15 h_m (by omega)
                                  have h_u := z_up_n hg_15 h_u (by omega)
                                  have h_q := z_up_n hg_15 h_q (by omega)
                                  have h_n9 := z_up_n hg_15 h_n9 (by omega)
                                  have h_g := z_up_n hg_15 h_g (by omega)
                                  have h_lm := z_up_n hg_15 h_lm (by omega)
                                  have h_la := z_up_n hg_15 h_la (by omega)
                                  rw [nI_clamp (by omega)] at h_wa
                                  refine lv_iinc (v := (nI (j + 1))) (lv' := [(6, .int (nI (j + 1))), (7, .int 0), (0, .ref (Z.2.1 41)), (1, .int (nI s1)), (2, .int y), (3, .int (nI L)), (4, .int (nI t9)), (5, .int (nI (128 * t9 + i)))]) hx hb dX10_layLevels_354 hl (k := 7) rfl (nI_1 _) (by decide) rfl (fun ls hl => ?_)
                                  refine lv_goto (tgt := 250) hx hb dX10_layLevels_357 (by decide) ?_
                                  exact ih_250 (j + 1) (upd wa3 (128 * t9 + i) 1000000) g_15 h_m h_u h_q h_n9 h_g h_lm h_la h_wa (hfr_gh.up hg_15 (by omega)) (by omega) (by rw [pk_us]; exact hwn) (fun k hk => by rw [pk_un (by omega)]; exact hwi3 k hk) (fun q hq => by rw [pk_un (by omega)]; exact hwg3 q hq) (by omega) _ _ _ hS (lv_sub hl [2, 3, 4, 5, 6, 7, 0] rfl)
                              · have i_12 := z_ne c_12
                                rw [tI_0] at i_12
                                have hd9 := zbo_t hft c_12
                                refine lv_aload_n hx hb dX10_layLevels_284 rfl (lv_at hl 0 rfl) ?_
                                refine z_get (own := RX10) (C := RX10) (T := TX10) (N := 21) hx hb hts in_X10_layLevels_10 hown hK hS h_m hM41 rfl 12 (by decide) (List.mem_of_getElem? (i := 4) rfl) rfl rfl dX10_layLevels_285 ?_
                                refine lv_aload_n hx hb dX10_layLevels_288 rfl (lv_at hl 0 rfl) ?_
                                refine lv_iload hx hb dX10_layLevels_289 (lv_at hl 4 rfl) ?_
                                refine lv_iconst (v := 1) hx hb dX10_layLevels_291 (by decide) ?_
                                refine lv_iadd hx hb dX10_layLevels_292 ?_
                                rw [show (nI t9) + 1 = nI (t9 + 1) from nI_1 _]
                                refine lv_aload_n hx hb dX10_layLevels_293 rfl (lv_at hl 0 rfl) ?_
                                refine lv_iload_n hx hb dX10_layLevels_294 rfl (lv_at hl 1 rfl) ?_
                                refine lv_aload_n hx hb dX10_layLevels_295 rfl (lv_at hl 0 rfl) ?_
                                refine z_get (own := RX10) (C := RX10) (T := TX10) (N := 21) hx hb hts in_X10_layLevels_10 hown hK hS h_m hM41 rfl 11 (by decide) (List.mem_of_getElem? (i := 2) rfl) rfl rfl dX10_layLevels_296 ?_
                                refine lv_iload hx hb dX10_layLevels_299 (lv_at hl 5 rfl) ?_
                                refine z_iald hx hb hK hS h_la hM50 (vp_in_nI (by omega) (by omega)) dX10_layLevels_301 ?_
                                rw [show la1 (nI (128 * t9 + i)).toNatClampNeg = la1 (128 * t9 + i) from by rw [nI_clamp (by omega)]]
                                refine lv_iload hx hb dX10_layLevels_302 (lv_at hl 6 rfl) ?_
                                refine z_calli (z_runV (As := [.int (nI s1), .int (la1 (128 * t9 + i)), .int (nI j)]) (rest := [.int (nI (t9 + 1)), .ref (Z.2.1 41), .ref (Z.2.1 51)]) ⟨hx, hb, hml, hown, hts⟩ hK hS ((m_rest Z gh sg ⟨_, _, _, _, _, _, fu, fq, fm, fd, h_m, h_u, h_q, h_n9, h_g, hMN, hSg⟩ s1 hs1 (la1 (128 * t9 + i)) (by omega) j (by omega)) l _) gX10_layLevels_X10_rest rfl 3 (by decide +kernel) ⟨Nat.le_of_ble_eq_true rfl, Nat.le_of_ble_eq_true rfl⟩ h_m hM41 rfl rfl hl.1 rfl (Nat.le_of_ble_eq_true rfl) dX10_layLevels_304 ⟨Nat.le_of_ble_eq_true rfl, Nat.le_of_ble_eq_true rfl⟩) hS (fun rs g_16 H locs hp_17 hS => ?_)
                                obtain ⟨rfl, hp_17⟩ := hp_17
                                have hrs := hp_17
                                have hrb : zrb (sg s1) y.toInt (t9 + 1) rs.toInt := by rw [hrs]; exact zrb_next hxv hjc hd9
                                obtain ⟨n8, hln8, hn841, hlm8⟩ := hlv9 (t9 + 1) (by omega)
                                refine z_calli (z_runV (As := [.int (nI (t9 + 1)), .int rs]) (rest := [.ref (Z.2.1 51)]) ⟨hx, hb, hml, hown, hts⟩ hK hS ((m_placeIn Z gh sg ⟨_, _, _, _, _, _, fu, fq, fm, fd, h_m, h_u, h_q, h_n9, h_g, hMN, hSg⟩ ln1 la1 h_lm h_la (t9 + 1) n8 (by omega) hn841 hln8 rs) l _) gX10_layLevels_X10_placeIn rfl 2 (by decide +kernel) ⟨Nat.le_of_ble_eq_true rfl, Nat.le_of_ble_eq_true rfl⟩ h_m hM41 rfl rfl hl.1 rfl (Nat.le_of_ble_eq_true rfl) dX10_layLevels_307 ⟨Nat.le_of_ble_eq_true rfl, Nat.le_of_ble_eq_true rfl⟩) hS (fun pl g_18 H locs hp_19 hS => ?_)
                                obtain ⟨rfl, hp_19⟩ := hp_19
                                obtain ⟨k8, hk8, hke, epl⟩ : ∃ k8, k8 < n8 ∧ (la1 (128 * (t9 + 1) + k8)).toInt = rs.toInt ∧ pl = nI (128 * (t9 + 1) + k8) := by
                                  rcases hp_19 with h9 | ⟨h9, -⟩
                                  · exact h9
                                  · exfalso
                                    obtain ⟨k7, hk7, e7⟩ := (hlm8 _).mpr hrb
                                    exact h9 k7 hk7 e7
                                subst epl
                                refine z_iald hx hb hK hS h_wa hM51 (vp_in_nI (by omega) (by omega)) dX10_layLevels_310 ?_
                                rw [show wa3 (nI (128 * (t9 + 1) + k8)).toNatClampNeg = wa3 (128 * (t9 + 1) + k8) from by rw [nI_clamp (by omega)]]
                                refine lv_goto (tgt := 315) hx hb dX10_layLevels_311 (by decide) ?_
                                refine lv_topi (fun wv ewv => ?_)
                                have hwv : wv.toInt = zcap (zwb (sg s1) (L - t9 - 1) (la1 (128 * t9 + i)).toInt j) := by rw [ewv, hwg3 _ (by omega), hww (t9 + 1) (by omega) (by omega) n8 hln8 hn841 k8 hk8, hke, hrs, zwb_pos hd9, show L - (t9 + 1) = L - t9 - 1 by omega]
                                refine lv_istore (lv' := [(7, .int wv), (0, .ref (Z.2.1 41)), (1, .int (nI s1)), (2, .int y), (3, .int (nI L)), (4, .int (nI t9)), (5, .int (nI (128 * t9 + i))), (6, .int (nI j))]) hx hb dX10_layLevels_315 hl (by decide) rfl (fun ls hl => ?_)
                                refine lv_aload_n hx hb dX10_layLevels_317 rfl (lv_at hl 1 rfl) ?_
                                refine z_get (own := RX10) (C := RX10) (T := TX10) (N := 21) hx hb hts in_X10_layLevels_10 hown hK hS h_m hM41 rfl 12 (by decide) (List.mem_of_getElem? (i := 4) rfl) rfl rfl dX10_layLevels_318 ?_
                                refine lv_iload hx hb dX10_layLevels_321 (lv_at hl 6 rfl) ?_
                                refine lv_aload_n hx hb dX10_layLevels_323 rfl (lv_at hl 1 rfl) ?_
                                refine z_get (own := RX10) (C := RX10) (T := TX10) (N := 21) hx hb hts in_X10_layLevels_10 hown hK hS h_m hM41 rfl 12 (by decide) (List.mem_of_getElem? (i := 4) rfl) rfl rfl dX10_layLevels_324 ?_
                                refine lv_iload hx hb dX10_layLevels_327 (lv_at hl 6 rfl) ?_
                                refine z_iald hx hb hK hS h_wa hM51 (vp_in_nI (by omega) (by omega)) dX10_layLevels_329 ?_
                                rw [show wa3 (nI (128 * t9 + i)).toNatClampNeg = wa3 (128 * t9 + i) from by rw [nI_clamp (by omega)]]
                                refine lv_iload hx hb dX10_layLevels_330 (lv_at hl 0 rfl) ?_
                                refine lv_iadd hx hb dX10_layLevels_332 ?_
                                have hb1 := zcap_bd (zpw_nn hok L t9 (la1 (128 * t9 + i)).toInt j)
                                rw [← hwj] at hb1
                                have hb2 := zcap_bd (zwb_pos2 hok (L - t9 - 1) (la1 (128 * t9 + i)).toInt j)
                                rw [← hwv] at hb2
                                have hsum : ((wa3 (128 * t9 + i)) + wv).toInt = zcap (zpw (sg s1) L t9 (la1 (128 * t9 + i)).toInt j) + zcap (zwb (sg s1) (L - t9 - 1) (la1 (128 * t9 + i)).toInt j) := by rw [fb_addI (by omega) (by omega), hwj, hwv]
                                have hzs : zcap (zpw (sg s1) L t9 (la1 (128 * t9 + i)).toInt (j + 1)) = _ := (congrArg zcap (zpw_s (b := sg s1) (v := (la1 (128 * t9 + i)).toInt) (j := j) (show t9 < L by omega))).trans (zcap_add (zpw_nn hok L t9 (la1 (128 * t9 + i)).toInt j) (zwb_pos2 hok (L - t9 - 1) (la1 (128 * t9 + i)).toInt j))
                                refine lv_ldc (v := 1000000) hx hb hown (hts _ (List.mem_of_getElem? (i := 5) rfl)) dX10_layLevels_333 ?_
                                refine lv_icmp_le (tgt := 343) hx hb dX10_layLevels_335 (by decide) (fun c_20 => ?_) (fun c_20 => ?_)
                                · have i_20 := z_le c_20
                                  rw [tI_1000000] at i_20
                                  have hwn : (wa3 (128 * t9 + i) + wv).toInt = zcap (zpw (sg s1) L t9 (la1 (128 * t9 + i)).toInt (j + 1)) := by rw [hzs, if_neg (by omega)]; exact hsum
                                  refine lv_aload_n hx hb dX10_layLevels_343 rfl (lv_at hl 1 rfl) ?_
                                  refine z_get (own := RX10) (C := RX10) (T := TX10) (N := 21) hx hb hts in_X10_layLevels_10 hown hK hS h_m hM41 rfl 12 (by decide) (List.mem_of_getElem? (i := 4) rfl) rfl rfl dX10_layLevels_344 ?_
                                  refine lv_iload hx hb dX10_layLevels_347 (lv_at hl 6 rfl) ?_
                                  refine z_iald hx hb hK hS h_wa hM51 (vp_in_nI (by omega) (by omega)) dX10_layLevels_349 ?_
                                  rw [show wa3 (nI (128 * t9 + i)).toNatClampNeg = wa3 (128 * t9 + i) from by rw [nI_clamp (by omega)]]
                                  refine lv_iload hx hb dX10_layLevels_350 (lv_at hl 0 rfl) ?_
                                  refine lv_iadd hx hb dX10_layLevels_352 ?_
                                  refine z_iast hx hb hK hS h_wa hM51 (vp_in_nI (by omega) (by omega)) dX10_layLevels_353 (fun g_21 H locs hg_21 hS => ?_)
                                  have h_wa : g_21 51 = .inl (Z.2.2.2 0, 1664, .inl (upd wa3 (nI (128 * t9 + i)).toNatClampNeg ((wa3 (128 * t9 + i)) + wv))) := z_up_s hg_21
                                  have h_m := z_up_n hg_21 h_m (by omega)
                                  have h_u := z_up_n hg_21 h_u (by omega)
                                  have h_q := z_up_n hg_21 h_q (by omega)
                                  have h_n9 := z_up_n hg_21 h_n9 (by omega)
                                  have h_g := z_up_n hg_21 h_g (by omega)
                                  have h_lm := z_up_n hg_21 h_lm (by omega)
                                  have h_la := z_up_n hg_21 h_la (by omega)
                                  rw [nI_clamp (by omega)] at h_wa
                                  refine lv_iinc (v := (nI (j + 1))) (lv' := [(6, .int (nI (j + 1))), (7, .int wv), (0, .ref (Z.2.1 41)), (1, .int (nI s1)), (2, .int y), (3, .int (nI L)), (4, .int (nI t9)), (5, .int (nI (128 * t9 + i)))]) hx hb dX10_layLevels_354 hl (k := 7) rfl (nI_1 _) (by decide) rfl (fun ls hl => ?_)
                                  refine lv_goto (tgt := 250) hx hb dX10_layLevels_357 (by decide) ?_
                                  exact ih_250 (j + 1) (upd wa3 (128 * t9 + i) ((wa3 (128 * t9 + i)) + wv)) g_21 h_m h_u h_q h_n9 h_g h_lm h_la h_wa (hfr_gh.up hg_21 (by omega)) (by omega) (by rw [pk_us]; exact hwn) (fun k hk => by rw [pk_un (by omega)]; exact hwi3 k hk) (fun q hq => by rw [pk_un (by omega)]; exact hwg3 q hq) (by omega) _ _ _ hS (lv_sub hl [2, 3, 4, 5, 6, 7, 0] rfl)
                                · have i_20 := z_nle c_20
                                  rw [tI_1000000] at i_20
                                  have hwn : (1000000 : Int32).toInt = zcap (zpw (sg s1) L t9 (la1 (128 * t9 + i)).toInt (j + 1)) := by rw [hzs, if_pos (by omega)]; rfl
                                  refine lv_ldc (v := 1000000) hx hb hown (hts _ (List.mem_of_getElem? (i := 5) rfl)) dX10_layLevels_338 ?_
                                  refine lv_goto (tgt := 353) hx hb dX10_layLevels_340 (by decide) ?_
                                  refine z_iast hx hb hK hS h_wa hM51 (vp_in_nI (by omega) (by omega)) dX10_layLevels_353 (fun g_22 H locs hg_22 hS => ?_)
                                  have h_wa : g_22 51 = .inl (Z.2.2.2 0, 1664, .inl (upd wa3 (nI (128 * t9 + i)).toNatClampNeg 1000000)) := z_up_s hg_22
                                  have h_m := z_up_n hg_22 h_m (by omega)
                                  have h_u := z_up_n hg_22 h_u (by omega)
                                  have h_q := z_up_n hg_22 h_q (by omega)
                                  have h_n9 := z_up_n hg_22 h_n9 (by omega)
                                  have h_g := z_up_n hg_22 h_g (by omega)
                                  have h_lm := z_up_n hg_22 h_lm (by omega)
                                  have h_la := z_up_n hg_22 h_la (by omega)
                                  rw [nI_clamp (by omega)] at h_wa
                                  refine lv_iinc (v := (nI (j + 1))) (lv' := [(6, .int (nI (j + 1))), (7, .int wv), (0, .ref (Z.2.1 41)), (1, .int (nI s1)), (2, .int y), (3, .int (nI L)), (4, .int (nI t9)), (5, .int (nI (128 * t9 + i)))]) hx hb dX10_layLevels_354 hl (k := 7) rfl (nI_1 _) (by decide) rfl (fun ls hl => ?_)
                                  refine lv_goto (tgt := 250) hx hb dX10_layLevels_357 (by decide) ?_
                                  exact ih_250 (j + 1) (upd wa3 (128 * t9 + i) 1000000) g_22 h_m h_u h_q h_n9 h_g h_lm h_la h_wa (hfr_gh.up hg_22 (by omega)) (by omega) (by rw [pk_us]; exact hwn) (fun k hk => by rw [pk_un (by omega)]; exact hwi3 k hk) (fun q hq => by rw [pk_un (by omega)]; exact hwg3 q hq) (by omega) _ _ _ hS (lv_sub hl [2, 3, 4, 5, 6, 7, 0] rfl)
                      exact hcut_250 ((sg s1).2.2.1 - 0 + 1) 0 (upd wa2 (128 * t9 + i) 0) g_7 h_m h_u h_q h_n9 h_g h_lm h_la h_wa (hfr_gf.up hg_7 (by omega)) (by omega) (by rw [pk_us]; exact hv0) (fun k hk => by rw [pk_un (by omega)]; exact hwi k hk) (fun q hq => by rw [pk_un (by omega)]; exact hwg q hq) (Nat.lt_succ_self _) _ _ _ hS (lv_sub hl [1, 2, 3, 4, 5, 6, 0] rfl)
                    · have i_6 := z_eq c_6
                      rw [nI_toInt (by omega)] at i_6
                      rw [nI_toInt (by omega)] at i_6
                      have htL9 : t9 = L := by omega
                      refine lv_aload_n hx hb dX10_layLevels_231 rfl (lv_at hl 0 rfl) ?_
                      refine z_get (own := RX10) (C := RX10) (T := TX10) (N := 21) hx hb hts in_X10_layLevels_10 hown hK hS h_m hM41 rfl 11 (by decide) (List.mem_of_getElem? (i := 2) rfl) rfl rfl dX10_layLevels_232 ?_
                      refine lv_iload hx hb dX10_layLevels_235 (lv_at hl 5 rfl) ?_
                      refine z_iald hx hb hK hS h_la hM50 (vp_in_nI (by omega) (by omega)) dX10_layLevels_237 ?_
                      rw [show la1 (nI (128 * t9 + i)).toNatClampNeg = la1 (128 * t9 + i) from by rw [nI_clamp (by omega)]]
                      refine lv_if_ne (tgt := 245) hx hb dX10_layLevels_238 (by decide) (fun c_23 => ?_) (fun c_23 => ?_)
                      · have i_23 := z_ne c_23
                        rw [tI_0] at i_23
                        have hv0 : (0 : Int32).toInt = zcap (zpw (sg s1) L t9 (la1 (128 * t9 + i)).toInt 0) := zpw_e0 htL9 i_23
                        refine lv_iconst (v := 0) hx hb dX10_layLevels_245 (by decide) ?_
                        refine z_iast hx hb hK hS h_wa hM51 (vp_in_nI (by omega) (by omega)) dX10_layLevels_246 (fun g_24 H locs hg_24 hS => ?_)
                        have h_wa : g_24 51 = .inl (Z.2.2.2 0, 1664, .inl (upd wa2 (nI (128 * t9 + i)).toNatClampNeg 0)) := z_up_s hg_24
                        have h_m := z_up_n hg_24 h_m (by omega)
                        have h_u := z_up_n hg_24 h_u (by omega)
                        have h_q := z_up_n hg_24 h_q (by omega)
                        have h_n9 := z_up_n hg_24 h_n9 (by omega)
                        have h_g := z_up_n hg_24 h_g (by omega)
                        have h_lm := z_up_n hg_24 h_lm (by omega)
                        have h_la := z_up_n hg_24 h_la (by omega)
                        rw [nI_clamp (by omega)] at h_wa
                        refine lv_iconst (v := 0) hx hb dX10_layLevels_247 (by decide) ?_
                        refine lv_istore (lv' := [(6, .int 0), (0, .ref (Z.2.1 41)), (1, .int (nI s1)), (2, .int y), (3, .int (nI L)), (4, .int (nI t9)), (5, .int (nI (128 * t9 + i)))]) hx hb dX10_layLevels_248 hl (by decide) rfl (fun ls hl => ?_)
                        have hcut_250_2 : ∀ (nn_250 : Nat) (j : Nat) (wa3 : Nat → Int32) (gh : Nat → va_E) (h_m : gh 41 = .inr (10, [.ref (Z.2.1 42), .ref (Z.2.1 43), .ref (Z.2.1 44), .ref (Z.2.1 45), .int v4, .int v5, .int v6, .ref (Z.2.1 46), .ref (Z.2.1 47), .ref (Z.2.1 48), .ref (Z.2.1 49), .ref (Z.2.1 50), .ref (Z.2.1 51), .ref (Z.2.1 52), .ref (Z.2.1 53), .long v15, .long v16, .int v17, .ref (Z.2.1 54), .ref (Z.2.1 55), .ref (Z.2.1 56)])) (h_u : gh 42 = .inl (Z.2.2.2 0, 2, .inl fu)) (h_q : gh 43 = .inl (Z.2.2.2 0, 2, .inl fq)) (h_n9 : gh 44 = .inl (Z.2.2.2 0, 2, .inl fm)) (h_g : gh 45 = .inl (Z.2.2.2 0, 24, .inl fd)) (h_lm : gh 49 = .inl (Z.2.2.2 0, 13, .inl ln1)) (h_la : gh 50 = .inl (Z.2.2.2 0, 1664, .inl la1)) (h_wa : gh 51 = .inl (Z.2.2.2 0, 1664, .inl wa3)) (hfr_gh : z_fr 49 3 g gh) (hj : j ≤ (sg s1).2.2.1) (hwj : (wa3 (128 * t9 + i)).toInt = zcap (zpw (sg s1) L t9 (la1 (128 * t9 + i)).toInt j)) (hwi3 : ∀ k, k < i → (wa3 (128 * t9 + k)).toInt = zcap (zwy (sg s1) (L - t9) (la1 (128 * t9 + k)).toInt)) (hwg3 : ∀ q, 128 * (t9 + 1) ≤ q → wa3 q = wa1 q) (hm_250 : (sg s1).2.2.1 - j < nn_250) (H : Heap) (locs : List Loc) (ls : Array Slot), z_S Z (z_A Z sz) s.heap gh H locs → lv_has ls 8 [(0, .ref (Z.2.1 41)), (1, .int (nI s1)), (2, .int y), (3, .int (nI L)), (4, .int (nI t9)), (5, .int (nI (128 * t9 + i))), (6, .int (nI j))] → W p l e (headSpec wsX10_layLevels (z_rm 1 23)).room s m args below meth c H locs 0 0 (MQ below (va_Qv (fun g1 => ∃ ln1 la1 wa1 : Nat → Int32, g1 49 = .inl (Z.2.2.2 0, 13, .inl ln1) ∧ g1 50 = .inl (Z.2.2.2 0, 1664, .inl la1) ∧ g1 51 = .inl (Z.2.2.2 0, 1664, .inl wa1) ∧ zly (sg s1) y.toInt L ln1 la1 wa1 ∧ z_fr 49 3 g g1) (z_B Z) (z_A Z sz)) args s 0 0 (z_A Z sz)) (F0 m 250 ls []) := by
                          intro nn_250
                          induction nn_250 with
                          | zero => intro j wa3 gh h_m h_u h_q h_n9 h_g h_lm h_la h_wa hfr_gh hj hwj hwi3 hwg3 hm_250 H locs ls hS hl; exact absurd hm_250 (Nat.not_lt_zero _)
                          | succ nn_250 ih_250 =>
                            intro j wa3 gh h_m h_u h_q h_n9 h_g h_lm h_la h_wa hfr_gh hj hwj hwi3 hwg3 hm_250 H locs ls hS hl
                            refine lv_iload hx hb dX10_layLevels_250 (lv_at hl 6 rfl) ?_
                            refine lv_aload_n hx hb dX10_layLevels_252 rfl (lv_at hl 0 rfl) ?_
                            refine z_get (own := RX10) (C := RX10) (T := TX10) (N := 21) hx hb hts in_X10_layLevels_10 hown hK hS h_m hM41 rfl 2 (by decide) (List.mem_of_getElem? (i := 3) rfl) rfl rfl dX10_layLevels_253 ?_
                            refine lv_iload_n hx hb dX10_layLevels_256 rfl (lv_at hl 1 rfl) ?_
                            refine z_iald hx hb hK hS h_n9 hM44 (vp_in_nI (by omega) (by omega)) dX10_layLevels_257 ?_
                            rw [show fm (nI s1).toNatClampNeg = nI (sg s1).2.2.1 from by rw [nI_clamp (by omega)]; exact hm]
                            refine lv_icmp_ge (tgt := 360) hx hb dX10_layLevels_258 (by decide) (fun c_25 => ?_) (fun c_25 => ?_)
                            · have i_25 := z_le c_25
                              rw [nI_toInt (by omega)] at i_25
                              rw [nI_toInt (by omega)] at i_25
                              have hjc : j = (sg s1).2.2.1 := by omega
                              have hfin : (wa3 (128 * t9 + i)).toInt = zcap (zwy (sg s1) (L - t9) (la1 (128 * t9 + i)).toInt) := by rw [hwj, hjc, zpw_fn (by omega)]
                              refine lv_iinc (v := (nI (128 * t9 + i + 1))) (lv' := [(5, .int (nI (128 * t9 + i + 1))), (0, .ref (Z.2.1 41)), (1, .int (nI s1)), (2, .int y), (3, .int (nI L)), (4, .int (nI t9)), (6, .int (nI j))]) hx hb dX10_layLevels_360 hl (k := 5) rfl (nI_1 _) (by decide) rfl (fun ls hl => ?_)
                              refine lv_goto (tgt := 200) hx hb dX10_layLevels_363 (by decide) ?_
                              exact ih_200 (i + 1) wa3 gh h_m h_u h_q h_n9 h_g h_lm h_la h_wa hfr_gh (by omega) (fun k hk => by
                                  by_cases h9 : k = i
                                  · rw [h9]; exact hfin
                                  · exact hwi3 k (by omega)) hwg3 (by omega) _ _ _ hS (lv_sub hl [1, 2, 3, 4, 5, 0] rfl)
                            · have i_25 := z_nle c_25
                              rw [nI_toInt (by omega)] at i_25
                              rw [nI_toInt (by omega)] at i_25
                              have hjc : j < (sg s1).2.2.1 := by omega
                              refine lv_iload hx hb dX10_layLevels_261 (lv_at hl 4 rfl) ?_
                              refine lv_iload_n hx hb dX10_layLevels_263 rfl (lv_at hl 3 rfl) ?_
                              refine lv_icmp_ge (tgt := 360) hx hb dX10_layLevels_264 (by decide) (fun c_26 => ?_) (fun c_26 => ?_)
                              · have i_26 := z_le c_26
                                rw [nI_toInt (by omega)] at i_26
                                rw [nI_toInt (by omega)] at i_26
                                have htL8 : t9 = L := by omega
                                have hfin : (wa3 (128 * t9 + i)).toInt = zcap (zwy (sg s1) (L - t9) (la1 (128 * t9 + i)).toInt) := by rw [hwj, zpw_fL htL8]
                                refine lv_iinc (v := (nI (128 * t9 + i + 1))) (lv' := [(5, .int (nI (128 * t9 + i + 1))), (0, .ref (Z.2.1 41)), (1, .int (nI s1)), (2, .int y), (3, .int (nI L)), (4, .int (nI t9)), (6, .int (nI j))]) hx hb dX10_layLevels_360 hl (k := 5) rfl (nI_1 _) (by decide) rfl (fun ls hl => ?_)
                                refine lv_goto (tgt := 200) hx hb dX10_layLevels_363 (by decide) ?_
                                exact ih_200 (i + 1) wa3 gh h_m h_u h_q h_n9 h_g h_lm h_la h_wa hfr_gh (by omega) (fun k hk => by
                                    by_cases h9 : k = i
                                    · rw [h9]; exact hfin
                                    · exact hwi3 k (by omega)) hwg3 (by omega) _ _ _ hS (lv_sub hl [1, 2, 3, 4, 5, 0] rfl)
                              · have i_26 := z_nle c_26
                                rw [nI_toInt (by omega)] at i_26
                                rw [nI_toInt (by omega)] at i_26
                                exfalso; omega
                        exact hcut_250_2 ((sg s1).2.2.1 - 0 + 1) 0 (upd wa2 (128 * t9 + i) 0) g_24 h_m h_u h_q h_n9 h_g h_lm h_la h_wa (hfr_gf.up hg_24 (by omega)) (by omega) (by rw [pk_us]; exact hv0) (fun k hk => by rw [pk_un (by omega)]; exact hwi k hk) (fun q hq => by rw [pk_un (by omega)]; exact hwg q hq) (Nat.lt_succ_self _) _ _ _ hS (lv_sub hl [1, 2, 3, 4, 5, 6, 0] rfl)
                      · have i_23 := z_eq c_23
                        rw [tI_0] at i_23
                        have hv0 : (1 : Int32).toInt = zcap (zpw (sg s1) L t9 (la1 (128 * t9 + i)).toInt 0) := zpw_e1 htL9 i_23
                        refine lv_iconst (v := 1) hx hb dX10_layLevels_241 (by decide) ?_
                        refine lv_goto (tgt := 246) hx hb dX10_layLevels_242 (by decide) ?_
                        refine z_iast hx hb hK hS h_wa hM51 (vp_in_nI (by omega) (by omega)) dX10_layLevels_246 (fun g_27 H locs hg_27 hS => ?_)
                        have h_wa : g_27 51 = .inl (Z.2.2.2 0, 1664, .inl (upd wa2 (nI (128 * t9 + i)).toNatClampNeg 1)) := z_up_s hg_27
                        have h_m := z_up_n hg_27 h_m (by omega)
                        have h_u := z_up_n hg_27 h_u (by omega)
                        have h_q := z_up_n hg_27 h_q (by omega)
                        have h_n9 := z_up_n hg_27 h_n9 (by omega)
                        have h_g := z_up_n hg_27 h_g (by omega)
                        have h_lm := z_up_n hg_27 h_lm (by omega)
                        have h_la := z_up_n hg_27 h_la (by omega)
                        rw [nI_clamp (by omega)] at h_wa
                        refine lv_iconst (v := 0) hx hb dX10_layLevels_247 (by decide) ?_
                        refine lv_istore (lv' := [(6, .int 0), (0, .ref (Z.2.1 41)), (1, .int (nI s1)), (2, .int y), (3, .int (nI L)), (4, .int (nI t9)), (5, .int (nI (128 * t9 + i)))]) hx hb dX10_layLevels_248 hl (by decide) rfl (fun ls hl => ?_)
                        have hcut_250_3 : ∀ (nn_250 : Nat) (j : Nat) (wa3 : Nat → Int32) (gh : Nat → va_E) (h_m : gh 41 = .inr (10, [.ref (Z.2.1 42), .ref (Z.2.1 43), .ref (Z.2.1 44), .ref (Z.2.1 45), .int v4, .int v5, .int v6, .ref (Z.2.1 46), .ref (Z.2.1 47), .ref (Z.2.1 48), .ref (Z.2.1 49), .ref (Z.2.1 50), .ref (Z.2.1 51), .ref (Z.2.1 52), .ref (Z.2.1 53), .long v15, .long v16, .int v17, .ref (Z.2.1 54), .ref (Z.2.1 55), .ref (Z.2.1 56)])) (h_u : gh 42 = .inl (Z.2.2.2 0, 2, .inl fu)) (h_q : gh 43 = .inl (Z.2.2.2 0, 2, .inl fq)) (h_n9 : gh 44 = .inl (Z.2.2.2 0, 2, .inl fm)) (h_g : gh 45 = .inl (Z.2.2.2 0, 24, .inl fd)) (h_lm : gh 49 = .inl (Z.2.2.2 0, 13, .inl ln1)) (h_la : gh 50 = .inl (Z.2.2.2 0, 1664, .inl la1)) (h_wa : gh 51 = .inl (Z.2.2.2 0, 1664, .inl wa3)) (hfr_gh : z_fr 49 3 g gh) (hj : j ≤ (sg s1).2.2.1) (hwj : (wa3 (128 * t9 + i)).toInt = zcap (zpw (sg s1) L t9 (la1 (128 * t9 + i)).toInt j)) (hwi3 : ∀ k, k < i → (wa3 (128 * t9 + k)).toInt = zcap (zwy (sg s1) (L - t9) (la1 (128 * t9 + k)).toInt)) (hwg3 : ∀ q, 128 * (t9 + 1) ≤ q → wa3 q = wa1 q) (hm_250 : (sg s1).2.2.1 - j < nn_250) (H : Heap) (locs : List Loc) (ls : Array Slot), z_S Z (z_A Z sz) s.heap gh H locs → lv_has ls 8 [(0, .ref (Z.2.1 41)), (1, .int (nI s1)), (2, .int y), (3, .int (nI L)), (4, .int (nI t9)), (5, .int (nI (128 * t9 + i))), (6, .int (nI j))] → W p l e (headSpec wsX10_layLevels (z_rm 1 23)).room s m args below meth c H locs 0 0 (MQ below (va_Qv (fun g1 => ∃ ln1 la1 wa1 : Nat → Int32, g1 49 = .inl (Z.2.2.2 0, 13, .inl ln1) ∧ g1 50 = .inl (Z.2.2.2 0, 1664, .inl la1) ∧ g1 51 = .inl (Z.2.2.2 0, 1664, .inl wa1) ∧ zly (sg s1) y.toInt L ln1 la1 wa1 ∧ z_fr 49 3 g g1) (z_B Z) (z_A Z sz)) args s 0 0 (z_A Z sz)) (F0 m 250 ls []) := by
                          intro nn_250
                          induction nn_250 with
                          | zero => intro j wa3 gh h_m h_u h_q h_n9 h_g h_lm h_la h_wa hfr_gh hj hwj hwi3 hwg3 hm_250 H locs ls hS hl; exact absurd hm_250 (Nat.not_lt_zero _)
                          | succ nn_250 ih_250 =>
                            intro j wa3 gh h_m h_u h_q h_n9 h_g h_lm h_la h_wa hfr_gh hj hwj hwi3 hwg3 hm_250 H locs ls hS hl
                            refine lv_iload hx hb dX10_layLevels_250 (lv_at hl 6 rfl) ?_
                            refine lv_aload_n hx hb dX10_layLevels_252 rfl (lv_at hl 0 rfl) ?_
                            refine z_get (own := RX10) (C := RX10) (T := TX10) (N := 21) hx hb hts in_X10_layLevels_10 hown hK hS h_m hM41 rfl 2 (by decide) (List.mem_of_getElem? (i := 3) rfl) rfl rfl dX10_layLevels_253 ?_
                            refine lv_iload_n hx hb dX10_layLevels_256 rfl (lv_at hl 1 rfl) ?_
                            refine z_iald hx hb hK hS h_n9 hM44 (vp_in_nI (by omega) (by omega)) dX10_layLevels_257 ?_
                            rw [show fm (nI s1).toNatClampNeg = nI (sg s1).2.2.1 from by rw [nI_clamp (by omega)]; exact hm]
                            refine lv_icmp_ge (tgt := 360) hx hb dX10_layLevels_258 (by decide) (fun c_28 => ?_) (fun c_28 => ?_)
                            · have i_28 := z_le c_28
                              rw [nI_toInt (by omega)] at i_28
                              rw [nI_toInt (by omega)] at i_28
                              have hjc : j = (sg s1).2.2.1 := by omega
                              have hfin : (wa3 (128 * t9 + i)).toInt = zcap (zwy (sg s1) (L - t9) (la1 (128 * t9 + i)).toInt) := by rw [hwj, hjc, zpw_fn (by omega)]
                              refine lv_iinc (v := (nI (128 * t9 + i + 1))) (lv' := [(5, .int (nI (128 * t9 + i + 1))), (0, .ref (Z.2.1 41)), (1, .int (nI s1)), (2, .int y), (3, .int (nI L)), (4, .int (nI t9)), (6, .int (nI j))]) hx hb dX10_layLevels_360 hl (k := 5) rfl (nI_1 _) (by decide) rfl (fun ls hl => ?_)
                              refine lv_goto (tgt := 200) hx hb dX10_layLevels_363 (by decide) ?_
                              exact ih_200 (i + 1) wa3 gh h_m h_u h_q h_n9 h_g h_lm h_la h_wa hfr_gh (by omega) (fun k hk => by
                                  by_cases h9 : k = i
                                  · rw [h9]; exact hfin
                                  · exact hwi3 k (by omega)) hwg3 (by omega) _ _ _ hS (lv_sub hl [1, 2, 3, 4, 5, 0] rfl)
                            · have i_28 := z_nle c_28
                              rw [nI_toInt (by omega)] at i_28
                              rw [nI_toInt (by omega)] at i_28
                              have hjc : j < (sg s1).2.2.1 := by omega
                              refine lv_iload hx hb dX10_layLevels_261 (lv_at hl 4 rfl) ?_
                              refine lv_iload_n hx hb dX10_layLevels_263 rfl (lv_at hl 3 rfl) ?_
                              refine lv_icmp_ge (tgt := 360) hx hb dX10_layLevels_264 (by decide) (fun c_29 => ?_) (fun c_29 => ?_)
                              · have i_29 := z_le c_29
                                rw [nI_toInt (by omega)] at i_29
                                rw [nI_toInt (by omega)] at i_29
                                have htL8 : t9 = L := by omega
                                have hfin : (wa3 (128 * t9 + i)).toInt = zcap (zwy (sg s1) (L - t9) (la1 (128 * t9 + i)).toInt) := by rw [hwj, zpw_fL htL8]
                                refine lv_iinc (v := (nI (128 * t9 + i + 1))) (lv' := [(5, .int (nI (128 * t9 + i + 1))), (0, .ref (Z.2.1 41)), (1, .int (nI s1)), (2, .int y), (3, .int (nI L)), (4, .int (nI t9)), (6, .int (nI j))]) hx hb dX10_layLevels_360 hl (k := 5) rfl (nI_1 _) (by decide) rfl (fun ls hl => ?_)
                                refine lv_goto (tgt := 200) hx hb dX10_layLevels_363 (by decide) ?_
                                exact ih_200 (i + 1) wa3 gh h_m h_u h_q h_n9 h_g h_lm h_la h_wa hfr_gh (by omega) (fun k hk => by
                                    by_cases h9 : k = i
                                    · rw [h9]; exact hfin
                                    · exact hwi3 k (by omega)) hwg3 (by omega) _ _ _ hS (lv_sub hl [1, 2, 3, 4, 5, 0] rfl)
                              · have i_29 := z_nle c_29
                                rw [nI_toInt (by omega)] at i_29
                                rw [nI_toInt (by omega)] at i_29
                                exfalso; omega
                        exact hcut_250_3 ((sg s1).2.2.1 - 0 + 1) 0 (upd wa2 (128 * t9 + i) 1) g_27 h_m h_u h_q h_n9 h_g h_lm h_la h_wa (hfr_gf.up hg_27 (by omega)) (by omega) (by rw [pk_us]; exact hv0) (fun k hk => by rw [pk_un (by omega)]; exact hwi k hk) (fun q hq => by rw [pk_un (by omega)]; exact hwg q hq) (Nat.lt_succ_self _) _ _ _ hS (lv_sub hl [1, 2, 3, 4, 5, 6, 0] rfl)
              exact hcut_200 (n9 - 0 + 1) 0 wa1 gd h_m h_u h_q h_n9 h_g h_lm h_la h_wa hfr_gd (by omega) (fun k hk => absurd hk (Nat.not_lt_zero k)) (fun q hq => rfl) (Nat.lt_succ_self _) _ _ _ hS (lv_sub hl [1, 2, 3, 4, 5, 0] rfl)
        exact hcut_187 ((L + 1) + 1) (L + 1) (nI L) wa ga h_m h_u h_q h_n9 h_g h_lm h_la h_wa hfr_ga (by omega) (by rw [nI_toInt (by omega)]; omega) (fun u h1 h2 => absurd h1 (by omega)) (Nat.lt_succ_self _) _ _ _ hS (lv_sub hl [1, 2, 3, 4, 0] rfl)
      · have i_3 := z_nle c_3
        rw [nI_toInt (by omega)] at i_3
        rw [nI_toInt (by omega)] at i_3
        have htL : t < L := by omega
        obtain ⟨n, hln, hn41, hlm⟩ := hlv t (Nat.le_refl t)
        have hvb : ∀ i, i < n → zrb (sg s1) y.toInt t (la1 (128 * t + i)).toInt := fun i hi => (hlm _).mp ⟨i, hi, rfl⟩
        refine lv_aload_n hx hb dX10_layLevels_23 rfl (lv_at hl 0 rfl) ?_
        refine z_get (own := RX10) (C := RX10) (T := TX10) (N := 21) hx hb hts in_X10_layLevels_10 hown hK hS h_m hM41 rfl 10 (by decide) (List.mem_of_getElem? (i := 1) rfl) rfl rfl dX10_layLevels_24 ?_
        refine lv_iload hx hb dX10_layLevels_27 (lv_at hl 4 rfl) ?_
        refine lv_iconst (v := 1) hx hb dX10_layLevels_29 (by decide) ?_
        refine lv_iadd hx hb dX10_layLevels_30 ?_
        rw [show (nI t) + 1 = nI (t + 1) from nI_1 _]
        refine lv_iconst (v := 0) hx hb dX10_layLevels_31 (by decide) ?_
        refine z_iast hx hb hK hS h_lm hM49 (vp_in_nI (by omega) (by omega)) dX10_layLevels_32 (fun g_30 H locs hg_30 hS => ?_)
        have h_lm : g_30 49 = .inl (Z.2.2.2 0, 13, .inl (upd ln1 (nI (t + 1)).toNatClampNeg 0)) := z_up_s hg_30
        have h_m := z_up_n hg_30 h_m (by omega)
        have h_u := z_up_n hg_30 h_u (by omega)
        have h_q := z_up_n hg_30 h_q (by omega)
        have h_n9 := z_up_n hg_30 h_n9 (by omega)
        have h_g := z_up_n hg_30 h_g (by omega)
        have h_la := z_up_n hg_30 h_la (by omega)
        have h_wa := z_up_n hg_30 h_wa (by omega)
        rw [nI_clamp (by omega)] at h_lm
        refine lv_sipush (v := 128) hx hb dX10_layLevels_33 (by decide) ?_
        refine lv_iload hx hb dX10_layLevels_36 (lv_at hl 4 rfl) ?_
        refine lv_imul hx hb dX10_layLevels_38 ?_
        rw [show 128 * (nI t) = nI (128 * t) from zm_x128 (by omega)]
        refine lv_istore (lv' := [(5, .int (nI (128 * t))), (0, .ref (Z.2.1 41)), (1, .int (nI s1)), (2, .int y), (3, .int (nI L)), (4, .int (nI t))]) hx hb dX10_layLevels_39 hl (by decide) rfl (fun ls hl => ?_)
        have hcut_41 : ∀ (nn_41 : Nat) (i : Nat) (k : Nat) (ln2 : Nat → Int32) (la2 : Nat → Int32) (gb : Nat → va_E) (h_m : gb 41 = .inr (10, [.ref (Z.2.1 42), .ref (Z.2.1 43), .ref (Z.2.1 44), .ref (Z.2.1 45), .int v4, .int v5, .int v6, .ref (Z.2.1 46), .ref (Z.2.1 47), .ref (Z.2.1 48), .ref (Z.2.1 49), .ref (Z.2.1 50), .ref (Z.2.1 51), .ref (Z.2.1 52), .ref (Z.2.1 53), .long v15, .long v16, .int v17, .ref (Z.2.1 54), .ref (Z.2.1 55), .ref (Z.2.1 56)])) (h_u : gb 42 = .inl (Z.2.2.2 0, 2, .inl fu)) (h_q : gb 43 = .inl (Z.2.2.2 0, 2, .inl fq)) (h_n9 : gb 44 = .inl (Z.2.2.2 0, 2, .inl fm)) (h_g : gb 45 = .inl (Z.2.2.2 0, 24, .inl fd)) (h_lm : gb 49 = .inl (Z.2.2.2 0, 13, .inl ln2)) (h_la : gb 50 = .inl (Z.2.2.2 0, 1664, .inl la2)) (h_wa : gb 51 = .inl (Z.2.2.2 0, 1664, .inl wa)) (hfr_gb : z_fr 49 3 g gb) (hi : i ≤ n) (hk : ln2 (t + 1) = nI k) (hkc : k = zln la2 (t + 1) k (lo (t + 1))) (hks : ∀ v, zlm la2 (t + 1) k v ↔ zpq (sg s1) la1 t i 0 v) (hag : (∀ u, u ≠ t + 1 → ln2 u = ln1 u) ∧ ∀ q, q < 128 * (t + 1) → la2 q = la1 q) (hm_41 : n - i < nn_41) (H : Heap) (locs : List Loc) (ls : Array Slot), z_S Z (z_A Z sz) s.heap gb H locs → lv_has ls 8 [(0, .ref (Z.2.1 41)), (1, .int (nI s1)), (2, .int y), (3, .int (nI L)), (4, .int (nI t)), (5, .int (nI (128 * t + i)))] → W p l e (headSpec wsX10_layLevels (z_rm 1 23)).room s m args below meth c H locs 0 0 (MQ below (va_Qv (fun g1 => ∃ ln1 la1 wa1 : Nat → Int32, g1 49 = .inl (Z.2.2.2 0, 13, .inl ln1) ∧ g1 50 = .inl (Z.2.2.2 0, 1664, .inl la1) ∧ g1 51 = .inl (Z.2.2.2 0, 1664, .inl wa1) ∧ zly (sg s1) y.toInt L ln1 la1 wa1 ∧ z_fr 49 3 g g1) (z_B Z) (z_A Z sz)) args s 0 0 (z_A Z sz)) (F0 m 41 ls []) := by
          intro nn_41
          induction nn_41 with
          | zero => intro i k ln2 la2 gb h_m h_u h_q h_n9 h_g h_lm h_la h_wa hfr_gb hi hk hkc hks hag hm_41 H locs ls hS hl; exact absurd hm_41 (Nat.not_lt_zero _)
          | succ nn_41 ih_41 =>
            intro i k ln2 la2 gb h_m h_u h_q h_n9 h_g h_lm h_la h_wa hfr_gb hi hk hkc hks hag hm_41 H locs ls hS hl
            have hk41 : k ≤ 41 := Nat.le_trans (Nat.le_of_eq hkc) (zct_le _ 41)
            refine lv_iload hx hb dX10_layLevels_41 (lv_at hl 5 rfl) ?_
            refine lv_sipush (v := 128) hx hb dX10_layLevels_43 (by decide) ?_
            refine lv_iload hx hb dX10_layLevels_46 (lv_at hl 4 rfl) ?_
            refine lv_imul hx hb dX10_layLevels_48 ?_
            rw [show 128 * (nI t) = nI (128 * t) from zm_x128 (by omega)]
            refine lv_aload_n hx hb dX10_layLevels_49 rfl (lv_at hl 0 rfl) ?_
            refine z_get (own := RX10) (C := RX10) (T := TX10) (N := 21) hx hb hts in_X10_layLevels_10 hown hK hS h_m hM41 rfl 10 (by decide) (List.mem_of_getElem? (i := 1) rfl) rfl rfl dX10_layLevels_50 ?_
            refine lv_iload hx hb dX10_layLevels_53 (lv_at hl 4 rfl) ?_
            refine z_iald hx hb hK hS h_lm hM49 (vp_in_nI (by omega) (by omega)) dX10_layLevels_55 ?_
            rw [show ln2 (nI t).toNatClampNeg = nI n from by rw [nI_clamp (by omega), hag.1 t (by omega)]; exact hln]
            refine lv_iadd hx hb dX10_layLevels_56 ?_
            rw [show (nI (128 * t)) + (nI n) = nI (128 * t + n) from zm_add (by omega)]
            refine lv_icmp_ge (tgt := 178) hx hb dX10_layLevels_57 (by decide) (fun c_31 => ?_) (fun c_31 => ?_)
            · have i_31 := z_le c_31
              rw [nI_toInt (by omega)] at i_31
              rw [nI_toInt (by omega)] at i_31
              have hin : i = n := by omega
              refine lv_iinc (v := (nI (t + 1))) (lv' := [(4, .int (nI (t + 1))), (0, .ref (Z.2.1 41)), (1, .int (nI s1)), (2, .int y), (3, .int (nI L)), (5, .int (nI (128 * t + i)))]) hx hb dX10_layLevels_178 hl (k := 4) rfl (nI_1 _) (by decide) rfl (fun ls hl => ?_)
              refine lv_goto (tgt := 17) hx hb dX10_layLevels_181 (by decide) ?_
              exact ih_17 (t + 1) ln2 la2 gb h_m h_u h_q h_n9 h_g h_lm h_la h_wa hfr_gb (by omega) (fun u hu => by
                  by_cases h9 : u = t + 1
                  · rw [h9]; exact ⟨k, hk, hk41, fun v => (hks v).trans (by rw [hin]; exact zpq_end hlm v)⟩
                  · exact zlv_cong (hlv u (by omega)) (hag.1 u h9) (fun q h1 h2 => hag.2 q (by omega))) (by omega) _ _ _ hS (lv_sub hl [1, 2, 3, 4, 0] rfl)
            · have i_31 := z_nle c_31
              rw [nI_toInt (by omega)] at i_31
              rw [nI_toInt (by omega)] at i_31
              have hin : i < n := by omega
              have hxv := hvb i hin
              have hxr := (hlo t (by omega)).2 _ hxv
              refine lv_iconst (v := 0) hx hb dX10_layLevels_60 (by decide) ?_
              refine lv_istore (lv' := [(6, .int 0), (0, .ref (Z.2.1 41)), (1, .int (nI s1)), (2, .int y), (3, .int (nI L)), (4, .int (nI t)), (5, .int (nI (128 * t + i)))]) hx hb dX10_layLevels_61 hl (by decide) rfl (fun ls hl => ?_)
              have hcut_63 : ∀ (nn_63 : Nat) (j : Nat) (k2 : Nat) (ln3 : Nat → Int32) (la3 : Nat → Int32) (gc : Nat → va_E) (h_m : gc 41 = .inr (10, [.ref (Z.2.1 42), .ref (Z.2.1 43), .ref (Z.2.1 44), .ref (Z.2.1 45), .int v4, .int v5, .int v6, .ref (Z.2.1 46), .ref (Z.2.1 47), .ref (Z.2.1 48), .ref (Z.2.1 49), .ref (Z.2.1 50), .ref (Z.2.1 51), .ref (Z.2.1 52), .ref (Z.2.1 53), .long v15, .long v16, .int v17, .ref (Z.2.1 54), .ref (Z.2.1 55), .ref (Z.2.1 56)])) (h_u : gc 42 = .inl (Z.2.2.2 0, 2, .inl fu)) (h_q : gc 43 = .inl (Z.2.2.2 0, 2, .inl fq)) (h_n9 : gc 44 = .inl (Z.2.2.2 0, 2, .inl fm)) (h_g : gc 45 = .inl (Z.2.2.2 0, 24, .inl fd)) (h_lm : gc 49 = .inl (Z.2.2.2 0, 13, .inl ln3)) (h_la : gc 50 = .inl (Z.2.2.2 0, 1664, .inl la3)) (h_wa : gc 51 = .inl (Z.2.2.2 0, 1664, .inl wa)) (hfr_gc : z_fr 49 3 g gc) (hj : j ≤ (sg s1).2.2.1) (hk2 : ln3 (t + 1) = nI k2) (hkc2 : k2 = zln la3 (t + 1) k2 (lo (t + 1))) (hks2 : ∀ v, zlm la3 (t + 1) k2 v ↔ zpq (sg s1) la1 t i j v) (hag2 : (∀ u, u ≠ t + 1 → ln3 u = ln1 u) ∧ ∀ q, q < 128 * (t + 1) → la3 q = la1 q) (hm_63 : (sg s1).2.2.1 - j < nn_63) (H : Heap) (locs : List Loc) (ls : Array Slot), z_S Z (z_A Z sz) s.heap gc H locs → lv_has ls 8 [(0, .ref (Z.2.1 41)), (1, .int (nI s1)), (2, .int y), (3, .int (nI L)), (4, .int (nI t)), (5, .int (nI (128 * t + i))), (6, .int (nI j))] → W p l e (headSpec wsX10_layLevels (z_rm 1 23)).room s m args below meth c H locs 0 0 (MQ below (va_Qv (fun g1 => ∃ ln1 la1 wa1 : Nat → Int32, g1 49 = .inl (Z.2.2.2 0, 13, .inl ln1) ∧ g1 50 = .inl (Z.2.2.2 0, 1664, .inl la1) ∧ g1 51 = .inl (Z.2.2.2 0, 1664, .inl wa1) ∧ zly (sg s1) y.toInt L ln1 la1 wa1 ∧ z_fr 49 3 g g1) (z_B Z) (z_A Z sz)) args s 0 0 (z_A Z sz)) (F0 m 63 ls []) := by
                intro nn_63
                induction nn_63 with
                | zero => intro j k2 ln3 la3 gc h_m h_u h_q h_n9 h_g h_lm h_la h_wa hfr_gc hj hk2 hkc2 hks2 hag2 hm_63 H locs ls hS hl; exact absurd hm_63 (Nat.not_lt_zero _)
                | succ nn_63 ih_63 =>
                  intro j k2 ln3 la3 gc h_m h_u h_q h_n9 h_g h_lm h_la h_wa hfr_gc hj hk2 hkc2 hks2 hag2 hm_63 H locs ls hS hl
                  have hk41 : k2 ≤ 41 := Nat.le_trans (Nat.le_of_eq hkc2) (zct_le _ 41)
                  refine lv_iload hx hb dX10_layLevels_63 (lv_at hl 6 rfl) ?_
                  refine lv_aload_n hx hb dX10_layLevels_65 rfl (lv_at hl 0 rfl) ?_
                  refine z_get (own := RX10) (C := RX10) (T := TX10) (N := 21) hx hb hts in_X10_layLevels_10 hown hK hS h_m hM41 rfl 2 (by decide) (List.mem_of_getElem? (i := 3) rfl) rfl rfl dX10_layLevels_66 ?_
                  refine lv_iload_n hx hb dX10_layLevels_69 rfl (lv_at hl 1 rfl) ?_
                  refine z_iald hx hb hK hS h_n9 hM44 (vp_in_nI (by omega) (by omega)) dX10_layLevels_70 ?_
                  rw [show fm (nI s1).toNatClampNeg = nI (sg s1).2.2.1 from by rw [nI_clamp (by omega)]; exact hm]
                  refine lv_icmp_ge (tgt := 172) hx hb dX10_layLevels_71 (by decide) (fun c_32 => ?_) (fun c_32 => ?_)
                  · have i_32 := z_le c_32
                    rw [nI_toInt (by omega)] at i_32
                    rw [nI_toInt (by omega)] at i_32
                    have hjc : j = (sg s1).2.2.1 := by omega
                    refine lv_iinc (v := (nI (128 * t + i + 1))) (lv' := [(5, .int (nI (128 * t + i + 1))), (0, .ref (Z.2.1 41)), (1, .int (nI s1)), (2, .int y), (3, .int (nI L)), (4, .int (nI t)), (6, .int (nI j))]) hx hb dX10_layLevels_172 hl (k := 5) rfl (nI_1 _) (by decide) rfl (fun ls hl => ?_)
                    refine lv_goto (tgt := 41) hx hb dX10_layLevels_175 (by decide) ?_
                    exact ih_41 (i + 1) k2 ln3 la3 gc h_m h_u h_q h_n9 h_g h_lm h_la h_wa hfr_gc (by omega) hk2 hkc2 (fun v => (hks2 v).trans (by rw [hjc]; exact zpq_next.symm)) hag2 (by omega) _ _ _ hS (lv_sub hl [1, 2, 3, 4, 5, 0] rfl)
                  · have i_32 := z_nle c_32
                    rw [nI_toInt (by omega)] at i_32
                    rw [nI_toInt (by omega)] at i_32
                    have hjc : j < (sg s1).2.2.1 := by omega
                    refine lv_aload_n hx hb dX10_layLevels_74 rfl (lv_at hl 0 rfl) ?_
                    refine lv_iload_n hx hb dX10_layLevels_75 rfl (lv_at hl 1 rfl) ?_
                    refine lv_aload_n hx hb dX10_layLevels_76 rfl (lv_at hl 0 rfl) ?_
                    refine z_get (own := RX10) (C := RX10) (T := TX10) (N := 21) hx hb hts in_X10_layLevels_10 hown hK hS h_m hM41 rfl 11 (by decide) (List.mem_of_getElem? (i := 2) rfl) rfl rfl dX10_layLevels_77 ?_
                    refine lv_iload hx hb dX10_layLevels_80 (lv_at hl 5 rfl) ?_
                    refine z_iald hx hb hK hS h_la hM50 (vp_in_nI (by omega) (by omega)) dX10_layLevels_82 ?_
                    rw [show la3 (nI (128 * t + i)).toNatClampNeg = la1 (128 * t + i) from by rw [nI_clamp (by omega)]; exact hag2.2 _ (by omega)]
                    refine lv_iload hx hb dX10_layLevels_83 (lv_at hl 6 rfl) ?_
                    refine z_calli (z_runV (As := [.int (nI s1), .int (la1 (128 * t + i)), .int (nI j)]) (rest := []) ⟨hx, hb, hml, hown, hts⟩ hK hS ((m_fits Z gc sg ⟨_, _, _, _, _, _, fu, fq, fm, fd, h_m, h_u, h_q, h_n9, h_g, hMN, hSg⟩ s1 hs1 (la1 (128 * t + i)) (by omega) j (by omega)) l _) gX10_layLevels_X10_fits rfl 3 (by decide +kernel) ⟨Nat.le_of_ble_eq_true rfl, Nat.le_of_ble_eq_true rfl⟩ h_m hM41 rfl rfl hl.1 rfl (Nat.le_of_ble_eq_true rfl) dX10_layLevels_85 ⟨Nat.le_of_ble_eq_true rfl, Nat.le_of_ble_eq_true rfl⟩) hS (fun ft g_33 H locs hp_34 hS => ?_)
                    obtain ⟨rfl, hp_34⟩ := hp_34
                    have hft := hp_34
                    refine lv_if_eq (tgt := 166) hx hb dX10_layLevels_88 (by decide) (fun c_35 => ?_) (fun c_35 => ?_)
                    · have i_35 := z_eq c_35
                      rw [tI_0] at i_35
                      have hnd := zbo_f hft c_35
                      skip
                      refine lv_iinc (v := (nI (j + 1))) (lv' := [(6, .int (nI (j + 1))), (0, .ref (Z.2.1 41)), (1, .int (nI s1)), (2, .int y), (3, .int (nI L)), (4, .int (nI t)), (5, .int (nI (128 * t + i)))]) hx hb dX10_layLevels_166 hl (k := 6) rfl (nI_1 _) (by decide) rfl (fun ls hl => ?_)
                      refine lv_goto (tgt := 63) hx hb dX10_layLevels_169 (by decide) ?_
                      exact ih_63 (j + 1) k2 ln3 la3 gc h_m h_u h_q h_n9 h_g h_lm h_la h_wa hfr_gc (by omega) hk2 hkc2 (fun v => (hks2 v).trans (zpq_no hnd).symm) hag2 (by omega) _ _ _ hS (lv_sub hl [1, 2, 3, 4, 5, 6, 0] rfl)
                    · have i_35 := z_ne c_35
                      rw [tI_0] at i_35
                      have hd9 := zbo_t hft c_35
                      refine lv_aload_n hx hb dX10_layLevels_91 rfl (lv_at hl 0 rfl) ?_
                      refine lv_iload hx hb dX10_layLevels_92 (lv_at hl 4 rfl) ?_
                      refine lv_iconst (v := 1) hx hb dX10_layLevels_94 (by decide) ?_
                      refine lv_iadd hx hb dX10_layLevels_95 ?_
                      rw [show (nI t) + 1 = nI (t + 1) from nI_1 _]
                      refine lv_aload_n hx hb dX10_layLevels_96 rfl (lv_at hl 0 rfl) ?_
                      refine lv_iload_n hx hb dX10_layLevels_97 rfl (lv_at hl 1 rfl) ?_
                      refine lv_aload_n hx hb dX10_layLevels_98 rfl (lv_at hl 0 rfl) ?_
                      refine z_get (own := RX10) (C := RX10) (T := TX10) (N := 21) hx hb hts in_X10_layLevels_10 hown hK hS h_m hM41 rfl 11 (by decide) (List.mem_of_getElem? (i := 2) rfl) rfl rfl dX10_layLevels_99 ?_
                      refine lv_iload hx hb dX10_layLevels_102 (lv_at hl 5 rfl) ?_
                      refine z_iald hx hb hK hS h_la hM50 (vp_in_nI (by omega) (by omega)) dX10_layLevels_104 ?_
                      rw [show la3 (nI (128 * t + i)).toNatClampNeg = la1 (128 * t + i) from by rw [nI_clamp (by omega)]; exact hag2.2 _ (by omega)]
                      refine lv_iload hx hb dX10_layLevels_105 (lv_at hl 6 rfl) ?_
                      refine z_calli (z_runV (As := [.int (nI s1), .int (la1 (128 * t + i)), .int (nI j)]) (rest := [.int (nI (t + 1)), .ref (Z.2.1 41)]) ⟨hx, hb, hml, hown, hts⟩ hK hS ((m_rest Z gc sg ⟨_, _, _, _, _, _, fu, fq, fm, fd, h_m, h_u, h_q, h_n9, h_g, hMN, hSg⟩ s1 hs1 (la1 (128 * t + i)) (by omega) j (by omega)) l _) gX10_layLevels_X10_rest rfl 3 (by decide +kernel) ⟨Nat.le_of_ble_eq_true rfl, Nat.le_of_ble_eq_true rfl⟩ h_m hM41 rfl rfl hl.1 rfl (Nat.le_of_ble_eq_true rfl) dX10_layLevels_107 ⟨Nat.le_of_ble_eq_true rfl, Nat.le_of_ble_eq_true rfl⟩) hS (fun rs g_36 H locs hp_37 hS => ?_)
                      obtain ⟨rfl, hp_37⟩ := hp_37
                      have hrs := hp_37
                      have hrb : zrb (sg s1) y.toInt (t + 1) rs.toInt := by rw [hrs]; exact zrb_next hxv hjc hd9
                      have hrr := (hlo (t + 1) (by omega)).2 _ hrb
                      refine z_calli (z_runV (As := [.int (nI (t + 1)), .int rs]) (rest := []) ⟨hx, hb, hml, hown, hts⟩ hK hS ((m_placeIn Z gc sg ⟨_, _, _, _, _, _, fu, fq, fm, fd, h_m, h_u, h_q, h_n9, h_g, hMN, hSg⟩ ln3 la3 h_lm h_la (t + 1) k2 (by omega) hk41 hk2 rs) l _) gX10_layLevels_X10_placeIn rfl 2 (by decide +kernel) ⟨Nat.le_of_ble_eq_true rfl, Nat.le_of_ble_eq_true rfl⟩ h_m hM41 rfl rfl hl.1 rfl (Nat.le_of_ble_eq_true rfl) dX10_layLevels_110 ⟨Nat.le_of_ble_eq_true rfl, Nat.le_of_ble_eq_true rfl⟩) hS (fun pl g_38 H locs hp_39 hS => ?_)
                      obtain ⟨rfl, hp_39⟩ := hp_39
                      have hpl := hp_39
                      refine lv_if_ge (tgt := 166) hx hb dX10_layLevels_113 (by decide) (fun c_40 => ?_) (fun c_40 => ?_)
                      · have i_40 := z_le c_40
                        rw [tI_0] at i_40
                        have hin9 : zlm la3 (t + 1) k2 rs.toInt := by
                          rcases hpl with ⟨i9, h1, h2, -⟩ | ⟨-, h2⟩
                          · exact ⟨i9, h1, h2⟩
                          · exfalso; rw [h2, tI_m1] at i_40; omega
                        clear hpl
                        skip
                        refine lv_iinc (v := (nI (j + 1))) (lv' := [(6, .int (nI (j + 1))), (0, .ref (Z.2.1 41)), (1, .int (nI s1)), (2, .int y), (3, .int (nI L)), (4, .int (nI t)), (5, .int (nI (128 * t + i)))]) hx hb dX10_layLevels_166 hl (k := 6) rfl (nI_1 _) (by decide) rfl (fun ls hl => ?_)
                        refine lv_goto (tgt := 63) hx hb dX10_layLevels_169 (by decide) ?_
                        exact ih_63 (j + 1) k2 ln3 la3 gc h_m h_u h_q h_n9 h_g h_lm h_la h_wa hfr_gc (by omega) hk2 hkc2 (fun v => ⟨fun q => (zpq_yes hd9).mpr (Or.inl ((hks2 v).mp q)), fun q => ((zpq_yes hd9).mp q).elim (hks2 v).mpr (fun e => by rw [e, ← hrs]; exact hin9)⟩) hag2 (by omega) _ _ _ hS (lv_sub hl [1, 2, 3, 4, 5, 6, 0] rfl)
                      · have i_40 := z_nle c_40
                        rw [tI_0] at i_40
                        have hnot : ¬ zlm la3 (t + 1) k2 rs.toInt := by
                          rcases hpl with ⟨i9, h1, h2, h3⟩ | ⟨h2, -⟩
                          · exfalso; rw [h3, nI_toInt (by omega)] at i_40; omega
                          · exact fun ⟨i9, h3, h4⟩ => h2 i9 h3 h4
                        clear hpl
                        refine lv_aload_n hx hb dX10_layLevels_116 rfl (lv_at hl 0 rfl) ?_
                        refine z_get (own := RX10) (C := RX10) (T := TX10) (N := 21) hx hb hts in_X10_layLevels_10 hown hK hS h_m hM41 rfl 11 (by decide) (List.mem_of_getElem? (i := 2) rfl) rfl rfl dX10_layLevels_117 ?_
                        refine lv_sipush (v := 128) hx hb dX10_layLevels_120 (by decide) ?_
                        refine lv_iload hx hb dX10_layLevels_123 (lv_at hl 4 rfl) ?_
                        refine lv_iconst (v := 1) hx hb dX10_layLevels_125 (by decide) ?_
                        refine lv_iadd hx hb dX10_layLevels_126 ?_
                        rw [show (nI t) + 1 = nI (t + 1) from nI_1 _]
                        refine lv_imul hx hb dX10_layLevels_127 ?_
                        rw [show 128 * (nI (t + 1)) = nI (128 * (t + 1)) from zm_x128 (by omega)]
                        refine lv_aload_n hx hb dX10_layLevels_128 rfl (lv_at hl 0 rfl) ?_
                        refine z_get (own := RX10) (C := RX10) (T := TX10) (N := 21) hx hb hts in_X10_layLevels_10 hown hK hS h_m hM41 rfl 10 (by decide) (List.mem_of_getElem? (i := 1) rfl) rfl rfl dX10_layLevels_129 ?_
                        refine lv_iload hx hb dX10_layLevels_132 (lv_at hl 4 rfl) ?_
                        refine lv_iconst (v := 1) hx hb dX10_layLevels_134 (by decide) ?_
                        refine lv_iadd hx hb dX10_layLevels_135 ?_
                        rw [show (nI t) + 1 = nI (t + 1) from nI_1 _]
                        refine z_iald hx hb hK hS h_lm hM49 (vp_in_nI (by omega) (by omega)) dX10_layLevels_136 ?_
                        rw [show ln3 (nI (t + 1)).toNatClampNeg = nI k2 from by rw [nI_clamp (by omega)]; exact hk2]
                        refine lv_iadd hx hb dX10_layLevels_137 ?_
                        rw [show (nI (128 * (t + 1))) + (nI k2) = nI (128 * (t + 1) + k2) from zm_add (by omega)]
                        refine lv_aload_n hx hb dX10_layLevels_138 rfl (lv_at hl 0 rfl) ?_
                        refine lv_iload_n hx hb dX10_layLevels_139 rfl (lv_at hl 1 rfl) ?_
                        refine lv_aload_n hx hb dX10_layLevels_140 rfl (lv_at hl 0 rfl) ?_
                        refine z_get (own := RX10) (C := RX10) (T := TX10) (N := 21) hx hb hts in_X10_layLevels_10 hown hK hS h_m hM41 rfl 11 (by decide) (List.mem_of_getElem? (i := 2) rfl) rfl rfl dX10_layLevels_141 ?_
                        refine lv_iload hx hb dX10_layLevels_144 (lv_at hl 5 rfl) ?_
                        refine z_iald hx hb hK hS h_la hM50 (vp_in_nI (by omega) (by omega)) dX10_layLevels_146 ?_
                        rw [show la3 (nI (128 * t + i)).toNatClampNeg = la1 (128 * t + i) from by rw [nI_clamp (by omega)]; exact hag2.2 _ (by omega)]
                        refine lv_iload hx hb dX10_layLevels_147 (lv_at hl 6 rfl) ?_
                        refine z_calli (z_runV (As := [.int (nI s1), .int (la1 (128 * t + i)), .int (nI j)]) (rest := [.int (nI (128 * (t + 1) + k2)), .ref (Z.2.1 50)]) ⟨hx, hb, hml, hown, hts⟩ hK hS ((m_rest Z gc sg ⟨_, _, _, _, _, _, fu, fq, fm, fd, h_m, h_u, h_q, h_n9, h_g, hMN, hSg⟩ s1 hs1 (la1 (128 * t + i)) (by omega) j (by omega)) l _) gX10_layLevels_X10_rest rfl 3 (by decide +kernel) ⟨Nat.le_of_ble_eq_true rfl, Nat.le_of_ble_eq_true rfl⟩ h_m hM41 rfl rfl hl.1 rfl (Nat.le_of_ble_eq_true rfl) dX10_layLevels_149 ⟨Nat.le_of_ble_eq_true rfl, Nat.le_of_ble_eq_true rfl⟩) hS (fun rs2 g_41 H locs hp_42 hS => ?_)
                        obtain ⟨rfl, hp_42⟩ := hp_42
                        have e2 : rs2.toInt = rs.toInt := hp_42.trans hrs.symm
                        refine z_iast hx hb hK hS h_la hM50 (vp_in_nI (by omega) (by omega)) dX10_layLevels_152 (fun g_43 H locs hg_43 hS => ?_)
                        have h_la : g_43 50 = .inl (Z.2.2.2 0, 1664, .inl (upd la3 (nI (128 * (t + 1) + k2)).toNatClampNeg rs2)) := z_up_s hg_43
                        have h_m := z_up_n hg_43 h_m (by omega)
                        have h_u := z_up_n hg_43 h_u (by omega)
                        have h_q := z_up_n hg_43 h_q (by omega)
                        have h_n9 := z_up_n hg_43 h_n9 (by omega)
                        have h_g := z_up_n hg_43 h_g (by omega)
                        have h_lm := z_up_n hg_43 h_lm (by omega)
                        have h_wa := z_up_n hg_43 h_wa (by omega)
                        refine lv_aload_n hx hb dX10_layLevels_153 rfl (lv_at hl 0 rfl) ?_
                        refine z_get (own := RX10) (C := RX10) (T := TX10) (N := 21) hx hb hts in_X10_layLevels_10 hown hK hS h_m hM41 rfl 10 (by decide) (List.mem_of_getElem? (i := 1) rfl) rfl rfl dX10_layLevels_154 ?_
                        refine lv_iload hx hb dX10_layLevels_157 (lv_at hl 4 rfl) ?_
                        refine lv_iconst (v := 1) hx hb dX10_layLevels_159 (by decide) ?_
                        refine lv_iadd hx hb dX10_layLevels_160 ?_
                        rw [show (nI t) + 1 = nI (t + 1) from nI_1 _]
                        refine lv_dup2_11 hx hb dX10_layLevels_161 rfl rfl ?_
                        refine z_iald hx hb hK hS h_lm hM49 (vp_in_nI (by omega) (by omega)) dX10_layLevels_162 ?_
                        rw [show ln3 (nI (t + 1)).toNatClampNeg = nI k2 from by rw [nI_clamp (by omega)]; exact hk2]
                        refine lv_iconst (v := 1) hx hb dX10_layLevels_163 (by decide) ?_
                        refine lv_iadd hx hb dX10_layLevels_164 ?_
                        rw [show (nI k2) + 1 = nI (k2 + 1) from nI_1 _]
                        refine z_iast hx hb hK hS h_lm hM49 (vp_in_nI (by omega) (by omega)) dX10_layLevels_165 (fun g_44 H locs hg_44 hS => ?_)
                        have h_lm : g_44 49 = .inl (Z.2.2.2 0, 13, .inl (upd ln3 (nI (t + 1)).toNatClampNeg (nI (k2 + 1)))) := z_up_s hg_44
                        have h_m := z_up_n hg_44 h_m (by omega)
                        have h_u := z_up_n hg_44 h_u (by omega)
                        have h_q := z_up_n hg_44 h_q (by omega)
                        have h_n9 := z_up_n hg_44 h_n9 (by omega)
                        have h_g := z_up_n hg_44 h_g (by omega)
                        have h_la := z_up_n hg_44 h_la (by omega)
                        have h_wa := z_up_n hg_44 h_wa (by omega)
                        rw [nI_clamp (by omega)] at h_lm h_la
                        refine lv_iinc (v := (nI (j + 1))) (lv' := [(6, .int (nI (j + 1))), (0, .ref (Z.2.1 41)), (1, .int (nI s1)), (2, .int y), (3, .int (nI L)), (4, .int (nI t)), (5, .int (nI (128 * t + i)))]) hx hb dX10_layLevels_166 hl (k := 6) rfl (nI_1 _) (by decide) rfl (fun ls hl => ?_)
                        refine lv_goto (tgt := 63) hx hb dX10_layLevels_169 (by decide) ?_
                        exact ih_63 (j + 1) (k2 + 1) (upd ln3 (t + 1) (nI (k2 + 1))) (upd la3 (128 * (t + 1) + k2) rs2) g_44 h_m h_u h_q h_n9 h_g h_lm h_la h_wa ((hfr_gc.up hg_43 (by omega)).up hg_44 (by omega)) (by omega) pk_us (by rw [zln_put (by omega) (by omega) (by rw [e2]; exact hnot), ← hkc2]) (fun v => zlm_put.trans ⟨fun q => (zpq_yes hd9).mpr (q.imp (hks2 v).mp (fun e => by rw [e, e2, hrs])), fun q => ((zpq_yes hd9).mp q).imp (hks2 v).mpr (fun e => by rw [e, e2, hrs])⟩) ⟨fun u hu => by rw [pk_un hu]; exact hag2.1 u hu, fun q hq => by rw [pk_un (by omega)]; exact hag2.2 q hq⟩ (by omega) _ _ _ hS (lv_sub hl [1, 2, 3, 4, 5, 6, 0] rfl)
              exact hcut_63 ((sg s1).2.2.1 - 0 + 1) 0 k ln2 la2 gb h_m h_u h_q h_n9 h_g h_lm h_la h_wa hfr_gb (by omega) hk hkc hks hag (Nat.lt_succ_self _) _ _ _ hS (lv_sub hl [1, 2, 3, 4, 5, 6, 0] rfl)
        exact hcut_41 (n - 0 + 1) 0 0 (upd ln1 (t + 1) 0) la1 g_30 h_m h_u h_q h_n9 h_g h_lm h_la h_wa (hfr_ga.up hg_30 (by omega)) (by omega) pk_us (zln_0 _ _ _).symm (fun v => ⟨fun ⟨i9, hi9, _⟩ => absurd hi9 (Nat.not_lt_zero i9), fun q => absurd q zpq_0⟩) ⟨fun u hu => pk_un hu, fun q hq => rfl⟩ (Nat.lt_succ_self _) _ _ _ hS (lv_sub hl [1, 2, 3, 4, 5, 0] rfl)
  exact hcut_17 (L - 0 + 1) 0 (upd ln 0 1) (upd la 0 y) g_2 h_m h_u h_q h_n9 h_g h_lm h_la h_wa ((z_fr.rf.up hg_1 (by omega)).up hg_2 (by omega)) (by omega) (fun u hu => by
      rw [show u = 0 by omega]; exact zlv_0 pk_us (congrArg Int32.toInt pk_us)) (Nat.lt_succ_self _) _ _ _ hS (lv_sub hl [1, 2, 3, 4, 0] rfl)

