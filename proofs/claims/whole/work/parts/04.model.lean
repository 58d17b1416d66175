/-! a system as numbers: p, q, how many digits, the digits -/
abbrev zb : Type := Int × Int × Nat × (Nat → Int)
def zP (b : zb) : Int := if b.1 < 0 then -b.1 else b.1
def zfi (f : Nat → Bool) : Nat → Nat
  | 0 => 0
  | n + 1 => if zfi f n < n then zfi f n else if f n then n else n + 1
theorem zfi_le (f : Nat → Bool) : ∀ n, zfi f n ≤ n
  | 0 => Nat.le_refl 0
  | n + 1 => by
    have ih := zfi_le f n
    unfold zfi
    split
    · omega
    · split <;> omega
theorem zfi_no (f : Nat → Bool) : ∀ n k, k < zfi f n → f k = false
  | 0, k, h => absurd h (Nat.not_lt_zero k)
  | n + 1, k, h => by
    have ih := zfi_no f n
    have hl := zfi_le f n
    unfold zfi at h
    split at h
    · exact ih k h
    · split at h
      · exact ih k (by omega)
      · rcases Nat.lt_or_ge k n with q | q
        · exact ih k (by omega)
        · have : k = n := by omega
          subst this
          simpa using ‹¬ f k = true›
theorem zfi_yes (f : Nat → Bool) : ∀ n, zfi f n < n → f (zfi f n) = true
  | 0, h => absurd h (Nat.not_lt_zero _)
  | n + 1, h => by
    have ih := zfi_yes f n
    unfold zfi at h ⊢
    split
    · exact ih ‹_›
    · rename_i h1
      rw [if_neg h1] at h
      split
      · assumption
      · rename_i h2
        rw [if_neg h2] at h; omega
theorem zfi_is {f : Nat → Bool} {n j : Nat} (hj : j < n) (h : f j = true) (h2 : ∀ k, k < j → f k = false) : zfi f n = j := by
  rcases Nat.lt_trichotomy (zfi f n) j with q | q | q
  · have := zfi_yes f n (by omega)
    rw [h2 _ q] at this; cases this
  · exact q
  · have := zfi_no f n j q
    rw [h] at this; cases this
theorem zfi_none {f : Nat → Bool} {n : Nat} (h : ∀ k, k < n → f k = false) : zfi f n = n := by
  rcases Nat.lt_or_ge (zfi f n) n with q | q
  · have := zfi_yes f n q
    rw [h _ q] at this; cases this
  · have := zfi_le f n; omega
theorem zfi_cong {f f2 : Nat → Bool} : ∀ {n : Nat}, (∀ k, k < n → f k = f2 k) → zfi f n = zfi f2 n
  | 0, _ => rfl
  | n + 1, h => by
    have ih := zfi_cong (n := n) (fun k hk => h k (by omega))
    unfold zfi
    rw [ih, h n (by omega)]
def zci (b : zb) (r : Int) : Nat := zfi (fun i => decide (b.2.2.2 i % zP b = r % zP b)) b.2.2.1
def zch (b : zb) (r : Int) : Int := if zci b r < b.2.2.1 then b.2.2.2 (zci b r) else -1000006
def zcm (b : zb) : Prop := ∀ r : Int, zci b r < b.2.2.1
def zb_ok (b : zb) : Prop := ((2 ≤ b.1 ∧ b.1 ≤ 10) ∨ (-10 ≤ b.1 ∧ b.1 ≤ -2)) ∧ 1 ≤ b.2.1 ∧ b.2.1 < zP b ∧ b.2.2.1 ≤ 12 ∧ ∀ i, i < b.2.2.1 → -20 ≤ b.2.2.2 i ∧ b.2.2.2 i ≤ 20
theorem zP_bd {b : zb} (h : zb_ok b) : 2 ≤ zP b ∧ zP b ≤ 10 ∧ (zP b = b.1 ∨ zP b = -b.1) ∧ b.2.1 ≤ 9 := by
  have h1 := h.1
  have h2 := h.2.2.1
  unfold zP at h2 ⊢
  split at h2 <;> omega
theorem zP_dvd {b : zb} (x : Int) : zP b ∣ x ↔ b.1 ∣ x := by
  unfold zP
  split
  · exact Int.neg_dvd
  · exact Iff.rfl
theorem zci_mod (b : zb) (r : Int) : zci b (r % zP b) = zci b r := by
  unfold zci
  rw [Int.emod_emod_of_dvd _ (Int.dvd_refl _)]
theorem zch_mod (b : zb) (r : Int) : zch b (r % zP b) = zch b r := by
  unfold zch; rw [zci_mod]
theorem zch_of {b : zb} {r : Int} (h : zci b r < b.2.2.1) : zch b r = b.2.2.2 (zci b r) ∧ b.2.2.2 (zci b r) % zP b = r % zP b := by
  refine ⟨by unfold zch; rw [if_pos h], ?_⟩
  have := zfi_yes _ _ h
  simpa [zci] using this
theorem zch_bd {b : zb} (hok : zb_ok b) {r : Int} (h : zci b r < b.2.2.1) : -20 ≤ zch b r ∧ zch b r ≤ 20 := by
  rw [(zch_of h).1]; exact hok.2.2.2.2 _ h
theorem zch_rng {b : zb} (hok : zb_ok b) (r : Int) : (zci b r < b.2.2.1 ∧ -20 ≤ zch b r ∧ zch b r ≤ 20) ∨ (¬ zci b r < b.2.2.1 ∧ zch b r = -1000006) := by
  by_cases h : zci b r < b.2.2.1
  · exact Or.inl ⟨h, zch_bd hok h⟩
  · exact Or.inr ⟨h, by unfold zch; rw [if_neg h]⟩
theorem zcm_iff {b : zb} (hok : zb_ok b) : zcm b ↔ ∀ r : Nat, (r : Int) < zP b → zch b r ≠ -1000006 := by
  have hP := zP_bd hok
  constructor
  · intro h r hr e
    have := zch_bd hok (h r); omega
  · intro h r
    have h1 := Int.emod_nonneg r (b := zP b) (by omega)
    have h2 := Int.emod_lt_of_pos r (b := zP b) (by omega)
    have h3 := h (r % zP b).toNat (by omega)
    rw [Int.toNat_of_nonneg h1, zch_mod] at h3
    rcases zch_rng hok r with q | q
    · exact q.1
    · exact absurd q.2 h3
/-- the next carry, and with the sum 0 the step for n = 1 -/
def zcr (b : zb) (c t : Int) : Int := (t + b.2.1 * c - zch b (t + b.2.1 * c)).tdiv b.1
def zmn (d : Nat → Int) : Nat → Int
  | 0 => 20
  | n + 1 => if d n < zmn d n then d n else zmn d n
def zmx (d : Nat → Int) : Nat → Int
  | 0 => -20
  | n + 1 => if zmx d n < d n then d n else zmx d n
def zab (d : Nat → Int) : Nat → Int
  | 0 => 0
  | n + 1 => if zab d n < (if 0 ≤ d n then d n else -d n) then (if 0 ≤ d n then d n else -d n) else zab d n
/-- the cells of a Base -/
def zo_Base (Z : zT) (g : Nat → va_E) (k : Nat) (b : zb) (p q res cmp : Int32) (dg ch : Nat → Int32) : Prop := g k = .inr (0, [.int p, .int q, .int res, .int (nI b.2.2.1), .int cmp, .ref (Z.2.1 (k + 1)), .ref (Z.2.1 (k + 2))]) ∧ g (k + 1) = .inl (Z.2.2.2 0, 12, .inl dg) ∧ g (k + 2) = .inl (Z.2.2.2 0, 10, .inl ch) ∧ k + 2 < Z.1 ∧ zb_ok b ∧ p.toInt = b.1 ∧ q.toInt = b.2.1 ∧ res.toInt = zP b ∧ ∀ i, i < b.2.2.1 → (dg i).toInt = b.2.2.2 i
def z_b0 (Z : zT) (g : Nat → va_E) (k : Nat) (b : zb) : Prop := ∃ (p q res cmp : Int32) (dg ch : Nat → Int32), zo_Base Z g k b p q res cmp dg ch
def z_b1 (Z : zT) (g : Nat → va_E) (k : Nat) (b : zb) : Prop := ∃ (p q res cmp : Int32) (dg ch : Nat → Int32), zo_Base Z g k b p q res cmp dg ch ∧ ∀ r : Nat, r < 10 → (ch r).toInt = if (r : Int) < zP b then zch b r else -1000006
def z_bs (Z : zT) (g : Nat → va_E) (k : Nat) (b : zb) : Prop := ∃ (p q res cmp : Int32) (dg ch : Nat → Int32), zo_Base Z g k b p q res cmp dg ch ∧ (∀ r : Nat, r < 10 → (ch r).toInt = if (r : Int) < zP b then zch b r else -1000006) ∧ zbo cmp (zcm b)
/-- nothing but the n cells from lo on has changed -/
def z_fr (lo n : Nat) (g g1 : Nat → va_E) : Prop := ∀ j, (j < lo ∨ lo + n ≤ j) → g1 j = g j
theorem z_fr.rf {lo n : Nat} {g : Nat → va_E} : z_fr lo n g g := fun _ _ => rfl
theorem z_fr.tr {lo n : Nat} {g g1 g2 : Nat → va_E} (h : z_fr lo n g g1) (h2 : z_fr lo n g1 g2) : z_fr lo n g g2 := fun j hj => (h2 j hj).trans (h j hj)
theorem z_fr.up {lo n k : Nat} {g g1 g2 : Nat → va_E} {e : va_E} (h : z_fr lo n g g1) (h2 : g2 = va_up g1 k e) (hk : lo ≤ k ∧ k < lo + n) : z_fr lo n g g2 := fun j hj => by
  rw [h2]
  have : j ≠ k := by omega
  simp [va_up, this, h j hj]
theorem z_fr.wide {lo n lo2 n2 : Nat} {g g1 : Nat → va_E} (h : z_fr lo n g g1) (h1 : lo2 ≤ lo) (h2 : lo + n ≤ lo2 + n2) : z_fr lo2 n2 g g1 := fun j hj => h j (by omega)
theorem z_b1.b0 {Z : zT} {g : Nat → va_E} {k : Nat} {b : zb} (h : z_b1 Z g k b) : z_b0 Z g k b := by
  obtain ⟨p, q, res, cmp, dg, ch, h1, h2⟩ := h
  exact ⟨p, q, res, cmp, dg, ch, h1⟩
theorem z_bs.b1 {Z : zT} {g : Nat → va_E} {k : Nat} {b : zb} (h : z_bs Z g k b) : z_b1 Z g k b := by
  obtain ⟨p, q, res, cmp, dg, ch, h1, h2, h3⟩ := h
  exact ⟨p, q, res, cmp, dg, ch, h1, h2⟩
theorem z_bs.b0 {Z : zT} {g : Nat → va_E} {k : Nat} {b : zb} (h : z_bs Z g k b) : z_b0 Z g k b := h.b1.b0
theorem z_bs.congr {Z : zT} {g g1 : Nat → va_E} {k : Nat} {b : zb} (h : z_bs Z g k b) (h0 : g1 k = g k) (h1 : g1 (k + 1) = g (k + 1)) (h2 : g1 (k + 2) = g (k + 2)) : z_bs Z g1 k b := by
  obtain ⟨p, q, res, cmp, dg, ch, ⟨a1, a2, a3, a4⟩, hh⟩ := h
  exact ⟨p, q, res, cmp, dg, ch, ⟨h0.trans a1, h1.trans a2, h2.trans a3, a4⟩, hh⟩
