/-! Doubles by the bits of their size (without sign): gd r = fc r * 2 ** pw r in units of 2 ** -1074; md r: the middle of r and r + 1, in units of 2 ** -1075. Draft, not built yet. -/
def fc (r : Nat) : Nat := if r < 4503599627370496 then r else r % 4503599627370496 + 4503599627370496
def pw (r : Nat) : Nat := max (r / 4503599627370496) 1 - 1
def gd (r : Nat) : Nat := fc r * 2 ^ pw r
def md (r : Nat) : Nat := (2 * fc r + 1) * 2 ^ pw r
theorem rep_r (r : Nat) : r = pw r * 4503599627370496 + fc r ∧ fc r < 9007199254740992 ∧ (pw r = 0 ∨ 4503599627370496 ≤ fc r) := by
  unfold fc pw
  split <;> omega
theorem gd_qf {q f : Nat} (hf : f ≤ 9007199254740992) (hq : q = 0 ∨ 4503599627370496 ≤ f) : gd (q * 4503599627370496 + f) = f * 2 ^ q := by
  rcases Nat.lt_or_ge f 4503599627370496 with h | h
  · have : q = 0 := by omega
    subst this
    unfold gd
    rw [show fc (0 * 4503599627370496 + f) = f by unfold fc; rw [if_pos (by omega)]; omega, show pw (0 * 4503599627370496 + f) = 0 by unfold pw; omega]
  · rcases Nat.lt_or_ge f 9007199254740992 with h1 | h1
    · unfold gd
      rw [show fc (q * 4503599627370496 + f) = f by unfold fc; rw [if_neg (by omega)]; omega, show pw (q * 4503599627370496 + f) = q by unfold pw; omega]
    · have : f = 9007199254740992 := by omega
      subst this
      unfold gd
      rw [show fc (q * 4503599627370496 + 9007199254740992) = 4503599627370496 by unfold fc; rw [if_neg (by omega)]; omega, show pw (q * 4503599627370496 + 9007199254740992) = q + 1 by unfold pw; omega, Nat.pow_succ]
      generalize 2 ^ q = z
      omega
theorem gd_s (r : Nat) : gd (r + 1) = gd r + 2 ^ pw r := by
  obtain ⟨h1, h2, h3⟩ := rep_r r
  have h4 : r + 1 = pw r * 4503599627370496 + (fc r + 1) := by omega
  have h5 := gd_qf (q := pw r) (f := fc r + 1) (by omega) (by omega)
  rw [← h4] at h5
  rw [h5, gd, Nat.add_mul, Nat.one_mul]
theorem md_gd (r : Nat) : md r = gd r + gd (r + 1) := by
  rw [gd_s, md, gd]
  generalize 2 ^ pw r = z
  rw [Nat.add_mul, Nat.mul_assoc]
  omega
theorem gd_lt {a b : Nat} (h : a < b) : gd a < gd b := by
  induction b with
  | zero => omega
  | succ b ih =>
    have h1 := gd_s b
    have h2 : 0 < 2 ^ pw b := Nat.pow_pos (by omega)
    rcases Nat.lt_or_ge a b with h3 | h3
    · have := ih h3; omega
    · have : a = b := by omega
      subst this; omega
theorem md_lt {a b : Nat} (h : a < b) : md a < md b := by
  have h1 := md_gd a
  have h2 := md_gd b
  have h3 := gd_lt h
  have h4 : gd (a + 1) < gd (b + 1) := gd_lt (by omega)
  omega
theorem md_le {a b : Nat} (h : a ≤ b) : md a ≤ md b := by
  rcases Nat.lt_or_ge a b with h1 | h1
  · exact Nat.le_of_lt (md_lt h1)
  · have : a = b := by omega
    subst this; exact Nat.le_refl _
/-- X / U, in units of 2 ** -1075, is nearest to double r -/
def Near (X U r : Nat) : Prop := (X < md r * U ∨ X = md r * U ∧ r % 2 = 0) ∧ (r = 0 ∨ md (r - 1) * U < X ∨ X = md (r - 1) * U ∧ r % 2 = 0)
theorem near_one0 {X U r t : Nat} (hU : 0 < U) (h1 : Near X U r) (h2 : Near X U t) (h : r < t) : False := by
  obtain ⟨a, -⟩ := h1
  obtain ⟨-, b⟩ := h2
  have h3 : md r * U ≤ md (t - 1) * U := Nat.mul_le_mul_right U (md_le (by omega))
  have h4 : md r * U = md (t - 1) * U → r = t - 1 := by
    intro e
    have e1 := Nat.eq_of_mul_eq_mul_right hU e
    rcases Nat.lt_or_ge r (t - 1) with h5 | h5
    · have := md_lt h5; omega
    · omega
  omega
theorem near_one {X U r t : Nat} (hU : 0 < U) (h1 : Near X U r) (h2 : Near X U t) : r = t := by
  rcases Nat.lt_trichotomy r t with h | h | h
  · exact (near_one0 hU h1 h2 h).elim
  · exact h
  · exact (near_one0 hU h2 h1 h).elim
/-- a size between f and f + 1 times 2 ** q goes down -/
theorem near_dn {X U q f : Nat} (hf : f < 9007199254740992) (hq : q = 0 ∨ 4503599627370496 ≤ f) (hU : 0 < U) (lo : 2 * f * 2 ^ q * U ≤ X) (hi : X < (2 * f + 1) * 2 ^ q * U ∨ X = (2 * f + 1) * 2 ^ q * U ∧ f % 2 = 0) : Near X U (q * 4503599627370496 + f) := by
  have h1 := gd_qf (q := q) (f := f) (by omega) hq
  have h2 := gd_qf (q := q) (f := f + 1) (by omega) (by omega)
  have h3 : md (q * 4503599627370496 + f) = (2 * f + 1) * 2 ^ q := by
    rw [md_gd, h1, show q * 4503599627370496 + f + 1 = q * 4503599627370496 + (f + 1) by omega, h2]
    generalize 2 ^ q = z
    rw [← Nat.add_mul]
    congr 1
    omega
  refine ⟨by rw [h3]; omega, ?_⟩
  generalize hr : q * 4503599627370496 + f = r at *
  rcases Nat.eq_zero_or_pos r with h0 | h0
  · exact Or.inl h0
  · refine Or.inr (Or.inl ?_)
    have h4 := md_gd (r - 1)
    rw [show r - 1 + 1 = r by omega] at h4
    have h5 : gd (r - 1) < gd r := gd_lt (by omega)
    have h6 : md (r - 1) < 2 * f * 2 ^ q := by
      rw [Nat.mul_assoc, ← h1]; omega
    exact Nat.lt_of_lt_of_le (Nat.mul_lt_mul_of_pos_right h6 hU) lo
/-- .. and up -/
theorem near_up {X U q f : Nat} (hf : f < 9007199254740992) (hq : q = 0 ∨ 4503599627370496 ≤ f) (hU : 0 < U) (hi : X < 2 * (f + 1) * 2 ^ q * U) (lo : (2 * f + 1) * 2 ^ q * U < X ∨ X = (2 * f + 1) * 2 ^ q * U ∧ f % 2 = 1) : Near X U (q * 4503599627370496 + f + 1) := by
  have h1 := gd_qf (q := q) (f := f) (by omega) hq
  have h2 := gd_qf (q := q) (f := f + 1) (by omega) (by omega)
  have h3 : md (q * 4503599627370496 + f) = (2 * f + 1) * 2 ^ q := by
    rw [md_gd, h1, show q * 4503599627370496 + f + 1 = q * 4503599627370496 + (f + 1) by omega, h2]
    generalize 2 ^ q = z
    rw [← Nat.add_mul]
    congr 1
    omega
  rw [show q * 4503599627370496 + (f + 1) = q * 4503599627370496 + f + 1 by omega] at h2
  have hpar : (q * 4503599627370496 + f) % 2 = f % 2 := by omega
  obtain ⟨r, hr⟩ : ∃ r, r = q * 4503599627370496 + f := ⟨_, rfl⟩
  rw [← hr] at h1 h2 h3 hpar ⊢
  refine ⟨Or.inl ?_, Or.inr ?_⟩
  · have h4 := md_gd (r + 1)
    have h5 : gd (r + 1) < gd (r + 1 + 1) := gd_lt (by omega)
    have h6 : 2 * (f + 1) * 2 ^ q < md (r + 1) := by
      rw [Nat.mul_assoc, ← h2]; omega
    exact Nat.lt_trans hi (Nat.mul_lt_mul_of_pos_right h6 hU)
  · rw [show r + 1 - 1 = r by omega, h3]
    omega
/-- BEYOND, by the last double's middle -/
theorem near_inf {X U r : Nat} (hU : 0 < U) (h : Near X U r) : 9218868437227405312 ≤ r ↔ md 9218868437227405311 * U ≤ X := by
  constructor
  · intro h1
    have h2 : md 9218868437227405311 * U ≤ md (r - 1) * U := Nat.mul_le_mul_right U (md_le (by omega))
    have h3 := h.2
    omega
  · intro h1
    refine Classical.byContradiction fun h2 => ?_
    have h3 : md r * U ≤ md 9218868437227405311 * U := Nat.mul_le_mul_right U (md_le (by omega))
    have h4 := h.1
    have h5 : md r * U = md 9218868437227405311 * U → r = 9218868437227405311 := by
      intro e
      have e1 := Nat.eq_of_mul_eq_mul_right hU e
      rcases Nat.lt_or_ge r 9218868437227405311 with h6 | h6
      · have := md_lt h6; omega
      · omega
    omega
