/-! bits out of rows -/
def bv (b : Nat → Nat) : Nat → Nat
  | 0 => 0
  | c + 1 => bv b c + b c * 2 ^ c
theorem bv_s (b : Nat → Nat) (c : Nat) : bv b (c + 1) = bv b c + b c * 2 ^ c := rfl
theorem bv_cg {b d : Nat → Nat} {c : Nat} (h : ∀ i, i < c → b i = d i) : bv b c = bv d c := by
  induction c with
  | zero => rfl
  | succ c ih => rw [bv_s, bv_s, ih (fun i hi => h i (by omega)), h c (by omega)]
theorem bv_lt {b : Nat → Nat} {c : Nat} (h : ∀ i, i < c → b i < 2) : bv b c < 2 ^ c := by
  induction c with
  | zero => exact Nat.lt_of_sub_eq_succ rfl
  | succ c ih =>
    have h1 := ih (fun i hi => h i (by omega))
    have h2 := h c (by omega)
    have h3 : b c * 2 ^ c ≤ 1 * 2 ^ c := Nat.mul_le_mul_right _ (by omega)
    rw [bv_s, Nat.pow_succ]; omega
theorem bv_split {b : Nat → Nat} {c k : Nat} (h : ∀ i, i < c → b i < 2) (hk : k ≤ c) : bv b c / 2 ^ k = bv (fun i => b (k + i)) (c - k) ∧ bv b c % 2 ^ k = bv b k := by
  obtain ⟨d, rfl⟩ : ∃ d, c = k + d := ⟨c - k, by omega⟩
  rw [Nat.add_sub_cancel_left]
  have hp : 0 < 2 ^ k := Nat.pow_pos (by omega)
  have key : bv b (k + d) = 2 ^ k * bv (fun i => b (k + i)) d + bv b k := by
    clear h
    induction d with
    | zero => rw [Nat.add_zero]; show bv b k = 2 ^ k * 0 + bv b k; omega
    | succ d ih =>
      rw [← Nat.add_assoc, bv_s, ih (by omega), bv_s, Nat.pow_add]
      generalize bv (fun i => b (k + i)) d = x
      generalize bv b k = y
      generalize 2 ^ k = z
      generalize 2 ^ d = w
      grind
  have hl : bv b k < 2 ^ k := bv_lt (fun i hi => h i (by omega))
  rw [key]
  exact ⟨by rw [Nat.mul_add_div hp, Nat.div_eq_of_lt hl, Nat.add_zero], by rw [Nat.mul_add_mod, Nat.mod_eq_of_lt hl]⟩
theorem bv_bit {b : Nat → Nat} {c k : Nat} (h : ∀ i, i < c → b i < 2) (hk : k < c) : b k = bv b c / 2 ^ k % 2 := by
  rw [(bv_split h (Nat.le_of_lt hk)).1]
  have h2 := (bv_split (b := fun i => b (k + i)) (c := c - k) (k := 1) (fun i hi => h _ (by omega)) (by omega)).2
  rw [Nat.pow_one] at h2
  rw [h2]
  show b k = 0 + b (k + 0) * 2 ^ 0
  rw [Nat.pow_zero, Nat.mul_one, Nat.add_zero, Nat.zero_add]
/-- the whole number X0, of which c bits are out and X is left -/
def Bi (X0 X : Nat) (b : Nat → Nat) (c : Nat) : Prop := (∀ i, b i < 2) ∧ X0 = X * 2 ^ c + bv b c ∧ (X = 0 → 0 < c → b (c - 1) = 1)
theorem Bi_0 {X0 : Nat} {b : Nat → Nat} (h : ∀ i, b i < 2) : Bi X0 X0 b 0 := ⟨h, by show X0 = X0 * 2 ^ 0 + 0; rw [Nat.pow_zero]; omega, fun _ h => by omega⟩
theorem Bi_s {X0 X : Nat} {b : Nat → Nat} {c : Nat} (h : Bi X0 X b c) (hX : X ≠ 0) : Bi X0 (X / 2) (un b c (X % 2)) (c + 1) := by
  obtain ⟨h1, h2, h3⟩ := h
  refine ⟨un_lt h1 (by omega), ?_, fun q _ => ?_⟩
  · rw [bv_s, un_at, bv_cg (b := un b c _) (d := b) (fun i hi => un_ne _ (by omega)), h2, Nat.pow_succ]
    have e := Nat.div_add_mod X 2
    generalize X / 2 = x at *
    generalize X % 2 = y at *
    subst e
    generalize 2 ^ c = z
    generalize bv b c = w
    grind
  · rw [Nat.add_sub_cancel, un_at]; omega
theorem Bi_c {X0 X e : Nat} {b : Nat → Nat} {c : Nat} (h : Bi X0 X b c) (hX : X ≠ 0) (hb : X0 < 2 ^ e) : c < e := by
  have h1 : 2 ^ c ≤ X0 := by
    rw [h.2.1]
    have : 1 * 2 ^ c ≤ X * 2 ^ c := Nat.mul_le_mul_right _ (by omega)
    omega
  exact (Nat.pow_lt_pow_iff_right (by omega)).mp (Nat.lt_of_le_of_lt h1 hb)
theorem Bi_e {X0 : Nat} {b : Nat → Nat} {c : Nat} (h : Bi X0 0 b c) : X0 = bv b c ∧ X0 < 2 ^ c ∧ (0 < c → 2 ^ (c - 1) ≤ X0) := by
  obtain ⟨h1, h2, h3⟩ := h
  rw [Nat.zero_mul, Nat.zero_add] at h2
  refine ⟨h2, by rw [h2]; exact bv_lt (fun i _ => h1 i), fun h0 => ?_⟩
  have e : c = (c - 1) + 1 := by omega
  rw [h2, e, bv_s, h3 rfl h0, Nat.add_sub_cancel]
  omega
theorem par_dv {f : Nat → Nat} {n : Nat} (h : 0 < n) : f (n - 1) % 2 = dv 10 f n % 2 := by
  have e : n = (n - 1) + 1 := by omega
  have h1 : dv 10 f n = 10 * dv 10 f (n - 1) + f (n - 1) := by rw [← dv_s, ← e]
  rw [h1]; omega
/-- the leading bits: those from k on are looked at -/
def Ld (X c k m got : Nat) (p : Int) (more : Bool) : Prop := got = min 54 (c - k) ∧ m = X / 2 ^ (c - got) ∧ (0 < got → p = ((c - got : Nat) : Int)) ∧ (got = 0 → p = 0) ∧ (more = true ↔ X / 2 ^ k % 2 ^ (c - got - k) ≠ 0)
theorem Ld_0 {X c : Nat} (h : X < 2 ^ c) : Ld X c c 0 0 0 false := by
  refine ⟨by omega, ?_, fun h => by omega, fun _ => rfl, ?_⟩
  · rw [Nat.sub_zero, Nat.div_eq_of_lt h]
  · rw [Nat.sub_zero, Nat.sub_self, Nat.pow_zero, Nat.mod_one]
    exact ⟨fun h => (by cases h), fun h => absurd rfl h⟩
theorem Ld_s {X c k m got : Nat} {p : Int} (hk : k < c) (h : Ld X c (k + 1) m got p false) (hg : got < 54) : Ld X c k (m * 2 + X / 2 ^ k % 2) (got + 1) (k : Int) false := by
  obtain ⟨h1, h2, h3, h4, h5⟩ := h
  have e1 : c - got = k + 1 := by omega
  have e2 : c - (got + 1) = k := by omega
  refine ⟨by omega, ?_, fun _ => by omega, fun h => by omega, ?_⟩
  · rw [h2, e1, e2, Nat.pow_succ, ← Nat.div_div_eq_div_mul]; omega
  · rw [e2, Nat.sub_self, Nat.pow_zero, Nat.mod_one]
    exact ⟨fun h => (by cases h), fun h => absurd rfl h⟩
theorem Ld_more {X c k m got : Nat} {p : Int} {more : Bool} (h : Ld X c k m got p more) (hk : got < 54) : more = false := by
  obtain ⟨h1, h2, h3, h4, h5⟩ := h
  have e : c - got - k = 0 := by omega
  rw [e, Nat.pow_zero, Nat.mod_one] at h5
  cases more with
  | false => rfl
  | true => exact absurd rfl (h5.mp rfl)
theorem Ld_t {X c k m got : Nat} {p : Int} {more : Bool} (hk : k < c) (h : Ld X c (k + 1) m got p more) (hg : ¬ got < 54) : Ld X c k m got p (more || decide (X / 2 ^ k % 2 ≠ 0)) := by
  obtain ⟨h1, h2, h3, h4, h5⟩ := h
  refine ⟨by omega, h2, h3, h4, ?_⟩
  have e : c - got - k = 1 + (c - got - (k + 1)) := by omega
  rw [e]
  have h6 := mod_split (X / 2 ^ k) 1 (c - got - (k + 1))
  rw [h6, Nat.pow_one, Nat.div_div_eq_div_mul, ← Nat.pow_succ, Bool.or_eq_true, h5, decide_eq_true_iff]
