/-! Numbers in a base: dv b d n is what the first n places of d spell in base b. Draft, not built yet. -/
def dv (b : Nat) (d : Nat → Nat) : Nat → Nat
  | 0 => 0
  | n + 1 => b * dv b d n + d n
theorem dv_0 (b : Nat) (d : Nat → Nat) : dv b d 0 = 0 := rfl
theorem dv_s (b : Nat) (d : Nat → Nat) (n : Nat) : dv b d (n + 1) = b * dv b d n + d n := rfl
theorem dv_cg {b : Nat} {d e : Nat → Nat} {n : Nat} (h : ∀ i, i < n → d i = e i) : dv b d n = dv b e n := by
  induction n with
  | zero => rfl
  | succ n ih => rw [dv_s, dv_s, ih (fun i hi => h i (by omega)), h n (by omega)]
theorem dv_z {b : Nat} {d : Nat → Nat} {n : Nat} (h : ∀ i, i < n → d i = 0) : dv b d n = 0 := by
  induction n with
  | zero => rfl
  | succ n ih => rw [dv_s, ih (fun i hi => h i (by omega)), h n (by omega)]; rfl
theorem dv_lt {b : Nat} {d : Nat → Nat} {n : Nat} (h : ∀ i, i < n → d i < b) : dv b d n < b ^ n := by
  induction n with
  | zero => exact Nat.one_pos
  | succ n ih =>
    have h1 := ih (fun i hi => h i (by omega))
    have h2 := h n (by omega)
    have h3 : b * (dv b d n + 1) ≤ b * b ^ n := Nat.mul_le_mul_left b h1
    rw [Nat.mul_add, Nat.mul_one] at h3
    rw [dv_s, Nat.pow_succ, Nat.mul_comm (b ^ n) b]
    omega
theorem dv_add (b : Nat) (d : Nat → Nat) (m n : Nat) : dv b d (m + n) = dv b d m * b ^ n + dv b (fun i => d (m + i)) n := by
  induction n with
  | zero => simp [dv]
  | succ n ih =>
    show b * dv b d (m + n) + d (m + n) = dv b d m * b ^ (n + 1) + (b * dv b (fun i => d (m + i)) n + d (m + n))
    rw [ih, Nat.pow_succ]
    grind
theorem dv_e0 {b : Nat} {d : Nat → Nat} {n : Nat} (hb : 0 < b) (h : dv b d n = 0) : ∀ i, i < n → d i = 0 := by
  induction n with
  | zero => intro i hi; omega
  | succ n ih =>
    rw [dv_s] at h
    have h1 : b * dv b d n = 0 := by omega
    have h2 : dv b d n = 0 := by
      rcases Nat.mul_eq_zero.mp h1 with h | h
      · omega
      · exact h
    intro i hi
    by_cases hn : i = n
    · subst hn; omega
    · exact ih h2 i (by omega)
theorem dv_inj {b : Nat} {d e : Nat → Nat} {n : Nat} (hd : ∀ i, i < n → d i < b) (he : ∀ i, i < n → e i < b) (h : dv b d n = dv b e n) : ∀ i, i < n → d i = e i := by
  induction n with
  | zero => intro i hi; omega
  | succ n ih =>
    have hd1 := hd n (by omega)
    have he1 := he n (by omega)
    rw [dv_s, dv_s] at h
    have h1 : (b * dv b d n + d n) % b = (b * dv b e n + e n) % b := by rw [h]
    rw [Nat.mul_add_mod, Nat.mul_add_mod, Nat.mod_eq_of_lt hd1, Nat.mod_eq_of_lt he1] at h1
    have h2 : (b * dv b d n + d n) / b = (b * dv b e n + e n) / b := by rw [h]
    rw [Nat.mul_add_div (by omega), Nat.mul_add_div (by omega), Nat.div_eq_of_lt hd1, Nat.div_eq_of_lt he1] at h2
    intro i hi
    by_cases hn : i = n
    · subst hn; exact h1
    · exact ih (fun j hj => hd j (by omega)) (fun j hj => he j (by omega)) (by omega) i (by omega)
/-- the first place where two rows differ decides -/
theorem dv_lex {b : Nat} {d e : Nat → Nat} {n k : Nat} (hd : ∀ i, i < n → d i < b) (hk : k < n) (hs : ∀ i, i < k → d i = e i) (h : d k < e k) : dv b d n < dv b e n := by
  obtain ⟨r, rfl⟩ : ∃ r, n = (k + 1) + r := ⟨n - (k + 1), by omega⟩
  rw [dv_add, dv_add b e, dv_s, dv_s, dv_cg hs]
  have h1 : dv b (fun i => d (k + 1 + i)) r < b ^ r := dv_lt (fun i hi => hd _ (by omega))
  have h2 : (b * dv b e k + d k + 1) * b ^ r ≤ (b * dv b e k + e k) * b ^ r := Nat.mul_le_mul_right _ (by omega)
  rw [Nat.add_mul, Nat.one_mul] at h2
  omega
theorem dv_le {b : Nat} {d : Nat → Nat} {n : Nat} (h0 : 0 < n) (h : 0 < d 0) : b ^ (n - 1) ≤ dv b d n := by
  obtain ⟨r, rfl⟩ : ∃ r, n = 1 + r := ⟨n - 1, by omega⟩
  rw [dv_add, show 1 + r - 1 = r by omega]
  have h1 : dv b d 1 = d 0 := by rw [dv_s, dv_0]; omega
  rw [h1]
  have h2 : 1 * b ^ r ≤ d 0 * b ^ r := Nat.mul_le_mul_right _ h
  omega
/-! Decimals: sv K d n p is 0.DIGITS * 10 ** p in units of 10 ** -K. -/
def sv (K : Nat) (d : Nat → Nat) (n : Nat) (p : Int) : Nat := dv 10 d n * 10 ^ (p - n + K).toNat
/-- the first one and the last one are not 0 -/
def Nrm (d : Nat → Nat) (n : Nat) : Prop := (∀ i, i < n → d i < 10) ∧ (0 < n → 0 < d 0 ∧ 0 < d (n - 1))
theorem sv_hi {K : Nat} {d : Nat → Nat} {n : Nat} {p : Int} (h : Nrm d n) (hp : (n : Int) ≤ p + K) : sv K d n p < 10 ^ (p + K).toNat := by
  have h1 := dv_lt h.1
  have h2 : (p + K).toNat = n + (p - n + K).toNat := by omega
  rw [sv, h2, Nat.pow_add]
  exact Nat.mul_lt_mul_of_pos_right h1 (Nat.pow_pos (by omega))
theorem sv_lo {K : Nat} {d : Nat → Nat} {n : Nat} {p : Int} (h : Nrm d n) (h0 : 0 < n) (hp : (n : Int) ≤ p + K) : 10 ^ (p - 1 + K).toNat ≤ sv K d n p := by
  have h1 := dv_le (b := 10) h0 (h.2 h0).1
  have h2 : (p - 1 + K).toNat = (n - 1) + (p - n + K).toNat := by omega
  rw [sv, h2, Nat.pow_add]
  exact Nat.mul_le_mul_right _ h1
theorem sv_place {K : Nat} {d e : Nat → Nat} {n m : Nat} {p q : Int} (hd : Nrm d n) (he : Nrm e m) (h0 : 0 < m) (hp : (n : Int) ≤ p + K) (hq : (m : Int) ≤ q + K) (h : p < q) : sv K d n p < sv K e m q := by
  have h1 := sv_hi hd hp
  have h2 := sv_lo he h0 hq
  have h3 : 10 ^ (p + K).toNat ≤ 10 ^ (q - 1 + K).toNat := Nat.pow_le_pow_right (by omega) (by omega)
  omega
/-- a row drawn out to N places by zeros -/
def ext0 (d : Nat → Nat) (n : Nat) : Nat → Nat := fun i => if i < n then d i else 0
theorem dv_ext {b : Nat} (d : Nat → Nat) (n k : Nat) : dv b (ext0 d n) (n + k) = dv b d n * b ^ k := by
  rw [dv_add, dv_cg (e := d) (fun i hi => by simp [ext0, hi]), dv_z (d := fun i => ext0 d n (n + i)) (fun i _ => by show ext0 d n (n + i) = 0; unfold ext0; rw [if_neg (by omega)])]
  rfl
theorem sv_ext {K : Nat} (d : Nat → Nat) {n N : Nat} {p : Int} (hn : n ≤ N) (hN : (N : Int) ≤ p + K) : sv K d n p = dv 10 (ext0 d n) N * 10 ^ (p - N + K).toNat := by
  obtain ⟨k, rfl⟩ : ∃ k, N = n + k := ⟨N - n, by omega⟩
  rw [dv_ext, sv, Nat.mul_assoc, ← Nat.pow_add]
  congr 2
  omega
/-- digits at the same place: the first that differs decides; where the shorter one ends, zeros stand -/
theorem sv_lex {K : Nat} {d e : Nat → Nat} {n m k : Nat} {p : Int} (hd : ∀ i, i < n → d i < 10) (hk : k < n ∨ k < m) (hp : (n : Int) ≤ p + K) (hq : (m : Int) ≤ p + K)
    (hs : ∀ i, i < k → ext0 d n i = ext0 e m i) (h : ext0 d n k < ext0 e m k) : sv K d n p < sv K e m p := by
  have hN : ((max n m : Nat) : Int) ≤ p + K := by omega
  rw [sv_ext d (Nat.le_max_left n m) hN, sv_ext e (Nat.le_max_right n m) hN]
  refine Nat.mul_lt_mul_of_pos_right ?_ (Nat.pow_pos (by omega))
  refine dv_lex (k := k) (fun i _ => ?_) (by omega) hs h
  unfold ext0
  split
  · exact hd i (by assumption)
  · omega
theorem sv_same {K : Nat} {d e : Nat → Nat} {n m : Nat} {p : Int} (hp : (n : Int) ≤ p + K) (hq : (m : Int) ≤ p + K) (hs : ∀ i, i < n ∨ i < m → ext0 d n i = ext0 e m i) : sv K d n p = sv K e m p := by
  have hN : ((max n m : Nat) : Int) ≤ p + K := by omega
  rw [sv_ext d (Nat.le_max_left n m) hN, sv_ext e (Nat.le_max_right n m) hN]
  congr 1
  exact dv_cg (fun i hi => hs i (by omega))
/-- one value, one row of digits -/
theorem sv_inj {K : Nat} {d e : Nat → Nat} {n m : Nat} {p q : Int} (hd : Nrm d n) (he : Nrm e m) (hn : 0 < n) (hm : 0 < m) (hp : (n : Int) ≤ p + K) (hq : (m : Int) ≤ q + K) (h : sv K d n p = sv K e m q) :
    p = q ∧ n = m ∧ ∀ i, i < n → d i = e i := by
  have hpq : p = q := by
    rcases Int.lt_trichotomy p q with h1 | h1 | h1
    · have := sv_place hd he hm hp hq h1; omega
    · exact h1
    · have := sv_place he hd hn hq hp h1; omega
  subst hpq
  have key : ∀ i, ext0 d n i = ext0 e m i := by
    intro i
    by_cases hall : ∀ j, ext0 d n j = ext0 e m j
    · exact hall i
    · obtain ⟨j, hj⟩ := Classical.not_forall.mp hall
      obtain ⟨k, hk, hl⟩ := pk_least (fun j => ext0 d n j ≠ ext0 e m j) ⟨j, hj⟩
      have hs : ∀ i, i < k → ext0 d n i = ext0 e m i := fun i hi => Classical.not_not.mp (hl i hi)
      have hr : k < n ∨ k < m := by
        by_cases h1 : k < n ∨ k < m
        · exact h1
        · exact absurd (by unfold ext0; rw [if_neg (by omega), if_neg (by omega)]) hk
      rcases Nat.lt_or_gt_of_ne hk with h1 | h1
      · have := sv_lex hd.1 hr hp hq hs h1; omega
      · have := sv_lex he.1 (by omega) hq hp (fun i hi => (hs i hi).symm) h1; omega
  have hnm : n = m := by
    rcases Nat.lt_trichotomy n m with h1 | h1 | h1
    · have h2 := key (m - 1)
      have h3 := (he.2 hm).2
      unfold ext0 at h2
      rw [if_neg (by omega), if_pos (by omega)] at h2
      omega
    · exact h1
    · have h2 := key (n - 1)
      have h3 := (hd.2 hn).2
      unfold ext0 at h2
      rw [if_pos (by omega), if_neg (by omega)] at h2
      omega
  subst hnm
  refine ⟨rfl, rfl, fun i hi => ?_⟩
  have h2 := key i
  unfold ext0 at h2
  rwa [if_pos hi, if_pos hi] at h2
