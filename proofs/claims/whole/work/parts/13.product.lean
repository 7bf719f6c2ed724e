/-! how many digits a double has -/
theorem big_768 : 2 ^ 54 * 5 ^ 1075 < 10 ^ 768 := by decide +kernel
theorem dv_first {b : Nat} {d : Nat → Nat} {n j0 : Nat} (hj : j0 < n) (h0 : ∀ i, i < j0 → d i = 0) (h : d j0 ≠ 0) : b ^ (n - 1 - j0) ≤ dv b d n := by
  have e : n = j0 + (1 + (n - 1 - j0)) := by omega
  rw [e, dv_add, dv_z h0, Nat.zero_mul, Nat.zero_add, dv_add, dv_s, dv_0]
  have e1 : j0 + (1 + (n - 1 - j0)) - 1 - j0 = n - 1 - j0 := by omega
  rw [e1]
  have h1 : 1 ≤ b * 0 + d (j0 + 0) := by rw [Nat.add_zero]; omega
  calc b ^ (n - 1 - j0) = 1 * b ^ (n - 1 - j0) := (Nat.one_mul _).symm
    _ ≤ (b * 0 + d (j0 + 0)) * b ^ (n - 1 - j0) := Nat.mul_le_mul_right _ h1
    _ ≤ _ := Nat.le_add_right _ _
/-- behind the last place that 10 to the t divides there are zeros -/
theorem dv_tail0 {d : Nat → Nat} {n t : Nat} (hd : ∀ i, i < n → d i < 10) (ht : t ≤ n) (hdv : 10 ^ t ∣ dv 10 d n) : ∀ i, n - t ≤ i → i < n → d i = 0 := by
  have e : n = (n - t) + t := by omega
  have h1 : dv 10 d n = dv 10 d (n - t) * 10 ^ t + dv 10 (fun i => d (n - t + i)) t := by
    rw [← dv_add, ← e]
  rw [h1] at hdv
  have h2 : 10 ^ t ∣ dv 10 (fun i => d (n - t + i)) t := (Nat.dvd_add_right (Nat.dvd_mul_left _ _)).mp hdv
  have h3 : dv 10 (fun i => d (n - t + i)) t < 10 ^ t := dv_lt (fun i hi => hd _ (by omega))
  have h4 : dv 10 (fun i => d (n - t + i)) t = 0 := Nat.eq_zero_of_dvd_of_lt h2 h3
  intro i h5 h6
  have h7 := dv_e0 (by omega) h4 (i - (n - t)) (by omega)
  have h8 : n - t + (i - (n - t)) = i := by omega
  rw [h8] at h7
  exact h7
/-- of factor * 2 ** power (power below 0, at least -1075) no more than 800 digits are read -/
theorem few_digits {R : Nat → Nat} {en m p : Nat} (hR : ∀ i, R i < 1000000000) (hen : en ≤ 160) (hp : p ≤ 1075) (hm : m < 2 ^ 54) (hv : dv 1000000000 R 160 * 2 ^ p = m * 10 ^ 1125) (hlast : en ≤ 35 ∨ R (en - 1) ≠ 0) :
    ∀ j0, ge R j0 ≠ 0 → (∀ i, i < j0 → ge R i = 0) → 9 * en ≤ j0 + 800 := by
  intro j0 h0 h1
  rcases hlast with h | h
  · omega
  by_cases h36 : en ≤ 35
  · omega
  have hval := ge_dv (R := R) 160 hR
  have e1 : dv 1000000000 R 160 = m * 5 ^ p * 10 ^ (1125 - p) := by
    have q : m * 10 ^ 1125 = m * 5 ^ p * 10 ^ (1125 - p) * 2 ^ p := by
      have q1 : 10 ^ 1125 = 10 ^ p * 10 ^ (1125 - p) := by rw [← Nat.pow_add]; congr 1; omega
      have q2 : (10 : Nat) ^ p = 5 ^ p * 2 ^ p := by rw [← Nat.mul_pow]
      rw [q1, q2]
      simp only [Nat.mul_assoc, Nat.mul_comm, Nat.mul_left_comm]
    rw [q] at hv
    exact Nat.eq_of_mul_eq_mul_right (Nat.pow_pos (by omega)) hv
  have hdvd : 10 ^ (1125 - p) ∣ dv 10 (ge R) 1440 := by
    rw [show (1440 : Nat) = 9 * 160 by omega, hval, e1]
    exact Nat.dvd_mul_left _ _
  have htail := dv_tail0 (d := ge R) (n := 1440) (t := 1125 - p) (fun i _ => by have := ge_lt R i; omega) (by omega) hdvd
  -- the last group has a digit that is not 0
  have hg := ge_grp (en - 1) (hR (en - 1))
  have hen1 : 9 * (en - 1) < 315 + p := by
    by_cases q : 9 * (en - 1) < 315 + p
    · exact q
    · exfalso
      apply h
      rw [← hg]
      apply dv_z
      intro k hk
      exact htail _ (by omega) (by omega)
  by_cases hj : j0 < 1440
  · have hlo := dv_first (b := 10) (d := ge R) (n := 1440) hj h1 h0
    rw [show (1440 : Nat) = 9 * 160 by omega, hval, e1] at hlo
    have h5 : m * 5 ^ p < 10 ^ 768 := by
      refine Nat.lt_of_le_of_lt (Nat.mul_le_mul (Nat.le_of_lt hm) (Nat.pow_le_pow_right (by omega) hp)) big_768
    have h6 : m * 5 ^ p * 10 ^ (1125 - p) < 10 ^ (768 + (1125 - p)) := by
      rw [Nat.pow_add]
      exact Nat.mul_lt_mul_of_pos_right h5 (Nat.pow_pos (by omega))
    have h7 : 9 * 160 - 1 - j0 < 768 + (1125 - p) := (Nat.pow_lt_pow_iff_right (by omega)).mp (Nat.lt_of_le_of_lt hlo h6)
    omega
  · omega
