/-! the nearest double out of the leading bits -/
theorem near_cut {G U N F a b s q : Nat} {up : Bool} (hU : 0 < U) (hv : N * (U * 2 ^ a) + F = G * 2 ^ b) (hF : F < U * 2 ^ a) (hs : 0 < s) (hqs : q + b = s + 1074 + a) (hf : N / 2 ^ s < 9007199254740992) (hq : q = 0 ∨ 4503599627370496 ≤ N / 2 ^ s)
    (hup : up = true ↔ N / 2 ^ (s - 1) % 2 = 1 ∧ (N % 2 ^ (s - 1) ≠ 0 ∨ F ≠ 0 ∨ N / 2 ^ s % 2 = 1)) : Near (G * 2 ^ 1075) U (q * 4503599627370496 + N / 2 ^ s + (if up = true then 1 else 0)) := by
  obtain ⟨s, rfl⟩ : ∃ t, s = t + 1 := ⟨s - 1, by omega⟩
  rw [Nat.add_sub_cancel] at hup
  have e1 : N / 2 ^ (s + 1) = N / 2 ^ s / 2 := by rw [Nat.pow_succ, Nat.div_div_eq_div_mul]
  have hP : 0 < 2 ^ s := Nat.pow_pos (by omega)
  have hB : 0 < 2 ^ b := Nat.pow_pos (by omega)
  have hA : 0 < U * 2 ^ a := Nat.mul_pos hU (Nat.pow_pos (by omega))
  have hpow : 2 ^ q * 2 ^ b = 2 ^ s * 2 ^ a * 2 ^ 1075 := by
    rw [← Nat.pow_add, ← Nat.pow_add, ← Nat.pow_add]; congr 1; omega
  have hN : 2 ^ s * (N / 2 ^ s) + N % 2 ^ s = N := Nat.div_add_mod N (2 ^ s)
  have hr : N % 2 ^ s < 2 ^ s := Nat.mod_lt _ hP
  rw [e1] at hup hf hq ⊢
  generalize hx : N / 2 ^ s = x at *
  generalize hy : N % 2 ^ s = y at *
  generalize hu : U * 2 ^ a = u at *
  have kX : G * 2 ^ 1075 * 2 ^ b = (N * u + F) * 2 ^ 1075 := by rw [hv, Nat.mul_right_comm]
  have kc : ∀ c, c * 2 ^ q * U * 2 ^ b = c * 2 ^ s * u * 2 ^ 1075 := by
    intro c
    calc c * 2 ^ q * U * 2 ^ b = c * U * (2 ^ q * 2 ^ b) := by simp only [Nat.mul_assoc, Nat.mul_comm, Nat.mul_left_comm]
      _ = c * U * (2 ^ s * 2 ^ a * 2 ^ 1075) := by rw [hpow]
      _ = c * 2 ^ s * (U * 2 ^ a) * 2 ^ 1075 := by simp only [Nat.mul_assoc, Nat.mul_comm, Nat.mul_left_comm]
      _ = _ := by rw [hu]
  have hW : 0 < 2 ^ 1075 := Nat.pow_pos (by omega)
  have lt1 : ∀ c, c * 2 ^ s * u < N * u + F → c * 2 ^ q * U < G * 2 ^ 1075 := fun c h => Nat.lt_of_mul_lt_mul_right (a := 2 ^ b) (by rw [kX, kc]; exact Nat.mul_lt_mul_of_pos_right h hW)
  have lt2 : ∀ c, N * u + F < c * 2 ^ s * u → G * 2 ^ 1075 < c * 2 ^ q * U := fun c h => Nat.lt_of_mul_lt_mul_right (a := 2 ^ b) (by rw [kX, kc]; exact Nat.mul_lt_mul_of_pos_right h hW)
  have eq1 : ∀ c, N * u + F = c * 2 ^ s * u → G * 2 ^ 1075 = c * 2 ^ q * U := fun c h => Nat.eq_of_mul_eq_mul_right hB (by rw [kX, kc, h])
  -- N against c * P
  have up1 : N * u + F < (x + 1) * 2 ^ s * u := by
    have h1 : N + 1 ≤ (x + 1) * 2 ^ s := by
      rw [Nat.add_mul, Nat.one_mul, Nat.mul_comm x]; omega
    have h2 := Nat.mul_le_mul_right u h1
    rw [Nat.add_mul, Nat.one_mul] at h2
    omega
  have lo1 : x * 2 ^ s * u ≤ N * u + F := by
    have h1 : x * 2 ^ s ≤ N := by rw [Nat.mul_comm x]; omega
    have h2 := Nat.mul_le_mul_right u h1
    omega
  have lo2 : (y ≠ 0 ∨ F ≠ 0) → x * 2 ^ s * u < N * u + F := by
    intro h
    by_cases hy0 : y = 0
    · have h1 : x * 2 ^ s ≤ N := by rw [Nat.mul_comm x]; omega
      have h2 := Nat.mul_le_mul_right u h1
      omega
    · have h1 : x * 2 ^ s + 1 ≤ N := by rw [Nat.mul_comm x]; omega
      have h2 := Nat.mul_le_mul_right u h1
      rw [Nat.add_mul, Nat.one_mul] at h2
      omega
  have eq2 : y = 0 → F = 0 → N * u + F = x * 2 ^ s * u := by
    intro h1 h2
    have h3 : x * 2 ^ s = N := by rw [Nat.mul_comm x]; omega
    rw [h3, h2]; rfl
  cases up with
  | false =>
    have hup' : ¬ (x % 2 = 1 ∧ (y ≠ 0 ∨ F ≠ 0 ∨ x / 2 % 2 = 1)) := fun h => by have := hup.mpr h; cases this
    rw [if_neg (by decide), Nat.add_zero]
    by_cases h2 : x % 2 = 1
    · have ex : x = 2 * (x / 2) + 1 := by omega
      refine near_dn hf hq hU ?_ (Or.inr ⟨?_, ?_⟩)
      · refine Nat.le_of_lt (lt1 _ ?_)
        have h3 : 2 * (x / 2) + 1 ≤ x := by omega
        have h4 := Nat.mul_le_mul_right u (Nat.mul_le_mul_right (2 ^ s) h3)
        have h5 : 2 * (x / 2) * 2 ^ s * u < (2 * (x / 2) + 1) * 2 ^ s * u := by
          refine Nat.mul_lt_mul_of_pos_right (Nat.mul_lt_mul_of_pos_right (by omega) hP) hA
        omega
      · rw [← ex]; exact eq1 _ (eq2 (by omega) (by omega))
      · omega
    · have ex : x = 2 * (x / 2) := by omega
      refine near_dn hf hq hU ?_ (Or.inl ?_)
      · rw [← ex]
        by_cases h3 : y ≠ 0 ∨ F ≠ 0
        · exact Nat.le_of_lt (lt1 _ (lo2 h3))
        · exact Nat.le_of_eq (eq1 _ (eq2 (by omega) (by omega))).symm
      · have ex2 : 2 * (x / 2) + 1 = x + 1 := by omega
        rw [ex2]; exact lt2 _ up1
  | true =>
    have hup' := hup.mp rfl
    rw [if_pos rfl]
    have ex : x = 2 * (x / 2) + 1 := by omega
    refine near_up hf hq hU ?_ ?_
    · have ex2 : 2 * (x / 2 + 1) = x + 1 := by omega
      rw [ex2]; exact lt2 _ up1
    · rw [← ex]
      by_cases h3 : y ≠ 0 ∨ F ≠ 0
      · exact Or.inl (lt1 _ (lo2 h3))
      · exact Or.inr ⟨eq1 _ (eq2 (by omega) (by omega)), by omega⟩
/-- below half of the least double -/
theorem near_0 {G U : Nat} (h : G * 2 ^ 1075 < U) : Near (G * 2 ^ 1075) U 0 := by
  have e : md 0 = 1 := by decide
  refine ⟨Or.inl ?_, Or.inl rfl⟩
  rw [e, Nat.one_mul]; exact h
