/-! rows of digits out of a number; the same decimal on both sides -/
theorem Rw_0 {M n : Nat} {f : Nat → Nat} (h : Fi M n 0 f) (hN : Nd M n) (h0 : 0 < M) : Rw f n 0 M 1076 := by
  have hn : 0 < n := by
    by_cases q : n = 0
    · rw [q] at hN
      have := hN.1
      rw [Nat.pow_zero] at this
      omega
    · omega
  refine ⟨h.1, hn, Fi_lead h hN hn, ?_⟩
  rw [Fi_v h hN.1, Nat.pow_zero, Nat.mul_one]
theorem small_309 : 2 ^ 53 * 2 ^ 971 < 10 ^ 309 := by decide +kernel
theorem Rw_768 {f : Nat → Nat} {n fr M e : Nat} (h : Rw f n fr M e) (hM : M < 2 ^ 53) (he1 : 2 ≤ e) (he2 : e ≤ 2047) (hfr : fr ≤ 1076 - e) : dz f n ≤ 768 := by
  obtain ⟨a, b, c⟩ := Rw_dz h
  obtain ⟨h1, h2, h3, h4⟩ := h
  have hlo : 10 ^ (dz f n - 1) ≤ dv 10 f (dz f n) := dv_le a (by omega)
  rw [c] at h4
  by_cases q : e ≤ 1076
  · have e1 : (2 : Nat) ^ 1076 = 2 ^ e * 2 ^ (1076 - e) := by rw [← Nat.pow_add, show e + (1076 - e) = 1076 by omega]
    have h5 : dv 10 f (dz f n) * 10 ^ (n - dz f n) * 2 ^ (1076 - e) = M * 10 ^ fr := by
      apply Nat.eq_of_mul_eq_mul_right (Nat.pow_pos (n := e) (show 0 < 2 by omega))
      rw [Nat.mul_assoc _ (2 ^ (1076 - e)), Nat.mul_comm (2 ^ (1076 - e)), ← e1, h4, Nat.mul_right_comm]
    have h6 : dv 10 f (dz f n) * 10 ^ (n - dz f n + (1076 - e - fr)) = M * 5 ^ (1076 - e) := by
      apply Nat.eq_of_mul_eq_mul_right (Nat.pow_pos (n := fr) (show 0 < 10 by omega))
      rw [Nat.mul_assoc, ← Nat.pow_add, show n - dz f n + (1076 - e - fr) + fr = n - dz f n + (1076 - e) by omega, Nat.pow_add, ← Nat.mul_assoc]
      rw [show (10 : Nat) ^ (1076 - e) = 2 ^ (1076 - e) * 5 ^ (1076 - e) by rw [← Nat.mul_pow], ← Nat.mul_assoc, h5, Nat.mul_right_comm]
    have h7 : dv 10 f (dz f n) ≤ M * 5 ^ (1076 - e) := by
      rw [← h6]; exact Nat.le_mul_of_pos_right _ (Nat.pow_pos (by omega))
    have h8 : M * 5 ^ (1076 - e) < 10 ^ 768 := Nat.lt_of_le_of_lt (Nat.mul_le_mul (show M ≤ 2 ^ 54 from Nat.le_trans (Nat.le_of_lt hM) (by decide)) (Nat.pow_le_pow_right (by omega) (show 1076 - e ≤ 1075 by omega))) big_768
    have h9 := (Nat.pow_lt_pow_iff_right (show 1 < 10 by omega)).mp (Nat.lt_of_le_of_lt hlo (Nat.lt_of_le_of_lt h7 h8))
    omega
  · have e0 : fr = 0 := by omega
    rw [e0, Nat.pow_zero, Nat.mul_one] at h4
    have e1 : (2 : Nat) ^ e = 2 ^ (e - 1076) * 2 ^ 1076 := by rw [← Nat.pow_add, show e - 1076 + 1076 = e by omega]
    rw [e1, ← Nat.mul_assoc] at h4
    have h5 := Nat.eq_of_mul_eq_mul_right (Nat.pow_pos (n := 1076) (show 0 < 2 by omega)) h4
    have h7 : dv 10 f (dz f n) ≤ M * 2 ^ (e - 1076) := by
      rw [← h5]; exact Nat.le_mul_of_pos_right _ (Nat.pow_pos (by omega))
    have h8 : M * 2 ^ (e - 1076) < 10 ^ 309 := Nat.lt_of_le_of_lt (Nat.mul_le_mul (Nat.le_of_lt hM) (Nat.pow_le_pow_right (by omega) (show e - 1076 ≤ 971 by omega))) small_309
    have h9 := (Nat.pow_lt_pow_iff_right (show 1 < 10 by omega)).mp (Nat.lt_of_le_of_lt hlo (Nat.lt_of_le_of_lt h7 h8))
    omega
theorem Rw_Sp {f g : Nat → Nat} {n fr M e : Nat} {p : Int} (h : Rw f n fr M e) (hM : M < 2 ^ 53) (he : e = (p + 1076).toNat) (hp1 : -1074 ≤ p) (hp2 : p ≤ 971) (hfr : fr ≤ 1076 - e) (hg9 : ∀ i, g i ≤ 9) (hg : ∀ i, i < dz f n → g i = f i) : Sp M p (dz f n) (if dz f n = 0 then 0 else (n : Int) - fr) g := by
  have h768 := Rw_768 h hM (by omega) (by omega) hfr
  obtain ⟨a, b, c⟩ := Rw_dz h
  have hM0 : M ≠ 0 := by
    intro q
    have h4 := h.2.2.2
    rw [q, Nat.zero_mul, Nat.zero_mul] at h4
    have h5 : 0 < dv 10 f n := Nat.lt_of_lt_of_le (Nat.pow_pos (by omega)) (dv_le (b := 10) h.2.1 (by have := h.2.2.1; omega))
    have : 0 < dv 10 f n * 2 ^ 1076 := Nat.mul_pos h5 (Nat.pow_pos (by omega))
    omega
  obtain ⟨s1, s2, s3⟩ := Rw_sv (pl := (n : Int) - fr) h rfl (by omega)
  rw [if_neg (by omega)]
  have hs : sv 1125 g (dz f n) ((n : Int) - fr) = sv 1125 f (dz f n) ((n : Int) - fr) := sv_eq hg
  have hpl2 : (n : Int) - fr ≤ 315 := by
    have l1 := sv_lo (K := 1125) s1 a s2
    have l2 : sv 1125 f (dz f n) ((n : Int) - fr) * 2 ^ 1076 < 10 ^ 309 * 10 ^ 1125 * 2 ^ 1076 := by
      rw [s3]
      have l3 : M * 2 ^ e ≤ 2 ^ 53 * 2 ^ 971 * 2 ^ 1076 := by
        rw [Nat.mul_assoc, ← Nat.pow_add 2 971]
        exact Nat.mul_le_mul (Nat.le_of_lt hM) (Nat.pow_le_pow_right (by omega) (by omega))
      have l4 : 2 ^ 53 * 2 ^ 971 * 2 ^ 1076 < 10 ^ 309 * 2 ^ 1076 := Nat.mul_lt_mul_of_pos_right small_309 (Nat.pow_pos (by omega))
      have l5 := Nat.mul_lt_mul_of_pos_right (Nat.lt_of_le_of_lt l3 l4) (Nat.pow_pos (n := 1125) (show 0 < 10 by omega))
      rw [Nat.mul_right_comm (10 ^ 309)] at l5
      exact l5
    have l6 := Nat.lt_of_mul_lt_mul_right l2
    rw [← Nat.pow_add] at l6
    have l7 := (Nat.pow_lt_pow_iff_right (show 1 < 10 by omega)).mp (Nat.lt_of_le_of_lt l1 l6)
    omega
  refine ⟨⟨hg9, by omega, fun _ => ⟨by rw [hg 0 a]; exact h.2.2.1, by rw [hg _ (by omega)]; exact b⟩, fun q => by omega⟩, by omega, hpl2, fun q => absurd q hM0, fun _ => ⟨a, ?_, s2⟩⟩
  rw [hs, s3, he]
theorem Sp_one {M : Nat} {p : Int} {l1 l2 : Nat} {p1 p2 : Int} {f g : Nat → Nat} (h1 : Sp M p l1 p1 f) (h2 : Sp M p l2 p2 g) : l1 = l2 ∧ p1 = p2 ∧ ∀ i, i < l1 → f i = g i := by
  obtain ⟨a1, -, -, d1, e1⟩ := h1
  obtain ⟨a2, -, -, d2, e2⟩ := h2
  by_cases q : M = 0
  · have x1 := d1 q
    have x2 := d2 q
    refine ⟨by omega, ?_, fun i hi => by omega⟩
    rw [a1.2.2.2 x1, a2.2.2.2 x2]
  · obtain ⟨x1, x2, x3⟩ := e1 q
    obtain ⟨y1, y2, y3⟩ := e2 q
    have hv : sv 1125 f l1 p1 = sv 1125 g l2 p2 := by
      apply Nat.eq_of_mul_eq_mul_right (Nat.pow_pos (n := 1076) (show 0 < 2 by omega))
      rw [x2, y2]
    obtain ⟨z1, z2, z3⟩ := sv_inj (K := 1125) (Kd_nrm a1) (Kd_nrm a2) x1 y1 x3 y3 hv
    exact ⟨z2, z1, z3⟩
theorem Sp_0 (p : Int) {g : Nat → Nat} (hg : ∀ i, g i ≤ 9) : Sp 0 p 0 0 g := ⟨⟨hg, by omega, fun q => by omega, fun _ => rfl⟩, by omega, by omega, fun _ => rfl, fun q => absurd rfl q⟩
