/-! rounding the head -/
theorem hd_bits {head b : Nat} (hb : b ≤ 63) : (9223372036854775808 ≤ head * 2 ^ b % 18446744073709551616 ↔ head / 2 ^ (63 - b) % 2 = 1) ∧ (head * 2 ^ b * 2 ^ 1 % 18446744073709551616 = 0 ↔ head % 2 ^ (63 - b) = 0) := by
  have hpb : 0 < 2 ^ b := Nat.pow_pos (by omega)
  have e64 : (18446744073709551616 : Nat) = 2 ^ (64 - b) * 2 ^ b := by rw [← Nat.pow_add, show 64 - b + b = 64 by omega]
  have e63 : (9223372036854775808 : Nat) = 2 ^ (63 - b) * 2 ^ b := by rw [← Nat.pow_add, show 63 - b + b = 63 by omega]
  have e1 : head % 2 ^ (64 - b) = head % 2 ^ (63 - b) + 2 ^ (63 - b) * (head / 2 ^ (63 - b) % 2) := by
    rw [show 64 - b = (63 - b) + 1 by omega, Nat.pow_succ, Nat.mod_mul]
  constructor
  · rw [e64, Nat.mul_mod_mul_right, e63, e1]
    have hlo : head % 2 ^ (63 - b) < 2 ^ (63 - b) := Nat.mod_lt _ (Nat.pow_pos (by omega))
    rcases Nat.mod_two_eq_zero_or_one (head / 2 ^ (63 - b)) with q | q
    · rw [q, Nat.mul_zero, Nat.add_zero]
      have := Nat.mul_lt_mul_of_pos_right hlo hpb
      constructor
      · intro h; omega
      · intro h; omega
    · rw [q, Nat.mul_one]
      constructor
      · intro _; rfl
      · intro _; exact Nat.mul_le_mul_right _ (Nat.le_add_left _ _)
  · have e2 : (18446744073709551616 : Nat) = 2 ^ (63 - b) * (2 ^ b * 2 ^ 1) := by rw [← Nat.pow_add, ← Nat.pow_add, show 63 - b + (b + 1) = 64 by omega]
    rw [Nat.mul_assoc, e2, Nat.mul_mod_mul_right]
    have hp2 : 0 < 2 ^ b * 2 ^ 1 := Nat.mul_pos hpb (by decide)
    constructor
    · intro h
      rcases Nat.mul_eq_zero.mp h with q | q
      · exact q
      · omega
    · intro h; rw [h, Nat.zero_mul]
def Rh (head : Nat) (more : Bool) (tb z : Int) : Prop := (tb < -1075 ∧ z = 0) ∨ ∃ (b q : Nat) (up : Bool), tb + 1 = max (tb - 52) (-1074) + b ∧ max (tb - 52) (-1074) + 1074 = q ∧ z = ((q * 4503599627370496 + head / 2 ^ (64 - b) + (if up = true then 1 else 0) : Nat) : Int) ∧ (up = true ↔ head / 2 ^ (63 - b) % 2 = 1 ∧ (head % 2 ^ (63 - b) ≠ 0 ∨ more = true ∨ head / 2 ^ (64 - b) % 2 = 1))
theorem rs_near {G : Nat} {W : Nat → Nat} {mo more : Bool} {T top F sh head : Nat} {tb z : Int} (h : Wl G W mo T top F) (ht : top < T) (hsh : sh ≤ 31) (hs1 : 2147483648 ≤ W top * 2 ^ sh) (hs2 : W top * 2 ^ sh < 4294967296) (hh : head = W top * 2 ^ (32 + sh) + W (top + 1) * 2 ^ sh + W (top + 2) * 2 ^ sh / 4294967296)
    (hh1 : 9223372036854775808 ≤ head) (hh2 : head < 18446744073709551616) (hm : more = true ↔ W (top + 2) * 2 ^ sh % 4294967296 ≠ 0 ∨ mo = true ∨ ∃ j, top + 3 ≤ j ∧ j < 67 ∧ W j ≠ 0) (htb : tb = (33 - (top : Int)) * 32 - 1 - sh) (htb2 : tb ≤ 1023) (hz : Rh head more tb z) : ∃ r : Nat, z = (r : Int) ∧ Nr G r := by
  obtain ⟨h1, h2, h3, h4, h5, h6, h7, ⟨t1, t2, t3⟩, h9⟩ := id h
  have hU : 0 < 10 ^ 1125 := Nat.pow_pos (by omega)
  generalize hUU : 10 ^ 1125 = U at h5 h6 hU
  rw [p32] at h6
  -- the head's relation to the number
  have key : ∀ (b s : Nat), b ≤ 53 → 0 < s → (s : Int) = tb + 1 - b + 32 * ((T : Int) - 33) → ∃ low : Prop, Hh (dv 4294967296 W T) head s b low ∧ (low ∨ F ≠ 0 ↔ more = true) := by
    intro b s hb hs0 hs
    by_cases hT : top + 3 ≤ T
    · refine ⟨_, Hh_w (b := b) (s := s) (by omega) hsh (h1 _) h1 t2 hT hh (by omega), ?_⟩
      rw [hm, h7]
      have e1 : ts 4294967296 W (top + 3) (T - (top + 3)) ≠ 0 ↔ ∃ j, top + 3 ≤ j ∧ j < 67 ∧ W j ≠ 0 := by
        constructor
        · intro q
          refine Classical.byContradiction fun q2 => q (ts_z (fun k a b => ?_))
          refine Classical.byContradiction fun q3 => q2 ⟨k, a, by omega, q3⟩
        · intro ⟨j, a, b, c⟩ q
          by_cases z : j < T
          · exact c (ts_e0 (by omega) q j a (by omega))
          · exact c (h2 j (by omega) (by omega))
      rw [e1]
      constructor
      · rintro ((q | q) | q)
        · exact Or.inl q
        · exact Or.inr (Or.inr q)
        · exact Or.inr (Or.inl q)
      · rintro (q | q | q)
        · exact Or.inl (Or.inl q)
        · exact Or.inr q
        · exact Or.inl (Or.inr q)
    · have hT67 : T = 67 := by omega
      have hw2 : W (top + 2) = 0 := h2 _ (by omega) (by omega)
      refine ⟨False, Hh_v (b := b) (s := s) hs0 hsh hw2 t2 (by omega) (fun j a b => h2 j a (by omega)) hh (by omega) (by omega), ?_⟩
      rw [hm, h7, hw2]
      constructor
      · rintro (q | q)
        · exact q.elim
        · exact Or.inr (Or.inl q)
      · rintro (q | q | ⟨j, a, b, c⟩)
        · rw [Nat.zero_mul] at q; exact absurd rfl q
        · exact Or.inr q
        · omega
  rcases hz with ⟨hz1, rfl⟩ | ⟨b, q, up, hb, hq, rfl, hup⟩
  · -- below half of the least
    refine ⟨0, rfl, Nr_near ?_ (by decide)⟩
    rw [hUU]
    have hT9 : T = 67 ∨ top + 3 ≤ T := h9
    obtain ⟨s, hs⟩ : ∃ s : Nat, (s : Int) = tb + 1 - ((0 : Nat) : Int) + 32 * ((T : Int) - 33) := ⟨(tb + 1 - ((0 : Nat) : Int) + 32 * ((T : Int) - 33)).toNat, by omega⟩
    have hs0 : 0 < s := by omega
    obtain ⟨low, ⟨k1, k2, k3⟩, -⟩ := key 0 s (by omega) hs0 hs
    have k4 : dv 4294967296 W T / 2 ^ s = 0 := by
      rw [k1]
      exact Nat.div_eq_of_lt (by rw [Nat.sub_zero]; exact hh2)
    have k5 : dv 4294967296 W T < 2 ^ s := by
      rcases (Nat.div_eq_zero_iff).mp k4 with q | q
      · have := Nat.pow_pos (n := s) (show 0 < 2 by omega)
        omega
      · exact q
    apply near_0
    have k6 : dv 4294967296 W T + 1 ≤ 2 ^ (32 * (T - 33) - 1075) := Nat.le_trans k5 (Nat.pow_le_pow_right (by omega) (by omega))
    have k7 : G * 2 ^ (32 * (T - 33)) < 2 ^ (32 * (T - 33) - 1075) * U := by
      rw [← h6]
      have := Nat.mul_le_mul_right U k6
      rw [Nat.add_mul, Nat.one_mul] at this
      omega
    have hT : 1075 ≤ 32 * (T - 33) := by omega
    have k8 : G * 2 ^ 1075 * 2 ^ (32 * (T - 33) - 1075) < U * 2 ^ (32 * (T - 33) - 1075) := by
      rw [Nat.mul_assoc, ← Nat.pow_add, show 1075 + (32 * (T - 33) - 1075) = 32 * (T - 33) by omega, Nat.mul_comm U]
      exact k7
    exact Nat.lt_of_mul_lt_mul_right k8
  · have hb53 : b ≤ 53 := by omega
    obtain ⟨s, hs⟩ : ∃ s : Nat, (s : Int) = tb + 1 - b + 32 * ((T : Int) - 33) := ⟨(tb + 1 - b + 32 * ((T : Int) - 33)).toNat, by
      have : T = 67 ∨ top + 3 ≤ T := h9
      omega⟩
    have hs0 : 0 < s := by
      have : T = 67 ∨ top + 3 ≤ T := h9
      omega
    obtain ⟨low, ⟨k1, k2, k3⟩, k4⟩ := key b s hb53 hs0 hs
    have hf53 : head / 2 ^ (64 - b) < 9007199254740992 := by
      rw [Nat.div_lt_iff_lt_mul (Nat.pow_pos (by omega))]
      have e : (18446744073709551616 : Nat) = 2 ^ b * 2 ^ (64 - b) := by rw [← Nat.pow_add, show b + (64 - b) = 64 by omega]
      have e2 : 2 ^ b * 2 ^ (64 - b) ≤ 9007199254740992 * 2 ^ (64 - b) := Nat.mul_le_mul_right _ (Nat.le_trans (Nat.pow_le_pow_right (by omega) hb53) (by decide))
      omega
    have hq52 : q = 0 ∨ 4503599627370496 ≤ head / 2 ^ (64 - b) := by
      by_cases z : q = 0
      · exact Or.inl z
      · refine Or.inr ?_
        have e : b = 53 := by omega
        rw [e, show 64 - 53 = 11 by omega]
        omega
    have hn := near_cut (G := G) (U := U) (N := dv 4294967296 W T) (F := F) (a := 0) (b := 32 * (T - 33)) (s := s) (q := q) (up := up) hU (by rw [Nat.pow_zero, Nat.mul_one]; exact h6) (by rw [Nat.pow_zero, Nat.mul_one]; exact h5) hs0 (by omega) (by rw [k1]; exact hf53) (by rw [k1]; exact hq52) (by
      rw [hup, k1, k2, k3, ← k4]
      constructor
      · rintro ⟨a, b | b | b⟩
        · exact ⟨a, Or.inl (Or.inl b)⟩
        · rcases b with b | b
          · exact ⟨a, Or.inl (Or.inr b)⟩
          · exact ⟨a, Or.inr (Or.inl b)⟩
        · exact ⟨a, Or.inr (Or.inr b)⟩
      · rintro ⟨a, (b | b) | b | b⟩
        · exact ⟨a, Or.inl b⟩
        · exact ⟨a, Or.inr (Or.inl (Or.inl b))⟩
        · exact ⟨a, Or.inr (Or.inl (Or.inr b))⟩
        · exact ⟨a, Or.inr (Or.inr b)⟩)
    rw [k1] at hn
    refine ⟨_, rfl, Nr_near (by rw [hUU]; exact hn) ?_⟩
    have hI : INF = 9218868437227405312 := rfl
    split <;> omega
