/-! the head of 64 bits and the number that it is the head of -/
/-- head stands for N behind a cut of s bits, b bits of it kept -/
def Hh (N head s b : Nat) (low : Prop) : Prop := N / 2 ^ s = head / 2 ^ (64 - b) ∧ N / 2 ^ (s - 1) % 2 = head / 2 ^ (63 - b) % 2 ∧ (N % 2 ^ (s - 1) ≠ 0 ↔ head % 2 ^ (63 - b) ≠ 0 ∨ low)
theorem mod_split (N a b : Nat) : N % 2 ^ (a + b) ≠ 0 ↔ N / 2 ^ a % 2 ^ b ≠ 0 ∨ N % 2 ^ a ≠ 0 := by
  have e : N % (2 ^ a * 2 ^ b) = N % 2 ^ a + 2 ^ a * (N / 2 ^ a % 2 ^ b) := Nat.mod_mul
  rw [Nat.pow_add, e]
  have hp : 0 < 2 ^ a := Nat.pow_pos (by omega)
  constructor
  · intro h1
    by_cases q : N / 2 ^ a % 2 ^ b = 0
    · rw [q, Nat.mul_zero, Nat.add_zero] at h1; exact Or.inr h1
    · exact Or.inl q
  · intro h1 h2
    rcases h1 with h1 | h1
    · have : 1 * 1 ≤ 2 ^ a * (N / 2 ^ a % 2 ^ b) := Nat.mul_le_mul hp (by omega)
      omega
    · omega
theorem Hh_a {N head u b : Nat} (hb : b ≤ 63) (h : head = N / 2 ^ u) : Hh N head (u + (64 - b)) b (N % 2 ^ u ≠ 0) := by
  subst h
  have e1 : u + (64 - b) - 1 = u + (63 - b) := by omega
  refine ⟨?_, ?_, ?_⟩
  · rw [Nat.pow_add, Nat.div_div_eq_div_mul]
  · rw [e1, Nat.pow_add, Nat.div_div_eq_div_mul]
  · rw [e1]; exact mod_split N u (63 - b)
theorem Hh_b {N head u s b : Nat} (hs : 0 < s) (hb : s + u = 64 - b) (h : head = N * 2 ^ u) : Hh N head s b False := by
  subst h
  have hp : 0 < 2 ^ u := Nat.pow_pos (by omega)
  have e1 : 63 - b = (s - 1) + u := by omega
  refine ⟨?_, ?_, ?_⟩
  · rw [← hb, Nat.pow_add, Nat.mul_div_mul_right _ _ hp]
  · rw [e1, Nat.pow_add, Nat.mul_div_mul_right _ _ hp]
  · rw [e1, Nat.pow_add, Nat.mul_mod_mul_right]
    constructor
    · intro h; exact Or.inl (by
        have : 1 * 1 ≤ N % 2 ^ (s - 1) * 2 ^ u := Nat.mul_le_mul (by omega) hp
        omega)
    · intro h
      rcases h with h | h
      · intro q; rw [q, Nat.zero_mul] at h; exact h rfl
      · exact h.elim
/-- three words and the head out of them -/
theorem head_3 {w0 w1 w2 sh : Nat} (hsh : sh ≤ 31) (h2 : w2 < 4294967296) : (w0 * 18446744073709551616 + w1 * 4294967296 + w2) / 2 ^ (32 - sh) = w0 * 2 ^ (32 + sh) + w1 * 2 ^ sh + w2 * 2 ^ sh / 4294967296 := by
  have e0 : (4294967296 : Nat) = 2 ^ (32 - sh) * 2 ^ sh := by rw [← Nat.pow_add, show 32 - sh + sh = 32 by omega]
  have e1 : (18446744073709551616 : Nat) = 2 ^ (32 - sh) * 2 ^ (32 + sh) := by rw [← Nat.pow_add, show 32 - sh + (32 + sh) = 64 by omega]
  have hp : 0 < 2 ^ sh := Nat.pow_pos (by omega)
  have hq : 0 < 2 ^ (32 - sh) := Nat.pow_pos (by omega)
  have e2 : w2 * 2 ^ sh / 4294967296 = w2 / 2 ^ (32 - sh) := by rw [e0, Nat.mul_div_mul_right _ _ hp]
  rw [e2, e1, e0]
  generalize 2 ^ (32 - sh) = x at *
  generalize 2 ^ sh = y at *
  generalize 2 ^ (32 + sh) = z at *
  have e3 : w0 * (x * z) + w1 * (x * y) + w2 = w2 + x * (w0 * z + w1 * y) := by grind
  rw [e3, Nat.add_mul_div_left _ _ hq]
  omega
theorem low_3 {w0 w1 w2 sh : Nat} (hsh : sh ≤ 31) : (w0 * 18446744073709551616 + w1 * 4294967296 + w2) % 2 ^ (32 - sh) ≠ 0 ↔ w2 * 2 ^ sh % 4294967296 ≠ 0 := by
  have e0 : (4294967296 : Nat) = 2 ^ (32 - sh) * 2 ^ sh := by rw [← Nat.pow_add, show 32 - sh + sh = 32 by omega]
  have e1 : (18446744073709551616 : Nat) = 2 ^ (32 - sh) * 2 ^ (32 + sh) := by rw [← Nat.pow_add, show 32 - sh + (32 + sh) = 64 by omega]
  have hp : 0 < 2 ^ sh := Nat.pow_pos (by omega)
  have e4 : w2 * 2 ^ sh % 4294967296 = w2 % 2 ^ (32 - sh) * 2 ^ sh := by rw [e0, Nat.mul_mod_mul_right]
  have e5 : (w0 * 18446744073709551616 + w1 * 4294967296 + w2) % 2 ^ (32 - sh) = w2 % 2 ^ (32 - sh) := by
    rw [e1, e0]
    generalize 2 ^ (32 - sh) = x at *
    generalize 2 ^ sh = y at *
    generalize 2 ^ (32 + sh) = z at *
    have e3 : w0 * (x * z) + w1 * (x * y) + w2 = w2 + x * (w0 * z + w1 * y) := by grind
    rw [e3, Nat.add_mul_mod_self_left]
  rw [e4, e5]
  constructor
  · intro h q
    have : 1 * 1 ≤ w2 % 2 ^ (32 - sh) * 2 ^ sh := Nat.mul_le_mul (by omega) hp
    omega
  · intro h q; rw [q, Nat.zero_mul] at h; exact h rfl
theorem p32 (c : Nat) : (4294967296 : Nat) ^ c = 2 ^ (32 * c) := by rw [Nat.pow_mul]
/-- the first three words that count, among all -/
theorem dv_top3 {W : Nat → Nat} {top : Nat} (h0 : ∀ j, j < top → W j = 0) : dv 4294967296 W (top + 3) = W top * 18446744073709551616 + W (top + 1) * 4294967296 + W (top + 2) := by
  rw [show top + 3 = ((top + 1) + 1) + 1 by omega, dv_s, dv_s, dv_s, dv_z h0]
  omega
theorem Hh_w {W : Nat → Nat} {T top sh b s head : Nat} (hb : b ≤ 63) (hsh : sh ≤ 31) (h2 : W (top + 2) < 4294967296) (hW : ∀ j, W j < 4294967296) (h0 : ∀ j, j < top → W j = 0) (hT : top + 3 ≤ T) (hh : head = W top * 2 ^ (32 + sh) + W (top + 1) * 2 ^ sh + W (top + 2) * 2 ^ sh / 4294967296) (hs : s + sh = 32 * (T - top - 2) + (64 - b)) :
    Hh (dv 4294967296 W T) head s b (W (top + 2) * 2 ^ sh % 4294967296 ≠ 0 ∨ ts 4294967296 W (top + 3) (T - (top + 3)) ≠ 0) := by
  obtain ⟨c, rfl⟩ : ∃ c, T = top + 3 + c := ⟨T - (top + 3), by omega⟩
  have e0 : top + 3 + c - (top + 3) = c := by omega
  rw [e0]
  have hlow : ts 4294967296 W (top + 3) c < 2 ^ (32 * c) := by rw [← p32]; exact ts_lt (fun k _ _ => hW k)
  have hd := dv_ts 4294967296 W (top + 3) c
  rw [dv_top3 h0, p32] at hd
  have hp : 0 < 2 ^ (32 * c) := Nat.pow_pos (by omega)
  have e1 : dv 4294967296 W (top + 3 + c) / 2 ^ (32 * c) = W top * 18446744073709551616 + W (top + 1) * 4294967296 + W (top + 2) := by
    rw [hd, Nat.mul_comm, Nat.mul_add_div hp, Nat.div_eq_of_lt hlow, Nat.add_zero]
  have e2 : dv 4294967296 W (top + 3 + c) % 2 ^ (32 * c) = ts 4294967296 W (top + 3) c := by
    rw [hd, Nat.mul_comm, Nat.mul_add_mod, Nat.mod_eq_of_lt hlow]
  have hhead : head = dv 4294967296 W (top + 3 + c) / 2 ^ (32 * c + (32 - sh)) := by
    rw [Nat.pow_add, ← Nat.div_div_eq_div_mul, e1, head_3 hsh h2, hh]
  have hs2 : s = (32 * c + (32 - sh)) + (64 - b) := by omega
  have h := Hh_a (b := b) hb hhead
  rw [← hs2] at h
  refine ⟨h.1, h.2.1, h.2.2.trans ?_⟩
  have h3 := mod_split (dv 4294967296 W (top + 3 + c)) (32 * c) (32 - sh)
  rw [e1, e2, low_3 hsh] at h3
  rw [h3]
theorem Hh_v {W : Nat → Nat} {T top sh b s head : Nat} (hs0 : 0 < s) (hsh : sh ≤ 31) (h2 : W (top + 2) = 0) (h0 : ∀ j, j < top → W j = 0) (hT : T < top + 3) (hz : ∀ j, T ≤ j → j < top + 3 → W j = 0) (hh : head = W top * 2 ^ (32 + sh) + W (top + 1) * 2 ^ sh + W (top + 2) * 2 ^ sh / 4294967296) (hs : s + sh + 32 * (top + 2 - T) = 64 - b) (hT2 : T ≤ top + 2) :
    Hh (dv 4294967296 W T) head s b False := by
  have hd : dv 4294967296 W (top + 3) = dv 4294967296 W T * 4294967296 ^ (top + 3 - T) := dv_tail (by omega) (fun k h1 h2 => hz k h1 h2)
  rw [dv_top3 h0, h2, Nat.add_zero, p32] at hd
  rw [h2, Nat.zero_mul, Nat.zero_div, Nat.add_zero] at hh
  have e1 : head * 4294967296 = dv 4294967296 W T * 2 ^ (sh + 32 * (top + 2 - T)) * 4294967296 := by
    have q1 : head * 4294967296 = (W top * 18446744073709551616 + W (top + 1) * 4294967296) * 2 ^ sh := by
      rw [hh, Nat.pow_add]
      generalize 2 ^ sh = y
      have : (2 : Nat) ^ 32 = 4294967296 := by decide
      rw [this]
      grind
    rw [q1, hd, Nat.mul_assoc, ← Nat.pow_add, Nat.mul_assoc]
    congr 1
    have : (4294967296 : Nat) = 2 ^ 32 := by decide
    rw [this, ← Nat.pow_add]
    congr 1; omega
  exact Hh_b hs0 (u := sh + 32 * (top + 2 - T)) (by omega) (Nat.eq_of_mul_eq_mul_right (by omega) e1)
