/-! words of 32 bits: what Words.load keeps -/
theorem B_125 : (1000000000 : Nat) ^ 125 = 10 ^ 1125 := by decide +kernel
/-- the number before the point goes over into words, from the last -/
def WA (R0 R W : Nat → Nat) (i : Nat) : Prop := dv 1000000000 R0 35 = dv 1000000000 R 35 * 4294967296 ^ (33 - i) + ts 4294967296 W i (33 - i)
theorem WA_0 (R W : Nat → Nat) : WA R R W 33 := by
  unfold WA ts
  rw [Nat.sub_self, Nat.pow_zero, Nat.mul_one, dv_0, Nat.add_zero]
theorem WA_s {R0 R R' W : Nat → Nat} {i o : Nat} (hi : i < 33) (h : WA R0 R W (i + 1)) (hd : dv 1000000000 R' 35 * 4294967296 + o = dv 1000000000 R 35) : WA R0 R' (un W i o) i := by
  unfold WA at h ⊢
  have e : 33 - i = (33 - (i + 1)) + 1 := by omega
  rw [e, ts_hd, un_at, ts_cg (R := un W i o) (S := W) (fun k hk _ => un_ne _ (by omega)), h, ← hd, Nat.pow_succ, Nat.add_mul]
  rw [Nat.add_assoc, Nat.mul_assoc, Nat.mul_comm (4294967296 : Nat)]
theorem WA_e {R0 R W : Nat → Nat} (h : WA R0 R W 0) (hb : dv 1000000000 R0 35 < 4294967296 ^ 33) : dv 1000000000 R 35 = 0 ∧ dv 4294967296 W 33 = dv 1000000000 R0 35 := by
  unfold WA ts at h
  simp only [Nat.zero_add, Nat.sub_zero] at h
  have h0 : dv 1000000000 R 35 = 0 := by
    by_cases q : dv 1000000000 R 35 = 0
    · exact q
    · have : 1 * 4294967296 ^ 33 ≤ dv 1000000000 R 35 * 4294967296 ^ 33 := Nat.mul_le_mul_right _ (by omega)
      omega
  rw [h0, Nat.zero_mul, Nat.zero_add] at h
  exact ⟨h0, h.symm⟩
def Tp (W : Nat → Nat) (i top : Nat) : Prop := top ≤ i ∧ (∀ j, j < top → W j = 0) ∧ (top < i → W top ≠ 0)
/-- and what stands behind the point, word by word -/
def WB (G : Nat) (R W : Nat → Nat) (i : Nat) : Prop := dv 4294967296 W i * 10 ^ 1125 + ts 1000000000 R 35 125 = G * 4294967296 ^ (i - 33)
theorem WB_0 {R0 R W : Nat → Nat} {G : Nat} (hG : G = dv 1000000000 R0 160) (h : dv 4294967296 W 33 = dv 1000000000 R0 35) (hR : ∀ j, 35 ≤ j → R j = R0 j) : WB G R W 33 := by
  unfold WB
  rw [Nat.sub_self, Nat.pow_zero, Nat.mul_one, hG, h, ← B_125, ts_cg (R := R) (S := R0) (fun k hk _ => hR k hk)]
  exact (dv_ts 1000000000 R0 35 125).symm
theorem WB_s {R R' W : Nat → Nat} {G i o : Nat} (hi : 33 ≤ i) (h : WB G R W i) (hd : ts 1000000000 R' 35 125 + o * 1000000000 ^ 125 = ts 1000000000 R 35 125 * 4294967296) : WB G R' (un W i o) (i + 1) := by
  unfold WB at h ⊢
  rw [dv_s, un_at, dv_cg (d := un W i o) (e := W) (fun k hk => un_ne _ (by omega))]
  have e : i + 1 - 33 = (i - 33) + 1 := by omega
  have hp : (4294967296 : Nat) ^ (i - 33 + 1) = 4294967296 ^ (i - 33) * 4294967296 := Nat.pow_succ _ _
  rw [e, hp, ← Nat.mul_assoc, ← h]
  rw [B_125] at hd
  generalize dv 4294967296 W i = x at *
  generalize ts 1000000000 R' 35 125 = y at *
  generalize ts 1000000000 R 35 125 = t at *
  generalize 10 ^ 1125 = z at *
  rw [Nat.add_mul (x * z) t, ← hd]
  grind
theorem WB_F {R : Nat → Nat} (hR : ∀ i, R i < 1000000000) : ts 1000000000 R 35 125 < 10 ^ 1125 := by
  rw [← B_125]; exact ts_lt (fun k _ _ => hR k)
theorem WB_more {R : Nat → Nat} {fi en : Nat} (hG : Gd R fi en) (hL : LN R en) : 35 < en ↔ ts 1000000000 R 35 125 ≠ 0 := by
  constructor
  · intro h h0
    rcases hL with q | q
    · omega
    · exact q (ts_e0 (by omega) h0 (en - 1) (by omega) (by have := hG.2.2.2.1; omega))
  · intro h
    by_cases q : 35 < en
    · exact q
    · exact absurd (ts_z (fun k h1 h2 => hG.2.2.1 k (by omega) (by omega))) h
/-- what load leaves -/
def Wl (G : Nat) (W : Nat → Nat) (more : Bool) (T top F : Nat) : Prop := (∀ i, W i < 4294967296) ∧ (∀ j, T ≤ j → j < 70 → W j = 0) ∧ 33 ≤ T ∧ T ≤ 67 ∧ F < 10 ^ 1125 ∧ dv 4294967296 W T * 10 ^ 1125 + F = G * 4294967296 ^ (T - 33) ∧ (more = true ↔ F ≠ 0) ∧ Tp W T top ∧ (T = 67 ∨ top + 3 ≤ T)
