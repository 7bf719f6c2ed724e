/-! DecimalTruth: its object, what its parts leave -/
abbrev xo (x k g w t l hi : Nat) (mi : Bool) (zr : Nat) (pt : Int) : Nat × va_E := oc x 3 [.ref k, vi (b2 mi), vi (zr : Nat), vi pt, .ref g, .ref w, .ref t, .ref l, .ref hi]
def Sp (m : Nat) (p : Int) (len : Nat) (pl : Int) (f : Nat → Nat) : Prop := Kd f len pl ∧ -1125 ≤ pl ∧ pl ≤ 315 ∧ (m = 0 → len = 0) ∧ (m ≠ 0 → 0 < len ∧ sv 1125 f len pl * 2 ^ 1076 = m * 2 ^ (p + 1076).toNat * 10 ^ 1125 ∧ (len : Int) ≤ pl + 1125)
theorem Sp_of {m : Nat} {p : Int} {R f : Nat → Nat} {fi en len : Nat} {pl : Int} (h1 : Pd m p R fi en) (h2 : Rd R len pl f) : Sp m p len pl f := by
  obtain ⟨-, hv, -⟩ := h1
  obtain ⟨a, b, c, d, e⟩ := h2
  have hp : 0 < 2 ^ (p + 1076).toNat := Nat.pow_pos (by omega)
  have hq : 0 < 10 ^ 1125 := Nat.pow_pos (by omega)
  have hr : 0 < 2 ^ 1076 := Nat.pow_pos (by omega)
  refine ⟨a, b, c, fun q => d ?_, fun q => ?_⟩
  · rw [q, Nat.zero_mul, Nat.zero_mul] at hv
    rcases Nat.mul_eq_zero.mp hv with z | z
    · exact z
    · omega
  · have hne : dv 1000000000 R 160 ≠ 0 := by
      intro z
      rw [z, Nat.zero_mul] at hv
      have : 0 < m * 2 ^ (p + 1076).toNat * 10 ^ 1125 := Nat.mul_pos (Nat.mul_pos (by omega) hp) hq
      omega
    obtain ⟨e1, e2, e3⟩ := e hne
    exact ⟨e1, by rw [e2]; exact hv, e3⟩
def rz (n : Nat) : Int := if n = 0 then -1 else (n : Int)
theorem rz_0 : rz 0 = -1 := rfl
theorem rz_s {n : Nat} (h : n ≠ 0) : rz n = (n : Int) := if_neg h
/-- zeros in mind, then a digit -/
def zf (f : Nat → Nat) (len z : Nat) : Nat → Nat := fun j => if len ≤ j ∧ j < len + z then 0 else f j
theorem zf_0 (f : Nat → Nat) (len : Nat) : zf f len 0 = f := by funext j; unfold zf; rw [if_neg (by omega)]
theorem zf_s (f : Nat → Nat) (len z : Nat) : un (zf f len z) (len + z) 0 = zf f len (z + 1) := by
  funext j; unfold un
  by_cases h : j = len + z
  · rw [if_pos h]; unfold zf; rw [if_pos (by omega)]
  · rw [if_neg h]; unfold zf
    by_cases h2 : len ≤ j ∧ j < len + z
    · rw [if_pos h2, if_pos (by omega)]
    · rw [if_neg h2, if_neg (by omega)]
theorem zf_9 {f : Nat → Nat} (h : ∀ i, f i ≤ 9) (len z i : Nat) : zf f len z i ≤ 9 := by
  unfold zf; split
  · omega
  · exact h i
theorem fc_lt (r : Nat) : fc r < 9007199254740992 := (rep_r r).2.1
theorem pw_lt {r : Nat} (h : r < 9218868437227405312) : pw r ≤ 2045 := by unfold pw; omega
