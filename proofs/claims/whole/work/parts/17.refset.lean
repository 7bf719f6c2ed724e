/-! the reference's rows: how long, and what they are worth -/
def Nd (v k : Nat) : Prop := v < 10 ^ k ∧ (k = 0 ∨ 10 ^ (k - 1) ≤ v)
theorem Nd_0 : Nd 0 0 := ⟨by decide, Or.inl rfl⟩
theorem Nd_s {v k : Nat} (hv : 0 < v) (h : Nd (v / 10) k) : Nd v (k + 1) := by
  obtain ⟨h1, h2⟩ := h
  refine ⟨?_, Or.inr ?_⟩
  · rw [Nat.pow_succ]; omega
  · rw [Nat.add_sub_cancel]
    rcases h2 with h2 | h2
    · rw [h2]; omega
    · by_cases q : k = 0
      · rw [q]; omega
      · have e : k = (k - 1) + 1 := by omega
        rw [e, Nat.pow_succ]; omega
theorem Nd_le {v k c : Nat} (h : Nd v k) (hv : v < 10 ^ c) : k ≤ c := by
  rcases h.2 with h2 | h2
  · omega
  · have h3 : 10 ^ (k - 1) < 10 ^ c := Nat.lt_of_le_of_lt h2 hv
    have h4 := (Nat.pow_lt_pow_iff_right (show 1 < 10 by omega)).mp h3
    omega
/-- the digits of v, written from the end: those from k on are there -/
def Fi (v n k : Nat) (f : Nat → Nat) : Prop := (∀ i, f i ≤ 9) ∧ ∀ i, k ≤ i → i < n → f i = v / 10 ^ (n - 1 - i) % 10
theorem Fi_0 {v n : Nat} {f : Nat → Nat} (h : ∀ i, f i ≤ 9) : Fi v n n f := ⟨h, fun i h1 h2 => by omega⟩
theorem Fi_s {v n k : Nat} {f : Nat → Nat} (h : Fi v n (k + 1) f) (hk : k < n) : Fi v n k (un f k (v / 10 ^ (n - (k + 1)) % 10)) := by
  refine ⟨un_le h.1 (by omega), fun i h1 h2 => ?_⟩
  by_cases e : i = k
  · rw [e, un_at]; congr 3; omega
  · rw [un_ne _ e]; exact h.2 i (by omega) h2
theorem Fi_v {v n : Nat} {f : Nat → Nat} (h : Fi v n 0 f) (hv : v < 10 ^ n) : dv 10 f n = v := by
  have h1 := dg_all hv n (Nat.le_refl _)
  rw [Nat.sub_self, Nat.pow_zero, Nat.div_one] at h1
  rw [← h1]
  exact dv_cg (fun i hi => h.2 i (by omega) hi)
theorem Fi_lead {v n : Nat} {f : Nat → Nat} (h : Fi v n 0 f) (hv : Nd v n) (h0 : 0 < n) : f 0 ≠ 0 := by
  refine lead_nz h.1 h0 ?_
  rw [Fi_v h hv.1]
  rcases hv.2 with h2 | h2
  · omega
  · exact h2
/-- a row with fr digits behind the point is v * 2 ** e, in units of 2 ** -1076 -/
def Rw (f : Nat → Nat) (n fr v e : Nat) : Prop := (∀ i, f i ≤ 9) ∧ 0 < n ∧ f 0 ≠ 0 ∧ dv 10 f n * 2 ^ 1076 = v * 2 ^ e * 10 ^ fr
theorem Rw_tw {f g : Nat → Nat} {n n' fr v e : Nat} (h : Rw f n fr v e) (ht : Tw f n g n') : Rw g n' fr v (e + 1) := by
  obtain ⟨h1, h2, h3, h4⟩ := h
  obtain ⟨t1, t2, t3, t4, t5⟩ := ht
  refine ⟨t1, by omega, t5 h2 h3, ?_⟩
  rw [t4, Nat.mul_assoc, h4, Nat.pow_succ]
  simp only [Nat.mul_assoc, Nat.mul_comm, Nat.mul_left_comm]
theorem Rw_hf {f g : Nat → Nat} {n n' x fr v e : Nat} (h : Rw f n fr v (e + 1)) (ht : Hf f n g n' x) : Rw g n' (fr + x) v e := by
  obtain ⟨h1, h2, h3, h4⟩ := h
  obtain ⟨t1, t2, t3, t4, t5, t6⟩ := ht
  refine ⟨t1, (t6 h2 h3).1, (t6 h2 h3).2, ?_⟩
  have q : dv 10 g n' * 2 ^ 1076 * 2 = v * 2 ^ e * 10 ^ (fr + x) * 2 := by
    calc dv 10 g n' * 2 ^ 1076 * 2 = dv 10 g n' * 2 * 2 ^ 1076 := Nat.mul_right_comm _ _ _
      _ = dv 10 f n * 10 ^ x * 2 ^ 1076 := by rw [t5]
      _ = dv 10 f n * 2 ^ 1076 * 10 ^ x := Nat.mul_right_comm _ _ _
      _ = v * 2 ^ (e + 1) * 10 ^ fr * 10 ^ x := by rw [h4]
      _ = _ := by rw [Nat.pow_succ, Nat.pow_add]; simp only [Nat.mul_assoc, Nat.mul_comm, Nat.mul_left_comm]
  exact Nat.eq_of_mul_eq_mul_right (by omega) q
theorem Rw_dz {f : Nat → Nat} {n fr v e : Nat} (h : Rw f n fr v e) : 0 < dz f n ∧ f (dz f n - 1) ≠ 0 ∧ dv 10 f n = dv 10 f (dz f n) * 10 ^ (n - dz f n) := by
  have hp : 0 < dz f n := by
    by_cases q : dz f n = 0
    · exact absurd (dz_rest f n 0 (by omega) h.2.1) h.2.2.1
    · omega
  exact ⟨hp, dz_last f n hp, dv_tail (dz_le f n) (fun k h1 h2 => dz_rest f n k h1 h2)⟩
theorem Rw_sv {f : Nat → Nat} {n fr v e : Nat} {pl : Int} (h : Rw f n fr v e) (hpl : pl = (n : Int) - fr) (hfr : fr ≤ 1125) : Nrm f (dz f n) ∧ ((dz f n : Nat) : Int) ≤ pl + 1125 ∧ sv 1125 f (dz f n) pl * 2 ^ 1076 = v * 2 ^ e * 10 ^ 1125 := by
  obtain ⟨a, b, c⟩ := Rw_dz h
  have hd := dz_le f n
  refine ⟨⟨fun i _ => by have := h.1 i; omega, fun _ => ⟨by have := h.2.2.1; omega, by omega⟩⟩, by omega, ?_⟩
  unfold sv
  have e1 : (pl - ((dz f n : Nat) : Int) + 1125).toNat = (n - dz f n) + (1125 - fr) := by omega
  rw [show (pl - ((dz f n : Nat) : Int) + (1125 : Nat)).toNat = (n - dz f n) + (1125 - fr) from e1]
  rw [Nat.pow_add, ← Nat.mul_assoc, ← c, Nat.mul_right_comm, h.2.2.2, Nat.mul_assoc, ← Nat.pow_add]
  congr 2; omega
