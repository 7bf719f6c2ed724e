/-! the middles as the reference has them -/
def MidR (r : Nat) (f : Nat → Nat) (len : Nat) (pl : Int) : Prop := Nrm f len ∧ 0 < len ∧ (len : Int) ≤ pl + 1125 ∧ len ≤ 1200 ∧ -1075 ≤ pl ∧ pl ≤ 1200 ∧ (∀ i, f i ≤ 9) ∧ sv 1200 f len pl * 2 ^ 1075 = md r * 10 ^ 1200
theorem MidR_of {r v e n fr : Nat} {f g : Nat → Nat} (h : Rw f n fr v e) (hn : n ≤ 1200) (hfr : fr ≤ 1075) (hv : v * 2 ^ e = md r * 2) (hg9 : ∀ i, g i ≤ 9) (hg : ∀ i, i < dz f n → g i = f i) : MidR r g (dz f n) ((n : Int) - fr) := by
  obtain ⟨a, b, c⟩ := Rw_dz h
  have hdl := dz_le f n
  obtain ⟨s1, s2, s3⟩ := Rw_sv (pl := (n : Int) - fr) h rfl (by omega)
  refine ⟨⟨fun i _ => by have := hg9 i; omega, fun _ => ⟨by rw [hg 0 a]; exact (s1.2 a).1, by rw [hg _ (by omega)]; exact (s1.2 a).2⟩⟩, a, s2, by omega, by omega, by omega, hg9, ?_⟩
  have hs : sv 1200 g (dz f n) ((n : Int) - fr) = sv 1125 f (dz f n) ((n : Int) - fr) * 10 ^ 75 := by rw [sv_eq hg, sv_75 s2]
  rw [hs]
  have q2 : sv 1125 f (dz f n) ((n : Int) - fr) * 2 ^ 1075 = md r * 10 ^ 1125 := by
    apply Nat.eq_of_mul_eq_mul_right (show 0 < 2 by omega)
    have q3 : sv 1125 f (dz f n) ((n : Int) - fr) * 2 ^ 1075 * 2 = sv 1125 f (dz f n) ((n : Int) - fr) * 2 ^ 1076 := by rw [Nat.mul_assoc, ← Nat.pow_succ]
    rw [q3, s3, hv, Nat.mul_right_comm]
  have q4 : (10 : Nat) ^ 1200 = 10 ^ 1125 * 10 ^ 75 := by rw [← Nat.pow_add]
  rw [q4, Nat.mul_right_comm, q2, Nat.mul_assoc]
theorem md_hi (r : Nat) : (2 * fc r + 1) * 2 ^ (pw r + 1) = md r * 2 := by
  unfold md; rw [Nat.pow_succ, ← Nat.mul_assoc]
theorem md_lo1 {r : Nat} (h0 : 0 < fc r) (h : ¬ (fc r = 4503599627370496 ∧ 1 < r / 4503599627370496)) : (2 * fc r - 1) * 2 ^ (pw r + 1) = md (r - 1) * 2 := by
  have hr := rep_r r
  have e1 : fc (r - 1) = fc r - 1 ∧ pw (r - 1) = pw r := by
    unfold fc pw at *
    split at h0 <;> split at h <;> split <;> omega
  unfold md
  rw [e1.1, e1.2, Nat.pow_succ, ← Nat.mul_assoc, show 2 * (fc r - 1) + 1 = 2 * fc r - 1 by omega]
theorem md_lo2 {r : Nat} (h : fc r = 4503599627370496 ∧ 1 < r / 4503599627370496) : (4 * fc r - 1) * 2 ^ pw r = md (r - 1) * 2 := by
  have e1 : fc (r - 1) = 9007199254740991 ∧ pw r = pw (r - 1) + 1 := by
    obtain ⟨h1, h2⟩ := h
    unfold fc at h1
    unfold fc pw
    split at h1 <;> split <;> omega
  unfold md
  rw [e1.1, e1.2, h.1, Nat.pow_succ, ← Nat.mul_assoc]
theorem fc_par (r : Nat) : fc r % 2 = r % 2 := by unfold fc; split <;> omega
theorem Tv_cg {f g : Nat → Nat} {len n : Nat} {p : Int} (hn : n < len) (h : ∀ i, i < len → f i = g i) : Tv f len p n = Tv g len p n := by
  obtain ⟨a, b, c⟩ := ct_cg (p := p) hn h
  unfold Tv
  rw [← a, ← b]
  exact sv_eq c
/-- what the reference's enough answers where the double is not 0 -/
def En (d : Nat → Nat) (nd : Nat) (pl : Int) (r n : Nat) : Prop := 0 < n ∧ n ≤ nd ∧ ∃ L H : Nat, L * 2 ^ 1075 = md (r - 1) * 10 ^ 1200 ∧ H * 2 ^ 1075 = md r * 10 ^ 1200 ∧ (∀ m, 0 < m → m < n → ¬ H2 d nd pl L H (decide (r % 2 = 0)) m) ∧ (n < nd → H2 d nd pl L H (decide (r % 2 = 0)) n)
theorem H2_t {d : Nat → Nat} {nd : Nat} {pl : Int} {L H n : Nat} {ev : Bool} {za zb : Int} (ha : Cs za (Tv d nd pl n) L) (hb : Cs zb (Tv d nd pl n) H) : H2 d nd pl L H ev n ↔ (0 < za ∨ za = 0 ∧ ev = true) ∧ (zb < 0 ∨ zb = 0 ∧ ev = true) := by
  unfold H2 Cs at *
  cases ev with
  | true => simp only [and_true]; omega
  | false => simp only [Bool.false_eq_true, and_false, or_false]; omega
theorem MidR_pos {r : Nat} {f : Nat → Nat} {len : Nat} {pl : Int} (h : MidR r f len pl) : 0 < sv 1200 f len pl := sv_pos h.1 h.2.1 (by have := h.2.2.1; omega)
