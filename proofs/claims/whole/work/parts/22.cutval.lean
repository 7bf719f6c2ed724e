/-! what a cut decimal is worth -/
theorem dv_nines {f : Nat → Nat} {l n : Nat} (hl : l ≤ n) (h : ∀ i, l ≤ i → i < n → f i = 9) : dv 10 f n + 1 = (dv 10 f l + 1) * 10 ^ (n - l) := by
  obtain ⟨t, rfl⟩ : ∃ t, n = l + t := ⟨n - l, by omega⟩
  rw [Nat.add_sub_cancel_left]
  induction t with
  | zero => rw [Nat.pow_zero, Nat.mul_one]; rfl
  | succ t ih =>
    have h1 := ih (by omega) (fun i a b => h i a (by omega))
    rw [← Nat.add_assoc, dv_s, h (l + t) (by omega) (by omega), Nat.pow_succ, ← Nat.mul_assoc, ← h1]
    omega
theorem sv_up {K : Nat} {f : Nat → Nat} {n : Nat} {p : Int} (hp : (n : Int) ≤ p + K) : sv K (upF f n) (upL f n) (upP f n p) = (dv 10 f n + 1) * 10 ^ (p - n + K).toNat := by
  have hd := dn_le f n
  rw [dv_nines hd (fun i a b => dn_rest f n i a b)]
  unfold sv upF upL upP
  by_cases h : dn f n = 0
  · rw [if_pos h, if_pos h, if_pos h, h, dv_0, Nat.sub_zero, dv_s, dv_0, un_at, Nat.zero_add, Nat.one_mul, Nat.one_mul, ← Nat.pow_add]
    congr 1; omega
  · rw [if_neg h, if_neg h, if_neg h]
    obtain ⟨m, hm⟩ : ∃ m, dn f n = m + 1 := ⟨dn f n - 1, by omega⟩
    rw [hm, Nat.add_sub_cancel, dv_s, dv_s, un_at, dv_cg (d := un f m _) (e := f) (fun k hk => un_ne _ (by omega)), Nat.mul_assoc, ← Nat.pow_add, Nat.add_assoc]
    congr 2; omega
theorem sv_dn {K : Nat} {f : Nat → Nat} {n : Nat} {p : Int} (hp : (n : Int) ≤ p + K) (h0 : 0 < dz f n) : sv K f (dz f n) (dnP f n p) = dv 10 f n * 10 ^ (p - n + K).toNat := by
  have hd := dz_le f n
  unfold sv dnP
  rw [if_neg (by omega), dv_tail (i := dz f n) (n := n) hd (fun k a b => dz_rest f n k a b), Nat.mul_assoc, ← Nat.pow_add]
  congr 2; omega
theorem sv_head {K : Nat} {f : Nat → Nat} {n len : Nat} {p : Int} (hf : ∀ i, f i ≤ 9) (hn : n ≤ len) (hp : (len : Int) ≤ p + K) : dv 10 f n * 10 ^ (p - n + K).toNat ≤ sv K f len p ∧ sv K f len p < (dv 10 f n + 1) * 10 ^ (p - n + K).toNat := by
  obtain ⟨t, rfl⟩ : ∃ t, len = n + t := ⟨len - n, by omega⟩
  have e : (p - n + K).toNat = t + (p - (n + t : Nat) + K).toNat := by omega
  unfold sv
  rw [e, Nat.pow_add, ← Nat.mul_assoc, ← Nat.mul_assoc, dv_add]
  have h1 : dv 10 (fun i => f (n + i)) t < 10 ^ t := dv_lt (fun i _ => by have := hf (n + i); show f (n + i) < 10; omega)
  have hq : 0 < 10 ^ (p - (n + t : Nat) + K).toNat := Nat.pow_pos (by omega)
  refine ⟨Nat.mul_le_mul_right _ (by omega), Nat.mul_lt_mul_of_pos_right ?_ hq⟩
  rw [Nat.add_mul, Nat.one_mul]; omega
/-- down is no more, up is more -/
theorem ct_dn {K : Nat} {f : Nat → Nat} {n len : Nat} {p : Int} (hf : ∀ i, f i ≤ 9) (hn : n < len) (hp : (len : Int) ≤ p + K) (h0 : 0 < dz f n) (hg : ¬ gu f len n = true) : sv K (ctF f len n) (ctL f len n) (ctP f len n p) ≤ sv K f len p := by
  unfold ctF ctL ctP
  rw [if_neg hg, if_neg hg, if_neg hg, sv_dn (by omega) h0]
  exact (sv_head hf (by omega) hp).1
theorem ct_up {K : Nat} {f : Nat → Nat} {n len : Nat} {p : Int} (hf : ∀ i, f i ≤ 9) (hn : n < len) (hp : (len : Int) ≤ p + K) (hg : gu f len n = true) : sv K f len p < sv K (ctF f len n) (ctL f len n) (ctP f len n p) := by
  unfold ctF ctL ctP
  rw [if_pos hg, if_pos hg, if_pos hg, sv_up (by omega)]
  exact (sv_head hf (by omega) hp).2
def Cs (z : Int) (a b : Nat) : Prop := (z < 0 ∧ a < b) ∨ (z = 0 ∧ a = b) ∨ (0 < z ∧ b < a)
