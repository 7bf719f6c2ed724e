/-! small rows for the walks of Decimal -/
theorem cL_n {f : Nat → Nat} {len n : Nat} (h : n < len) : cL f len (n : Int) = ctL f len n := by
  unfold cL; rw [if_neg (by omega), if_pos (by omega), Int.toNat_natCast]
theorem cP_n {f : Nat → Nat} {len n : Nat} {p : Int} (h : n < len) : cP f len (n : Int) p = ctP f len n p := by
  unfold cP; rw [if_neg (by omega), if_pos (by omega), Int.toNat_natCast]
theorem cF_n {f : Nat → Nat} {len n : Nat} (h : n < len) : cF f len (n : Int) = ctF f len n := by
  unfold cF; rw [if_pos (by omega), Int.toNat_natCast]
theorem cL_neg {f : Nat → Nat} {len : Nat} {z : Int} (h : z < 0) : cL f len z = 0 := if_pos h
theorem cP_neg {f : Nat → Nat} {len : Nat} {z p : Int} (h : z < 0) : cP f len z p = 0 := if_pos h
theorem cF_neg {f : Nat → Nat} {len : Nat} {z : Int} (h : z < 0) : cF f len z = f := if_neg (by omega)
theorem cL_ge {f : Nat → Nat} {len : Nat} {z : Int} (h : (len : Int) ≤ z) : cL f len z = len := by
  unfold cL; rw [if_neg (by omega), if_neg (by omega)]
theorem cP_ge {f : Nat → Nat} {len : Nat} {z p : Int} (h : (len : Int) ≤ z) : cP f len z p = p := by
  unfold cP; rw [if_neg (by omega), if_neg (by omega)]
theorem cF_ge {f : Nat → Nat} {len : Nat} {z : Int} (h : (len : Int) ≤ z) : cF f len z = f := if_neg (by omega)
theorem cpy_lt {f g : Nat → Nat} {n k : Nat} (h : k < n) : va_cpy f g 0 0 n k = f k := by
  unfold va_cpy; rw [if_pos (by omega)]; congr 1; omega
theorem cpy_9 {f g : Nat → Nat} {n : Nat} (hf : ∀ i, f i ≤ 9) (hg : ∀ i, g i ≤ 9) (k : Nat) : va_cpy f g 0 0 n k ≤ 9 := by
  unfold va_cpy; split
  · exact hf _
  · exact hg _
theorem sv_pre {K : Nat} {f g : Nat → Nat} {l m : Nat} {p : Int} (hlm : l < m) (hs : ∀ i, i < l → f i = g i) (h0 : g (m - 1) ≠ 0) (hp : (m : Int) ≤ p + K) : sv K f l p < sv K g m p := by
  obtain ⟨t, rfl⟩ : ∃ t, m = l + t := ⟨m - l, by omega⟩
  unfold sv
  have e : (p - l + K).toNat = t + (p - (l + t : Nat) + K).toNat := by omega
  rw [e, Nat.pow_add, ← Nat.mul_assoc, dv_add, dv_cg hs]
  refine Nat.mul_lt_mul_of_pos_right ?_ (Nat.pow_pos (by omega))
  have h1 : dv 10 (fun i => g (l + i)) t ≠ 0 := by
    intro q
    have := dv_e0 (by omega) q (t - 1) (by omega)
    apply h0
    have e2 : l + t - 1 = l + (t - 1) := by omega
    rw [e2]; exact this
  omega
theorem sv_eq {K : Nat} {f g : Nat → Nat} {l : Nat} {p : Int} (hs : ∀ i, i < l → f i = g i) : sv K f l p = sv K g l p := by
  unfold sv; rw [dv_cg hs]
theorem sv_dig {K : Nat} {f g : Nat → Nat} {l m k : Nat} {p : Int} (hf : ∀ i, f i ≤ 9) (hp : (l : Int) ≤ p + K) (hq : (m : Int) ≤ p + K) (hl : k < l) (hm : k < m) (hs : ∀ i, i < k → f i = g i) (h : f k < g k) : sv K f l p < sv K g m p := by
  refine sv_lex (k := k) (fun i _ => by have := hf i; omega) (Or.inl hl) hp hq (fun i hi => ?_) ?_
  · unfold ext0; rw [if_pos (by omega), if_pos (by omega)]; exact hs i hi
  · unfold ext0; rw [if_pos hl, if_pos hm]; exact h
