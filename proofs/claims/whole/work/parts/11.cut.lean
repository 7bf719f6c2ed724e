/-! digits cut and rounded: the same on both sides -/
def dz (f : Nat → Nat) : Nat → Nat
  | 0 => 0
  | l + 1 => if f l = 0 then dz f l else l + 1
def dn (f : Nat → Nat) : Nat → Nat
  | 0 => 0
  | l + 1 => if f l = 9 then dn f l else l + 1
theorem dz_s0 {f : Nat → Nat} {l : Nat} (h : f l = 0) : dz f (l + 1) = dz f l := if_pos h
theorem dz_s1 {f : Nat → Nat} {l : Nat} (h : f l ≠ 0) : dz f (l + 1) = l + 1 := if_neg h
theorem dn_s0 {f : Nat → Nat} {l : Nat} (h : f l = 9) : dn f (l + 1) = dn f l := if_pos h
theorem dn_s1 {f : Nat → Nat} {l : Nat} (h : f l ≠ 9) : dn f (l + 1) = l + 1 := if_neg h
theorem dz_le (f : Nat → Nat) (l : Nat) : dz f l ≤ l := by
  induction l with
  | zero => exact Nat.le_refl _
  | succ l ih => by_cases h : f l = 0
                 · rw [dz_s0 h]; omega
                 · rw [dz_s1 h]; omega
theorem dn_le (f : Nat → Nat) (l : Nat) : dn f l ≤ l := by
  induction l with
  | zero => exact Nat.le_refl _
  | succ l ih => by_cases h : f l = 9
                 · rw [dn_s0 h]; omega
                 · rw [dn_s1 h]; omega
theorem dz_last (f : Nat → Nat) (l : Nat) (h : 0 < dz f l) : f (dz f l - 1) ≠ 0 := by
  induction l with
  | zero => exact absurd h (Nat.lt_irrefl _)
  | succ l ih => by_cases h1 : f l = 0
                 · rw [dz_s0 h1] at h ⊢; exact ih h
                 · rw [dz_s1 h1]; exact h1
theorem dn_last (f : Nat → Nat) (l : Nat) (h : 0 < dn f l) : f (dn f l - 1) ≠ 9 := by
  induction l with
  | zero => exact absurd h (Nat.lt_irrefl _)
  | succ l ih => by_cases h1 : f l = 9
                 · rw [dn_s0 h1] at h ⊢; exact ih h
                 · rw [dn_s1 h1]; exact h1
theorem dz_rest (f : Nat → Nat) (l : Nat) : ∀ i, dz f l ≤ i → i < l → f i = 0 := by
  induction l with
  | zero => intro i _ h; omega
  | succ l ih =>
    intro i h1 h2
    by_cases h : f l = 0
    · rw [dz_s0 h] at h1
      by_cases e : i = l
      · rw [e]; exact h
      · exact ih i h1 (by omega)
    · rw [dz_s1 h] at h1; omega
theorem dn_rest (f : Nat → Nat) (l : Nat) : ∀ i, dn f l ≤ i → i < l → f i = 9 := by
  induction l with
  | zero => intro i _ h; omega
  | succ l ih =>
    intro i h1 h2
    by_cases h : f l = 9
    · rw [dn_s0 h] at h1
      by_cases e : i = l
      · rw [e]; exact h
      · exact ih i h1 (by omega)
    · rw [dn_s1 h] at h1; omega
theorem dz_cg {f g : Nat → Nat} {l : Nat} (h : ∀ i, i < l → f i = g i) : dz f l = dz g l := by
  induction l with
  | zero => rfl
  | succ l ih =>
    have e := h l (by omega)
    by_cases h1 : f l = 0
    · rw [dz_s0 h1, dz_s0 (by omega), ih (fun i hi => h i (by omega))]
    · rw [dz_s1 h1, dz_s1 (by omega)]
theorem dn_cg {f g : Nat → Nat} {l : Nat} (h : ∀ i, i < l → f i = g i) : dn f l = dn g l := by
  induction l with
  | zero => rfl
  | succ l ih =>
    have e := h l (by omega)
    by_cases h1 : f l = 9
    · rw [dn_s0 h1, dn_s0 (by omega), ih (fun i hi => h i (by omega))]
    · rw [dn_s1 h1, dn_s1 (by omega)]
theorem dz_self {f : Nat → Nat} {l : Nat} (h : 0 < l → f (l - 1) ≠ 0) : dz f l = l := by
  cases l with
  | zero => rfl
  | succ l => exact dz_s1 (h (by omega))
theorem un_at (f : Nat → Nat) (k x : Nat) : un f k x k = x := if_pos rfl
theorem un_ne (f : Nat → Nat) {k x i : Nat} (h : i ≠ k) : un f k x i = f i := if_neg h
theorem un_le {f : Nat → Nat} {k x b : Nat} (h : ∀ i, f i ≤ b) (hx : x ≤ b) (i : Nat) : un f k x i ≤ b := by
  unfold un; split
  · exact hx
  · exact h i
theorem un_lt {f : Nat → Nat} {k x b : Nat} (h : ∀ i, f i < b) (hx : x < b) (i : Nat) : un f k x i < b := by
  unfold un; split
  · exact hx
  · exact h i
def upF (f : Nat → Nat) (n : Nat) : Nat → Nat := if dn f n = 0 then un f 0 1 else un f (dn f n - 1) (f (dn f n - 1) + 1)
def upL (f : Nat → Nat) (n : Nat) : Nat := if dn f n = 0 then 1 else dn f n
def upP (f : Nat → Nat) (n : Nat) (p : Int) : Int := if dn f n = 0 then p + 1 else p
def dnP (f : Nat → Nat) (n : Nat) (p : Int) : Int := if dz f n = 0 then 0 else p
def gu (f : Nat → Nat) (len n : Nat) : Bool := if f n = 5 then (!(decide (n + 1 = len)) || !(decide (n = 0) || decide (f (n - 1) % 2 = 0))) else decide (5 < f n)
def ctF (f : Nat → Nat) (len n : Nat) : Nat → Nat := if gu f len n = true then upF f n else f
def ctL (f : Nat → Nat) (len n : Nat) : Nat := if gu f len n = true then upL f n else dz f n
def ctP (f : Nat → Nat) (len n : Nat) (p : Int) : Int := if gu f len n = true then upP f n p else dnP f n p
def cF (f : Nat → Nat) (len : Nat) (z : Int) : Nat → Nat := if 0 ≤ z ∧ z < len then ctF f len z.toNat else f
def cL (f : Nat → Nat) (len : Nat) (z : Int) : Nat := if z < 0 then 0 else if z < len then ctL f len z.toNat else len
def cP (f : Nat → Nat) (len : Nat) (z p : Int) : Int := if z < 0 then 0 else if z < len then ctP f len z.toNat p else p
theorem upF_9 {f : Nat → Nat} {n : Nat} (h : ∀ i, f i ≤ 9) : ∀ i, upF f n i ≤ 9 := by
  intro i; unfold upF; split
  · exact un_le h (by omega) i
  · rename_i h0
    have h1 := dn_last f n (by omega)
    have h2 := h (dn f n - 1)
    exact un_le h (by omega) i
theorem upL_pos (f : Nat → Nat) (n : Nat) : 0 < upL f n := by unfold upL; split <;> omega
theorem upL_le (f : Nat → Nat) (n : Nat) : upL f n ≤ n + 1 := by
  have := dn_le f n
  unfold upL; split <;> omega
theorem upL_le' (f : Nat → Nat) {n : Nat} (h : 0 < n) : upL f n ≤ n := by
  have := dn_le f n
  unfold upL; split <;> omega
theorem upF_last (f : Nat → Nat) (n : Nat) : upF f n (upL f n - 1) ≠ 0 := by
  unfold upF upL
  by_cases h : dn f n = 0
  · rw [if_pos h, if_pos h, un_at]; omega
  · rw [if_neg h, if_neg h, un_at]; omega
theorem upF_dz (f : Nat → Nat) (n : Nat) : dz (upF f n) (upL f n) = upL f n := dz_self (fun _ => upF_last f n)
theorem upF_0 {f : Nat → Nat} {n : Nat} (h : 0 < n → f 0 ≠ 0) : upF f n 0 ≠ 0 := by
  have := dn_le f n
  unfold upF; split
  · rw [un_at]; omega
  · rename_i h0
    by_cases e : dn f n - 1 = 0
    · rw [e, un_at]; omega
    · rw [un_ne _ (fun q => e q.symm)]; exact h (by omega)
theorem gu_cg {f g : Nat → Nat} {len n : Nat} (hn : n < len) (h : ∀ i, i < len → f i = g i) : gu f len n = gu g len n := by
  unfold gu
  rw [h n hn, h (n - 1) (by omega)]
theorem ctF_9 {f : Nat → Nat} {len n : Nat} (h : ∀ i, f i ≤ 9) : ∀ i, ctF f len n i ≤ 9 := by
  intro i; unfold ctF; split
  · exact upF_9 h i
  · exact h i
theorem cF_9 {f : Nat → Nat} {len : Nat} {z : Int} (h : ∀ i, f i ≤ 9) : ∀ i, cF f len z i ≤ 9 := by
  intro i; unfold cF; split
  · exact ctF_9 h i
  · exact h i
theorem ctL_le (f : Nat → Nat) {len n : Nat} (hn : n < len) : ctL f len n ≤ len := by
  have h1 := upL_le f n
  have h2 := dz_le f n
  unfold ctL; split <;> omega
theorem cL_le (f : Nat → Nat) (len : Nat) (z : Int) : cL f len z ≤ len := by
  unfold cL; split
  · omega
  · split
    · exact ctL_le f (by omega)
    · omega
theorem ct_cg {f g : Nat → Nat} {len n : Nat} {p : Int} (hn : n < len) (h : ∀ i, i < len → f i = g i) : ctL f len n = ctL g len n ∧ ctP f len n p = ctP g len n p ∧ ∀ i, i < ctL f len n → ctF f len n i = ctF g len n i := by
  have e1 := gu_cg hn h
  have e2 : dz f n = dz g n := dz_cg (fun i hi => h i (by omega))
  have e3 : dn f n = dn g n := dn_cg (fun i hi => h i (by omega))
  have e4 := dn_le f n
  have e5 := dz_le f n
  unfold ctL ctP ctF
  rw [← e1]
  by_cases hg : gu f len n = true
  · rw [if_pos hg, if_pos hg, if_pos hg, if_pos hg, if_pos hg, if_pos hg]
    unfold upL upP upF
    rw [← e3]
    by_cases h0 : dn f n = 0
    · rw [if_pos h0, if_pos h0, if_pos h0, if_pos h0]
      refine ⟨rfl, rfl, fun i hi => ?_⟩
      have : i = 0 := by omega
      rw [this, un_at, un_at]
    · rw [if_neg h0, if_neg h0, if_neg h0, if_neg h0]
      refine ⟨rfl, rfl, fun i hi => ?_⟩
      by_cases e : i = dn f n - 1
      · rw [e, un_at, un_at, h _ (by omega)]
      · rw [un_ne _ e, un_ne _ e, h i (by omega)]
  · rw [if_neg hg, if_neg hg, if_neg hg, if_neg hg, if_neg hg, if_neg hg]
    unfold dnP
    rw [← e2]
    exact ⟨rfl, rfl, fun i hi => h i (by omega)⟩
theorem c_cg {f g : Nat → Nat} {len : Nat} {z p : Int} (h : ∀ i, i < len → f i = g i) : cL f len z = cL g len z ∧ cP f len z p = cP g len z p ∧ ∀ i, i < cL f len z → cF f len z i = cF g len z i := by
  unfold cL cP cF
  by_cases h1 : z < 0
  · rw [if_pos h1, if_pos h1, if_pos h1, if_pos h1]
    exact ⟨rfl, rfl, fun i hi => by omega⟩
  · rw [if_neg h1, if_neg h1, if_neg h1, if_neg h1]
    by_cases h2 : z < len
    · have h3 : 0 ≤ z ∧ z < len := by omega
      rw [if_pos h2, if_pos h2, if_pos h2, if_pos h2, if_pos h3, if_pos h3]
      exact ct_cg (by omega) h
    · have h3 : ¬ (0 ≤ z ∧ z < len) := by omega
      rw [if_neg h2, if_neg h2, if_neg h2, if_neg h2, if_neg h3, if_neg h3]
      exact ⟨rfl, rfl, h⟩
/-- a kept decimal: digits, the first and the last not 0, no digits at place 0 -/
def Kd (f : Nat → Nat) (len : Nat) (p : Int) : Prop := (∀ i, f i ≤ 9) ∧ len ≤ 800 ∧ (0 < len → f 0 ≠ 0 ∧ f (len - 1) ≠ 0) ∧ (len = 0 → p = 0)
theorem Kd_nrm {f : Nat → Nat} {len : Nat} {p : Int} (h : Kd f len p) : Nrm f len := ⟨fun i _ => by have := h.1 i; omega, fun h0 => ⟨by have := (h.2.2.1 h0).1; omega, by have := (h.2.2.1 h0).2; omega⟩⟩
theorem Kd_cut {f : Nat → Nat} {len : Nat} {z p : Int} (h : Kd f len p) : Kd (cF f len z) (cL f len z) (cP f len z p) := by
  obtain ⟨h9, hl, hn, hp⟩ := h
  refine ⟨cF_9 h9, by have := cL_le f len z; omega, ?_, ?_⟩
  · unfold cL cF
    by_cases h1 : z < 0
    · rw [if_pos h1]; intro h; omega
    · rw [if_neg h1]
      by_cases h2 : z < len
      · rw [if_pos h2, if_pos (show 0 ≤ z ∧ z < len by omega)]
        unfold ctL ctF
        by_cases hg : gu f len z.toNat = true
        · rw [if_pos hg, if_pos hg]
          exact fun _ => ⟨upF_0 (fun _ => (hn (by omega)).1), upF_last _ _⟩
        · rw [if_neg hg, if_neg hg]
          exact fun h0 => ⟨(hn (by omega)).1, dz_last _ _ h0⟩
      · rw [if_neg h2, if_neg (show ¬ (0 ≤ z ∧ z < len) by omega)]
        exact hn
  · unfold cL cP
    by_cases h1 : z < 0
    · rw [if_pos h1, if_pos h1]; exact fun _ => rfl
    · rw [if_neg h1, if_neg h1]
      by_cases h2 : z < len
      · rw [if_pos h2, if_pos h2]
        unfold ctL ctP
        by_cases hg : gu f len z.toNat = true
        · rw [if_pos hg, if_pos hg]
          intro h; have := upL_pos f z.toNat; omega
        · rw [if_neg hg, if_neg hg]
          intro h; unfold dnP; exact if_pos h
      · rw [if_neg h2, if_neg h2]; exact hp
theorem cP_rng {f : Nat → Nat} {len : Nat} {z p lo hi : Int} (h0 : lo ≤ 0) (h1 : 0 ≤ hi) (h2 : lo ≤ p) (h3 : p ≤ hi) : lo ≤ cP f len z p ∧ cP f len z p ≤ hi + 1 := by
  unfold cP ctP upP dnP
  repeat' split
  all_goals omega
