/-! what finds reads off -/
theorem ten_310 : 10 ^ 310 < 2 ^ 1030 := by decide +kernel
def Fq (d : Nat → Nat) (zc w : Nat) : Nat → Nat := fun i => if i < zc then 0 else d (w + (i - zc))
theorem Fq_9 {d : Nat → Nat} (h : ∀ i, d i ≤ 9) (zc w i : Nat) : Fq d zc w i ≤ 9 := by
  unfold Fq; split
  · omega
  · exact h _
theorem Fq_dv (d : Nat → Nat) (zc w t : Nat) : dv 10 (Fq d zc w) (zc + t) = dv 10 (fun i => d (w + i)) t := by
  rw [dv_add, dv_z (fun i hi => by unfold Fq; rw [if_pos hi]), Nat.zero_mul, Nat.zero_add]
  apply dv_cg
  intro i _
  show Fq d zc w (zc + i) = d (w + i)
  unfold Fq; rw [if_neg (by omega)]; congr 2; omega
/-- the decimal, cut at its point -/
theorem f_split {d : Nat → Nat} {nd zc w cf : Nat} {pl : Int} (hzc : zc = (-pl).toNat) (hw : w = pl.toNat) (hcf : cf = zc + (nd - w)) (hnd : nd ≤ 800) (hp1 : -330 ≤ pl) (hp2 : pl ≤ 310) : sv 1200 d nd pl = (dv 10 (ext0 d nd) w * 10 ^ cf + dv 10 (Fq d zc w) cf) * 10 ^ (1200 - cf) := by
  rw [hcf, Fq_dv]
  unfold sv
  by_cases h : pl ≤ 0
  · have ew : w = 0 := by omega
    subst ew
    rw [dv_0, Nat.zero_mul, Nat.zero_add, Nat.sub_zero]
    have e1 : dv 10 (fun i => d (0 + i)) nd = dv 10 d nd := dv_cg (fun i _ => by rw [Nat.zero_add])
    rw [e1]
    congr 2; omega
  · have ez : zc = 0 := by omega
    subst ez
    rw [Nat.zero_add]
    by_cases h2 : nd ≤ w
    · have e1 : nd - w = 0 := by omega
      rw [e1, dv_0, Nat.pow_zero, Nat.mul_one, Nat.add_zero, Nat.sub_zero]
      have e2 : w = nd + (w - nd) := by omega
      have e3 : dv 10 (ext0 d nd) w = dv 10 d nd * 10 ^ (w - nd) := by rw [← dv_ext, ← e2]
      rw [e3, Nat.mul_assoc, ← Nat.pow_add]
      congr 2; omega
    · have e1 : dv 10 (ext0 d nd) w = dv 10 d w := dv_cg (fun i hi => ext0_lt (by omega))
      have e2 : nd = w + (nd - w) := by omega
      have e3 : dv 10 d nd = dv 10 d w * 10 ^ (nd - w) + dv 10 (fun i => d (w + i)) (nd - w) := by rw [← dv_add, ← e2]
      rw [e1, ← e3]
      congr 2; omega
theorem fin_near {d : Nat → Nat} {nd cf G N F a b : Nat} {pl p : Int} {up : Bool} (hG : sv 1200 d nd pl = G * 10 ^ (1200 - cf)) (hcf : cf ≤ 1200) (hv : N * (10 ^ cf * 2 ^ a) + F = G * 2 ^ b) (hF : F < 10 ^ cf * 2 ^ a) (hp : p = (a : Int) - b) (hp1 : -1075 ≤ p) (hp2 : p ≤ 970) (hN : N < 18014398509481984) (hq : 9007199254740992 ≤ N ∨ p = -1075) (hup : up = true ↔ N % 2 = 1 ∧ (F ≠ 0 ∨ N / 2 % 2 = 1)) :
    Ns (sv 1200 d nd pl) ((p + 1075).toNat * 4503599627370496 + N / 2 + (if up = true then 1 else 0)) := by
  have hk : 0 < 10 ^ (1200 - cf) := Nat.pow_pos (by omega)
  have e0 : (10 : Nat) ^ 1200 = 10 ^ cf * 10 ^ (1200 - cf) := by rw [← Nat.pow_add, show cf + (1200 - cf) = 1200 by omega]
  have hU : 0 < 10 ^ 1200 := Nat.pow_pos (by omega)
  have n1 := near_cut (G := G * 10 ^ (1200 - cf)) (U := 10 ^ 1200) (N := N) (F := F * 10 ^ (1200 - cf)) (a := a) (b := b) (s := 1) (q := (p + 1075).toNat) (up := up) hU (by
    rw [e0, Nat.mul_right_comm G, ← hv, Nat.add_mul, Nat.mul_right_comm (10 ^ cf), ← Nat.mul_assoc N]) (by
    rw [e0, Nat.mul_right_comm]
    exact Nat.mul_lt_mul_of_pos_right hF hk) (by omega) (by omega) (by rw [Nat.pow_one]; omega) (by rw [Nat.pow_one]; omega) (by
    rw [hup, Nat.sub_self, Nat.pow_zero, Nat.div_one, Nat.mod_one, Nat.pow_one]
    have hFk : F * 10 ^ (1200 - cf) ≠ 0 ↔ F ≠ 0 := by
      constructor
      · intro q z; rw [z, Nat.zero_mul] at q; exact q rfl
      · intro q z
        rcases Nat.mul_eq_zero.mp z with z | z
        · exact q z
        · omega
    rw [hFk]
    constructor
    · rintro ⟨x, y | y⟩
      · exact ⟨x, Or.inr (Or.inl y)⟩
      · exact ⟨x, Or.inr (Or.inr y)⟩
    · rintro ⟨x, y | y | y⟩
      · exact absurd rfl y
      · exact ⟨x, Or.inl y⟩
      · exact ⟨x, Or.inr y⟩)
  rw [Nat.pow_one] at n1
  rw [hG]
  have hI : INF = 9218868437227405312 := rfl
  have e1 : INF - 1 = 9218868437227405311 := by decide +kernel
  have hle : (p + 1075).toNat * 4503599627370496 + N / 2 + (if up = true then 1 else 0) ≤ INF := by split <;> omega
  by_cases q : (p + 1075).toNat * 4503599627370496 + N / 2 + (if up = true then 1 else 0) < INF
  · exact Or.inl ⟨q, n1⟩
  · refine Or.inr ⟨by omega, ?_⟩
    rw [e1]
    exact (near_inf hU n1).mp (by omega)
theorem fin_zero {d : Nat → Nat} {nd cf G : Nat} {pl : Int} (hG : sv 1200 d nd pl = G * 10 ^ (1200 - cf)) (hcf : cf ≤ 1200) (h : G * 2 ^ 1075 < 10 ^ cf) : Ns (sv 1200 d nd pl) 0 := by
  have e0 : (10 : Nat) ^ 1200 = 10 ^ cf * 10 ^ (1200 - cf) := by rw [← Nat.pow_add, show cf + (1200 - cf) = 1200 by omega]
  refine Or.inl ⟨by decide, ?_⟩
  have e : md 0 = 1 := by decide
  refine ⟨Or.inl ?_, Or.inl rfl⟩
  rw [e, Nat.one_mul, hG, e0, Nat.mul_right_comm]
  exact Nat.mul_lt_mul_of_pos_right h (Nat.pow_pos (by omega))
theorem fin_big {d : Nat → Nat} {nd cf X F : Nat} {pl : Int} (hG : sv 1200 d nd pl = (X * 10 ^ cf + F) * 10 ^ (1200 - cf)) (hcf : cf ≤ 1200) (h : 2 ^ 1024 ≤ X) : Ns (sv 1200 d nd pl) INF := by
  have e0 : (10 : Nat) ^ 1200 = 10 ^ cf * 10 ^ (1200 - cf) := by rw [← Nat.pow_add, show cf + (1200 - cf) = 1200 by omega]
  refine Or.inr ⟨rfl, ?_⟩
  have h1 : 2 ^ 1024 * 10 ^ 1200 ≤ sv 1200 d nd pl := by
    rw [hG, e0, ← Nat.mul_assoc]
    exact Nat.mul_le_mul_right _ (Nat.le_trans (Nat.mul_le_mul_right _ h) (Nat.le_add_right _ _))
  calc md (INF - 1) * 10 ^ 1200 ≤ 2 ^ 1024 * 2 ^ 1075 * 10 ^ 1200 := Nat.mul_le_mul_right _ md_inf
    _ = 2 ^ 1024 * 10 ^ 1200 * 2 ^ 1075 := Nat.mul_right_comm _ _ _
    _ ≤ _ := Nat.mul_le_mul_right _ h1
/-- what stands at the end of finds, before the last rounding -/
def FH (G cf m got : Nat) (p : Int) (more : Bool) (Fr : Nat) : Prop := (got = 0 ∧ m = 0 ∧ G * 2 ^ 1075 < 10 ^ cf) ∨ (0 < got ∧ ((got = 54 ∧ 9007199254740992 ≤ m ∧ m < 18014398509481984) ∨ (got ≤ 53 ∧ m < 9007199254740992 ∧ p = -1075)) ∧ -1075 ≤ p ∧ p ≤ 970 ∧ ∃ F a b : Nat, (F ≠ 0 ↔ more = true ∨ Fr ≠ 0) ∧ m * (10 ^ cf * 2 ^ a) + F = G * 2 ^ b ∧ F < 10 ^ cf * 2 ^ a ∧ p = (a : Int) - b)
/-- the bits behind the point, one by one -/
def GL (G cf j m got : Nat) (p : Int) (h : Nat → Nat) : Prop := (∀ i, h i ≤ 9) ∧ m * 10 ^ cf + dv 10 h cf = G * 2 ^ j ∧ m < 2 ^ got ∧ (0 < got → 2 ^ (got - 1) ≤ m) ∧ got ≤ 54 ∧ (0 < got → p = -(j : Int))
theorem GL_s {G cf j m got c : Nat} {p : Int} {h h2 : Nat → Nat} (hL : GL G cf j m got p h) (hT : TI h h2 cf 0 c) (hg : got < 54) (hne : got ≠ 0 ∨ c ≠ 0) : GL G cf (j + 1) (m * 2 ^ 1 + c) (got + 1) (-1 - (j : Int)) h2 := by
  obtain ⟨a1, a2, a3, a4, a5, a6⟩ := hL
  have e := TI_e hT
  have hc := hT.2.2.2.1
  refine ⟨hT.1, ?_, ?_, fun _ => ?_, by omega, fun _ => by omega⟩
  · have e2 : G * 2 ^ (j + 1) = G * 2 ^ j * 2 := by rw [Nat.pow_succ, Nat.mul_assoc]
    rw [e2, ← a2, Nat.pow_one, Nat.add_mul, Nat.add_mul]
    have e3 : m * 2 * 10 ^ cf = m * 10 ^ cf * 2 := Nat.mul_right_comm _ _ _
    rw [e3]
    generalize m * 10 ^ cf = y at *
    generalize c * 10 ^ cf = z at *
    omega
  · rw [Nat.pow_one, Nat.pow_succ]; omega
  · rw [Nat.add_sub_cancel, Nat.pow_one]
    by_cases q : got = 0
    · rw [q, Nat.pow_zero]; omega
    · have := a4 (by omega)
      have e2 : got = (got - 1) + 1 := by omega
      rw [e2, Nat.pow_succ]; omega
theorem GL_z {G cf j m : Nat} {p : Int} {h h2 : Nat → Nat} (hL : GL G cf j m 0 p h) (hT : TI h h2 cf 0 0) : GL G cf (j + 1) m 0 p h2 := by
  obtain ⟨a1, a2, a3, a4, a5, a6⟩ := hL
  have e := TI_e hT
  have em : m = 0 := by rw [Nat.pow_zero] at a3; omega
  subst em
  rw [Nat.zero_mul, Nat.add_zero] at e
  rw [Nat.zero_mul, Nat.zero_add] at a2
  refine ⟨hT.1, ?_, a3, a4, a5, fun q => by omega⟩
  have e2 : G * 2 ^ (j + 1) = G * 2 ^ j * 2 := by rw [Nat.pow_succ, Nat.mul_assoc]
  rw [Nat.zero_mul, Nat.zero_add, e, e2, ← a2, Nat.mul_comm]
theorem GL_FH {G cf j m got : Nat} {p : Int} {h : Nat → Nat} (hL : GL G cf j m got p h) (hj : j = 1075 ∨ (got = 54 ∧ j ≤ 1075)) : FH G cf m got p false (dv 10 h cf) := by
  obtain ⟨a1, a2, a3, a4, a5, a6⟩ := hL
  have hd : dv 10 h cf < 10 ^ cf := dv_lt (fun i _ => by have := a1 i; omega)
  by_cases q : got = 0
  · have em : m = 0 := by rw [q, Nat.pow_zero] at a3; omega
    refine Or.inl ⟨q, em, ?_⟩
    have ej : j = 1075 := by omega
    rw [← ej, ← a2, em, Nat.zero_mul, Nat.zero_add]; exact hd
  · have hp := a6 (by omega)
    refine Or.inr ⟨by omega, ?_, by omega, by omega, dv 10 h cf, 0, j, ?_, ?_, ?_, by omega⟩
    · by_cases q2 : got = 54
      · have := a4 (by omega)
        rw [q2] at this a3
        exact Or.inl ⟨q2, this, a3⟩
      · refine Or.inr ⟨by omega, ?_, by omega⟩
        exact Nat.lt_of_lt_of_le a3 (Nat.le_trans (Nat.pow_le_pow_right (by omega) (show got ≤ 53 by omega)) (by decide))
    · constructor
      · intro z; exact Or.inr z
      · rintro (z | z)
        · cases z
        · exact z
    · rw [Nat.pow_zero, Nat.mul_one]; exact a2
    · rw [Nat.pow_zero, Nat.mul_one]; exact hd
/-- all leading bits stand before the point -/
theorem Ld_FH {X c cf m got Fr0 : Nat} {p : Int} {more : Bool} (h : Ld X c 0 m got p more) (hc : 54 ≤ c) (hc2 : c ≤ 1024) (hX1 : X < 2 ^ c) (hX2 : 2 ^ (c - 1) ≤ X) (hFr : Fr0 < 10 ^ cf) : FH (X * 10 ^ cf + Fr0) cf m got p more Fr0 := by
  obtain ⟨a1, a2, a3, a4, a5⟩ := h
  have hg : got = 54 := by omega
  subst hg
  have hp := a3 (by omega)
  rw [Nat.pow_zero, Nat.div_one, Nat.sub_zero] at a5
  have hpp : 0 < 2 ^ (c - 54) := Nat.pow_pos (by omega)
  have hX := Nat.div_add_mod X (2 ^ (c - 54))
  have hm1 : m < 18014398509481984 := by
    rw [a2, Nat.div_lt_iff_lt_mul hpp]
    have e : (18014398509481984 : Nat) * 2 ^ (c - 54) = 2 ^ c := by
      rw [show (18014398509481984 : Nat) = 2 ^ 54 by decide, ← Nat.pow_add]; congr 1; omega
    rw [e]; exact hX1
  have hm2 : 9007199254740992 ≤ m := by
    rw [a2, Nat.le_div_iff_mul_le hpp]
    have e : (9007199254740992 : Nat) * 2 ^ (c - 54) = 2 ^ (c - 1) := by
      rw [show (9007199254740992 : Nat) = 2 ^ 53 by decide, ← Nat.pow_add]; congr 1; omega
    rw [e]; exact hX2
  have hlow : X % 2 ^ (c - 54) < 2 ^ (c - 54) := Nat.mod_lt _ hpp
  refine Or.inr ⟨by omega, Or.inl ⟨rfl, hm2, hm1⟩, by omega, by omega, X % 2 ^ (c - 54) * 10 ^ cf + Fr0, c - 54, 0, ?_, ?_, ?_, by omega⟩
  · rw [a5]
    have h10 : 0 < 10 ^ cf := Nat.pow_pos (by omega)
    constructor
    · intro z
      by_cases q : X % 2 ^ (c - 54) = 0
      · rw [q, Nat.zero_mul, Nat.zero_add] at z; exact Or.inr z
      · exact Or.inl q
    · rintro (z | z)
      · have : 1 * 1 ≤ X % 2 ^ (c - 54) * 10 ^ cf := Nat.mul_le_mul (by omega) h10
        omega
      · omega
  · rw [Nat.pow_zero, Nat.mul_one, a2]
    have e : X * 10 ^ cf = (2 ^ (c - 54) * (X / 2 ^ (c - 54)) + X % 2 ^ (c - 54)) * 10 ^ cf := by rw [hX]
    rw [e, Nat.add_mul, Nat.add_assoc]
    congr 1
    simp only [Nat.mul_assoc, Nat.mul_comm, Nat.mul_left_comm]
  · have : (X % 2 ^ (c - 54) + 1) * 10 ^ cf ≤ 2 ^ (c - 54) * 10 ^ cf := Nat.mul_le_mul_right _ hlow
    rw [Nat.add_mul, Nat.one_mul, Nat.mul_comm (2 ^ (c - 54))] at this
    omega
/-- few bits before the point -/
theorem Ld_GL {X c cf m got Fr0 : Nat} {p : Int} {more : Bool} {h : Nat → Nat} (hL : Ld X c 0 m got p more) (hc : c < 54) (hX1 : X < 2 ^ c) (hX2 : 0 < c → 2 ^ (c - 1) ≤ X) (hh : ∀ i, h i ≤ 9) (hFr : dv 10 h cf = Fr0) : more = false ∧ GL (X * 10 ^ cf + Fr0) cf 0 m got p h := by
  have hm := Ld_more hL (by have := hL.1; omega)
  obtain ⟨a1, a2, a3, a4, a5⟩ := hL
  have hg : got = c := by omega
  subst hg
  rw [Nat.sub_self, Nat.pow_zero, Nat.div_one] at a2
  subst a2
  refine ⟨hm, hh, ?_, hX1, hX2, by omega, fun q => ?_⟩
  · rw [hFr, Nat.pow_zero, Nat.mul_one]
  · rw [a3 q, Nat.sub_self]; rfl
