/-! what multiply, divide and beProduct leave -/
def Mpo (fr : Nat) (R : Nat → Nat) (fi en z : Nat) (R' : Nat → Nat) (fi' en' o : Nat) : Prop := Gd R' fi' en' ∧ en' ≤ en ∧ fi' ≤ fi ∧ (en' ≤ fr ∨ R' (en' - 1) ≠ 0) ∧ (∀ j, j < fr → R' j = R j) ∧ ts 1000000000 R' fr (160 - fr) + o * 1000000000 ^ (160 - fr) = ts 1000000000 R fr (160 - fr) * z ∧ o < z
def Dvo (lim : Nat) (R : Nat → Nat) (fi en z : Nat) (R' : Nat → Nat) (fi' en' o : Nat) : Prop := Gd R' fi' en' ∧ (∀ j, lim ≤ j → R' j = R j) ∧ dv 1000000000 R' lim * z + o = dv 1000000000 R lim ∧ o < z ∧ en ≤ en' ∧ fi ≤ fi' ∧ (LN R en → (lim ≤ 35 ∨ o = 0) → LN R' en')
theorem Dvo_of {lim : Nat} {R R2 : Nat → Nat} {fi en en2 i l z e : Nat} (hG : Gd R fi en) (h : DI R R2 fi en en2 i l z) (hE2 : en2 = en ∨ en2 ≤ i) (hlim : lim ≤ 160) (hi : i ≤ lim ∨ (i = fi ∧ l = 0)) (hx : lim ≤ i ∨ (en2 ≤ i ∧ l = 0)) (he : ∀ j, j < e → R2 j = 0) (hfe : fi ≤ e) (he2 : e ≤ 160) : Dvo lim R fi en z R2 e en2 l := by
  have hv := DI_e h hlim hi hx
  obtain ⟨h1, h2, h3, h4, h5, h6, h7, h8, h9, h10⟩ := id h
  refine ⟨⟨h1, he, h4, h6, he2⟩, fun j hj => ?_, hv, h7, h5, hfe, fun hL hc => ?_⟩
  · by_cases q : i ≤ j
    · exact h2 j q
    · have q2 : i = fi := by omega
      rw [h3 j (by omega), hG.2.1 j (by omega)]
  · by_cases q35 : en2 ≤ 35
    · exact Or.inl q35
    · by_cases ql : l = 0
      · rcases h10 hL with q | q | q
        · exact Or.inl q
        · exact Or.inr q.2
        · exact Or.inr (q.2 ql)
      · have hl35 : lim ≤ 35 := by omega
        have hil : i = lim := by omega
        have q : en2 = en := by omega
        refine Or.inr ?_
        rw [h2 _ (by omega), q]
        rcases hL with z | z
        · omega
        · exact z
theorem small_315 : 2 ^ 54 * 2 ^ 971 * 10 ^ 1125 < 1000000000 ^ 160 := by decide +kernel
theorem pr_mul {R R' : Nat → Nat} {fi en fi' en' o m c bt : Nat} (hv : dv 1000000000 R 160 = m * 2 ^ c * 10 ^ 1125) (hm : m < 2 ^ 54) (hc : c + bt ≤ 971) (h : Mpo 0 R fi en (2 ^ bt) R' fi' en' o) : dv 1000000000 R' 160 = m * 2 ^ (c + bt) * 10 ^ 1125 := by
  obtain ⟨-, -, -, -, -, h6, -⟩ := h
  have e1 : ∀ S : Nat → Nat, ts 1000000000 S 0 (160 - 0) = dv 1000000000 S 160 := fun S => dv_cg (fun i _ => by rw [Nat.zero_add])
  rw [e1, e1, hv, Nat.sub_zero] at h6
  have e2 : m * 2 ^ c * 10 ^ 1125 * 2 ^ bt = m * 2 ^ (c + bt) * 10 ^ 1125 := by
    rw [Nat.pow_add, Nat.mul_right_comm, Nat.mul_assoc m]
  rw [e2] at h6
  have h7 : m * 2 ^ (c + bt) * 10 ^ 1125 < 1000000000 ^ 160 := Nat.lt_of_le_of_lt (Nat.mul_le_mul_right _ (Nat.mul_le_mul (Nat.le_of_lt hm) (Nat.pow_le_pow_right (by omega) hc))) small_315
  have h8 : o = 0 := by
    by_cases q : o = 0
    · exact q
    · have : 1 * 1000000000 ^ 160 ≤ o * 1000000000 ^ 160 := Nat.mul_le_mul_right _ (by omega)
      omega
  rw [h8, Nat.zero_mul, Nat.add_zero] at h6
  exact h6
theorem pr_div {R R' : Nat → Nat} {fi en fi' en' o m c bt : Nat} (hv : dv 1000000000 R 160 * 2 ^ c = m * 10 ^ 1125) (hc : c + bt ≤ 1125) (h : Dvo 160 R fi en (2 ^ bt) R' fi' en' o) : o = 0 ∧ dv 1000000000 R' 160 * 2 ^ (c + bt) = m * 10 ^ 1125 := by
  obtain ⟨-, -, h3, h4, -, -, -⟩ := h
  have e1 : dv 1000000000 R 160 = m * 5 ^ 1125 * 2 ^ (1125 - c) := by
    have q : m * 10 ^ 1125 = m * 5 ^ 1125 * 2 ^ (1125 - c) * 2 ^ c := by
      have q2 : (10 : Nat) ^ 1125 = 5 ^ 1125 * 2 ^ 1125 := by rw [← Nat.mul_pow]
      rw [q2, Nat.mul_assoc (m * 5 ^ 1125), ← Nat.pow_add, show 1125 - c + c = 1125 by omega, Nat.mul_assoc]
    rw [q] at hv
    exact Nat.eq_of_mul_eq_mul_right (Nat.pow_pos (by omega)) hv
  have hd : 2 ^ bt ∣ dv 1000000000 R 160 := by
    rw [e1]
    exact Nat.dvd_trans (Nat.pow_dvd_pow 2 (by omega)) (Nat.dvd_mul_left _ _)
  rw [← h3] at hd
  have hd2 : 2 ^ bt ∣ o := (Nat.dvd_add_right (Nat.dvd_mul_left _ _)).mp hd
  have h0 : o = 0 := Nat.eq_zero_of_dvd_of_lt hd2 h4
  refine ⟨h0, ?_⟩
  rw [h0, Nat.add_zero] at h3
  rw [Nat.add_comm c bt, Nat.pow_add, ← Nat.mul_assoc, h3, hv]
theorem pr_0 {m : Nat} (hm : m < 1000000000000000000) : Gd (un (un (fun _ => 0) 33 (m / 1000000000)) 34 (m % 1000000000)) 33 35 ∧ dv 1000000000 (un (un (fun _ => 0) 33 (m / 1000000000)) 34 (m % 1000000000)) 160 = m * 10 ^ 1125 := by
  refine ⟨⟨un_lt (un_lt (fun _ => by omega) (by omega)) (by omega), fun i hi => ?_, fun i hi _ => ?_, by omega, by omega⟩, ?_⟩
  · rw [un_ne _ (by omega), un_ne _ (by omega)]
  · rw [un_ne _ (by omega), un_ne _ (by omega)]
  · rw [dv_tail (i := 35) (n := 160) (by omega) (fun k h1 h2 => by rw [un_ne _ (by omega), un_ne _ (by omega)])]
    rw [show 160 - 35 = 125 by omega, B_125]
    congr 1
    rw [show 35 = (33 + 1) + 1 by omega, dv_s, dv_s, dv_z (n := 33) (fun i hi => by rw [un_ne _ (by omega), un_ne _ (by omega)])]
    have e1 : un (un (fun _ => 0) 33 (m / 1000000000)) 34 (m % 1000000000) 33 = m / 1000000000 := by rw [un_ne _ (by omega), un_at]
    have e2 : un (un (fun _ => 0) 33 (m / 1000000000)) 34 (m % 1000000000) (33 + 1) = m % 1000000000 := un_at _ _ _
    rw [e1, e2]
    omega
/-- what beProduct leaves -/
def Pd (m : Nat) (p : Int) (R : Nat → Nat) (fi en : Nat) : Prop := Gd R fi en ∧ dv 1000000000 R 160 * 2 ^ 1076 = m * 2 ^ (p + 1076).toNat * 10 ^ 1125 ∧ ∀ j0, ge R j0 ≠ 0 → (∀ i, i < j0 → ge R i = 0) → 9 * en ≤ j0 + 800
theorem Pd_mul {m q : Nat} {R : Nat → Nat} {fi en : Nat} (hG : Gd R fi en) (hen : en ≤ 35) (hv : dv 1000000000 R 160 = m * 2 ^ q * 10 ^ 1125) : Pd m (q : Int) R fi en := by
  refine ⟨hG, ?_, fun j0 _ _ => by omega⟩
  have e : ((q : Int) + 1076).toNat = q + 1076 := by omega
  rw [e, hv, Nat.pow_add, Nat.mul_right_comm, Nat.mul_assoc m]
theorem Pd_div {m q : Nat} {R : Nat → Nat} {fi en : Nat} (hG : Gd R fi en) (hL : LN R en) (hm : m < 2 ^ 54) (hq : q ≤ 1075) (hv : dv 1000000000 R 160 * 2 ^ q = m * 10 ^ 1125) : Pd m (-(q : Int)) R fi en := by
  refine ⟨hG, ?_, few_digits hG.1 hG.2.2.2.1 hq hm hv hL⟩
  have e : (-(q : Int) + 1076).toNat = 1076 - q := by omega
  have e2 : (2 : Nat) ^ 1076 = 2 ^ q * 2 ^ (1076 - q) := by rw [← Nat.pow_add, show q + (1076 - q) = 1076 by omega]
  rw [e, e2, ← Nat.mul_assoc, hv, Nat.mul_right_comm]
