/-! rows of groups: what multiply and divide keep -/
def Gd (R : Nat → Nat) (fi en : Nat) : Prop := (∀ i, R i < 1000000000) ∧ (∀ i, i < fi → R i = 0) ∧ (∀ i, en ≤ i → i < 160 → R i = 0) ∧ en ≤ 160 ∧ fi ≤ 160
def LN (R : Nat → Nat) (en : Nat) : Prop := en ≤ 35 ∨ R (en - 1) ≠ 0
def MI (fr : Nat) (R0 R : Nat → Nat) (fi0 fi en t o z : Nat) : Prop := (∀ i, R i < 1000000000) ∧ (∀ i, i < t → R i = R0 i) ∧ (∀ i, en ≤ i → R i = R0 i) ∧ (∀ i, i < fi → R i = 0) ∧ fi ≤ fi0 ∧ t ≤ en ∧ o < z ∧ ts 1000000000 R t (160 - t) + o * 1000000000 ^ (160 - t) = ts 1000000000 R0 t (160 - t) * z ∧ (fr ≤ t ∨ (o = 0 ∧ R = R0 ∧ t = en))
theorem MI_0 {fr : Nat} {R : Nat → Nat} {fi en z : Nat} (h : Gd R fi en) (hz : 0 < z) : MI fr R R fi fi en en 0 z := by
  obtain ⟨h1, h2, h3, h4, h5⟩ := h
  refine ⟨h1, fun _ _ => rfl, fun _ _ => rfl, h2, Nat.le_refl _, Nat.le_refl _, hz, ?_, Or.inr ⟨rfl, rfl, rfl⟩⟩
  rw [ts_z (i := en) (n := 160 - en) (fun k hk hk2 => h3 k hk (by omega)), Nat.zero_mul, Nat.zero_mul]
theorem MI_s {fr : Nat} {R0 R : Nat → Nat} {fi0 fi en t o z : Nat} (h : MI fr R0 R fi0 fi en (t + 1) o z) (hen : en ≤ 160) (hfr : fr ≤ t) : MI fr R0 (un R t ((R t * z + o) % 1000000000)) fi0 (min fi t) en t ((R t * z + o) / 1000000000) z := by
  obtain ⟨h1, h2, h3, h4, h5, h6, h7, h8, h9⟩ := h
  have e0 : R t = R0 t := h2 t (by omega)
  have hRt := h1 t
  refine ⟨un_lt h1 (Nat.mod_lt _ (by omega)), fun i hi => ?_, fun i hi => ?_, fun i hi => ?_, by omega, by omega, ?_, ?_, Or.inl hfr⟩
  · rw [un_ne _ (by omega)]; exact h2 i (by omega)
  · rw [un_ne _ (by omega)]; exact h3 i hi
  · rw [un_ne _ (by omega)]; exact h4 i (by omega)
  · rw [Nat.div_lt_iff_lt_mul (by omega)]
    have q1 : R t * z ≤ 999999999 * z := Nat.mul_le_mul_right _ (by omega)
    omega
  · have e1 : 160 - t = (160 - (t + 1)) + 1 := by omega
    rw [e1]
    refine mul_step (x := R t * z + o) (by rw [e0]) (un_at _ _ _) rfl ?_
    rw [ts_cg (R := un R t _) (S := R) (fun k hk _ => un_ne _ (by omega))]
    exact h8
theorem MI_e {fr : Nat} {R0 R : Nat → Nat} {fi0 fi en t o z : Nat} (h : MI fr R0 R fi0 fi en t o z) (hG : Gd R0 fi0 en) (hfr : fr ≤ 160) (hx : t ≤ fr ∨ (t ≤ fi ∧ o = 0)) :
    ts 1000000000 R fr (160 - fr) + o * 1000000000 ^ (160 - fr) = ts 1000000000 R0 fr (160 - fr) * z ∧ (∀ j, j < fr → R j = R0 j) ∧ ∀ j, en ≤ j → j < 160 → R j = 0 := by
  obtain ⟨h1, h2, h3, h4, h5, h6, h7, h8, h9⟩ := h
  obtain ⟨g1, g2, g3, g4, g5⟩ := hG
  refine ⟨?_, fun j hj => ?_, fun j hj hj2 => by rw [h3 j hj]; exact g3 j hj hj2⟩
  · by_cases q : fr ≤ t
    · by_cases q2 : t = fr
      · rw [← q2]; exact h8
      · have q3 : t ≤ fi ∧ o = 0 := by omega
        rw [q3.2] at h8 ⊢
        rw [ts_lead q (by omega) (fun k _ hk => h4 k (by omega)), ts_lead q (by omega) (fun k _ hk => by rw [← h2 k hk]; exact h4 k (by omega))]
        rw [Nat.zero_mul, Nat.add_zero] at h8 ⊢
        exact h8
    · rcases h9 with h9 | ⟨rfl, rfl, rfl⟩
      · omega
      · rw [ts_z (i := fr) (n := 160 - fr), Nat.zero_mul, Nat.zero_mul]
        intro k hk hk2
        exact g3 k (by omega) (by omega)
  · by_cases q : j < t
    · exact h2 j q
    · rcases h9 with h9 | ⟨_, rfl, _⟩
      · omega
      · rfl
def LNi (R : Nat → Nat) (en i l : Nat) : Prop := en ≤ 35 ∨ (i < en ∧ R (en - 1) ≠ 0) ∨ (en ≤ i ∧ (l = 0 → R (en - 1) ≠ 0))
def DI (R0 R : Nat → Nat) (fi en0 en i l z : Nat) : Prop := (∀ j, R j < 1000000000) ∧ (∀ j, i ≤ j → R j = R0 j) ∧ (∀ j, j < fi → R j = 0) ∧ (∀ j, en ≤ j → j < 160 → R j = 0) ∧ en0 ≤ en ∧ en ≤ 160 ∧ l < z ∧ dv 1000000000 R i * z + l = dv 1000000000 R0 i ∧ fi ≤ i ∧ (LN R0 en0 → LNi R en i l)
theorem DI_0 {R : Nat → Nat} {fi en z : Nat} (h : Gd R fi en) (hz : 0 < z) : DI R R fi en en fi 0 z := by
  obtain ⟨h1, h2, h3, h4, h5⟩ := h
  refine ⟨h1, fun _ _ => rfl, h2, h3, Nat.le_refl _, h4, hz, ?_, Nat.le_refl _, fun h => ?_⟩
  · rw [dv_z h2, Nat.zero_mul]
  · rcases h with h | h
    · exact Or.inl h
    · by_cases q : fi < en
      · exact Or.inr (Or.inl ⟨q, h⟩)
      · exact Or.inr (Or.inr ⟨by omega, fun _ => h⟩)
theorem DI_s {R0 R : Nat → Nat} {fi en0 en i l z : Nat} (h : DI R0 R fi en0 en i l z) (hi : i < 160) (hc : i < en ∨ l ≠ 0) : DI R0 (un R i ((l * 1000000000 + R i) / z)) fi en0 (max en (i + 1)) (i + 1) ((l * 1000000000 + R i) % z) z := by
  obtain ⟨h1, h2, h3, h4, h5, h6, h7, h8, h9, h10⟩ := h
  have hz : 0 < z := by omega
  have hRi := h1 i
  have hx : (l * 1000000000 + R i) < 1000000000 * z := by
    have q : l * 1000000000 + 1000000000 ≤ z * 1000000000 := by
      rw [← Nat.succ_mul]; exact Nat.mul_le_mul_right _ h7
    rw [Nat.mul_comm 1000000000 z]; omega
  refine ⟨un_lt h1 ((Nat.div_lt_iff_lt_mul hz).mpr hx), fun j hj => ?_, fun j hj => ?_, fun j hj hj2 => ?_, by omega, by omega, Nat.mod_lt _ hz, ?_, by omega, fun hL => ?_⟩
  · rw [un_ne _ (by omega)]; exact h2 j (by omega)
  · rw [un_ne _ (by omega)]; exact h3 j hj
  · rw [un_ne _ (by omega)]; exact h4 j (by omega) hj2
  · refine div_step (l := l) (x := l * 1000000000 + R i) (by rw [h2 i (Nat.le_refl _)]) (un_at _ _ _) rfl ?_
    rw [dv_cg (d := un R i _) (e := R) (fun k hk => un_ne _ (by omega))]
    exact h8
  · have hq : 0 < l * 1000000000 + R i → (l * 1000000000 + R i) % z = 0 → (l * 1000000000 + R i) / z ≠ 0 := by
      intro a b c
      have := Nat.div_add_mod (l * 1000000000 + R i) z
      rw [b, c] at this
      omega
    have h11 := h10 hL
    unfold LNi at h11 ⊢
    by_cases q35 : max en (i + 1) ≤ 35
    · exact Or.inl q35
    · refine Or.inr ?_
      by_cases q : i + 1 < en
      · have e : max en (i + 1) = en := by omega
        rw [e]
        refine Or.inl ⟨q, ?_⟩
        rw [un_ne _ (by omega)]
        rcases h11 with h11 | h11 | h11
        · omega
        · exact h11.2
        · omega
      · have e : max en (i + 1) = i + 1 := by omega
        rw [e]
        refine Or.inr ⟨Nat.le_refl _, fun hl0 => ?_⟩
        rw [Nat.add_sub_cancel, un_at]
        apply hq _ hl0
        by_cases ql : l = 0
        · rcases h11 with h11 | h11 | h11
          · omega
          · have e2 : en - 1 = i := by omega
            rw [e2] at h11; omega
          · omega
        · omega
theorem DI_e {R0 R : Nat → Nat} {fi en0 en i l z lim : Nat} (h : DI R0 R fi en0 en i l z) (hlim : lim ≤ 160) (hi : i ≤ lim ∨ (i = fi ∧ l = 0)) (hx : lim ≤ i ∨ (en ≤ i ∧ l = 0)) : dv 1000000000 R lim * z + l = dv 1000000000 R0 lim := by
  obtain ⟨h1, h2, h3, h4, h5, h6, h7, h8, h9, h10⟩ := h
  by_cases q : i = lim
  · rw [← q]; exact h8
  · by_cases q1 : i < lim
    · have q2 : en ≤ i ∧ l = 0 := by omega
      have e1 : dv 1000000000 R lim = dv 1000000000 R i * 1000000000 ^ (lim - i) := dv_tail (by omega) (fun k hk hk2 => h4 k (by omega) (by omega))
      have e2 : dv 1000000000 R0 lim = dv 1000000000 R0 i * 1000000000 ^ (lim - i) := dv_tail (by omega) (fun k hk hk2 => by rw [← h2 k hk]; exact h4 k (by omega) (by omega))
      rw [e1, e2, ← h8, q2.2, Nat.add_zero, Nat.add_zero, Nat.mul_right_comm]
    · have q2 : i = fi ∧ l = 0 := by omega
      have e1 : dv 1000000000 R lim = 0 := dv_z (fun k hk => h3 k (by omega))
      have e2 : dv 1000000000 R0 lim = 0 := by
        have e3 : dv 1000000000 R0 i = 0 := by
          rw [← h8, q2.2, q2.1, dv_z h3, Nat.zero_mul]
        exact dv_z (fun k hk => dv_e0 (by omega) e3 k (by omega))
      rw [e1, e2, q2.2, Nat.zero_mul]
theorem DI_ln {R0 R : Nat → Nat} {fi en0 en i l z lim : Nat} (h : DI R0 R fi en0 en i l z) (hL : LN R0 en0) (hx : (lim ≤ i ∧ lim ≤ 35) ∨ l = 0) (hi : i ≤ lim ∨ i = fi) (hen : lim ≤ 35 → en ≤ 35 ∨ (en = en0 ∧ R (en - 1) = R0 (en - 1))) : LN R en := by
  rcases hx with hx | hx
  · rcases hen hx.2 with q | ⟨q1, q2⟩
    · exact Or.inl q
    · unfold LN; rw [q1]; rw [q1] at q2; rw [q2]; exact hL
  · rcases h.2.2.2.2.2.2.2.2.2 hL with q | q | q
    · exact Or.inl q
    · exact Or.inr q.2
    · exact Or.inr (q.2 hx)
