/-! rows of single digits: doubled, halved -/
theorem lead_nz {d : Nat → Nat} {n : Nat} (hd : ∀ i, d i ≤ 9) (h0 : 0 < n) (h : 10 ^ (n - 1) ≤ dv 10 d n) : d 0 ≠ 0 := by
  intro q
  have e : n = 1 + (n - 1) := by omega
  have h1 : dv 10 d n = dv 10 d 1 * 10 ^ (n - 1) + dv 10 (fun i => d (1 + i)) (n - 1) := by rw [← dv_add, ← e]
  have h2 : dv 10 d 1 = 0 := by rw [dv_s, dv_0, q]
  have h3 : dv 10 (fun i => d (1 + i)) (n - 1) < 10 ^ (n - 1) := dv_lt (fun i _ => by have := hd (1 + i); show d (1 + i) < 10; omega)
  rw [h2] at h1
  omega
def TI (f0 f : Nat → Nat) (n t c : Nat) : Prop := (∀ i, f i ≤ 9) ∧ (∀ i, i < t → f i = f0 i) ∧ t ≤ n ∧ c < 2 ∧ ts 10 f t (n - t) + c * 10 ^ (n - t) = ts 10 f0 t (n - t) * 2
theorem TI_0 {f : Nat → Nat} {n : Nat} (h : ∀ i, f i ≤ 9) : TI f f n n 0 := by
  refine ⟨h, fun _ _ => rfl, Nat.le_refl _, by omega, ?_⟩
  rw [Nat.sub_self]; rfl
theorem TI_s {f0 f : Nat → Nat} {n t c : Nat} (h : TI f0 f n (t + 1) c) : TI f0 (un f t ((2 * f t + c) % 10)) n t ((2 * f t + c) / 10) := by
  obtain ⟨h1, h2, h3, h4, h5⟩ := h
  have e0 : f t = f0 t := h2 t (by omega)
  have hft := h1 t
  refine ⟨un_le h1 (by omega), fun i hi => ?_, by omega, by omega, ?_⟩
  · rw [un_ne _ (by omega)]; exact h2 i (by omega)
  · have e1 : n - t = (n - (t + 1)) + 1 := by omega
    rw [e1]
    refine mul_step (z := 2) (o := c) (x := 2 * f t + c) (by rw [e0]; omega) (un_at _ _ _) rfl ?_
    rw [ts_cg (R := un f t _) (S := f) (fun k hk _ => un_ne _ (by omega))]
    exact h5
theorem TI_e {f0 f : Nat → Nat} {n c : Nat} (h : TI f0 f n 0 c) : dv 10 f n + c * 10 ^ n = 2 * dv 10 f0 n := by
  have h5 := h.2.2.2.2
  unfold ts at h5
  simp only [Nat.zero_add, Nat.sub_zero] at h5
  rw [Nat.mul_comm 2]
  exact h5
def sh1 (f : Nat → Nat) (c : Nat) : Nat → Nat := fun i => if i = 0 then c else f (i - 1)
theorem dv_sh1 (f : Nat → Nat) (c n : Nat) : dv 10 (sh1 f c) (n + 1) = c * 10 ^ n + dv 10 f n := by
  rw [Nat.add_comm n 1, dv_add, dv_s, dv_0]
  have h1 : sh1 f c 0 = c := if_pos rfl
  have h2 : dv 10 (fun i => sh1 f c (1 + i)) n = dv 10 f n := dv_cg (fun i _ => by
    show sh1 f c (1 + i) = f i
    unfold sh1
    rw [if_neg (by omega)]
    congr 1; omega)
  rw [h1, h2, Nat.mul_zero, Nat.zero_add]
theorem dv_drop {f : Nat → Nat} {n : Nat} (h0 : 0 < n) (h : f 0 = 0) : dv 10 (fun i => f (i + 1)) (n - 1) = dv 10 f n := by
  have e : n = 1 + (n - 1) := by omega
  have h1 : dv 10 f n = dv 10 f 1 * 10 ^ (n - 1) + dv 10 (fun i => f (1 + i)) (n - 1) := by rw [← dv_add, ← e]
  rw [h1, dv_s, dv_0, h, Nat.mul_zero, Nat.add_zero, Nat.zero_mul, Nat.zero_add]
  exact dv_cg (fun i _ => by rw [Nat.add_comm])
/-- a row doubled -/
def Tw (f : Nat → Nat) (n : Nat) (g : Nat → Nat) (n' : Nat) : Prop := (∀ i, g i ≤ 9) ∧ n ≤ n' ∧ n' ≤ n + 1 ∧ dv 10 g n' = 2 * dv 10 f n ∧ (0 < n → f 0 ≠ 0 → g 0 ≠ 0)
theorem Tw_lead {f g : Nat → Nat} {n : Nat} (hg : ∀ i, g i ≤ 9) (hn : 0 < n) (h0 : f 0 ≠ 0) (h : dv 10 g n = 2 * dv 10 f n) : g 0 ≠ 0 := by
  refine lead_nz hg hn ?_
  have h1 := dv_le (b := 10) (d := f) hn (by omega)
  omega
theorem Tw_a {f0 f : Nat → Nat} {n : Nat} (h : TI f0 f n 0 0) : Tw f0 n f n := by
  have e := TI_e h
  rw [Nat.zero_mul, Nat.add_zero] at e
  exact ⟨h.1, Nat.le_refl _, by omega, e, fun hn h0 => Tw_lead h.1 hn h0 e⟩
theorem Tw_b {f0 f g : Nat → Nat} {n c : Nat} (h : TI f0 f n 0 c) (hc : 0 < c) (hg9 : ∀ i, g i ≤ 9) (hg : ∀ i, i < n + 1 → g i = sh1 f c i) : Tw f0 n g (n + 1) := by
  have e := TI_e h
  have hc2 := h.2.2.2.1
  refine ⟨hg9, by omega, by omega, ?_, fun _ _ => ?_⟩
  · rw [dv_cg hg, dv_sh1]; omega
  · rw [hg 0 (by omega)]
    have h1 : sh1 f c 0 = c := if_pos rfl
    omega
def HI (f0 f : Nat → Nat) (i l : Nat) : Prop := (∀ j, f j ≤ 9) ∧ (∀ j, i ≤ j → f j = f0 j) ∧ l < 2 ∧ dv 10 f i * 2 + l = dv 10 f0 i
theorem HI_0 {f : Nat → Nat} (h : ∀ i, f i ≤ 9) : HI f f 0 0 := ⟨h, fun _ _ => rfl, by omega, rfl⟩
theorem HI_s {f0 f : Nat → Nat} {i l : Nat} (h : HI f0 f i l) : HI f0 (un f i ((10 * l + f i) / 2)) (i + 1) ((10 * l + f i) % 2) := by
  obtain ⟨h1, h2, h3, h4⟩ := h
  have := h1 i
  refine ⟨un_le h1 (by omega), fun j hj => ?_, by omega, ?_⟩
  · rw [un_ne _ (by omega)]; exact h2 j (by omega)
  · refine div_step (l := l) (x := 10 * l + f i) (by rw [h2 i (Nat.le_refl _)]; omega) (un_at _ _ _) rfl ?_
    rw [dv_cg (d := un f i _) (e := f) (fun k hk => un_ne _ (by omega))]
    exact h4
/-- a row halved: x digits more behind the point -/
def Hf (f : Nat → Nat) (n : Nat) (g : Nat → Nat) (n' x : Nat) : Prop := (∀ i, g i ≤ 9) ∧ n' ≤ n + 1 ∧ x ≤ 1 ∧ n' ≤ n + x ∧ dv 10 g n' * 2 = dv 10 f n * 10 ^ x ∧ (0 < n → f 0 ≠ 0 → 0 < n' ∧ g 0 ≠ 0)
theorem Hf_a {f g : Nat → Nat} {n m x : Nat} (hg : ∀ i, g i ≤ 9) (hx : x ≤ 1) (hm : m = n + x) (h : dv 10 g m * 2 = dv 10 f n * 10 ^ x) (h0 : g 0 ≠ 0) (hmp : 0 < m) : Hf f n g m x :=
  ⟨hg, by omega, hx, by omega, h, fun _ _ => ⟨hmp, h0⟩⟩
theorem Hf_b {f g g' : Nat → Nat} {n m x : Nat} (hf : 0 < n → f 0 ≠ 0) (hg : ∀ i, g i ≤ 9) (hx : x ≤ 1) (hm : m = n + x) (h : dv 10 g m * 2 = dv 10 f n * 10 ^ x) (h0 : g 0 = 0) (hmp : 0 < m) (hg9 : ∀ i, g' i ≤ 9) (hg' : ∀ i, i < m - 1 → g' i = g (i + 1)) : Hf f n g' (m - 1) x := by
  have e : dv 10 g' (m - 1) = dv 10 g m := by rw [← dv_drop hmp h0]; exact dv_cg hg'
  refine ⟨hg9, by omega, hx, by omega, by rw [e]; exact h, fun hn h1 => ?_⟩
  have q1 := dv_le (b := 10) (d := f) hn (by omega)
  have q2 : 10 ^ (n - 1) * 10 ^ x ≤ dv 10 g' (m - 1) * 2 := by rw [e, h]; exact Nat.mul_le_mul_right _ q1
  rw [← Nat.pow_add] at q2
  have q3 : 0 < m - 1 := by
    by_cases z : m - 1 = 0
    · rw [z, dv_0, Nat.zero_mul] at q2
      have := Nat.pow_pos (n := n - 1 + x) (show 0 < 10 by omega)
      omega
    · omega
  refine ⟨q3, lead_nz hg9 q3 ?_⟩
  have e2 : n - 1 + x = (m - 1 - 1) + 1 := by omega
  rw [e2, Nat.pow_succ] at q2
  omega
/-- the row after the loop of half, with the 5 behind it where something is left -/
theorem Hf_5 {f0 f : Nat → Nat} {n : Nat} (h : HI f0 f n 1) : dv 10 (un f n 5) (n + 1) * 2 = dv 10 f0 n * 10 ^ 1 := by
  rw [dv_s, un_at, dv_cg (d := un f n 5) (e := f) (fun k hk => un_ne _ (by omega))]
  have := h.2.2.2
  omega
