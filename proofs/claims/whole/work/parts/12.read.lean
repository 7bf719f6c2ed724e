/-! the digits of a row of groups -/
def ge (R : Nat → Nat) (j : Nat) : Nat := R (j / 9) / 10 ^ (8 - j % 9) % 10
theorem ge_lt (R : Nat → Nat) (j : Nat) : ge R j ≤ 9 := by
  have : ge R j < 10 := Nat.mod_lt _ (by omega)
  omega
theorem dg_all {w x : Nat} (hx : x < 10 ^ w) : ∀ k, k ≤ w → dv 10 (fun i => x / 10 ^ (w - 1 - i) % 10) k = x / 10 ^ (w - k) := by
  intro k
  induction k with
  | zero => intro _; rw [dv_0, Nat.sub_zero, Nat.div_eq_of_lt hx]
  | succ k ih =>
    intro hk
    rw [dv_s, ih (by omega)]
    have e : w - k = (w - 1 - k) + 1 := by omega
    have e2 : w - (k + 1) = w - 1 - k := by omega
    rw [e, e2, Nat.pow_succ, ← Nat.div_div_eq_div_mul]
    exact Nat.div_add_mod _ 10
theorem ge_grp {R : Nat → Nat} (i : Nat) (hR : R i < 1000000000) : dv 10 (fun k => ge R (9 * i + k)) 9 = R i := by
  have h := dg_all (w := 9) (x := R i) (by omega) 9 (Nat.le_refl _)
  rw [Nat.sub_self, Nat.pow_zero, Nat.div_one] at h
  rw [← h]
  apply dv_cg
  intro k hk
  unfold ge
  rw [show (9 * i + k) / 9 = i by omega, show (9 * i + k) % 9 = k by omega]
theorem ge_dv {R : Nat → Nat} (n : Nat) (hR : ∀ i, R i < 1000000000) : dv 10 (ge R) (9 * n) = dv 1000000000 R n := by
  induction n with
  | zero => rfl
  | succ n ih =>
    rw [show 9 * (n + 1) = 9 * n + 9 by omega, dv_add, ih, ge_grp n (hR n), dv_s, Nat.mul_comm]
theorem ge_zero {R : Nat → Nat} {j : Nat} (h : R (j / 9) = 0) : ge R j = 0 := by unfold ge; rw [h, Nat.zero_div]
/-- what has been read of the places from s up to j -/
def RS (R : Nat → Nat) (s j len : Nat) (pl : Int) (f : Nat → Nat) : Prop :=
  (∀ i, f i ≤ 9) ∧ ((len = 0 ∧ pl = 315 - (j : Int) ∧ ∀ i, s ≤ i → i < j → ge R i = 0) ∨
  ∃ j0, s ≤ j0 ∧ j0 < j ∧ ge R j0 ≠ 0 ∧ (∀ i, s ≤ i → i < j0 → ge R i = 0) ∧ pl = 315 - (j0 : Int) ∧ len = min 800 (j - j0) ∧ ∀ i, i < len → f i = ge R (j0 + i))
theorem RS_0 (R : Nat → Nat) (s : Nat) (f : Nat → Nat) (h : ∀ i, f i ≤ 9) : RS R s s 0 (315 - (s : Int)) f := ⟨h, Or.inl ⟨rfl, rfl, fun i h1 h2 => by omega⟩⟩
theorem RS_skip {R : Nat → Nat} {s j : Nat} {pl : Int} {f : Nat → Nat} (h : RS R s j 0 pl f) (hd : ge R j = 0) : RS R s (j + 1) 0 (pl - 1) f := by
  obtain ⟨h9, h | ⟨j0, h1, h2, h3, h4, h5, h6, h7⟩⟩ := h
  · refine ⟨h9, Or.inl ⟨rfl, by have := h.2.1; omega, fun i hi hj => ?_⟩⟩
    by_cases e : i = j
    · rw [e]; exact hd
    · exact h.2.2 i hi (by omega)
  · omega
theorem RS_app {R : Nat → Nat} {s j len : Nat} {pl : Int} {f : Nat → Nat} (hs : s ≤ j) (h : RS R s j len pl f) (hd : len ≠ 0 ∨ ge R j ≠ 0) (hl : len < 800) : RS R s (j + 1) (len + 1) pl (un f len (ge R j)) := by
  obtain ⟨h9, h | ⟨j0, h1, h2, h3, h4, h5, h6, h7⟩⟩ := h
  · obtain ⟨a, b, c⟩ := h
    subst a
    refine ⟨un_le h9 (ge_lt R j), Or.inr ⟨j, hs, by omega, by omega, c, b, by omega, fun i hi => ?_⟩⟩
    have : i = 0 := by omega
    rw [this, un_at]; rfl
  · refine ⟨un_le h9 (ge_lt R j), Or.inr ⟨j0, h1, by omega, h3, h4, h5, by omega, fun i hi => ?_⟩⟩
    by_cases e : i = len
    · rw [e, un_at]; congr 1; omega
    · rw [un_ne _ e]; exact h7 i (by omega)
theorem RS_full {R : Nat → Nat} {s j : Nat} {len : Nat} {pl : Int} {f : Nat → Nat} (h : RS R s j len pl f) (hl : 800 ≤ len) : RS R s (j + 1) len pl f := by
  obtain ⟨h9, h | ⟨j0, h1, h2, h3, h4, h5, h6, h7⟩⟩ := h
  · omega
  · exact ⟨h9, Or.inr ⟨j0, h1, by omega, h3, h4, h5, by omega, h7⟩⟩
theorem RS_len {R : Nat → Nat} {s j len : Nat} {pl : Int} {f : Nat → Nat} (h : RS R s j len pl f) : len ≤ 800 := by
  obtain ⟨h9, h | ⟨j0, h1, h2, h3, h4, h5, h6, h7⟩⟩ := h <;> omega
theorem RS_pl {R : Nat → Nat} {s j len : Nat} {pl : Int} {f : Nat → Nat} (hj : j ≤ 1440) (h : RS R s j len pl f) : -1125 ≤ pl ∧ pl ≤ 315 := by
  obtain ⟨h9, h | ⟨j0, h1, h2, h3, h4, h5, h6, h7⟩⟩ := h <;> omega
/-- what was read is the number -/
theorem RS_val {R : Nat → Nat} {fi en len : Nat} {pl : Int} {f : Nat → Nat} (hR : ∀ i, R i < 1000000000) (h1 : ∀ i, i < fi → R i = 0) (h2 : ∀ i, en ≤ i → i < 160 → R i = 0) (hen : en ≤ 160) (hfe : fi ≤ en) (h : RS R (9 * fi) (9 * en) len pl f)
    (hno : ∀ j0, ge R j0 ≠ 0 → (∀ i, i < j0 → ge R i = 0) → 9 * en ≤ j0 + 800) :
    Nrm f (dz f len) ∧ (dz f len = 0 → dv 1000000000 R 160 = 0) ∧ (0 < dz f len → sv 1125 f (dz f len) pl = dv 1000000000 R 160) ∧ ((dz f len : Nat) : Int) ≤ pl + 1125 := by
  have hz1 : ∀ i, i < 9 * fi → ge R i = 0 := fun i hi => ge_zero (h1 _ (by omega))
  have hz2 : ∀ i, 9 * en ≤ i → i < 1440 → ge R i = 0 := fun i hi hj => ge_zero (h2 _ (by omega) (by omega))
  have hdz := dz_le f len
  have hv := ge_dv (R := R) 160 hR
  obtain ⟨h9, h | ⟨j0, g1, g2, g3, g4, g5, g6, g7⟩⟩ := h
  · obtain ⟨a, b, c⟩ := h
    subst a
    have e0 : dz f 0 = 0 := rfl
    rw [e0]
    refine ⟨⟨fun i hi => by omega, fun hi => by omega⟩, fun _ => ?_, fun hi => by omega, by omega⟩
    rw [← hv]
    apply dv_z
    intro i hi
    by_cases q1 : i < 9 * fi
    · exact hz1 i q1
    · by_cases q2 : i < 9 * en
      · exact c i (by omega) q2
      · exact hz2 i (by omega) (by omega)
  · have hlead : ∀ i, i < j0 → ge R i = 0 := by
      intro i hi
      by_cases q1 : i < 9 * fi
      · exact hz1 i q1
      · exact g4 i (by omega) hi
    have hle := hno j0 g3 hlead
    have hlen : len = 9 * en - j0 := by omega
    have hf0 : f 0 ≠ 0 := by rw [g7 0 (by omega)]; exact g3
    have hpos : 0 < dz f len := by
      by_cases q : dz f len = 0
      · exact absurd (dz_rest f len 0 (by omega) (by omega)) hf0
      · omega
    refine ⟨⟨fun i hi => by have := h9 i; omega, fun _ => ⟨by omega, by have := dz_last f len hpos; omega⟩⟩, fun q => by omega, fun _ => ?_, by omega⟩
    rw [← hv]
    have e1 : 9 * 160 = j0 + (dz f len + (1440 - j0 - dz f len)) := by omega
    rw [e1, dv_add, dv_z (n := j0) hlead, Nat.zero_mul, Nat.zero_add, dv_add]
    have e2 : dv 10 (fun i => (fun i => ge R (j0 + i)) (dz f len + i)) (1440 - j0 - dz f len) = 0 := by
      apply dv_z
      intro i hi
      show ge R (j0 + (dz f len + i)) = 0
      by_cases q : dz f len + i < len
      · rw [← g7 _ q]; exact dz_rest f len _ (by omega) q
      · exact hz2 _ (by omega) (by omega)
    rw [e2, Nat.add_zero]
    unfold sv
    rw [dv_cg (d := f) (e := fun i => ge R (j0 + i)) (fun i hi => g7 i (by omega))]
    congr 2
    omega
