/-! a decimal's digits put into groups -/
theorem dv_un {b : Nat} {e : Nat → Nat} {n r d : Nat} (hr : r < n) (h0 : e r = 0) : dv b (un e r d) n = dv b e n + d * b ^ (n - 1 - r) := by
  induction n with
  | zero => omega
  | succ n ih =>
    rw [dv_s, dv_s]
    by_cases q : r = n
    · subst q
      rw [un_at, h0, dv_cg (d := un e r d) (e := e) (fun k hk => un_ne _ (by omega))]
      rw [show r + 1 - 1 - r = 0 by omega, Nat.pow_zero]
      omega
    · rw [ih (by omega), un_ne _ (fun h => q h.symm)]
      have e1 : n + 1 - 1 - r = (n - 1 - r) + 1 := by omega
      rw [e1, Nat.pow_succ, Nat.mul_add]
      generalize b ^ (n - 1 - r) = x
      generalize dv b e n = y
      generalize e n = z
      grind
theorem dv_grp (e : Nat → Nat) (n : Nat) : dv 1000000000 (fun k => dv 10 (fun q => e (9 * k + q)) 9) n = dv 10 e (9 * n) := by
  induction n with
  | zero => rfl
  | succ n ih =>
    have h1 : dv 10 e (9 * n + 9) = dv 10 e (9 * n) * 10 ^ 9 + dv 10 (fun q => e (9 * n + q)) 9 := dv_add 10 e (9 * n) 9
    rw [show 9 * (n + 1) = 9 * n + 9 by omega, h1, ← ih, dv_s, Nat.mul_comm]
/-- the places of the first i digits -/
def ei (f : Nat → Nat) (st i : Nat) : Nat → Nat := fun j => if st ≤ j ∧ j < st + i then f (j - st) else 0
theorem ei_9 {f : Nat → Nat} (h : ∀ i, f i ≤ 9) (st i j : Nat) : ei f st i j ≤ 9 := by
  unfold ei; split
  · exact h _
  · omega
theorem ei_s (f : Nat → Nat) (st i : Nat) : ei f st (i + 1) = un (ei f st i) (st + i) (f i) := by
  funext j
  unfold ei un
  by_cases q : j = st + i
  · rw [if_pos q, if_pos (by omega)]; congr 1; omega
  · rw [if_neg q]
    by_cases q2 : st ≤ j ∧ j < st + i
    · show _ = (if st ≤ j ∧ j < st + i then f (j - st) else 0)
      rw [if_pos q2, if_pos (by omega)]
    · show _ = (if st ≤ j ∧ j < st + i then f (j - st) else 0)
      rw [if_neg q2, if_neg (by omega)]
def Gl (f : Nat → Nat) (st i : Nat) (R : Nat → Nat) : Prop := ∀ k, R k = dv 10 (fun q => ei f st i (9 * k + q)) 9
theorem Gl_0 (f : Nat → Nat) (st : Nat) : Gl f st 0 (fun _ => 0) := by
  intro k
  rw [dv_z]
  intro q hq
  show ei f st 0 (9 * k + q) = 0
  unfold ei; rw [if_neg (by omega)]
theorem Gl_s {f R : Nat → Nat} {st i : Nat} (h : Gl f st i R) : Gl f st (i + 1) (un R ((st + i) / 9) (R ((st + i) / 9) + f i * 10 ^ (8 - (st + i) % 9))) := by
  intro k
  rw [ei_s]
  by_cases q : k = (st + i) / 9
  · subst q
    rw [un_at, h]
    have e1 : (fun q => un (ei f st i) (st + i) (f i) (9 * ((st + i) / 9) + q)) = un (fun q => ei f st i (9 * ((st + i) / 9) + q)) ((st + i) % 9) (f i) := by
      funext q
      unfold un
      by_cases z : q = (st + i) % 9
      · rw [if_pos z, if_pos (by omega)]
      · rw [if_neg z, if_neg (by omega)]
    rw [e1, dv_un (by omega)]
    show ei f st i (9 * ((st + i) / 9) + (st + i) % 9) = 0
    unfold ei; rw [if_neg (by omega)]
  · rw [un_ne _ q, h]
    apply dv_cg
    intro j hj
    show ei f st i (9 * k + j) = un (ei f st i) (st + i) (f i) (9 * k + j)
    rw [un_ne _ (by omega)]
theorem Gl_lt {f R : Nat → Nat} {st i : Nat} (h9 : ∀ i, f i ≤ 9) (h : Gl f st i R) : ∀ k, R k < 1000000000 := by
  intro k
  rw [h k]
  exact dv_lt (b := 10) (n := 9) (fun q _ => by have := ei_9 h9 st i (9 * k + q); show ei f st i (9 * k + q) < 10; omega)
theorem Gl_v {f R : Nat → Nat} {len : Nat} {pl : Int} (h : Gl f (315 - pl).toNat len R) (h1 : pl ≤ 315) (h2 : (len : Int) ≤ pl + 1125) : dv 1000000000 R 160 = sv 1125 f len pl := by
  have e0 : R = fun k => dv 10 (fun q => ei f (315 - pl).toNat len (9 * k + q)) 9 := funext h
  rw [e0, dv_grp]
  generalize hst : (315 - pl).toNat = st at *
  have e1 : 9 * 160 = st + (len + (1440 - st - len)) := by omega
  rw [e1, dv_add, dv_z (n := st) (fun i hi => by unfold ei; rw [if_neg (by omega)]), Nat.zero_mul, Nat.zero_add, dv_add]
  have e2 : dv 10 (fun i => (fun i => ei f st len (st + i)) (len + i)) (1440 - st - len) = 0 := dv_z (fun i hi => by
    show ei f st len (st + (len + i)) = 0
    unfold ei; rw [if_neg (by omega)])
  rw [e2, Nat.add_zero]
  unfold sv
  rw [dv_cg (d := fun i => ei f st len (st + i)) (e := f) (fun i hi => by
    show ei f st len (st + i) = f i
    unfold ei; rw [if_pos (by omega)]; congr 1; omega)]
  congr 2; omega
theorem Gl_Gd {f R : Nat → Nat} {st len : Nat} (h9 : ∀ i, f i ≤ 9) (h : Gl f st len R) (h0 : 0 < len) (hl : st + len ≤ 1440) : Gd R (st / 9) ((st + len - 1) / 9 + 1) := by
  refine ⟨Gl_lt h9 h, fun k hk => ?_, fun k hk _ => ?_, by omega, by omega⟩
  · rw [h k]; exact dv_z (fun q hq => by show ei f st len (9 * k + q) = 0; unfold ei; rw [if_neg (by omega)])
  · rw [h k]; exact dv_z (fun q hq => by show ei f st len (9 * k + q) = 0; unfold ei; rw [if_neg (by omega)])
theorem Gl_LN {f R : Nat → Nat} {st len : Nat} (h : Gl f st len R) (h0 : 0 < len) (hf : f (len - 1) ≠ 0) : LN R ((st + len - 1) / 9 + 1) := by
  refine Or.inr ?_
  rw [Nat.add_sub_cancel, h]
  intro q
  have h1 := dv_e0 (by omega) q ((st + len - 1) % 9) (by omega)
  have h2 : ei f st len (9 * ((st + len - 1) / 9) + (st + len - 1) % 9) = f (len - 1) := by
    unfold ei; rw [if_pos (by omega)]; congr 1; omega
  exact hf (by rw [← h2]; exact h1)
