/-! Rows of groups, multiplied and divided from an end: one step of each loop, and what an early stop leaves. ts b R i n: what the n places from i on spell. Draft, not built yet. -/
def ts (b : Nat) (R : Nat → Nat) (i n : Nat) : Nat := dv b (fun k => R (i + k)) n
theorem ts_cg {b : Nat} {R S : Nat → Nat} {i n : Nat} (h : ∀ k, i ≤ k → k < i + n → R k = S k) : ts b R i n = ts b S i n := dv_cg (fun k hk => h (i + k) (by omega) (by omega))
theorem ts_z {b : Nat} {R : Nat → Nat} {i n : Nat} (h : ∀ k, i ≤ k → k < i + n → R k = 0) : ts b R i n = 0 := dv_z (fun k hk => h (i + k) (by omega) (by omega))
theorem ts_lt {b : Nat} {R : Nat → Nat} {i n : Nat} (h : ∀ k, i ≤ k → k < i + n → R k < b) : ts b R i n < b ^ n := dv_lt (fun k hk => h (i + k) (by omega) (by omega))
theorem ts_hd (b : Nat) (R : Nat → Nat) (i n : Nat) : ts b R i (n + 1) = R i * b ^ n + ts b R (i + 1) n := by
  have h : ts b R i (n + 1) = ts b R i (1 + n) := by rw [Nat.add_comm]
  rw [h]
  unfold ts
  rw [dv_add]
  have h1 : dv b (fun k => R (i + k)) 1 = R i := by rw [dv_s, dv_0]; simp
  rw [h1]
  congr 1
  exact dv_cg (fun k _ => by rw [Nat.add_assoc])
theorem dv_ts (b : Nat) (R : Nat → Nat) (m n : Nat) : dv b R (m + n) = dv b R m * b ^ n + ts b R m n := dv_add b R m n
theorem ts_e0 {b : Nat} {R : Nat → Nat} {i n : Nat} (hb : 0 < b) (h : ts b R i n = 0) : ∀ k, i ≤ k → k < i + n → R k = 0 := fun k h1 h2 => by
  have := dv_e0 hb h (k - i) (by omega)
  rwa [show i + (k - i) = k by omega] at this
/-- leading zeros -/
theorem ts_lead {b : Nat} {R : Nat → Nat} {i j n : Nat} (hij : i ≤ j) (hn : j ≤ n) (h : ∀ k, i ≤ k → k < j → R k = 0) : ts b R i (n - i) = ts b R j (n - j) := by
  obtain ⟨t, rfl⟩ : ∃ t, j = i + t := ⟨j - i, by omega⟩
  clear hij
  induction t with
  | zero => rfl
  | succ t ih =>
    rw [ih (by omega) (fun k h1 h2 => h k h1 (by omega)), show n - (i + t) = (n - (i + (t + 1))) + 1 by omega, ts_hd, h (i + t) (by omega) (by omega), Nat.zero_mul, Nat.zero_add, Nat.add_assoc]
/-- one group multiplied, from the end: what is done so far and what runs over -/
theorem mul_step {b z i n r o x : Nat} {R R' : Nat → Nat} (hx : x = R i * z + o) (hr : R' i = x % b) (ho : r = x / b) (h : ts b R' (i + 1) n + o * b ^ n = ts b R (i + 1) n * z) :
    ts b R' i (n + 1) + r * b ^ (n + 1) = ts b R i (n + 1) * z := by
  rw [ts_hd, ts_hd, hr, ho, Nat.pow_succ, Nat.add_mul, ← h]
  have h1 : x % b + b * (x / b) = x := Nat.mod_add_div x b
  generalize ts b R' (i + 1) n = u at *
  generalize b ^ n = w at *
  have h2 : x % b * w + u + x / b * (w * b) = (x % b + b * (x / b)) * w + u := by grind
  rw [h2, h1, hx]
  grind
/-- one group divided, from the front -/
theorem div_step {b z i l x y : Nat} {R R' : Nat → Nat} (hx : x = l * b + R i) (hr : R' i = x / z) (hl : y = x % z) (h : dv b R' i * z + l = dv b R i) : dv b R' (i + 1) * z + y = dv b R (i + 1) := by
  rw [dv_s, dv_s, hr, hl, ← h]
  have h1 : x % z + z * (x / z) = x := Nat.mod_add_div x z
  generalize dv b R' i = u at *
  have h2 : (b * u + x / z) * z + x % z = b * u * z + (x % z + z * (x / z)) := by grind
  rw [h2, h1, hx]
  grind
/-- a row that ends in zeros -/
theorem dv_tail {b : Nat} {R : Nat → Nat} {i n : Nat} (hn : i ≤ n) (h : ∀ k, i ≤ k → k < n → R k = 0) : dv b R n = dv b R i * b ^ (n - i) := by
  obtain ⟨t, rfl⟩ : ∃ t, n = i + t := ⟨n - i, by omega⟩
  rw [dv_ts, ts_z (fun k h1 h2 => h k h1 h2), show i + t - i = t by omega]
  rfl
