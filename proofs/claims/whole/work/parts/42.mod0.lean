/-! the reference's object; rows shifted -/
abbrev mo (y dg rw bt wz lw hg : Nat) (er : Int) (mi : Bool) (nd : Nat) (pl : Int) (zr : Nat) (bh : Int) (mn : Nat) (fr fo : Int) (ls : Nat) (lp : Int) (hs : Nat) (hq : Int) : Nat × va_E := oc y 4 [vi er, vi (b2 mi), .ref dg, vi (nd : Nat), vi pl, vi (zr : Nat), vi bh, .ref rw, vi (mn : Nat), vi fr, vj fo, .ref bt, .ref wz, .ref lw, .ref hg, vi (ls : Nat), vi lp, vi (hs : Nat), vi hq]
def sk (f : Nat → Nat) (n k : Nat) : Nat → Nat := fun i => if k < i ∧ i ≤ n then f (i - 1) else f i
theorem sk_n (f : Nat → Nat) (n : Nat) : sk f n n = f := by funext i; unfold sk; rw [if_neg (by omega)]
theorem sk_at (f : Nat → Nat) (n k : Nat) : sk f n (k + 1) k = f k := by unfold sk; rw [if_neg (by omega)]
theorem sk_s (f : Nat → Nat) {n k : Nat} (h : k < n) : un (sk f n (k + 1)) (k + 1) (f k) = sk f n k := by
  funext i; unfold un sk
  by_cases e : i = k + 1
  · rw [if_pos e, if_pos (by omega)]; congr 1; omega
  · rw [if_neg e]
    by_cases e2 : k + 1 < i ∧ i ≤ n
    · show (if k + 1 < i ∧ i ≤ n then f (i - 1) else f i) = _
      rw [if_pos e2, if_pos (by omega)]
    · show (if k + 1 < i ∧ i ≤ n then f (i - 1) else f i) = _
      rw [if_neg e2, if_neg (by omega)]
theorem sk_9 {f : Nat → Nat} (h : ∀ i, f i ≤ 9) (n k i : Nat) : sk f n k i ≤ 9 := by unfold sk; split <;> exact h _
theorem sk_sh {f : Nat → Nat} {n c i : Nat} (h : i < n + 1) : un (sk f n 0) 0 c i = sh1 f c i := by
  unfold un sh1
  by_cases e : i = 0
  · rw [if_pos e, if_pos e]
  · rw [if_neg e, if_neg e]; unfold sk; rw [if_pos (by omega)]
def sl1 (f : Nat → Nat) (k : Nat) : Nat → Nat := fun i => if i + 1 < k then f (i + 1) else f i
theorem sl1_1 (f : Nat → Nat) : sl1 f 1 = f := by funext i; unfold sl1; rw [if_neg (by omega)]
theorem sl1_at (f : Nat → Nat) (k : Nat) : sl1 f k k = f k := by unfold sl1; rw [if_neg (by omega)]
theorem sl1_s (f : Nat → Nat) {k : Nat} (h : 0 < k) : un (sl1 f k) (k - 1) (f k) = sl1 f (k + 1) := by
  funext i; unfold un
  by_cases e : i = k - 1
  · rw [if_pos e]; unfold sl1; rw [if_pos (by omega)]; congr 1; omega
  · rw [if_neg e]; unfold sl1
    by_cases e2 : i + 1 < k
    · rw [if_pos e2, if_pos (by omega)]
    · rw [if_neg e2, if_neg (by omega)]
theorem sl1_9 {f : Nat → Nat} (h : ∀ i, f i ≤ 9) (k i : Nat) : sl1 f k i ≤ 9 := by unfold sl1; split <;> exact h _
def cpd (d f : Nat → Nat) (k : Nat) : Nat → Nat := fun i => if i < k then f i else d i
theorem cpd_0 (d f : Nat → Nat) : cpd d f 0 = d := by funext i; unfold cpd; rw [if_neg (by omega)]
theorem cpd_s (d f : Nat → Nat) (k : Nat) : un (cpd d f k) k (f k) = cpd d f (k + 1) := by
  funext i; unfold un
  by_cases e : i = k
  · rw [if_pos e]; unfold cpd; rw [if_pos (by omega), e]
  · rw [if_neg e]; unfold cpd
    by_cases e2 : i < k
    · rw [if_pos e2, if_pos (by omega)]
    · rw [if_neg e2, if_neg (by omega)]
theorem cpd_9 {d f : Nat → Nat} (h : ∀ i, d i ≤ 9) (h2 : ∀ i, f i ≤ 9) (k i : Nat) : cpd d f k i ≤ 9 := by
  unfold cpd; split
  · exact h2 _
  · exact h _
theorem cpd_lt {d f : Nat → Nat} {k i : Nat} (h : i < k) : cpd d f k i = f i := if_pos h
