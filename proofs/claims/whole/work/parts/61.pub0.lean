theorem Ne_le {f : Nat → Nat} {len : Nat} {pl : Int} {r : Nat} (h : Ne f len pl r) : r ≤ INF := by
  have hI : INF = 9218868437227405312 := rfl
  unfold Ne Ns at h
  omega
theorem Ne_in {f : Nat → Nat} {len : Nat} {pl : Int} {r : Nat} (h : Ne f len pl r) (h0 : 0 < r) (h1 : r < INF) : 0 < len ∧ -330 ≤ pl ∧ pl ≤ 310 := by
  unfold Ne at h
  omega
