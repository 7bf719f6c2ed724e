theorem Ne_le {f : Nat → Nat} {len : Nat} {pl : Int} {r : Nat} (h : Ne f len pl r) : r ≤ INF := by
  have hI : INF = 9218868437227405312 := rfl
  unfold Ne Ns at h
  omega
theorem Ne_in {f : Nat → Nat} {len : Nat} {pl : Int} {r : Nat} (h : Ne f len pl r) (h0 : 0 < r) (h1 : r < INF) : 0 < len ∧ -330 ≤ pl ∧ pl ≤ 310 := by
  unfold Ne at h
  omega
section Switch
variable {K : Kx} {cI cJ : ClassId} {cc : ByteArray} {nL : Nat} {own : String} {rm : Room} {ws : va_W} {k n pc : Nat} {lv : List (Nat × Value)} {st : List Value}
theorem qv_tOut (C : Cx K cI cJ cc nL own rm) {z dflt lo hi : Int} {offs : Array Int} {len tgt : Nat} (hz : ri z) (h0 : z < lo ∨ hi < z) (ht : (pc : Int) + dflt = (tgt : Int)) (d : decode cc pc = .ok (.tableswitch dflt lo hi offs, len)) (h : V K nL ws k n tgt lv st) : V K nL ws k n pc lv (vi z :: st) := by
  obtain ⟨p, l, e, R, s, m, args, below, meth, c, D, A, Q⟩ := K
  obtain ⟨hx, hb, hml, hown, hts, hK, hA, hR, hnw⟩ := C
  intro H locs ls hP hD hS hl
  exact lv_tableOut (x := zi z) hx hb d (by rw [zi_toInt hz]; exact h0) ht (h H locs ls hP hD hS hl)
theorem qv_tIn (C : Cx K cI cJ cc nL own rm) {z dflt lo hi off : Int} {offs : Array Int} {len tgt : Nat} (hz : ri z) (h0 : lo ≤ z ∧ z ≤ hi) (ho : offs[(z - lo).toNat]? = some off) (ht : (pc : Int) + off = (tgt : Int)) (d : decode cc pc = .ok (.tableswitch dflt lo hi offs, len)) (h : V K nL ws k n tgt lv st) : V K nL ws k n pc lv (vi z :: st) := by
  obtain ⟨p, l, e, R, s, m, args, below, meth, c, D, A, Q⟩ := K
  obtain ⟨hx, hb, hml, hown, hts, hK, hA, hR, hnw⟩ := C
  intro H locs ls hP hD hS hl
  exact lv_tableIn (x := zi z) hx hb d (by rw [zi_toInt hz]; omega) (by rw [zi_toInt hz]; omega) (by rw [zi_toInt hz]; exact ho) ht (h H locs ls hP hD hS hl)
end Switch
