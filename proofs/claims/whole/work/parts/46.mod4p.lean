/-! shifts to the right, bits of ints -/
theorem zj_shr {a k : Nat} (ha : a < 9223372036854775808) (h : k < 64) : zj (a : Int) >>> ((zi (k : Int)).toInt64 &&& 63) = zj ((a / 2 ^ k : Nat) : Int) := by
  apply zj_bve
  have h2 : ((zi (k : Int)).toInt64 &&& 63).toBitVec = BitVec.ofNat 64 k := by
    apply BitVec.eq_of_toNat_eq
    rw [zi_sh63 h, BitVec.toNat_ofNat]; omega
  have h3 : ∀ j : Fin 64, ((BitVec.ofNat 64 j.val).smod 64).toNat = j.val := by decide +kernel
  have hm : (zj (a : Int)).toBitVec.msb = false := by
    rw [zj_bv, BitVec.msb_eq_false_iff_two_mul_lt, BitVec.toNat_ofNat]
    omega
  rw [Int64.toBitVec_shiftRight, h2, BitVec.toNat_sshiftRight'_of_msb_false hm, h3 ⟨k, h⟩, zj_bv, BitVec.toNat_ofNat, Nat.shiftRight_eq_div_pow, Nat.mod_eq_of_lt (a := a) (by omega)]
  rw [Nat.mod_eq_of_lt]
  exact Nat.lt_of_le_of_lt (Nat.div_le_self _ _) (by omega)
theorem zi_and {a b : Nat} (hb : b ≤ 32) : zi (a : Int) &&& zi ((2 ^ b - 1 : Nat) : Int) = zi ((a % 2 ^ b : Nat) : Int) := by
  apply zi_bve
  show ((zi (a : Int)).toBitVec &&& (zi ((2 ^ b - 1 : Nat) : Int)).toBitVec).toNat = _
  have hp : 2 ^ b ≤ 2 ^ 32 := Nat.pow_le_pow_right (by decide) hb
  have hq : 0 < 2 ^ b := Nat.pow_pos (by decide)
  rw [zi_bv, zi_bv, BitVec.toNat_and, BitVec.toNat_ofNat, BitVec.toNat_ofNat, Nat.mod_eq_of_lt (a := 2 ^ b - 1) (by omega), Nat.and_two_pow_sub_one_eq_mod, Nat.mod_mod_of_dvd _ (Nat.pow_dvd_pow 2 hb), Nat.mod_eq_of_lt (a := a % 2 ^ b)]
  exact Nat.lt_of_lt_of_le (Nat.mod_lt _ hq) hp
theorem zi_or_b2 (a b : Bool) : zi (b2 a) ||| zi (b2 b) = zi (b2 (a || b)) := by cases a <;> cases b <;> decide
theorem qv_lshr {K : Kx} {cI cJ : ClassId} {cc : ByteArray} {nL : Nat} {own : String} {rm : Room} {ws : va_W} {k n pc : Nat} {lv : List (Nat × Value)} {st : List Value} (C : Cx K cI cJ cc nL own rm) {a b : Int} (x y : Nat) (hx1 : a = (x : Int)) (hx2 : x < 9223372036854775808) (hy1 : b = (y : Int)) (hy : y < 64) (d : decode cc pc = .ok (.lshr, 1)) (h : V K nL ws k n (pc + 1) lv (vj ((x / 2 ^ y : Nat) : Int) :: st)) : V K nL ws k n pc lv (vi b :: vj a :: st) := by
  obtain ⟨p, l, e, R, s, m, args, below, meth, c, D, A, Q⟩ := K
  obtain ⟨hx, hb, hml, hown, hts, hK, hA, hR, hnw⟩ := C
  intro H locs ls hP hD hS hl
  subst hx1 hy1
  exact lv_lshr hx hb d (zj_shr hx2 hy) (h H locs ls hP hD hS hl)
theorem sv_n0 (K : Nat) (f : Nat → Nat) (p : Int) : sv K f 0 p = 0 := by unfold sv; rw [dv_0, Nat.zero_mul]
theorem sv_pos {f : Nat → Nat} {n : Nat} {p : Int} (hN : Nrm f n) (h0 : 0 < n) (hp : (n : Int) ≤ p + 1200) : 0 < sv 1200 f n p := by
  have h1 := sv_lo (K := 1200) hN h0 hp
  have := Nat.pow_pos (n := (p - 1 + 1200).toNat) (show 0 < 10 by omega)
  exact Nat.lt_of_lt_of_le this h1
theorem ext0_lt {d : Nat → Nat} {n i : Nat} (h : i < n) : ext0 d n i = d i := if_pos h
theorem ext0_ge {d : Nat → Nat} {n i : Nat} (h : ¬ i < n) : ext0 d n i = 0 := if_neg h
