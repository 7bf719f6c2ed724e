/-! ints and longs of the machine as whole numbers -/
def zi (z : Int) : Int32 := Int32.ofInt z
def zj (z : Int) : Int64 := Int64.ofInt z
abbrev ri (z : Int) : Prop := -2147483648 ≤ z ∧ z ≤ 2147483647
abbrev rj (z : Int) : Prop := -9223372036854775808 ≤ z ∧ z ≤ 9223372036854775807
def b2 (b : Bool) : Int := cond b 1 0
theorem zi_toInt {z : Int} (h : ri z) : (zi z).toInt = z := Int32.toInt_ofInt_of_le (by have := h.1; omega) (by have := h.2; omega)
theorem zj_toInt {z : Int} (h : rj z) : (zj z).toInt = z := Int64.toInt_ofInt_of_le (by have := h.1; omega) (by have := h.2; omega)
theorem zi_of (x : Int32) : x = zi x.toInt := (Int32.ofInt_toInt x).symm
theorem zj_of (x : Int64) : x = zj x.toInt := (Int64.ofInt_toInt x).symm
theorem zi_ri (x : Int32) : ri x.toInt := ⟨by have := x.le_toInt; omega, by have := x.toInt_lt; omega⟩
theorem zj_rj (x : Int64) : rj x.toInt := ⟨by have := x.le_toInt; omega, by have := x.toInt_lt; omega⟩
theorem zi_add (a b : Int) : zi a + zi b = zi (a + b) := (Int32.ofInt_add a b).symm
theorem zi_sub (a b : Int) : zi a - zi b = zi (a - b) := (Int32.ofInt_sub a b).symm
theorem zi_mul (a b : Int) : zi a * zi b = zi (a * b) := (Int32.ofInt_mul a b).symm
theorem zi_neg (a : Int) : -zi a = zi (-a) := (Int32.ofInt_neg a).symm
theorem zj_add (a b : Int) : zj a + zj b = zj (a + b) := (Int64.ofInt_add a b).symm
theorem zj_sub (a b : Int) : zj a - zj b = zj (a - b) := (Int64.ofInt_sub a b).symm
theorem zj_mul (a b : Int) : zj a * zj b = zj (a * b) := (Int64.ofInt_mul a b).symm
theorem zj_neg (a : Int) : -zj a = zj (-a) := (Int64.ofInt_neg a).symm
theorem zi_lt {a b : Int} (ha : ri a) (hb : ri b) : zi a < zi b ↔ a < b := by rw [Int32.lt_iff_toInt_lt, zi_toInt ha, zi_toInt hb]
theorem zi_le {a b : Int} (ha : ri a) (hb : ri b) : zi a ≤ zi b ↔ a ≤ b := by rw [Int32.le_iff_toInt_le, zi_toInt ha, zi_toInt hb]
theorem zi_eq {a b : Int} (ha : ri a) (hb : ri b) : zi a = zi b ↔ a = b := by rw [← Int32.toInt_inj, zi_toInt ha, zi_toInt hb]
theorem zj_lt {a b : Int} (ha : rj a) (hb : rj b) : zj a < zj b ↔ a < b := by rw [Int64.lt_iff_toInt_lt, zj_toInt ha, zj_toInt hb]
theorem zj_le {a b : Int} (ha : rj a) (hb : rj b) : zj a ≤ zj b ↔ a ≤ b := by rw [Int64.le_iff_toInt_le, zj_toInt ha, zj_toInt hb]
theorem zj_eq {a b : Int} (ha : rj a) (hb : rj b) : zj a = zj b ↔ a = b := by rw [← Int64.toInt_inj, zj_toInt ha, zj_toInt hb]
theorem zi_0 : zi 0 = 0 := by decide
theorem zj_0 : zj 0 = 0 := by decide
theorem zi_div {a b : Int} (ha : 0 ≤ a) (ha2 : a ≤ 2147483647) (hb : 0 < b) (hb2 : b ≤ 2147483647) : zi a / zi b = zi (a / b) := by
  apply Int32.toInt.inj
  rw [Int32.toInt_div_of_ne_right, zi_toInt ⟨by omega, ha2⟩, zi_toInt ⟨by omega, hb2⟩, Int.tdiv_eq_ediv_of_nonneg ha, zi_toInt]
  · exact ⟨by have := Int.ediv_nonneg ha (Int.le_of_lt hb); omega, by have := Int.ediv_le_self b ha; omega⟩
  · intro h
    have h2 : (zi b).toInt = (-1 : Int32).toInt := by rw [h]
    rw [zi_toInt ⟨by omega, hb2⟩] at h2
    have h3 : (-1 : Int32).toInt = -1 := by decide
    omega
theorem zj_div {a b : Int} (ha : 0 ≤ a) (ha2 : a ≤ 9223372036854775807) (hb : 0 < b) (hb2 : b ≤ 9223372036854775807) : zj a / zj b = zj (a / b) := by
  apply Int64.toInt.inj
  rw [Int64.toInt_div_of_ne_right, zj_toInt ⟨by omega, ha2⟩, zj_toInt ⟨by omega, hb2⟩, Int.tdiv_eq_ediv_of_nonneg ha, zj_toInt]
  · exact ⟨by have := Int.ediv_nonneg ha (Int.le_of_lt hb); omega, by have := Int.ediv_le_self b ha; omega⟩
  · intro h
    have h2 : (zj b).toInt = (-1 : Int64).toInt := by rw [h]
    rw [zj_toInt ⟨by omega, hb2⟩] at h2
    have h3 : (-1 : Int64).toInt = -1 := by decide
    omega
theorem zi_rem {a b : Int} (ha : 0 ≤ a) (ha2 : a ≤ 2147483647) (hb : 0 < b) (hb2 : b ≤ 2147483647) : zi a - zi a / zi b * zi b = zi (a % b) := by
  rw [zi_div ha ha2 hb hb2, zi_mul, zi_sub, Int.emod_def, Int.mul_comm]
theorem zj_rem {a b : Int} (ha : 0 ≤ a) (ha2 : a ≤ 9223372036854775807) (hb : 0 < b) (hb2 : b ≤ 9223372036854775807) : zj a - zj a / zj b * zj b = zj (a % b) := by
  rw [zj_div ha ha2 hb hb2, zj_mul, zj_sub, Int.emod_def, Int.mul_comm]
theorem zi_nz {b : Int} (hb : ri b) (h : b ≠ 0) : ¬ zi b = 0 := by rw [← zi_0, zi_eq hb (by omega)]; exact h
theorem zj_nz {b : Int} (hb : rj b) (h : b ≠ 0) : ¬ zj b = 0 := by rw [← zj_0, zj_eq hb (by omega)]; exact h
theorem zi_nat {k : Nat} (h : k ≤ 2147483647) : (zi (k : Int)).toNatClampNeg = k := by
  show (Int32.ofInt (k : Int)).toNatClampNeg = k
  rw [Int32.toNatClampNeg_ofInt_of_le (by omega) (by omega)]; omega
theorem zi_in {k n : Nat} (hk : k < n) (hn : n ≤ 2147483647) : vp_in (zi (k : Int)) n := by
  intro h
  rcases h with h | h
  · rw [← zi_0, zi_lt ⟨by omega, by omega⟩ (by omega)] at h; omega
  · rw [zi_nat (by omega)] at h; omega
theorem zi_zj {a : Int} (h : ri a) : (zi a).toInt64 = zj a := by
  apply Int64.toInt.inj
  rw [Int32.toInt_toInt64, zi_toInt h, zj_toInt ⟨by omega, by omega⟩]
theorem zj_zi (a : Int) : (zj a).toInt32 = zi a := Int64.toInt32_ofInt
theorem zi_ofNat (k : Nat) : Int32.ofNat k = zi (k : Int) := Int32.ofInt_eq_ofNat.symm
theorem zj_ofNat (k : Nat) : Int64.ofNat k = zj (k : Int) := Int64.ofInt_eq_ofNat.symm
theorem zj_bv (a : Nat) : (zj (a : Int)).toBitVec = BitVec.ofNat 64 a := by
  show BitVec.ofInt 64 (a : Int) = _
  exact BitVec.ofInt_natCast 64 a
theorem zj_bve {a : Nat} {x : Int64} (h : x.toBitVec.toNat = a % 2 ^ 64) : x = zj (a : Int) := by
  apply Int64.toBitVec.inj
  apply BitVec.eq_of_toNat_eq
  rw [zj_bv, BitVec.toNat_ofNat, h]
theorem zj_modn (a : Nat) : zj ((a % 2 ^ 64 : Nat) : Int) = zj (a : Int) := zj_bve (a := a) (by rw [zj_bv, BitVec.toNat_ofNat, Nat.mod_mod])
theorem zi_sh63 {k : Nat} (h : k < 64) : ((zi (k : Int)).toInt64 &&& 63).toBitVec.toNat = k := by
  rw [zi_zj ⟨by omega, by omega⟩]
  show ((zj (k : Int)).toBitVec &&& (63 : Int64).toBitVec).toNat = k
  rw [zj_bv, BitVec.toNat_and, BitVec.toNat_ofNat, show (63 : Int64).toBitVec.toNat = 2 ^ 6 - 1 by decide, Nat.and_two_pow_sub_one_eq_mod]
  omega
theorem zj_shl {a k : Nat} (h : k < 64) : zj (a : Int) <<< ((zi (k : Int)).toInt64 &&& 63) = zj ((a * 2 ^ k : Nat) : Int) := by
  apply zj_bve
  rw [Int64.toBitVec_shiftLeft, BitVec.shiftLeft_eq', BitVec.toNat_shiftLeft]
  have h1 : (((zi (k : Int)).toInt64 &&& 63).toBitVec.smod 64).toNat = k := by
    have h2 : ((zi (k : Int)).toInt64 &&& 63).toBitVec = BitVec.ofNat 64 k := by
      apply BitVec.eq_of_toNat_eq
      rw [zi_sh63 h, BitVec.toNat_ofNat]; omega
    rw [h2]
    have h3 : ∀ j : Fin 64, ((BitVec.ofNat 64 j.val).smod 64).toNat = j.val := by decide +kernel
    exact h3 ⟨k, h⟩
  rw [h1, zj_bv, BitVec.toNat_ofNat, Nat.shiftLeft_eq, Nat.mod_mul_mod]
theorem zj_ushr {a k : Nat} (ha : a < 2 ^ 64) (h : k < 64) : ((zj (a : Int)).toUInt64 >>> ((zi (k : Int)).toInt64.toUInt64 &&& Int64.toUInt64 63)).toInt64 = zj ((a / 2 ^ k : Nat) : Int) := by
  apply zj_bve
  have h1 : ((zi (k : Int)).toInt64.toUInt64 &&& Int64.toUInt64 63).toNat = k := zi_sh63 h
  show ((zj (a : Int)).toUInt64 >>> ((zi (k : Int)).toInt64.toUInt64 &&& Int64.toUInt64 63)).toNat = _
  rw [UInt64.toNat_shiftRight, h1, Nat.shiftRight_eq_div_pow, Nat.mod_eq_of_lt h]
  have h2 : (zj (a : Int)).toUInt64.toNat = a := by
    show (zj (a : Int)).toBitVec.toNat = a
    rw [zj_bv, BitVec.toNat_ofNat]; omega
  rw [h2, Nat.mod_eq_of_lt (Nat.lt_of_le_of_lt (Nat.div_le_self _ _) ha)]
theorem zj_and {a b : Nat} (hb : b ≤ 64) : zj (a : Int) &&& zj ((2 ^ b - 1 : Nat) : Int) = zj ((a % 2 ^ b : Nat) : Int) := by
  apply zj_bve
  show ((zj (a : Int)).toBitVec &&& (zj ((2 ^ b - 1 : Nat) : Int)).toBitVec).toNat = _
  have hp : 2 ^ b ≤ 2 ^ 64 := Nat.pow_le_pow_right (by decide) hb
  have hq : 0 < 2 ^ b := Nat.pow_pos (by decide)
  rw [zj_bv, zj_bv, BitVec.toNat_and, BitVec.toNat_ofNat, BitVec.toNat_ofNat, Nat.mod_eq_of_lt (a := 2 ^ b - 1) (by omega), Nat.and_two_pow_sub_one_eq_mod, Nat.mod_mod_of_dvd _ (Nat.pow_dvd_pow 2 hb), Nat.mod_eq_of_lt (a := a % 2 ^ b)]
  exact Nat.lt_of_lt_of_le (Nat.mod_lt _ hq) hp
theorem zj_or {a b k : Nat} (hb : b < 2 ^ k) (hk : a * 2 ^ k + b < 2 ^ 64) : zj ((a * 2 ^ k : Nat) : Int) ||| zj (b : Int) = zj ((a * 2 ^ k + b : Nat) : Int) := by
  apply zj_bve
  show ((zj ((a * 2 ^ k : Nat) : Int)).toBitVec ||| (zj (b : Int)).toBitVec).toNat = _
  rw [zj_bv, zj_bv, BitVec.toNat_or, BitVec.toNat_ofNat, BitVec.toNat_ofNat, Nat.mod_eq_of_lt (a := a * 2 ^ k) (by omega), Nat.mod_eq_of_lt (a := b) (by omega), Nat.mod_eq_of_lt hk, ← Nat.shiftLeft_eq, Nat.shiftLeft_add_eq_or_of_lt hb]
theorem zj_or' {a b k : Nat} (hb : b < 2 ^ k) (hk : a * 2 ^ k + b < 2 ^ 64) : zj (b : Int) ||| zj ((a * 2 ^ k : Nat) : Int) = zj ((a * 2 ^ k + b : Nat) : Int) := by
  rw [Int64.or_comm]; exact zj_or hb hk
/-- a negative long and the number of its bits -/
theorem zj_wrap (a : Int) : zj (a + 18446744073709551616) = zj a := by
  rw [← zj_add]
  have h : zj 18446744073709551616 = 0 := by decide
  rw [h, Int64.add_zero]
theorem zj_wraps (a : Int) : zj (a - 18446744073709551616) = zj a := by
  rw [← zj_wrap (a - _)]; congr 1; omega
theorem zj_cmp {a b : Int} (ha : rj a) (hb : rj b) : lg_cmp (zj a) (zj b) = zi (if b < a then 1 else if a = b then 0 else -1) := by
  unfold lg_cmp
  by_cases h1 : b < a
  · rw [if_pos h1, if_pos ((zj_lt hb ha).mpr h1)]; decide
  · rw [if_neg h1, if_neg (fun h => h1 ((zj_lt hb ha).mp h))]
    by_cases h2 : a = b
    · rw [if_pos h2, if_pos ((zj_eq ha hb).mpr h2)]; decide
    · rw [if_neg h2, if_neg (fun h => h2 ((zj_eq ha hb).mp h))]; decide
