/-! rows for Words -/
theorem zi_bv (a : Nat) : (zi (a : Int)).toBitVec = BitVec.ofNat 32 a := by
  show BitVec.ofInt 32 (a : Int) = _
  exact BitVec.ofInt_natCast 32 a
theorem zi_bve {a : Nat} {x : Int32} (h : x.toBitVec.toNat = a % 2 ^ 32) : x = zi (a : Int) := by
  apply Int32.toBitVec.inj
  apply BitVec.eq_of_toNat_eq
  rw [zi_bv, BitVec.toNat_ofNat, h]
theorem zi_sh31 {k : Nat} (h : k < 32) : ((zi (k : Int)).toUInt32 &&& Int32.toUInt32 31).toNat = k := by
  show ((zi (k : Int)).toBitVec &&& (31 : Int32).toBitVec).toNat = k
  rw [zi_bv, BitVec.toNat_and, BitVec.toNat_ofNat, show (31 : Int32).toBitVec.toNat = 2 ^ 5 - 1 by decide, Nat.and_two_pow_sub_one_eq_mod]
  omega
theorem zi_ushr {a k : Nat} (ha : a < 2 ^ 32) (h : k < 32) : ((zi (a : Int)).toUInt32 >>> ((zi (k : Int)).toUInt32 &&& Int32.toUInt32 31)).toInt32 = zi ((a / 2 ^ k : Nat) : Int) := by
  apply zi_bve
  show ((zi (a : Int)).toUInt32 >>> ((zi (k : Int)).toUInt32 &&& Int32.toUInt32 31)).toNat = _
  rw [UInt32.toNat_shiftRight, zi_sh31 h, Nat.shiftRight_eq_div_pow, Nat.mod_eq_of_lt h]
  have h2 : (zi (a : Int)).toUInt32.toNat = a := by
    show (zi (a : Int)).toBitVec.toNat = a
    rw [zi_bv, BitVec.toNat_ofNat]; omega
  rw [h2, Nat.mod_eq_of_lt (Nat.lt_of_le_of_lt (Nat.div_le_self _ _) ha)]
theorem zi_wraps (a : Int) : zi (a - 4294967296) = zi a := by
  rw [← zi_sub]
  have h : zi 4294967296 = 0 := by decide
  rw [h, Int32.sub_zero]
theorem zi_low (x : Nat) : zi (x : Int) = 0 ↔ x % 4294967296 = 0 := by
  constructor
  · intro h
    have h1 : (zi (x : Int)).toBitVec.toNat = (0 : Int32).toBitVec.toNat := by rw [h]
    rw [zi_bv, BitVec.toNat_ofNat] at h1
    exact h1
  · intro h
    have e := zi_bve (a := x) (x := 0) (by rw [show (2 : Nat) ^ 32 = 4294967296 by decide, h]; decide)
    exact e.symm
/-- the signed number of 64 bits -/
def sj (u : Nat) : Int := if u < 9223372036854775808 then (u : Int) else (u : Int) - 18446744073709551616
theorem sj_rj {u : Nat} (h : u < 18446744073709551616) : rj (sj u) := by unfold sj; split <;> omega
theorem sj_neg {u : Nat} (h : u < 18446744073709551616) : sj u < 0 ↔ 9223372036854775808 ≤ u := by unfold sj; split <;> omega
theorem sj_0 {u : Nat} (h : u < 18446744073709551616) : sj u = 0 ↔ u = 0 := by unfold sj; split <;> omega
theorem zj_sj (x : Nat) : zj (x : Int) = zj (sj (x % 18446744073709551616)) := by
  have h1 := zj_modn x
  rw [show (2 : Nat) ^ 64 = 18446744073709551616 by decide] at h1
  rw [← h1]
  unfold sj
  split
  · rfl
  · exact (zj_wraps _).symm
section WrdRules
variable {K : Kx} {cI cJ : ClassId} {cc : ByteArray} {nL : Nat} {own : String} {rm : Room} {ws : va_W} {k n pc : Nat} {lv : List (Nat × Value)} {st : List Value}
theorem qv_iushr (C : Cx K cI cJ cc nL own rm) {a b : Int} (x y : Nat) (hx1 : a = (x : Int)) (hx2 : x < 4294967296) (hy1 : b = (y : Int)) (hy : y < 32) (d : decode cc pc = .ok (.iushr, 1)) (h : V K nL ws k n (pc + 1) lv (vi ((x / 2 ^ y : Nat) : Int) :: st)) : V K nL ws k n pc lv (vi b :: vi a :: st) := by
  obtain ⟨p, l, e, R, s, m, args, below, meth, c, D, A, Q⟩ := K
  obtain ⟨hx, hb, hml, hown, hts, hK, hA, hR, hnw⟩ := C
  intro H locs ls hP hD hS hl
  subst hx1 hy1
  exact lv_iushr hx hb d (zi_ushr hx2 hy) (h H locs ls hP hD hS hl)
theorem qv_ifneW (C : Cx K cI cJ cc nL own rm) {off : Int} {tgt : Nat} (x : Nat) (ht : (pc : Int) + off = (tgt : Int)) (d : decode cc pc = .ok (.ifCond .ne off, 3)) (h1 : x % 4294967296 ≠ 0 → V K nL ws k n tgt lv st) (h2 : x % 4294967296 = 0 → V K nL ws k n (pc + 3) lv st) : V K nL ws k n pc lv (vi (x : Int) :: st) := by
  obtain ⟨p, l, e, R, s, m, args, below, meth, c, D, A, Q⟩ := K
  obtain ⟨hx, hb, hml, hown, hts, hK, hA, hR, hnw⟩ := C
  intro H locs ls hP hD hS hl
  exact lv_if_ne hx hb d ht (fun q => h1 (fun q2 => q ((zi_low x).mpr q2)) H locs ls hP hD hS hl) (fun q => h2 ((zi_low x).mp q) H locs ls hP hD hS hl)
theorem qv_tjw {z r : Int} (e : zj z = zj r) (h : V K nL ws k n pc lv (vj r :: st)) : V K nL ws k n pc lv (vj z :: st) := by
  have e2 : vj z = vj r := congrArg Value.long e
  rw [e2]; exact h
theorem qv_tiw {z r : Int} (e : zi z = zi r) (h : V K nL ws k n pc lv (vi r :: st)) : V K nL ws k n pc lv (vi z :: st) := by
  have e2 : vi z = vi r := congrArg Value.int e
  rw [e2]; exact h
end WrdRules
abbrev ww (cJ : ClassId) (w wa : Nat) (hm : Bool) (W : Nat → Nat) : va_W := [oc w 2 [.ref wa, vi (b2 hm)], aj cJ wa 70 W]
theorem Tp_a {W : Nat → Nat} {i top o : Nat} (h : Tp W i top) (ho : top < i ∨ o ≠ 0) : Tp (un W i o) (i + 1) top := by
  obtain ⟨h1, h2, h3⟩ := h
  refine ⟨by omega, fun j hj => ?_, fun _ => ?_⟩
  · rw [un_ne _ (by omega)]; exact h2 j hj
  · by_cases q : top = i
    · rw [q, un_at]; omega
    · rw [un_ne _ q]; exact h3 (by omega)
theorem Tp_b {W : Nat → Nat} {i : Nat} (h : Tp W i i) : Tp (un W i 0) (i + 1) (i + 1) := by
  obtain ⟨h1, h2, h3⟩ := h
  refine ⟨by omega, fun j hj => ?_, fun q => by omega⟩
  by_cases q : j = i
  · rw [q, un_at]
  · rw [un_ne _ q]; exact h2 j (by omega)
def Wf (W : Nat → Nat) (lim i : Nat) : Prop := i ≤ lim ∧ (∀ j, j < i → W j = 0) ∧ (i < lim → W i ≠ 0)
theorem Wl_top {G : Nat} {W : Nat → Nat} {mo : Bool} {T top F i : Nat} (h : Wl G W mo T top F) (hi : Wf W 67 i) : (i = 67 ∧ ∀ j, j < 67 → W j = 0) ∨ (i < 67 ∧ top = i ∧ top < T ∧ W top ≠ 0) := by
  obtain ⟨h1, h2, h3, h4, h5, h6, h7, ⟨t1, t2, t3⟩, h9⟩ := h
  obtain ⟨i1, i2, i3⟩ := hi
  by_cases q : i < 67
  · refine Or.inr ?_
    have hne := i3 q
    have hle : top ≤ i := by
      by_cases z : top ≤ i
      · exact z
      · exact absurd (t2 i (by omega)) hne
    have htT : top < T := by
      by_cases z : top < T
      · exact z
      · have : T = 67 := by omega
        omega
    have hge : i ≤ top := by
      by_cases z : i ≤ top
      · exact z
      · exact absurd (i2 top (by omega)) (t3 htT)
    have e : top = i := by omega
    exact ⟨q, e, htT, t3 htT⟩
  · have e : i = 67 := by omega
    subst e
    exact Or.inl ⟨rfl, i2⟩
def INF : Nat := 9218868437227405312
/-- the nearest double's bits, or those of infinity where it is beyond -/
def Nr (G r : Nat) : Prop := (r < INF ∧ Near (G * 2 ^ 1075) (10 ^ 1125) r) ∨ (r = INF ∧ md (INF - 1) * 10 ^ 1125 ≤ G * 2 ^ 1075)
theorem Nr_le {G r : Nat} (h : Nr G r) : r ≤ INF := by rcases h with h | h <;> omega
theorem Nr_near {G r : Nat} (h : Near (G * 2 ^ 1075) (10 ^ 1125) r) (hr : r ≤ INF) : Nr G r := by
  by_cases q : r < INF
  · exact Or.inl ⟨q, h⟩
  · have e : r = INF := by omega
    have e1 : INF - 1 = 9218868437227405311 := by decide +kernel
    have e2 : INF = 9218868437227405312 := rfl
    have h2 := (near_inf (Nat.pow_pos (by omega)) h).mp (by omega)
    rw [← e1] at h2
    exact Or.inr ⟨e, h2⟩
theorem Wl_zero {G : Nat} {W : Nat → Nat} {mo : Bool} {T top F : Nat} (h : Wl G W mo T top F) (hz : ∀ j, j < 67 → W j = 0) : Nr G 0 := by
  obtain ⟨h1, h2, h3, h4, h5, h6, h7, ⟨t1, t2, t3⟩, h9⟩ := h
  have htop : top = T := by
    by_cases q : top < T
    · exact absurd (hz top (by omega)) (t3 q)
    · omega
  have hT : T = 67 := by omega
  subst hT
  rw [dv_z hz, Nat.zero_mul, Nat.zero_add] at h6
  refine Or.inl ⟨by decide, near_0 ?_⟩
  refine Nat.lt_of_le_of_lt ?_ h5
  rw [h6, p32]
  exact Nat.mul_le_mul_left _ (Nat.pow_le_pow_right (by omega) (by omega))
theorem md_inf : md (INF - 1) ≤ 2 ^ 1024 * 2 ^ 1075 := by
  have e : md (INF - 1) = 18014398509481983 * 2 ^ 2045 := by
    unfold md
    have e1 : fc (INF - 1) = 9007199254740991 := by decide
    have e2 : pw (INF - 1) = 2045 := by decide
    rw [e1, e2]
  rw [e, ← Nat.pow_add, show 1024 + 1075 = 54 + 2045 by omega, Nat.pow_add]
  exact Nat.mul_le_mul_right _ (by decide)
theorem Nr_big {G : Nat} (h : 2 ^ 1024 * 10 ^ 1125 ≤ G) : Nr G INF := by
  refine Or.inr ⟨rfl, ?_⟩
  calc md (INF - 1) * 10 ^ 1125 ≤ 2 ^ 1024 * 2 ^ 1075 * 10 ^ 1125 := Nat.mul_le_mul_right _ md_inf
    _ = 2 ^ 1024 * 10 ^ 1125 * 2 ^ 1075 := Nat.mul_right_comm _ _ _
    _ ≤ G * 2 ^ 1075 := Nat.mul_le_mul_right _ h
theorem Wl_big {G : Nat} {W : Nat → Nat} {mo : Bool} {T F : Nat} (h : Wl G W mo T 0 F) (hW : W 0 ≠ 0) : Nr G INF := by
  obtain ⟨h1, h2, h3, h4, h5, h6, h7, -, -⟩ := h
  apply Nr_big
  have e1 : 4294967296 ^ (T - 1) ≤ dv 4294967296 W T := dv_le (by omega) (by omega)
  have e2 : 4294967296 ^ (T - 1) = 2 ^ 1024 * 4294967296 ^ (T - 33) := by
    rw [show (2 : Nat) ^ 1024 = 4294967296 ^ 32 by decide +kernel, ← Nat.pow_add]; congr 1; omega
  have e3 : 2 ^ 1024 * 10 ^ 1125 * 4294967296 ^ (T - 33) ≤ G * 4294967296 ^ (T - 33) := by
    rw [← h6, Nat.mul_right_comm, ← e2]
    exact Nat.le_trans (Nat.mul_le_mul_right _ e1) (Nat.le_add_right _ _)
  exact Nat.le_of_mul_le_mul_right e3 (Nat.pow_pos (by omega))
