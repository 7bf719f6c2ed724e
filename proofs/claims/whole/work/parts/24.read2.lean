/-! small rows for reading -/
def fl (f : Nat → Nat) (v i : Nat) : Nat → Nat := fun j => if j < i then v else f j
theorem fl_0 (f : Nat → Nat) (v : Nat) : fl f v 0 = f := by funext j; unfold fl; rw [if_neg (by omega)]
theorem fl_s (f : Nat → Nat) (v i : Nat) : un (fl f v i) i v = fl f v (i + 1) := by
  funext j; unfold un fl
  by_cases h : j = i
  · rw [if_pos h, if_pos (by omega)]
  · rw [if_neg h]
    by_cases h2 : j < i
    · show (if j < i then v else f j) = _
      rw [if_pos h2, if_pos (by omega)]
    · show (if j < i then v else f j) = _
      rw [if_neg h2, if_neg (by omega)]
def apL (len : Nat) : Nat := if len < 800 then len + 1 else len
def apF (f : Nat → Nat) (len d : Nat) : Nat → Nat := if len < 800 then un f len d else f
theorem apL_p {len : Nat} (h : len < 800) : apL len = len + 1 := if_pos h
theorem apF_p {f : Nat → Nat} {len d : Nat} (h : len < 800) : apF f len d = un f len d := if_pos h
theorem apL_q {len : Nat} (h : ¬ len < 800) : apL len = len := if_neg h
theorem apF_q {f : Nat → Nat} {len d : Nat} (h : ¬ len < 800) : apF f len d = f := if_neg h
theorem RS_ap {R : Nat → Nat} {s j len : Nat} {pl : Int} {f : Nat → Nat} (hs : s ≤ j) (h : RS R s j len pl f) (hd : len ≠ 0 ∨ ge R j ≠ 0) : RS R s (j + 1) (apL len) pl (apF f len (ge R j)) := by
  by_cases q : len < 800
  · rw [apL_p q, apF_p q]; exact RS_app hs h hd q
  · rw [apL_q q, apF_q q]; exact RS_full h (by omega)
def uk (k : Nat) : Nat := 100000000 / 10 ^ k
theorem uk_0 : uk 0 = 100000000 := rfl
theorem uk_9 : uk 9 = 0 := by decide
theorem uk_s (k : Nat) : uk k / 10 = uk (k + 1) := by unfold uk; rw [Nat.div_div_eq_div_mul, ← Nat.pow_succ]
theorem uk_le (k : Nat) : uk k ≤ 100000000 := Nat.div_le_self _ _
theorem uk_e {k : Nat} (h : k < 9) : uk k = 10 ^ (8 - k) := by
  have h2 : ∀ j : Fin 9, uk j.val = 10 ^ (8 - j.val) := by decide
  exact h2 ⟨k, h⟩
theorem uk_pos {k : Nat} (h : k < 9) : 0 < uk k := by rw [uk_e h]; exact Nat.pow_pos (by omega)
theorem uk_ge {R : Nat → Nat} {i k : Nat} (h : k < 9) : R i / uk k % 10 = ge R (9 * i + k) := by
  rw [uk_e h]; unfold ge
  rw [show (9 * i + k) / 9 = i by omega, show (9 * i + k) % 9 = k by omega]
/-- what read leaves -/
def Rd (R : Nat → Nat) (len : Nat) (pl : Int) (f : Nat → Nat) : Prop := Kd f len pl ∧ -1125 ≤ pl ∧ pl ≤ 315 ∧ (dv 1000000000 R 160 = 0 → len = 0) ∧ (dv 1000000000 R 160 ≠ 0 → 0 < len ∧ sv 1125 f len pl = dv 1000000000 R 160 ∧ (len : Int) ≤ pl + 1125)
theorem Rd_of {R : Nat → Nat} {fi en i len : Nat} {pl : Int} {f : Nat → Nat} (hG : Gd R fi en) (hi : i = max fi en) (h : RS R (9 * fi) (9 * i) len pl f) (hno : ∀ j0, ge R j0 ≠ 0 → (∀ i, i < j0 → ge R i = 0) → 9 * en ≤ j0 + 800) : Rd R (dz f len) (dnP f len pl) f := by
  obtain ⟨g1, g2, g3, g4, g5⟩ := hG
  have hlen := RS_len h
  have hpl := RS_pl (by omega) h
  have hdz := dz_le f len
  have hP : -1125 ≤ dnP f len pl ∧ dnP f len pl ≤ 315 := by unfold dnP; split <;> omega
  have hz0 : dz f len = 0 → dnP f len pl = 0 := fun q => by unfold dnP; exact if_pos q
  by_cases hfe : fi ≤ en
  · have e : i = en := by omega
    rw [e] at h
    obtain ⟨n1, n2, n3, n4⟩ := RS_val g1 g2 g3 g4 hfe h hno
    have hdp : 0 < dz f len → dnP f len pl = pl := fun q => by unfold dnP; exact if_neg (by omega)
    refine ⟨⟨h.1, by omega, fun q => ⟨by have := (n1.2 q).1; omega, by have := (n1.2 q).2; omega⟩, hz0⟩, hP.1, hP.2, fun q => ?_, fun q => ?_⟩
    · by_cases z : dz f len = 0
      · exact z
      · have n5 := n3 (by omega)
        have n6 : 10 ^ (pl - 1 + 1125).toNat ≤ sv 1125 f (dz f len) pl := sv_lo n1 (by omega) n4
        rw [n5, q] at n6
        have := Nat.pow_pos (n := (pl - 1 + 1125).toNat) (show 0 < 10 by omega)
        omega
    · have z : 0 < dz f len := by
        by_cases z : dz f len = 0
        · exact absurd (n2 z) q
        · omega
      rw [hdp z]
      exact ⟨z, n3 z, n4⟩
  · have e : i = fi := by omega
    rw [e] at h
    have hl0 : len = 0 := by
      obtain ⟨-, h | ⟨j0, a, b, -⟩⟩ := h
      · exact h.1
      · omega
    have hz : dz f len = 0 := by omega
    have hv : dv 1000000000 R 160 = 0 := dv_z (fun k hk => by
      by_cases q : k < fi
      · exact g2 k q
      · exact g3 k (by omega) hk)
    refine ⟨⟨h.1, by omega, fun q => by omega, hz0⟩, hP.1, hP.2, fun _ => hz, fun q => absurd hv q⟩
