/-! the tie of class and reference: what holds between two calls of the law -/
def Tie (c : Nat) (mi : Bool) (zr : Nat) (pt : Int) (len : Nat) (pl : Int) (f : Nat → Nat) (mj : Bool) (zs : Nat) (pu : Int) (lem : Nat) (pm : Int) (d : Nat → Nat) : Prop :=
  mi = mj ∧ zr = zs ∧ pt = pu ∧ len = lem ∧ pl = pm ∧ Kd f len pl ∧ Kd d len pl ∧ (∀ i, i < len → f i = d i) ∧ zr ≤ 800 ∧ (len = 0 → zr = 0) ∧ (-1001 ≤ pt ∧ pt ≤ 1000) ∧ (-1125 ≤ pl ∧ pl ≤ 1000 + (c : Int))
theorem Tie_0 : Tie 0 false 0 0 0 0 (fun _ => 0) false 0 0 0 0 (fun _ => 0) :=
  ⟨rfl, rfl, rfl, rfl, rfl, ⟨fun _ => Nat.zero_le 9, by omega, fun q => by omega, fun _ => rfl⟩, ⟨fun _ => Nat.zero_le 9, by omega, fun q => by omega, fun _ => rfl⟩, fun _ _ => rfl, by omega, fun _ => rfl, by omega, by omega⟩
section Tie
variable {c : Nat} {mi mj : Bool} {zr zs : Nat} {pt pu : Int} {len lem : Nat} {pl pm : Int} {f d : Nat → Nat}
theorem Tie_s (h : Tie c mi zr pt len pl f mj zs pu lem pm d) : Tie (c + 1) mi zr pt len pl f mj zs pu lem pm d := by
  obtain ⟨a1, a2, a3, a4, a5, k1, k2, hfd, z1, z2, p1, p2⟩ := h
  exact ⟨a1, a2, a3, a4, a5, k1, k2, hfd, z1, z2, p1, by omega⟩
theorem Tie_set {M : Nat} {p : Int} {l1 l2 : Nat} {p1 p2 : Int} {g1 g2 : Nat → Nat} (b : Bool) (h1 : Sp M p l1 p1 g1) (h2 : Sp M p l2 p2 g2) : Tie c b 0 0 l1 p1 g1 b 0 0 l2 p2 g2 := by
  obtain ⟨e1, e2, h3⟩ := Sp_one h1 h2
  have k2 := h2.1
  rw [← e1, ← e2] at k2
  exact ⟨rfl, rfl, rfl, e1, e2, h1.1, k2, h3, by omega, fun _ => rfl, by omega, h1.2.1, by have := h1.2.2.1; omega⟩
theorem Tie_cut (h : Tie c mi zr pt len pl f mj zs pu lem pm d) (z : Int) : Tie (c + 1) mi 0 0 (cL f len z) (cP f len z pl) (cF f len z) mj 0 0 (cL d lem z) (cP d lem z pm) (cF d lem z) := by
  obtain ⟨a1, -, -, rfl, rfl, k1, k2, hfd, -, -, -, q1, q2⟩ := h
  obtain ⟨e1, e2, e3⟩ := c_cg (z := z) (p := pl) hfd
  refine ⟨a1, rfl, rfl, e1, e2, Kd_cut k1, ?_, e3, by omega, fun _ => rfl, by omega, ?_⟩
  · rw [e1, e2]; exact Kd_cut k2
  · have h9 := cP_rng (f := f) (len := len) (z := z) (p := pl) (lo := -1125) (hi := 1000 + (c : Int)) (by omega) (by omega) q1 q2
    omega
theorem Tie_cg {e : Nat → Nat} (h : Tie c mi zr pt len pl f mj zs pu lem pm d) (h1 : ∀ i, i < lem → e i = d i) (h2 : ∀ i, e i ≤ 9) : Tie c mi zr pt len pl f mj zs pu lem pm e := by
  obtain ⟨a1, a2, a3, rfl, a5, k1, k2, hfd, z1, z2, p1, p2⟩ := h
  refine ⟨a1, a2, a3, rfl, a5, k1, ⟨h2, k2.2.1, fun q => ?_, k2.2.2.2⟩, fun i hi => by rw [h1 i hi]; exact hfd i hi, z1, z2, p1, p2⟩
  rw [h1 0 q, h1 (len - 1) (by omega)]
  exact k2.2.2.1 q
theorem Tie_clear (h : Tie c mi zr pt len pl f mj zs pu lem pm d) (sg : Bool) {a : Int} (ha : -1000 ≤ a ∧ a ≤ 1000) : Tie (c + 1) sg 0 a 0 0 f sg 0 a 0 0 d := by
  obtain ⟨-, -, -, -, -, k1, k2, -, -, -, -, -⟩ := h
  exact ⟨rfl, rfl, rfl, rfl, rfl, ⟨k1.1, by omega, fun q => by omega, fun _ => rfl⟩, ⟨k2.1, by omega, fun q => by omega, fun _ => rfl⟩, fun i q => by omega, by omega, fun _ => rfl, by omega, by omega⟩
theorem Tie_d0 (h : Tie c mi zr pt len pl f mj zs pu lem pm d) (hp : ¬ pt < -1000) : Tie (c + 1) mi zr (pt - 1) len pl f mj zs (pu - 1) lem pm d := by
  obtain ⟨a1, a2, rfl, a4, a5, k1, k2, hfd, z1, z2, p1, p2⟩ := h
  exact ⟨a1, a2, rfl, a4, a5, k1, k2, hfd, z1, z2, by omega, by omega⟩
theorem Tie_dz (h : Tie c mi zr pt len pl f mj zs pu lem pm d) (h0 : len ≠ 0) (h8 : ¬ 800 ≤ len + zr) : Tie (c + 1) mi (zr + 1) pt len pl f mj (zs + 1) pu lem pm d := by
  obtain ⟨a1, rfl, a3, a4, a5, k1, k2, hfd, z1, z2, p1, p2⟩ := h
  exact ⟨a1, rfl, a3, a4, a5, k1, k2, hfd, by omega, fun q => absurd q h0, p1, by omega⟩
theorem Kd_dn {a : Nat} {q : Int} (hf : ∀ i, f i ≤ 9) (ha : a ≠ 0) (h9 : a ≤ 9) (h8 : len + zr + 1 ≤ 800) (h0 : 0 < len → f 0 ≠ 0) (hz : len = 0 → zr = 0) : Kd (un (zf f len zr) (len + zr) a) (len + zr + 1) q := by
  refine ⟨fun i => ?_, h8, fun _ => ⟨?_, ?_⟩, fun w => by omega⟩
  · unfold un zf
    split
    · exact h9
    · split
      · omega
      · exact hf i
  · unfold un zf
    by_cases e : len = 0
    · rw [if_pos (by have := hz e; omega)]; exact ha
    · rw [if_neg (by omega), if_neg (by omega)]; exact h0 (by omega)
  · rw [Nat.add_sub_cancel]
    unfold un
    rw [if_pos rfl]; exact ha
/-- the first digit that is not 0 -/
theorem Tie_dn0 {a : Nat} (h : Tie c mi zr pt len pl f mj zs pu lem pm d) (hl : len = 0) (ha : a ≠ 0) (h9 : a ≤ 9) : Tie (c + 1) mi 0 pt (len + zr + 1) (if len = 0 then pt else pl) (un (zf f len zr) (len + zr) a) mj 0 pu 1 pu (un d 0 a) := by
  obtain ⟨a1, rfl, rfl, rfl, rfl, k1, k2, hfd, z1, z2, p1, p2⟩ := h
  obtain rfl : zr = 0 := z2 hl
  subst hl
  have e1 := Kd_dn (q := pt) (f := f) (len := 0) (zr := 0) k1.1 ha h9 (by omega) (fun w => by omega) (fun _ => rfl)
  have e2 := Kd_dn (q := pt) (f := d) (len := 0) (zr := 0) k2.1 ha h9 (by omega) (fun w => by omega) (fun _ => rfl)
  rw [zf_0] at e1 e2
  rw [zf_0, if_pos rfl]
  refine ⟨a1, rfl, rfl, rfl, rfl, e1, e2, fun i hi => ?_, by omega, fun _ => rfl, p1, by omega⟩
  have : i = 0 := by omega
  subst this
  rfl
theorem Tie_dn1 {a : Nat} (h : Tie c mi zr pt len pl f mj zs pu lem pm d) (hl : len ≠ 0) (h8 : ¬ 800 ≤ len + zr) (ha : a ≠ 0) (h9 : a ≤ 9) : Tie (c + 1) mi 0 pt (len + zr + 1) (if len = 0 then pt else pl) (un (zf f len zr) (len + zr) a) mj 0 pu (lem + zs + 1) pm (un (zf d lem zs) (lem + zs) a) := by
  obtain ⟨a1, rfl, rfl, rfl, rfl, k1, k2, hfd, z1, z2, p1, p2⟩ := h
  have e1 := Kd_dn (q := pl) (zr := zr) (len := len) k1.1 ha h9 (by omega) (fun w => (k1.2.2.1 w).1) (fun w => absurd w hl)
  have e2 := Kd_dn (q := pl) (zr := zr) (len := len) k2.1 ha h9 (by omega) (fun w => (k2.2.2.1 w).1) (fun w => absurd w hl)
  rw [if_neg hl]
  refine ⟨a1, rfl, rfl, rfl, rfl, e1, e2, fun i hi => ?_, by omega, fun _ => rfl, p1, by omega⟩
  unfold un zf
  split
  · rfl
  · split
    · rfl
    · exact hfd i (by omega)
end Tie
/-- both sides find the same number of digits -/
theorem En_one {f d : Nat → Nat} {len : Nat} {pl : Int} {r n1 n2 : Nat} (hK : Kd f len pl) (hfd : ∀ i, i < len → f i = d i) (h0 : r ≠ 0) (h1 : r < INF) (hN : Ne f len pl r) (hA : 0 < n1 ∧ n1 ≤ len ∧ ∃ L H : Nat, L * 2 ^ 1075 = md (r - 1) * 10 ^ 1200 ∧ H * 2 ^ 1075 = md r * 10 ^ 1200 ∧ (∀ m, 0 < m → m < n1 → ¬ H1 f len pl L H (decide (r % 2 = 0)) m) ∧ (n1 < len → H1 f len pl L H (decide (r % 2 = 0)) n1)) (hB : En d len pl r n2) : n1 = n2 := by
  obtain ⟨p0, p1, L, H, hL, hH, hmin, hat⟩ := hA
  obtain ⟨q0, q1, L2, H2', hL2, hH2, hmin2, hat2⟩ := hB
  have ht : 0 < 2 ^ 1075 := Nat.pow_pos (by omega)
  have eL : L2 = L := Nat.eq_of_mul_eq_mul_right ht (hL2.trans hL.symm)
  have eH : H2' = H := Nat.eq_of_mul_eq_mul_right ht (hH2.trans hH.symm)
  subst eL eH
  have hNs : 0 < len ∧ -330 ≤ pl ∧ pl ≤ 310 ∧ Ns (sv 1200 f len pl) r := by
    rcases hN with ⟨_, w⟩ | ⟨_, _, w⟩ | ⟨_, _, w⟩ | w
    · exact absurd w h0
    · exact absurd w h0
    · exact absurd w (Nat.ne_of_lt h1)
    · exact w
  obtain ⟨hl, b1, b2, hNs⟩ := hNs
  have hNr : Near (sv 1200 f len pl * 2 ^ 1075) (10 ^ 1200) r := by
    rcases hNs with ⟨_, w⟩ | ⟨w, _⟩
    · exact w
    · exact absurd w (Nat.ne_of_lt h1)
  obtain ⟨n_1, n_2⟩ := hNr
  rw [← hH] at n_1
  rw [← hL] at n_2
  have gH : sv 1200 f len pl < H2' ∨ sv 1200 f len pl = H2' ∧ decide (r % 2 = 0) = true := by
    rcases n_1 with w | ⟨w, v⟩
    · exact Or.inl (Nat.lt_of_mul_lt_mul_right w)
    · exact Or.inr ⟨Nat.eq_of_mul_eq_mul_right ht w, decide_eq_true v⟩
  have gL : L2 < sv 1200 f len pl ∨ L2 = sv 1200 f len pl ∧ decide (r % 2 = 0) = true := by
    rcases n_2 with w | w | ⟨w, v⟩
    · exact absurd w h0
    · exact Or.inl (Nat.lt_of_mul_lt_mul_right w)
    · exact Or.inr ⟨(Nat.eq_of_mul_eq_mul_right ht w).symm, decide_eq_true v⟩
  have key : ∀ m, 0 < m → m < len → (H1 f len pl L2 H2' (decide (r % 2 = 0)) m ↔ H2 d len pl L2 H2' (decide (r % 2 = 0)) m) := by
    intro m m0 m1
    have w := H1_H2 (n := m) hK.1 (hK.2.2.1 hl).1 m0 m1 (by have := hK.2.1; omega) gL gH
    rw [w]
    unfold H2
    rw [Tv_cg m1 hfd]
  by_cases e : n1 = n2
  · exact e
  · exfalso
    by_cases g : n1 < n2
    · exact hmin2 n1 p0 g ((key n1 p0 (by omega)).mp (hat (by omega)))
    · exact hmin n2 q0 (by omega) ((key n2 q0 (by omega)).mpr (hat2 (by omega)))
