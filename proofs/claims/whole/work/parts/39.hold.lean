/-! n digits that hold -/
theorem up_cg {f g : Nat → Nat} {n : Nat} {p : Int} (h : ∀ i, i < n → f i = g i) : upL f n = upL g n ∧ upP f n p = upP g n p ∧ ∀ i, i < upL f n → upF f n i = upF g n i := by
  have e3 : dn f n = dn g n := dn_cg h
  have e4 := dn_le f n
  unfold upL upP upF
  rw [← e3]
  by_cases h0 : dn f n = 0
  · rw [if_pos h0, if_pos h0, if_pos h0, if_pos h0]
    refine ⟨rfl, rfl, fun i hi => ?_⟩
    have : i = 0 := by omega
    rw [this, un_at, un_at]
  · rw [if_neg h0, if_neg h0, if_neg h0, if_neg h0]
    refine ⟨rfl, rfl, fun i hi => ?_⟩
    by_cases e : i = dn f n - 1
    · rw [e, un_at, un_at, h _ (by omega)]
    · rw [un_ne _ e, un_ne _ e, h i (by omega)]
/-- the value of the cut, from any row that begins alike -/
theorem cut_val {f g : Nat → Nat} {len n : Nat} {p : Int} (h : ∀ i, i < n → g i = f i) : sv 1200 (if gu f len n = true then upF g n else g) (if gu f len n = true then upL g n else dz g n) (if gu f len n = true then upP g n p else dnP g n p) = sv 1200 (ctF f len n) (ctL f len n) (ctP f len n p) := by
  unfold ctF ctL ctP
  by_cases q : gu f len n = true
  · rw [if_pos q, if_pos q, if_pos q, if_pos q, if_pos q, if_pos q]
    obtain ⟨a, b, c⟩ := up_cg (p := p) h
    rw [← a, ← b]
    exact sv_eq c
  · rw [if_neg q, if_neg q, if_neg q, if_neg q, if_neg q, if_neg q]
    have a := dz_cg h
    have b := dz_le f n
    have c : dnP g n p = dnP f n p := by unfold dnP; rw [a]
    rw [c, a]
    exact sv_eq (fun i hi => h i (by omega))
theorem cut_nrm {g : Nat → Nat} {n : Nat} {u : Bool} (h9 : ∀ i, g i ≤ 9) (hn : 0 < n) (h0 : g 0 ≠ 0) : (∀ i, (if u = true then upF g n else g) i ≤ 9) ∧ Nrm (if u = true then upF g n else g) (if u = true then upL g n else dz g n) ∧ 0 < (if u = true then upL g n else dz g n) ∧ (if u = true then upL g n else dz g n) ≤ n := by
  cases u with
  | true =>
    rw [if_pos rfl, if_pos rfl]
    have a := upF_9 (n := n) h9
    exact ⟨a, ⟨fun i _ => by have := a i; omega, fun _ => ⟨by have := upF_0 (n := n) (fun _ => h0); omega, by have := upF_last g n; omega⟩⟩, upL_pos g n, upL_le' g hn⟩
  | false =>
    have e : ¬ false = true := by decide
    rw [if_neg e, if_neg e]
    have hz : 0 < dz g n := by
      by_cases q : dz g n = 0
      · exact absurd (dz_rest g n 0 (by omega) hn) h0
      · omega
    exact ⟨h9, ⟨fun i _ => by have := h9 i; omega, fun _ => ⟨by omega, by have := dz_last g n hz; omega⟩⟩, hz, dz_le g n⟩
theorem cut_pl {g : Nat → Nat} {n : Nat} {u : Bool} {p : Int} (hn : 0 < n) (h0 : g 0 ≠ 0) : p ≤ (if u = true then upP g n p else dnP g n p) ∧ (if u = true then upP g n p else dnP g n p) ≤ p + 1 := by
  cases u with
  | true => rw [if_pos rfl]; unfold upP; split <;> omega
  | false =>
    rw [if_neg (by decide)]
    unfold dnP
    have hz : ¬ dz g n = 0 := fun q => absurd (dz_rest g n 0 (by omega) hn) h0
    rw [if_neg hz]; omega
def Tv (f : Nat → Nat) (len : Nat) (p : Int) (n : Nat) : Nat := sv 1200 (ctF f len n) (ctL f len n) (ctP f len n p)
/-- the class's test, of one side -/
def H1 (f : Nat → Nat) (len : Nat) (p : Int) (L H : Nat) (ev : Bool) (n : Nat) : Prop := if gu f len n = true then (if ev = true then Tv f len p n ≤ H else Tv f len p n < H) else (if ev = true then L ≤ Tv f len p n else L < Tv f len p n)
/-- the test of both sides -/
def H2 (f : Nat → Nat) (len : Nat) (p : Int) (L H : Nat) (ev : Bool) (n : Nat) : Prop := (L < Tv f len p n ∨ L = Tv f len p n ∧ ev = true) ∧ (Tv f len p n < H ∨ Tv f len p n = H ∧ ev = true)
theorem H1_H2 {f : Nat → Nat} {len : Nat} {p : Int} {L H : Nat} {ev : Bool} {n : Nat} (hf : ∀ i, f i ≤ 9) (h0 : f 0 ≠ 0) (hn1 : 0 < n) (hn : n < len) (hp : (len : Int) ≤ p + 1200) (hL : L < sv 1200 f len p ∨ L = sv 1200 f len p ∧ ev = true) (hH : sv 1200 f len p < H ∨ sv 1200 f len p = H ∧ ev = true) : H1 f len p L H ev n ↔ H2 f len p L H ev n := by
  unfold H1 H2 Tv
  by_cases hg : gu f len n = true
  · have h1 := ct_up (K := 1200) hf hn hp hg
    rw [if_pos hg]
    generalize sv 1200 (ctF f len n) (ctL f len n) (ctP f len n p) = T at *
    cases ev with
    | true =>
      rw [if_pos rfl]
      constructor
      · intro q; exact ⟨Or.inl (by omega), by
          by_cases z : T < H
          · exact Or.inl z
          · exact Or.inr ⟨by omega, rfl⟩⟩
      · intro q; omega
    | false =>
      rw [if_neg (by decide)]
      constructor
      · intro q; exact ⟨Or.inl (by omega), Or.inl q⟩
      · intro ⟨_, q⟩
        rcases q with q | ⟨_, q⟩
        · exact q
        · cases q
  · have hz : 0 < dz f n := by
      by_cases q : dz f n = 0
      · exact absurd (dz_rest f n 0 (by omega) hn1) h0
      · omega
    have h1 := ct_dn (K := 1200) hf hn hp hz hg
    rw [if_neg hg]
    generalize sv 1200 (ctF f len n) (ctL f len n) (ctP f len n p) = T at *
    cases ev with
    | true =>
      rw [if_pos rfl]
      constructor
      · intro q; exact ⟨by
          by_cases z : L < T
          · exact Or.inl z
          · exact Or.inr ⟨by omega, rfl⟩, by
          by_cases z : T < H
          · exact Or.inl z
          · exact Or.inr ⟨by omega, rfl⟩⟩
      · intro q; omega
    | false =>
      rw [if_neg (by decide)]
      have hH2 : sv 1200 f len p < H := by
        rcases hH with q | ⟨_, q⟩
        · exact q
        · cases q
      constructor
      · intro q; exact ⟨Or.inl q, Or.inl (by omega)⟩
      · intro ⟨q, _⟩
        rcases q with q | ⟨_, q⟩
        · exact q
        · cases q
/-- a decimal that is m * 2 ** p -/
def Mid (r : Nat) (f : Nat → Nat) (len : Nat) (pl : Int) : Prop := Kd f len pl ∧ 0 < len ∧ -1125 ≤ pl ∧ pl ≤ 315 ∧ (len : Int) ≤ pl + 1125 ∧ sv 1200 f len pl * 2 ^ 1075 = md r * 10 ^ 1200
theorem Mid_of {r : Nat} {f : Nat → Nat} {len : Nat} {pl : Int} (h : Sp (2 * fc r + 1) (((pw r : Nat) : Int) - 1075) len pl f) : Mid r f len pl := by
  obtain ⟨a, b, c, -, e⟩ := h
  obtain ⟨e1, e2, e3⟩ := e (by omega)
  refine ⟨a, e1, b, c, e3, ?_⟩
  rw [sv_75 e3]
  have q1 : (((pw r : Nat) : Int) - 1075 + 1076).toNat = pw r + 1 := by omega
  rw [q1] at e2
  have q2 : sv 1125 f len pl * 2 ^ 1075 = md r * 10 ^ 1125 := by
    apply Nat.eq_of_mul_eq_mul_right (show 0 < 2 by omega)
    have q3 : sv 1125 f len pl * 2 ^ 1075 * 2 = sv 1125 f len pl * 2 ^ 1076 := by rw [Nat.mul_assoc, ← Nat.pow_succ]
    rw [q3, e2]
    unfold md
    rw [Nat.pow_succ, ← Nat.mul_assoc, Nat.mul_right_comm]
  have q4 : (10 : Nat) ^ 1200 = 10 ^ 1125 * 10 ^ 75 := by rw [← Nat.pow_add]
  rw [q4, Nat.mul_right_comm, q2, Nat.mul_assoc]
