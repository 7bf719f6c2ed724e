/-! one scale for both sides; the static row of units -/
theorem near_scale {X U r k : Nat} (hk : 0 < k) (h : Near X U r) : Near (X * k) (U * k) r := by
  have e : ∀ c, c * (U * k) = c * U * k := fun c => (Nat.mul_assoc _ _ _).symm
  obtain ⟨h1, h2⟩ := h
  refine ⟨?_, ?_⟩
  · rw [e]
    rcases h1 with h1 | ⟨h1, h3⟩
    · exact Or.inl (Nat.mul_lt_mul_of_pos_right h1 hk)
    · exact Or.inr ⟨by rw [h1], h3⟩
  · rw [e]
    rcases h2 with h2 | h2 | ⟨h2, h3⟩
    · exact Or.inl h2
    · exact Or.inr (Or.inl (Nat.mul_lt_mul_of_pos_right h2 hk))
    · exact Or.inr (Or.inr ⟨by rw [h2], h3⟩)
def Ns (G r : Nat) : Prop := (r < INF ∧ Near (G * 2 ^ 1075) (10 ^ 1200) r) ∨ (r = INF ∧ md (INF - 1) * 10 ^ 1200 ≤ G * 2 ^ 1075)
theorem Ns_of {G r : Nat} (h : Nr G r) : Ns (G * 10 ^ 75) r := by
  have hk : 0 < 10 ^ 75 := Nat.pow_pos (by omega)
  have e : (10 : Nat) ^ 1200 = 10 ^ 1125 * 10 ^ 75 := by rw [← Nat.pow_add]
  rcases h with ⟨h1, h2⟩ | ⟨h1, h2⟩
  · refine Or.inl ⟨h1, ?_⟩
    rw [e, Nat.mul_right_comm]
    exact near_scale hk h2
  · refine Or.inr ⟨h1, ?_⟩
    rw [e, Nat.mul_right_comm G, ← Nat.mul_assoc]
    exact Nat.mul_le_mul_right _ h2
theorem Ns_one {G r t : Nat} (h1 : Ns G r) (h2 : Ns G t) : r = t := by
  have hU : 0 < 10 ^ 1200 := Nat.pow_pos (by omega)
  have e1 : INF - 1 = 9218868437227405311 := by decide +kernel
  have e2 : INF = 9218868437227405312 := rfl
  rcases h1 with ⟨a1, a2⟩ | ⟨a1, a2⟩
  · rcases h2 with ⟨b1, b2⟩ | ⟨b1, b2⟩
    · exact near_one hU a2 b2
    · rw [e1] at b2
      have := (near_inf hU a2).mpr b2
      omega
  · rcases h2 with ⟨b1, b2⟩ | ⟨b1, b2⟩
    · rw [e1] at a2
      have := (near_inf hU b2).mpr a2
      omega
    · rw [a1, b1]
def Ne (f : Nat → Nat) (len : Nat) (pl : Int) (r : Nat) : Prop := (len = 0 ∧ r = 0) ∨ (0 < len ∧ pl < -330 ∧ r = 0) ∨ (0 < len ∧ 310 < pl ∧ r = INF) ∨ (0 < len ∧ -330 ≤ pl ∧ pl ≤ 310 ∧ Ns (sv 1200 f len pl) r)
theorem Ne_one {f g : Nat → Nat} {len : Nat} {pl : Int} {r t : Nat} (hfg : ∀ i, i < len → f i = g i) (h1 : Ne f len pl r) (h2 : Ne g len pl t) : r = t := by
  have e := sv_eq (K := 1200) (p := pl) hfg
  rcases h1 with h1 | h1 | h1 | ⟨a, b, c, h1⟩ <;> rcases h2 with h2 | h2 | h2 | ⟨a', b', c', h2⟩ <;> try omega
  rw [e] at h1
  exact Ns_one h1 h2
theorem small_324 : 10 ^ 876 * 2 ^ 1075 < 10 ^ 1200 := by decide +kernel
theorem big_309 : 2 ^ 1024 * 10 ^ 1200 ≤ 10 ^ 1509 := by decide +kernel
theorem Ns_low {f : Nat → Nat} {len : Nat} {pl : Int} (hN : Nrm f len) (hp : (len : Int) ≤ pl + 1200) (h : pl ≤ -324) : Ns (sv 1200 f len pl) 0 := by
  refine Or.inl ⟨by decide, ?_⟩
  have e : md 0 = 1 := by decide
  refine ⟨Or.inl ?_, Or.inl rfl⟩
  rw [e, Nat.one_mul]
  have h1 := sv_hi (K := 1200) hN hp
  have h2 : sv 1200 f len pl ≤ 10 ^ 876 := Nat.le_trans (Nat.le_of_lt h1) (Nat.pow_le_pow_right (by omega) (by omega))
  exact Nat.lt_of_le_of_lt (Nat.mul_le_mul_right _ h2) small_324
theorem Ns_high {f : Nat → Nat} {len : Nat} {pl : Int} (hN : Nrm f len) (h0 : 0 < len) (hp : (len : Int) ≤ pl + 1200) (h : 310 ≤ pl) : Ns (sv 1200 f len pl) INF := by
  refine Or.inr ⟨rfl, ?_⟩
  have h1 := sv_lo (K := 1200) hN h0 hp
  have h2 : 10 ^ 1509 ≤ sv 1200 f len pl := Nat.le_trans (Nat.pow_le_pow_right (by omega) (by omega)) h1
  calc md (INF - 1) * 10 ^ 1200 ≤ 2 ^ 1024 * 2 ^ 1075 * 10 ^ 1200 := Nat.mul_le_mul_right _ md_inf
    _ = 2 ^ 1024 * 10 ^ 1200 * 2 ^ 1075 := Nat.mul_right_comm _ _ _
    _ ≤ 10 ^ 1509 * 2 ^ 1075 := Nat.mul_le_mul_right _ big_309
    _ ≤ _ := Nat.mul_le_mul_right _ h2
theorem sv_75 {f : Nat → Nat} {len : Nat} {pl : Int} (hp : (len : Int) ≤ pl + 1125) : sv 1200 f len pl = sv 1125 f len pl * 10 ^ 75 := by
  unfold sv
  rw [Nat.mul_assoc, ← Nat.pow_add]
  congr 2; omega
theorem int_309 {R : Nat → Nat} {f : Nat → Nat} {len : Nat} {pl : Int} (hR : ∀ i, R i < 1000000000) (hN : Nrm f len) (hp : (len : Int) ≤ pl + 1125) (h : pl ≤ 309) (hv : dv 1000000000 R 160 = sv 1125 f len pl) : dv 1000000000 R 35 < 4294967296 ^ 33 := by
  have h1 := sv_hi (K := 1125) hN hp
  rw [← hv] at h1
  have h2 := dv_ts 1000000000 R 35 125
  rw [show 35 + 125 = 160 by omega, B_125] at h2
  have h3 : (10 : Nat) ^ (pl + 1125).toNat ≤ 10 ^ 309 * 10 ^ 1125 := by
    rw [← Nat.pow_add]; exact Nat.pow_le_pow_right (by omega) (by omega)
  have h4 : dv 1000000000 R 35 * 10 ^ 1125 < 10 ^ 309 * 10 ^ 1125 := by
    have h6 : dv 1000000000 R 35 * 10 ^ 1125 ≤ dv 1000000000 R 160 := by rw [h2]; exact Nat.le_add_right _ _
    exact Nat.lt_of_le_of_lt h6 (Nat.lt_of_lt_of_le h1 h3)
  have h5 : dv 1000000000 R 35 < 10 ^ 309 := Nat.lt_of_mul_lt_mul_right h4
  exact Nat.lt_trans h5 (by decide +kernel)
/-- the static row: powers of ten -/
def XU : (Nat → Prop) → State → Prop := fun A U => ∃ t : Nat, va_Z "DecimalTruth$Groups" "UNITS" "[J" (.ref t) A U U.heap ∧ va_T .long t 9 (fun j => .long (zj ((10 ^ (8 - j) : Nat) : Int))) A U U.heap
theorem XU_bl : Xbl XU := by
  intro A U g mk a h
  obtain ⟨t, h1, h2⟩ := h
  exact ⟨t, va_Z.moved (u := U) (U := U.calling g mk a) (Vm.Alike.refl U.vm) h1, va_T.moved (u := U) (U := U.calling g mk a) (Vm.Alike.refl U.vm) h2⟩
theorem XU_ok {K : Kx} (h : Xk K XU) : Xok K XU := by
  obtain ⟨p, l, e, R, s, m, args, below, meth, c, D, A, Q⟩ := K
  obtain ⟨t, h1, h2⟩ := h
  intro H locs B U hS hB hU hW
  refine ⟨t, ?_, ?_⟩
  · rw [hU]
    exact va_Z.moved hW.alike ((va_Z.kept h1 hS.2.1).narrow hB)
  · rw [hU]
    exact va_T.moved hW.alike ((va_T.kept h2 hS.2.1).narrow hB)
section UnitRules
variable {K : Kx} {cI cJ : ClassId} {cc : ByteArray} {nL : Nat} {own : String} {rm : Room} {ws : va_W} {k n pc : Nat} {lv : List (Nat × Value)} {st : List Value}
theorem qv_units (C : Cx K cI cJ cc nL own rm) {ix : Nat} (hX : Xk K XU) (hlk : Cond.fieldLink own ix "DecimalTruth$Groups" "UNITS" "[J" ∈ al) (d : decode cc pc = .ok (.getstatic ix, 3))
    (h : ∀ t : Nat, (∀ {pc' k' n' : Nat} {lv' : List (Nat × Value)} {st' : List Value} {ws' : va_W} {z : Int} (i : Nat), z = (i : Int) → i < 9 → decode cc pc' = .ok (.laload, 1) → V K nL ws' k' n' (pc' + 1) lv' (vj ((10 ^ (8 - i) : Nat) : Int) :: st') → V K nL ws' k' n' pc' lv' (vi z :: .ref t :: st')) → V K nL ws k n (pc + 3) lv (.ref t :: st)) : V K nL ws k n pc lv st := by
  obtain ⟨p, l, e, R, s, m, args, below, meth, c, D, A, Q⟩ := K
  obtain ⟨hx, hb, hml, hown, hts, hK, hA, hR, hnw⟩ := C
  obtain ⟨t, h1, h2⟩ := hX
  intro H locs ls hP hD hS hl
  refine va_gets hx hb h1 hS hown (hts _ hlk) (fun _ h => h) d (h t ?_ H locs ls hP hD hS hl)
  intro pc' k' n' lv' st' ws' z i hz hi d2 h3 H2 locs2 ls2 hP2 hD2 hS2 hl2
  subst hz
  refine va_tl hx hb h2 hS2 (zi_in hi (by omega)) rfl d2 ?_
  rw [zi_nat (by omega)]
  exact h3 H2 locs2 ls2 hP2 hD2 hS2 hl2
end UnitRules
theorem wu_units : Cond.fieldLink RG 55 "DecimalTruth$Groups" "UNITS" "[J" ∈ al := by
  have h : (tables_1.any (fun w => decide (w = Cond.fieldLink "DecimalTruth$Groups" 55 "DecimalTruth$Groups" "UNITS" "[J"))) = true := by decide +kernel
  obtain ⟨w, h1, h2⟩ := List.any_eq_true.mp h
  rw [decide_eq_true_iff] at h2
  subst h2
  exact List.mem_filter.mpr ⟨List.mem_append_right _ h1, rfl⟩
