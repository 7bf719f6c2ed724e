/-! members of the JDK that are rows of the kit -/
theorem qv_mmin {K : Kx} {cI cJ : ClassId} {cc : ByteArray} {nL : Nat} {own : String} {rm : Room} {ws : va_W} {k n pc : Nat} {lv : List (Nat × Value)} {st : List Value} (C : Cx K cI cJ cc nL own rm) {ix : Nat} {a b r : Int} (hlk : Cond.methodLink own ix Lib.Math.min.name ∈ al) (hst : Cond.static Lib.Math.min.name ∈ al) (hini : Cond.initialized "java/lang/Math" ∈ al) (hcode : Cond.code Lib.Math.min.name Lib.Math.min.code 2 (some .int) ∈ al) (ha : ri a) (hb0 : ri b) (hfr : 1 ≤ rm.frames) (hlo : (st.map fun v => v.category).sum + 13 ≤ rm.locals) (hk : k ≤ rm.cells) (hn : n ≤ rm.slots) (er : min a b = r) (d : decode cc pc = .ok (.invokestatic ix, 3)) (h : V K nL ws k n (pc + 3) lv (vi r :: st)) : V K nL ws k n pc lv (vi b :: vi a :: st) := by
  subst er
  obtain ⟨p, l, e, R, s, m, args, below, meth, c, D, A, Q⟩ := K
  obtain ⟨hx, hb, hml, hown, hts, hK, hA, rfl, hnw⟩ := C
  intro H locs ls hP hD hS hl
  refine va_mmin hx hb (hml.trans hl.1.symm) hown (hts _ hlk) (hts _ hst) (hts _ hini) (hts _ hcode) hfr hlo hk hn d ?_
  have e0 : (if zi b < zi a then zi b else zi a) = zi (min a b) := by
    by_cases q : b < a
    · rw [if_pos ((zi_lt (by omega) (by omega)).mpr q)]; congr 1; omega
    · rw [if_neg (fun z => q ((zi_lt (by omega) (by omega)).mp z))]; congr 1; omega
  rw [e0]
  exact h H locs ls hP hD hS hl
theorem qv_mmax {K : Kx} {cI cJ : ClassId} {cc : ByteArray} {nL : Nat} {own : String} {rm : Room} {ws : va_W} {k n pc : Nat} {lv : List (Nat × Value)} {st : List Value} (C : Cx K cI cJ cc nL own rm) {ix : Nat} {a b r : Int} (hlk : Cond.methodLink own ix Lib.Math.max.name ∈ al) (hst : Cond.static Lib.Math.max.name ∈ al) (hini : Cond.initialized "java/lang/Math" ∈ al) (hcode : Cond.code Lib.Math.max.name Lib.Math.max.code 2 (some .int) ∈ al) (ha : ri a) (hb0 : ri b) (hfr : 1 ≤ rm.frames) (hlo : (st.map fun v => v.category).sum + 13 ≤ rm.locals) (hk : k ≤ rm.cells) (hn : n ≤ rm.slots) (er : max a b = r) (d : decode cc pc = .ok (.invokestatic ix, 3)) (h : V K nL ws k n (pc + 3) lv (vi r :: st)) : V K nL ws k n pc lv (vi b :: vi a :: st) := by
  subst er
  obtain ⟨p, l, e, R, s, m, args, below, meth, c, D, A, Q⟩ := K
  obtain ⟨hx, hb, hml, hown, hts, hK, hA, rfl, hnw⟩ := C
  intro H locs ls hP hD hS hl
  refine va_mmax hx hb (hml.trans hl.1.symm) hown (hts _ hlk) (hts _ hst) (hts _ hini) (hts _ hcode) hfr hlo hk hn d ?_
  have e0 : (if zi a < zi b then zi b else zi a) = zi (max a b) := by
    by_cases q : a < b
    · rw [if_pos ((zi_lt (by omega) (by omega)).mpr q)]; congr 1; omega
    · rw [if_neg (fun z => q ((zi_lt (by omega) (by omega)).mp z))]; congr 1; omega
  rw [e0]
  exact h H locs ls hP hD hS hl
theorem cpy_i (f g : Nat → Nat) (sp dp n : Nat) : va_cpy (fun i => zi (f i : Nat)) (fun i => zi (g i : Nat)) sp dp n = fun i => zi (va_cpy f g sp dp n i : Nat) := by
  funext i; unfold va_cpy; split <;> rfl
theorem qv_copy {K : Kx} {cI cJ : ClassId} {cc : ByteArray} {nL : Nat} {own : String} {rm : Room} {ws : va_W} {k n pc : Nat} {lv : List (Nat × Value)} {st : List Value} (C : Cx K cI cJ cc nL own rm) {ix a a0 n0 n1 : Nat} {f g : Nat → Nat} {zs zd zn : Int} {ws' : va_W} (hlk : Cond.methodLink own ix arraycopyName ∈ al) (hnat : Cond.native arraycopyName ∈ al) (hstat : Cond.static arraycopyName ∈ al) (hini : Cond.initialized "java/lang/System" ∈ al) (q0 q1 sp dp cnt : Nat) (ha0 : ws[q0]? = some (ai cI a0 n0 f)) (ha1 : ws[q1]? = some (ai cI a n1 g)) (es : zs = (sp : Int)) (ed : zd = (dp : Int)) (en : zn = (cnt : Int)) (h4 : sp + cnt ≤ n0) (h5 : dp + cnt ≤ n1) (hb1 : n0 ≤ 2147483647) (hb2 : n1 ≤ 2147483647) (hfr : 1 ≤ rm.frames) (hlo : (st.map fun v => v.category).sum + (nativeFrameWords "java/lang/System" "arraycopy" 5 + 11) ≤ rm.locals) (hw2 : ws.set q1 (ai cI a n1 (va_cpy f g sp dp cnt)) = ws') (d : decode cc pc = .ok (.invokestatic ix, 3)) (h : V K nL ws' k n (pc + 3) lv st) : V K nL ws k n pc lv (vi zn :: vi zd :: .ref a :: vi zs :: .ref a0 :: st) := by
  subst es ed en hw2
  obtain ⟨p, l, e, R, s, m, args, below, meth, c, D, A, Q⟩ := K
  obtain ⟨hx, hb, hml, hown, hts, hK, hA, rfl, hnw⟩ := C
  intro H locs ls hP hD hS hl
  have e1 := zi_nat (k := sp) (by omega)
  have e2 := zi_nat (k := dp) (by omega)
  have e3 := zi_nat (k := cnt) (by omega)
  have nn : ∀ x : Nat, x ≤ 2147483647 → ¬ zi (x : Int) < 0 := fun x hx2 => by rw [← zi_0, zi_lt (by omega) (by omega)]; omega
  refine va_copyi hx hb (hml.trans hl.1.symm) hown (hts _ hlk) (hts _ hnat) (hts _ hstat) (hts _ hini) hK hP hD hS q0 q1 0 0 ha0 ha1 rfl rfl rfl (nn sp (by omega)) (nn dp (by omega)) (nn cnt (by omega)) (by rw [e1, e3]; exact h4) (by rw [e2, e3]; exact h5) (fun _ _ => rfl) hfr hlo d (fun H1 locs1 hP1 hD1 hS1 => ?_)
  rw [e1, e2, e3, cpy_i] at hP1 hD1
  exact h H1 locs1 ls hP1 hD1 hS1 hl
theorem qv_alenJ {K : Kx} {cI cJ : ClassId} {cc : ByteArray} {nL : Nat} {own : String} {rm : Room} {ws : va_W} {k n pc : Nat} {lv : List (Nat × Value)} {st : List Value} (C : Cx K cI cJ cc nL own rm) {a N : Nat} {f : Nat → Nat} (q : Nat) (hw : ws[q]? = some (aj cJ a N f)) (d : decode cc pc = .ok (.arraylength, 1)) (h : V K nL ws k n (pc + 1) lv (vi (N : Nat) :: st)) : V K nL ws k n pc lv (.ref a :: st) := by
  obtain ⟨p, l, e, R, s, m, args, below, meth, c, D, A, Q⟩ := K
  obtain ⟨hx, hb, hml, hown, hts, hK, hA, rfl, hnw⟩ := C
  intro H locs ls hP hD hS hl
  exact va_alen hx hb hK hP q 1 hw rfl (zi_ofNat N) d (h H locs ls hP hD hS hl)
theorem nz_b2 (b : Bool) : narrow .boolean (vi (b2 b)) = vi (b2 b) := by cases b <;> rfl
theorem fz_b2 (b : Bool) : fits .boolean (vi (b2 b)) = true := by cases b <;> rfl
theorem rb_b2 (b : Bool) : ri (b2 b) := by cases b <;> decide
theorem b2_t {b : Bool} (h : b2 b ≠ 0) : b = true := by cases b with
  | true => rfl
  | false => exact absurd rfl h
theorem b2_f {b : Bool} (h : b2 b = 0) : b = false := by cases b with
  | false => rfl
  | true => exact absurd h (by decide)
