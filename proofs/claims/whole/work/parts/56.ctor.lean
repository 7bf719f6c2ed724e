/-! objects and arrays made -/
section Ctor
variable {K : Kx} {cI cJ : ClassId} {cc : ByteArray} {nL : Nat} {own : String} {rm : Room} {ws : va_W} {k n pc : Nat} {lv : List (Nat × Value)} {st : List Value}
theorem wo_in : Cond.instanceMethod Lib.objectInit ∈ al := wl (i := 23) rfl rfl
theorem wo_co : Cond.code Lib.objectInit ⟨#[0xb1]⟩ 1 none ∈ al := wl (i := 24) rfl rfl
theorem qv_objI (C : Cx K cI cJ cc nL own rm) {ix a : Nat} (hlk : Cond.methodLink own ix Lib.objectInit ∈ al) (hfr : 1 ≤ rm.frames) (hs : (st.map fun v => v.category).sum ≤ 8) (hlo : 20 ≤ rm.locals) (d : decode cc pc = .ok (.invokespecial ix, 3)) (h : V K nL ws k n (pc + 3) lv st) : V K nL ws k n pc lv (.ref a :: st) := by
  obtain ⟨p, l, e, R, s, m, args, below, meth, c, D, A, Q⟩ := K
  obtain ⟨hx, hb, hml, hown, hts, hK, hA, rfl, hnw⟩ := C
  intro H locs ls hP hD hS hl
  have hroom := lv_room (m := m) (pc := pc) (ls := ls) (rest := .ref a :: st) hs
  refine W.objInit hx hb hown (hts _ hlk) (hts _ wo_in) (hts _ wo_co) rfl (by rw [hml]; exact hl.1) rfl d hfr (by omega) ?_
  exact h H locs ls hP hD hS hl
theorem qv_newI (C : Cx K cI cJ cc nL own rm) {z : Int} (N : Nat) (hz : z = (N : Int)) (hN : N ≤ 100000) (hc : k + 1 ≤ rm.cells) (hs : n + N ≤ rm.slots) (d : decode cc pc = .ok (.newarray .int, 2)) (h : ∀ q : Nat, V K nL (ws ++ [ai cI q N (fun _ => 0)]) (k + 1) (n + N) (pc + 2) lv (.ref q :: st)) : V K nL ws k n pc lv (vi z :: st) := by
  obtain ⟨p, l, e, R, s, m, args, below, meth, c, D, A, Q⟩ := K
  obtain ⟨hx, hb, hml, hown, hts, hK, hA, rfl, hnw⟩ := C
  subst hz
  intro H locs ls hP hD hS hl
  have wa : Cond.arrayClass .int ∈ al := wl (i := 47) rfl rfl
  have e0 : zi ((0 : Nat) : Int) = 0 := by decide
  refine va_newa (atype := .int) (ty := .int) (a0 := (N, .inl (fun _ => zi ((0 : Nat) : Int)))) hx hb (hts _ wa) rfl hK hP hD hS hA (fun cA => by rw [e0]; rfl) (by rw [← zi_0, zi_lt (by omega) (by omega)]; omega) (zi_nat (by omega)) (by show N * 4 ≤ 536870912; omega) hc hs d (fun q cA H1 hK2 hP2 hD2 hS2 => ?_)
  have h1 : s.vm.findClass ("[" ++ (FieldType.int).toString) = some cA := (hK2.2 2 (cA, .int) rfl).2
  have h2 : s.vm.findClass ("[" ++ (FieldType.int).toString) = some cI := (hK.2 0 (cI, .int) rfl).2
  have e1 : cA = cI := Option.some.inj (h1.symm.trans h2)
  subst e1
  exact h q H1 locs ls hP2 hD2 hS2 hl
theorem qv_newJ (C : Cx K cI cJ cc nL own rm) {z : Int} (N : Nat) (hz : z = (N : Int)) (hN : N ≤ 100000) (hc : k + 1 ≤ rm.cells) (hs : n + N ≤ rm.slots) (d : decode cc pc = .ok (.newarray .long, 2)) (h : ∀ q : Nat, V K nL (ws ++ [aj cJ q N (fun _ => 0)]) (k + 1) (n + N) (pc + 2) lv (.ref q :: st)) : V K nL ws k n pc lv (vi z :: st) := by
  obtain ⟨p, l, e, R, s, m, args, below, meth, c, D, A, Q⟩ := K
  obtain ⟨hx, hb, hml, hown, hts, hK, hA, rfl, hnw⟩ := C
  subst hz
  intro H locs ls hP hD hS hl
  have wa : Cond.arrayClass .long ∈ al := wl (i := 67) rfl rfl
  have e0 : zj ((0 : Nat) : Int) = 0 := by decide
  refine va_newa (atype := .long) (ty := .long) (a0 := (N, .inr (.inl (fun _ => zj ((0 : Nat) : Int))))) hx hb (hts _ wa) rfl hK hP hD hS hA (fun cA => by rw [e0]; rfl) (by rw [← zi_0, zi_lt (by omega) (by omega)]; omega) (zi_nat (by omega)) (by show N * 8 ≤ 536870912; omega) hc hs d (fun q cA H1 hK2 hP2 hD2 hS2 => ?_)
  have h1 : s.vm.findClass ("[" ++ (FieldType.long).toString) = some cA := (hK2.2 2 (cA, .long) rfl).2
  have h2 : s.vm.findClass ("[" ++ (FieldType.long).toString) = some cJ := (hK.2 1 (cJ, .long) rfl).2
  have e1 : cA = cJ := Option.some.inj (h1.symm.trans h2)
  subst e1
  exact h q H1 locs ls hP2 hD2 hS2 hl
theorem qv_new (C : Cx K cI cJ cc nL own rm) {ix ci Nf : Nat} {Cn : String} {T : u_T} {fs : List Value} (ty : Nat → FieldType) (hty : ∀ k, k < Nf → parseFieldDescriptor (T k).2.2.1 = some (ty k)) (hu : ∀ w ∈ u_ws Cn T Nf, w ∈ al) (hcl : Cond.classLink own ix Cn ∈ al) (hinst : Cond.instantiable Cn Nf ∈ al) (hini : Cond.initialized Cn ∈ al) (hcz : clz[ci]? = some (Cn, T, Nf)) (hfs : ∀ j, j < Nf → defaultValue (ty j) = vp_V fs j) (hc : k + 1 ≤ rm.cells) (hs : n + Nf ≤ rm.slots) (d : decode cc pc = .ok (.new ix, 3)) (h : ∀ q : Nat, V K nL (ws ++ [oc q ci fs]) (k + 1) (n + Nf) (pc + 3) lv (.ref q :: st)) : V K nL ws k n pc lv st := by
  obtain ⟨p, l, e, R, s, m, args, below, meth, c, D, A, Q⟩ := K
  obtain ⟨hx, hb, hml, hown, hts, hK, hA, rfl, hnw⟩ := C
  intro H locs ls hP hD hS hl
  exact va_new hx hb hts hu ty hty hown (hts _ hcl) (hts _ hinst) (hts _ hini) hK hP hD hS hA hcz hfs hc hs d (fun q H1 hP2 hD2 hS2 => h q H1 locs ls hP2 hD2 hS2 hl)
end Ctor
