/-! contracts of methods that return or throw -/
abbrev rX : Room := { frames := 7, cells := 1, slots := 6, locals := 145 }
def XP (D : va_G) (A : Nat → Prop) (px : String → va_W → Prop) : String → State → State → Prop := vx_X (fun _ : va_W => True) (fun E u t => px E u ∧ va_P D clz u t.heap ∧ va_D A u) A
def MxI (cI cJ : ClassId) (y : MethodName) (cc : ByteArray) (nL : Nat) (rm : Room) (X : (Nat → Prop) → State → Prop) (av : List Value) (wc : va_W) (post : Int → va_W → Prop) (px : String → va_W → Prop) : Prop := ∀ (l : Launch) (D : va_G) (sz : Nat), l.stackTraces = false → vx_Met l y (.code y cc nL (some .int) :: al) rm (va_Pc av (Pre D cI cJ X sz wc)) (va_Qi (fun r u => ∃ z : Int, r = zi z ∧ post z u) (fun u t => va_P D clz u t.heap ∧ va_D (va_A wc sz) u) (va_A wc sz)) (XP D (va_A wc sz) px) rm.cells rm.slots (va_A wc sz)
def RxI (K : Kx) (mc ms : Nat) (post : Int → va_W → Prop) (px : String → va_W → Prop) : Prop :=
  match K with
  | (_, l, _, _, s, _, args, below, meth, c, D, A, Q) => meth.sig.returnType = (some .int) ∧ l.stackTraces = false ∧ (∀ x ∈ c.exceptionTable.toList, False) ∧ meth.locks = false ∧ Q = vx_MQ below (va_Qi (fun r u => ∃ z : Int, r = zi z ∧ post z u) (fun u t => va_P D clz u t.heap ∧ va_D A u) A) (XP D A px) args s mc ms A
theorem RxI.x {K : Kx} {mc ms : Nat} {post : Int → va_W → Prop} {px : String → va_W → Prop} (h : RxI K mc ms post px) : Rx K mc ms px := by
  obtain ⟨p, l, e, R, s, m, args, below, meth, c, D, A, Q⟩ := K
  obtain ⟨-, h1, h2, h3, h4⟩ := h
  exact ⟨h1, h2, h3, _, h4⟩
theorem MxI_in {cI cJ : ClassId} {y : MethodName} {cc : ByteArray} {nL : Nat} {rm : Room} {X : (Nat → Prop) → State → Prop} {av : List Value} {wc : va_W} {post : Int → va_W → Prop} {px : String → va_W → Prop} (hy : plainName y.cls = true) (hlen : (lg_sl av).length ≤ nL)
    (h : ∀ K : Kx, Cx K cI cJ cc nL y.cls rm → RxI K rm.cells rm.slots post px → Xk K X → V K nL wc 0 0 0 (lv_args 0 av) []) : MxI cI cJ y cc nL rm X av wc post px := by
  intro l D sz hst
  refine vx_ofW (cc := cc) (maxL := nL) (ret := (some .int)) hy rfl ?_
  intro p e s m args below meth c s₁ B hml hno hv
  obtain ⟨rfl, hsz, hP, hK, hD0, hnw, hX⟩ := hv
  have hts := atoms_spec (ws := Cond.code y cc nL (some .int) :: al) B.pre
  have hown : s.vm.findClass y.cls = some m.cls := findClass_of_methodNamed B.named
  subst hsz
  have hD := hD0.self (sz := s.heap.size)
  have hl := lv_entry av (n := nL) hlen
  rw [lg_entry_eq]
  exact h (p, l, e, rm, s, m, av.toArray, below, meth, c, D, va_A wc s.heap.size, _) ⟨B.exec, B.bytes, hml, hown, fun w hw => hts w (List.mem_cons_of_mem _ hw), hK, fun q hq => Or.inr hq, rfl, hnw⟩ ⟨B.returns, hst, hno, B.notSynchronized, rfl⟩ hX s.heap [] _ hP hD va_S.rf hl
def MxJ (cI cJ : ClassId) (y : MethodName) (cc : ByteArray) (nL : Nat) (rm : Room) (X : (Nat → Prop) → State → Prop) (av : List Value) (wc : va_W) (post : Int → va_W → Prop) (px : String → va_W → Prop) : Prop := ∀ (l : Launch) (D : va_G) (sz : Nat), l.stackTraces = false → vx_Met l y (.code y cc nL (some .long) :: al) rm (va_Pc av (Pre D cI cJ X sz wc)) (va_Ql (fun r u => ∃ z : Int, r = zj z ∧ post z u) (fun u t => va_P D clz u t.heap ∧ va_D (va_A wc sz) u) (va_A wc sz)) (XP D (va_A wc sz) px) rm.cells rm.slots (va_A wc sz)
def RxJ (K : Kx) (mc ms : Nat) (post : Int → va_W → Prop) (px : String → va_W → Prop) : Prop :=
  match K with
  | (_, l, _, _, s, _, args, below, meth, c, D, A, Q) => meth.sig.returnType = (some .long) ∧ l.stackTraces = false ∧ (∀ x ∈ c.exceptionTable.toList, False) ∧ meth.locks = false ∧ Q = vx_MQ below (va_Ql (fun r u => ∃ z : Int, r = zj z ∧ post z u) (fun u t => va_P D clz u t.heap ∧ va_D A u) A) (XP D A px) args s mc ms A
theorem RxJ.x {K : Kx} {mc ms : Nat} {post : Int → va_W → Prop} {px : String → va_W → Prop} (h : RxJ K mc ms post px) : Rx K mc ms px := by
  obtain ⟨p, l, e, R, s, m, args, below, meth, c, D, A, Q⟩ := K
  obtain ⟨-, h1, h2, h3, h4⟩ := h
  exact ⟨h1, h2, h3, _, h4⟩
theorem MxJ_in {cI cJ : ClassId} {y : MethodName} {cc : ByteArray} {nL : Nat} {rm : Room} {X : (Nat → Prop) → State → Prop} {av : List Value} {wc : va_W} {post : Int → va_W → Prop} {px : String → va_W → Prop} (hy : plainName y.cls = true) (hlen : (lg_sl av).length ≤ nL)
    (h : ∀ K : Kx, Cx K cI cJ cc nL y.cls rm → RxJ K rm.cells rm.slots post px → Xk K X → V K nL wc 0 0 0 (lv_args 0 av) []) : MxJ cI cJ y cc nL rm X av wc post px := by
  intro l D sz hst
  refine vx_ofW (cc := cc) (maxL := nL) (ret := (some .long)) hy rfl ?_
  intro p e s m args below meth c s₁ B hml hno hv
  obtain ⟨rfl, hsz, hP, hK, hD0, hnw, hX⟩ := hv
  have hts := atoms_spec (ws := Cond.code y cc nL (some .long) :: al) B.pre
  have hown : s.vm.findClass y.cls = some m.cls := findClass_of_methodNamed B.named
  subst hsz
  have hD := hD0.self (sz := s.heap.size)
  have hl := lv_entry av (n := nL) hlen
  rw [lg_entry_eq]
  exact h (p, l, e, rm, s, m, av.toArray, below, meth, c, D, va_A wc s.heap.size, _) ⟨B.exec, B.bytes, hml, hown, fun w hw => hts w (List.mem_cons_of_mem _ hw), hK, fun q hq => Or.inr hq, rfl, hnw⟩ ⟨B.returns, hst, hno, B.notSynchronized, rfl⟩ hX s.heap [] _ hP hD va_S.rf hl
def MxV (cI cJ : ClassId) (y : MethodName) (cc : ByteArray) (nL : Nat) (rm : Room) (X : (Nat → Prop) → State → Prop) (av : List Value) (wc : va_W) (post : va_W → Prop) (px : String → va_W → Prop) : Prop := ∀ (l : Launch) (D : va_G) (sz : Nat), l.stackTraces = false → vx_Met l y (.code y cc nL none :: al) rm (va_Pc av (Pre D cI cJ X sz wc)) (va_Qv (fun u => post u) (fun u t => va_P D clz u t.heap ∧ va_D (va_A wc sz) u) (va_A wc sz)) (XP D (va_A wc sz) px) rm.cells rm.slots (va_A wc sz)
def RxV (K : Kx) (mc ms : Nat) (post : va_W → Prop) (px : String → va_W → Prop) : Prop :=
  match K with
  | (_, l, _, _, s, _, args, below, meth, c, D, A, Q) => meth.sig.returnType = none ∧ l.stackTraces = false ∧ (∀ x ∈ c.exceptionTable.toList, False) ∧ meth.locks = false ∧ Q = vx_MQ below (va_Qv (fun u => post u) (fun u t => va_P D clz u t.heap ∧ va_D A u) A) (XP D A px) args s mc ms A
theorem RxV.x {K : Kx} {mc ms : Nat} {post : va_W → Prop} {px : String → va_W → Prop} (h : RxV K mc ms post px) : Rx K mc ms px := by
  obtain ⟨p, l, e, R, s, m, args, below, meth, c, D, A, Q⟩ := K
  obtain ⟨-, h1, h2, h3, h4⟩ := h
  exact ⟨h1, h2, h3, _, h4⟩
theorem MxV_in {cI cJ : ClassId} {y : MethodName} {cc : ByteArray} {nL : Nat} {rm : Room} {X : (Nat → Prop) → State → Prop} {av : List Value} {wc : va_W} {post : va_W → Prop} {px : String → va_W → Prop} (hy : plainName y.cls = true) (hlen : (lg_sl av).length ≤ nL)
    (h : ∀ K : Kx, Cx K cI cJ cc nL y.cls rm → RxV K rm.cells rm.slots post px → Xk K X → V K nL wc 0 0 0 (lv_args 0 av) []) : MxV cI cJ y cc nL rm X av wc post px := by
  intro l D sz hst
  refine vx_ofW (cc := cc) (maxL := nL) (ret := none) hy rfl ?_
  intro p e s m args below meth c s₁ B hml hno hv
  obtain ⟨rfl, hsz, hP, hK, hD0, hnw, hX⟩ := hv
  have hts := atoms_spec (ws := Cond.code y cc nL none :: al) B.pre
  have hown : s.vm.findClass y.cls = some m.cls := findClass_of_methodNamed B.named
  subst hsz
  have hD := hD0.self (sz := s.heap.size)
  have hl := lv_entry av (n := nL) hlen
  rw [lg_entry_eq]
  exact h (p, l, e, rm, s, m, av.toArray, below, meth, c, D, va_A wc s.heap.size, _) ⟨B.exec, B.bytes, hml, hown, fun w hw => hts w (List.mem_cons_of_mem _ hw), hK, fun q hq => Or.inr hq, rfl, hnw⟩ ⟨B.returns, hst, hno, B.notSynchronized, rfl⟩ hX s.heap [] _ hP hD va_S.rf hl
theorem qx_iret {K : Kx} {cI cJ : ClassId} {cc : ByteArray} {nL : Nat} {own : String} {rm : Room} {ws : va_W} {k n pc : Nat} {lv : List (Nat × Value)} (C : Cx K cI cJ cc nL own rm) {mc ms : Nat} {post : Int → va_W → Prop} {px : String → va_W → Prop} (hRt : RxI K mc ms post px) {z : Int} (hp : post z ws) (d : decode cc pc = .ok (.ireturn, 1)) (hk : k ≤ mc) (hs : n ≤ ms) : V K nL ws k n pc lv [vi z] := by
  obtain ⟨p, l, e, R, s, m, args, below, meth, c, D, A, Q⟩ := K
  obtain ⟨hx, hb, hml, hown, hts, hK, hA, hR, hnw⟩ := C
  obtain ⟨hr, -, -, hlocks, rfl⟩ := hRt
  intro H locs ls hP hD hS hl
  refine vx_ret (W.widen hk hs ?_)
  exact W.iret (v := zi z) hx hb hr (fun t ht hW => ⟨⟨zi z, ws, rfl, ⟨z, rfl, hp⟩, by rw [ht]; exact hP, hD⟩, hS.F ht⟩) hS.2.2 d
theorem qx_lret {K : Kx} {cI cJ : ClassId} {cc : ByteArray} {nL : Nat} {own : String} {rm : Room} {ws : va_W} {k n pc : Nat} {lv : List (Nat × Value)} (C : Cx K cI cJ cc nL own rm) {mc ms : Nat} {post : Int → va_W → Prop} {px : String → va_W → Prop} (hRt : RxJ K mc ms post px) {z : Int} (hp : post z ws) (d : decode cc pc = .ok (.lreturn, 1)) (hk : k ≤ mc) (hs : n ≤ ms) : V K nL ws k n pc lv [vj z] := by
  obtain ⟨p, l, e, R, s, m, args, below, meth, c, D, A, Q⟩ := K
  obtain ⟨hx, hb, hml, hown, hts, hK, hA, hR, hnw⟩ := C
  obtain ⟨hr, -, -, hlocks, rfl⟩ := hRt
  intro H locs ls hP hD hS hl
  refine vx_ret (W.widen hk hs ?_)
  exact W.lret (v := zj z) hx hb hr (fun t ht hW => ⟨⟨zj z, ws, rfl, ⟨z, rfl, hp⟩, by rw [ht]; exact hP, hD⟩, hS.F ht⟩) hS.2.2 d
theorem qx_vret {K : Kx} {cI cJ : ClassId} {cc : ByteArray} {nL : Nat} {own : String} {rm : Room} {ws : va_W} {k n pc : Nat} {lv : List (Nat × Value)} (C : Cx K cI cJ cc nL own rm) {mc ms : Nat} {post : va_W → Prop} {px : String → va_W → Prop} (hRt : RxV K mc ms post px) (hp : post ws) (d : decode cc pc = .ok (.return_, 1)) (hk : k ≤ mc) (hs : n ≤ ms) : V K nL ws k n pc lv [] := by
  obtain ⟨p, l, e, R, s, m, args, below, meth, c, D, A, Q⟩ := K
  obtain ⟨hx, hb, hml, hown, hts, hK, hA, hR, hnw⟩ := C
  obtain ⟨hr, -, -, hlocks, rfl⟩ := hRt
  intro H locs ls hP hD hS hl
  refine vx_ret (W.widen hk hs ?_)
  exact W.vret hx hb hr (fun t ht hW => ⟨⟨ws, rfl, hp, by rw [ht]; exact hP, hD⟩, hS.F ht⟩) hS.2.2 d
