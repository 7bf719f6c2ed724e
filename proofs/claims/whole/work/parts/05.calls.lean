/-! fields, contracts, calls, ends -/
theorem isN_cases {w : Cond} (h : isN w = true) : (∃ a i b x d y, w = .fieldLinkNest a i b x d y) ∨ ∃ a i x y, w = .methodLinkNest a i x y := by
  cases w <;> first | exact Or.inl ⟨_, _, _, _, _, _, rfl⟩ | exact Or.inr ⟨_, _, _, _, rfl⟩ | cases h
theorem nw_warm {s U : State} (hW : s.WarmedH U.vm) (h : ∀ w ∈ nl, va_Nw w s) : ∀ w ∈ nl, va_Nw w U := by
  intro w hw
  rcases isN_cases (List.mem_filter.mp hw).2 with ⟨a, i, b, x, d, y, rfl⟩ | ⟨a, i, x, y, rfl⟩
  · exact va_Nw.warmF hW (h _ hw)
  · exact va_Nw.warmM hW (h _ hw)
theorem nw_same {s U : State} (hv : s.vm = U.vm) (h : ∀ w ∈ nl, va_Nw w s) : ∀ w ∈ nl, va_Nw w U := by
  intro w hw
  rcases isN_cases (List.mem_filter.mp hw).2 with ⟨a, i, b, x, d, y, rfl⟩ | ⟨a, i, x, y, rfl⟩
  · exact va_Nw.same rfl hv (h _ hw)
  · exact va_Nw.same rfl hv (h _ hw)
theorem al_good {w : Cond} (h : w ∈ al) : (w.onTables && w.keeps) = true ∨ ∃ ty, w = .arrayClass ty := by
  have h1 : goodWord w = true := (List.mem_filter.mp h).2
  cases w <;> first | exact Or.inr ⟨_, rfl⟩ | exact Or.inl h1
theorem al_in {ws : List Cond} (h : ∀ w ∈ ws, w ∈ al) : GoodIn al ws := fun w hw => ⟨h w hw, al_good (h w hw)⟩
abbrev Xt : (Nat → Prop) → State → Prop := fun _ _ => True
def Fl (own : String) (ix ci j : Nat) : Prop := ∃ (C : String) (T : u_T) (N : Nat), clz[ci]? = some (C, T, N) ∧ j < N ∧ (T j).1 = C ∧ (∀ w ∈ u_ws C T N, w ∈ al) ∧ (Cond.fieldLink own ix C (T j).2.1 (T j).2.2.1 ∈ al ∨ ∃ host, Cond.fieldLinkNest own ix C (T j).2.1 (T j).2.2.1 host ∈ nl)
def Fs (ci j : Nat) (ty : FieldType) (fin : Bool) : Prop := ∃ (C : String) (T : u_T) (N : Nat) (ty0 : Nat → FieldType), clz[ci]? = some (C, T, N) ∧ (∀ i, i < N → parseFieldDescriptor (T i).2.2.1 = some (ty0 i)) ∧ (∀ a, a < N → ∀ b, b < N → a ≠ b → (T a).2.1 ≠ (T b).2.1) ∧ (T j).2.2.2 = fin ∧ parseFieldDescriptor (T j).2.2.1 = some ty
section Fields
variable {K : Kx} {cI cJ : ClassId} {cc : ByteArray} {nL : Nat} {own : String} {rm : Room} {ws : va_W} {k n pc : Nat} {lv : List (Nat × Value)} {st : List Value}
theorem qv_get (C : Cx K cI cJ cc nL own rm) {ix ci j a : Nat} {fs : List Value} {v : Value} (hf : Fl own ix ci j) (q : Nat) (hw : ws[q]? = some (oc a ci fs)) (hv : fs[j]? = some v) (d : decode cc pc = .ok (.getfield ix, 3)) (h : V K nL ws k n (pc + 3) lv (v :: st)) : V K nL ws k n pc lv (.ref a :: st) := by
  obtain ⟨p, l, e, R, s, m, args, below, meth, c, D, A, Q⟩ := K
  obtain ⟨hx, hb, hml, hown, hts, hK, hA, hR, hnw⟩ := C
  obtain ⟨C, T, N, hc, hj, ho, hu, hlk⟩ := hf
  intro H locs ls hP hD hS hl
  have hs : ∀ x, s.fieldFound? (T j).1 (T j).2.1 (T j).2.2.1 = some x → s.fieldFound? C (T j).2.1 (T j).2.2.1 = some x := by rw [ho]; exact fun _ h => h
  rcases hlk with hlk | ⟨host, hlk⟩
  · exact va_get hx hb hts hu hown hK hP q hw hc j hj (hts _ hlk) hs hv d (h H locs ls hP hD hS hl)
  · exact va_getN hx hb hts hu hown hK hP q hw hc j hj (va_Nw.use rfl (hnw _ hlk)) hs hv d (h H locs ls hP hD hS hl)
theorem qv_put (C : Cx K cI cJ cc nL own rm) {ix ci j a : Nat} {fs : List Value} {v : Value} {ty : FieldType} {ws' : va_W} (hf : Fl own ix ci j) (hs0 : Fs ci j ty false) (q : Nat) (hw : ws[q]? = some (oc a ci fs)) (hn : narrow ty v = v) (hfit : fits ty v = true) (hl0 : j < fs.length) (hw2 : ws.set q (oc a ci (fs.set j v)) = ws') (d : decode cc pc = .ok (.putfield ix, 3)) (h : V K nL ws' k n (pc + 3) lv st) : V K nL ws k n pc lv (v :: .ref a :: st) := by
  obtain ⟨p, l, e, R, s, m, args, below, meth, c, D, A, Q⟩ := K
  obtain ⟨hx, hb, hml, hown, hts, hK, hA, hR, hnw⟩ := C
  obtain ⟨C, T, N, hc, hj, ho, hu, hlk⟩ := hf
  obtain ⟨C', T', N', ty0, hc', hty, hnm, hfin, hpd⟩ := hs0
  rw [hc] at hc'
  cases hc'
  subst hw2
  intro H locs ls hP hD hS hl
  have hs : ∀ x, s.fieldFound? (T j).1 (T j).2.1 (T j).2.2.1 = some x → s.fieldFound? C (T j).2.1 (T j).2.2.1 = some x := by rw [ho]; exact fun _ h => h
  rcases hlk with hlk | ⟨host, hlk⟩
  · exact va_put hx hb hts hu ty0 hty hnm hown hK hP hD hS q hw hc j hj (hts _ hlk) hs hfin hpd hn hfit hl0 d (fun H1 locs1 hP1 hD1 hS1 => h H1 locs1 ls hP1 hD1 hS1 hl)
  · exact va_putN hx hb hts hu ty0 hty hnm hown hK hP hD hS q hw hc j hj (va_Nw.use rfl (hnw _ hlk)) hs hfin hpd hn hfit hl0 d (fun H1 locs1 hP1 hD1 hS1 => h H1 locs1 ls hP1 hD1 hS1 hl)
def Nm (K : Kx) (nm : String) : Prop := K.2.2.2.2.2.2.2.2.1.name = nm
theorem qv_putF (C : Cx K cI cJ cc nL own rm) (hN : Nm K "<init>") {ix ci j a : Nat} {fs : List Value} {v : Value} {ty : FieldType} {ws' : va_W} {F : u_T} {N : Nat} (hf : Cond.fieldLink own ix own (F j).2.1 (F j).2.2.1 ∈ al) (hu : ∀ w ∈ u_ws own F N, w ∈ al) (hc : clz[ci]? = some (own, F, N)) (hj : j < N) (ho : (F j).1 = own) (hs0 : Fs ci j ty true) (q : Nat) (hw : ws[q]? = some (oc a ci fs)) (hn : narrow ty v = v) (hfit : fits ty v = true) (hl0 : j < fs.length) (hw2 : ws.set q (oc a ci (fs.set j v)) = ws') (d : decode cc pc = .ok (.putfield ix, 3)) (h : V K nL ws' k n (pc + 3) lv st) : V K nL ws k n pc lv (v :: .ref a :: st) := by
  obtain ⟨p, l, e, R, s, m, args, below, meth, c, D, A, Q⟩ := K
  obtain ⟨hx, hb, hml, hown, hts, hK, hA, hR, hnw⟩ := C
  obtain ⟨C', T', N', ty0, hc', hty, hnm, hfin, hpd⟩ := hs0
  rw [hc] at hc'
  cases hc'
  subst hw2
  intro H locs ls hP hD hS hl
  have hs : ∀ x, s.fieldFound? (F j).1 (F j).2.1 (F j).2.2.1 = some x → s.fieldFound? own (F j).2.1 (F j).2.2.1 = some x := by rw [ho]; exact fun _ h => h
  exact va_putF hx hb hts hu ty0 hty hnm hown hK hP hD hS q hw hc j hj (hts _ hf) hs hfin hN ho hpd hn hfit hl0 d (fun H1 locs1 hP1 hD1 hS1 => h H1 locs1 ls hP1 hD1 hS1 hl)
end Fields
def Pre (D : va_G) (cI cJ : ClassId) (X : (Nat → Prop) → State → Prop) (sz : Nat) (wc : va_W) (U : State) : Prop := U.heap.size = sz ∧ va_P D clz wc U.heap ∧ va_K D clz [(cI, .int), (cJ, .long)] U ∧ va_D (fun _ => True) wc ∧ (∀ w ∈ nl, va_Nw w U) ∧ X (va_A wc sz) U
def Xk (K : Kx) (X : (Nat → Prop) → State → Prop) : Prop := X K.2.2.2.2.2.2.2.2.2.2.2.1 K.2.2.2.2.1
/-- what a caller owes of the callee's X -/
def Xok (K : Kx) (X : (Nat → Prop) → State → Prop) : Prop :=
  match K with
  | (_, _, _, _, s, _, _, _, _, _, _, A, _) => ∀ (H : Heap) (locs : List Loc) (B : Nat → Prop) (U : State), va_S A s.heap H locs → (∀ q, B q → A q) → U.heap = H → s.WarmedH U.vm → X B U
def Xbl (X : (Nat → Prop) → State → Prop) : Prop := ∀ (A : Nat → Prop) (U : State) (g : JFrame) (mk : MethodId) (a : Array Value), X A U → X A (U.calling g mk a)
theorem Xok_t (K : Kx) : Xok K Xt := by
  obtain ⟨p, l, e, R, s, m, args, below, meth, c, D, A, Q⟩ := K
  exact fun _ _ _ _ _ _ _ _ => trivial
theorem Xbl_t : Xbl Xt := fun _ _ _ _ _ _ => trivial
def Cl (own : String) (ix : Nat) (y : MethodName) (np : Nat) : Prop := (Cond.methodLink own ix y ∈ al ∨ ∃ host, Cond.methodLinkNest own ix y host ∈ nl) ∧ Cond.initialized y.cls ∈ al ∧ y.cls ≠ "java/lang/invoke/MethodHandle" ∧ y.cls ≠ "java/lang/invoke/VarHandle" ∧ (parseMethodDescriptor y.desc).map (fun d => d.parameters.length) = some np
def ClV (own : String) (ix : Nat) (y : MethodName) (np : Nat) : Prop := Cl own ix y np ∧ Cond.instanceMethod y ∈ al ∧ Cond.selects y.cls y y ∈ al
def ClS (own : String) (ix : Nat) (y : MethodName) (np : Nat) : Prop := Cl own ix y np ∧ Cond.static y ∈ al
def ClI (own : String) (ix : Nat) (y : MethodName) (np : Nat) : Prop := Cl own ix y np ∧ Cond.instanceMethod y ∈ al ∧ y.name = "<init>"
def MtI (cI cJ : ClassId) (y : MethodName) (cc : ByteArray) (nL : Nat) (ret : FieldType) (rm : Room) (X : (Nat → Prop) → State → Prop) (av : List Value) (wc : va_W) (post : Int → va_W → Prop) : Prop := ∀ (l : Launch) (D : va_G) (sz : Nat), Met l y (.code y cc nL (some ret) :: al) rm (va_Pc av (Pre D cI cJ X sz wc)) (va_Qi (fun r u => ∃ z : Int, r = zi z ∧ post z u) (fun u t => va_P D clz u t.heap ∧ va_D (va_A wc sz) u) (va_A wc sz)) rm.cells rm.slots (va_A wc sz)
def RtI (K : Kx) (ret : FieldType) (mc ms : Nat) (post : Int → va_W → Prop) : Prop :=
  match K with
  | (_, _, _, _, s, _, args, below, meth, _, D, A, Q) => meth.sig.returnType = (some ret) ∧ meth.locks = false ∧ Q = MQ below (va_Qi (fun r u => ∃ z : Int, r = zi z ∧ post z u) (fun u t => va_P D clz u t.heap ∧ va_D A u) A) args s mc ms A
theorem MtI_in {cI cJ : ClassId} {y : MethodName} {cc : ByteArray} {nL : Nat} {ret : FieldType} {rm : Room} {X : (Nat → Prop) → State → Prop} {av : List Value} {wc : va_W} {post : Int → va_W → Prop} (hy : plainName y.cls = true) (hlen : (lg_sl av).length ≤ nL)
    (h : ∀ K : Kx, Cx K cI cJ cc nL y.cls rm → RtI K ret rm.cells rm.slots post → Xk K X → Nm K y.name → V K nL wc 0 0 0 (lv_args 0 av) []) : MtI cI cJ y cc nL ret rm X av wc post := by
  intro l D sz
  refine Met.ofW (cc := cc) (maxL := nL) (ret := (some ret)) hy rfl ?_
  intro p e s m args below meth c s₁ B hml hv
  obtain ⟨rfl, hsz, hP, hK, hD0, hnw, hX⟩ := hv
  have hts := atoms_spec (ws := Cond.code y cc nL (some ret) :: al) B.pre
  have hown : s.vm.findClass y.cls = some m.cls := findClass_of_methodNamed B.named
  have hnm : meth.name = y.name := (name_of_methodNamed B.named B.method).1
  subst hsz
  have hD := hD0.self (sz := s.heap.size)
  have hl := lv_entry av (n := nL) hlen
  rw [lg_entry_eq]
  exact h (p, l, e, rm, s, m, av.toArray, below, meth, c, D, va_A wc s.heap.size, _) ⟨B.exec, B.bytes, hml, hown, fun w hw => hts w (List.mem_cons_of_mem _ hw), hK, fun q hq => Or.inr hq, rfl, hnw⟩ ⟨B.returns, B.notSynchronized, rfl⟩ hX hnm s.heap [] _ hP hD va_S.rf hl
def MtJ (cI cJ : ClassId) (y : MethodName) (cc : ByteArray) (nL : Nat) (rm : Room) (X : (Nat → Prop) → State → Prop) (av : List Value) (wc : va_W) (post : Int → va_W → Prop) : Prop := ∀ (l : Launch) (D : va_G) (sz : Nat), Met l y (.code y cc nL (some .long) :: al) rm (va_Pc av (Pre D cI cJ X sz wc)) (va_Ql (fun r u => ∃ z : Int, r = zj z ∧ post z u) (fun u t => va_P D clz u t.heap ∧ va_D (va_A wc sz) u) (va_A wc sz)) rm.cells rm.slots (va_A wc sz)
def RtJ (K : Kx) (mc ms : Nat) (post : Int → va_W → Prop) : Prop :=
  match K with
  | (_, _, _, _, s, _, args, below, meth, _, D, A, Q) => meth.sig.returnType = (some .long) ∧ meth.locks = false ∧ Q = MQ below (va_Ql (fun r u => ∃ z : Int, r = zj z ∧ post z u) (fun u t => va_P D clz u t.heap ∧ va_D A u) A) args s mc ms A
theorem MtJ_in {cI cJ : ClassId} {y : MethodName} {cc : ByteArray} {nL : Nat} {rm : Room} {X : (Nat → Prop) → State → Prop} {av : List Value} {wc : va_W} {post : Int → va_W → Prop} (hy : plainName y.cls = true) (hlen : (lg_sl av).length ≤ nL)
    (h : ∀ K : Kx, Cx K cI cJ cc nL y.cls rm → RtJ K rm.cells rm.slots post → Xk K X → Nm K y.name → V K nL wc 0 0 0 (lv_args 0 av) []) : MtJ cI cJ y cc nL rm X av wc post := by
  intro l D sz
  refine Met.ofW (cc := cc) (maxL := nL) (ret := (some .long)) hy rfl ?_
  intro p e s m args below meth c s₁ B hml hv
  obtain ⟨rfl, hsz, hP, hK, hD0, hnw, hX⟩ := hv
  have hts := atoms_spec (ws := Cond.code y cc nL (some .long) :: al) B.pre
  have hown : s.vm.findClass y.cls = some m.cls := findClass_of_methodNamed B.named
  have hnm : meth.name = y.name := (name_of_methodNamed B.named B.method).1
  subst hsz
  have hD := hD0.self (sz := s.heap.size)
  have hl := lv_entry av (n := nL) hlen
  rw [lg_entry_eq]
  exact h (p, l, e, rm, s, m, av.toArray, below, meth, c, D, va_A wc s.heap.size, _) ⟨B.exec, B.bytes, hml, hown, fun w hw => hts w (List.mem_cons_of_mem _ hw), hK, fun q hq => Or.inr hq, rfl, hnw⟩ ⟨B.returns, B.notSynchronized, rfl⟩ hX hnm s.heap [] _ hP hD va_S.rf hl
def MtV (cI cJ : ClassId) (y : MethodName) (cc : ByteArray) (nL : Nat) (rm : Room) (X : (Nat → Prop) → State → Prop) (av : List Value) (wc : va_W) (post : va_W → Prop) : Prop := ∀ (l : Launch) (D : va_G) (sz : Nat), Met l y (.code y cc nL none :: al) rm (va_Pc av (Pre D cI cJ X sz wc)) (va_Qv (fun u => post u) (fun u t => va_P D clz u t.heap ∧ va_D (va_A wc sz) u) (va_A wc sz)) rm.cells rm.slots (va_A wc sz)
def RtV (K : Kx) (mc ms : Nat) (post : va_W → Prop) : Prop :=
  match K with
  | (_, _, _, _, s, _, args, below, meth, _, D, A, Q) => meth.sig.returnType = none ∧ meth.locks = false ∧ Q = MQ below (va_Qv (fun u => post u) (fun u t => va_P D clz u t.heap ∧ va_D A u) A) args s mc ms A
theorem MtV_in {cI cJ : ClassId} {y : MethodName} {cc : ByteArray} {nL : Nat} {rm : Room} {X : (Nat → Prop) → State → Prop} {av : List Value} {wc : va_W} {post : va_W → Prop} (hy : plainName y.cls = true) (hlen : (lg_sl av).length ≤ nL)
    (h : ∀ K : Kx, Cx K cI cJ cc nL y.cls rm → RtV K rm.cells rm.slots post → Xk K X → Nm K y.name → V K nL wc 0 0 0 (lv_args 0 av) []) : MtV cI cJ y cc nL rm X av wc post := by
  intro l D sz
  refine Met.ofW (cc := cc) (maxL := nL) (ret := none) hy rfl ?_
  intro p e s m args below meth c s₁ B hml hv
  obtain ⟨rfl, hsz, hP, hK, hD0, hnw, hX⟩ := hv
  have hts := atoms_spec (ws := Cond.code y cc nL none :: al) B.pre
  have hown : s.vm.findClass y.cls = some m.cls := findClass_of_methodNamed B.named
  have hnm : meth.name = y.name := (name_of_methodNamed B.named B.method).1
  subst hsz
  have hD := hD0.self (sz := s.heap.size)
  have hl := lv_entry av (n := nL) hlen
  rw [lg_entry_eq]
  exact h (p, l, e, rm, s, m, av.toArray, below, meth, c, D, va_A wc s.heap.size, _) ⟨B.exec, B.bytes, hml, hown, fun w hw => hts w (List.mem_cons_of_mem _ hw), hK, fun q hq => Or.inr hq, rfl, hnw⟩ ⟨B.returns, B.notSynchronized, rfl⟩ hX hnm s.heap [] _ hP hD va_S.rf hl
theorem qv_iret {K : Kx} {cI cJ : ClassId} {cc : ByteArray} {nL : Nat} {own : String} {rm : Room} {ws : va_W} {k n pc : Nat} {lv : List (Nat × Value)} (C : Cx K cI cJ cc nL own rm) {mc ms : Nat} {post : Int → va_W → Prop} (hRt : RtI K .int mc ms post) {z : Int} (hp : post z ws) (d : decode cc pc = .ok (.ireturn, 1)) (hk : k ≤ mc) (hs : n ≤ ms) : V K nL ws k n pc lv [vi z] := by
  obtain ⟨p, l, e, R, s, m, args, below, meth, c, D, A, Q⟩ := K
  obtain ⟨hx, hb, hml, hown, hts, hK, hA, hR, hnw⟩ := C
  obtain ⟨hr, hlocks, rfl⟩ := hRt
  intro H locs ls hP hD hS hl
  refine W.widen hk hs ?_
  exact W.iret (v := zi z) hx hb hr (fun t ht hW => ⟨⟨zi z, ws, rfl, ⟨z, rfl, hp⟩, by rw [ht]; exact hP, hD⟩, hS.F ht⟩) hS.2.2 d
theorem qv_zret {K : Kx} {cI cJ : ClassId} {cc : ByteArray} {nL : Nat} {own : String} {rm : Room} {ws : va_W} {k n pc : Nat} {lv : List (Nat × Value)} (C : Cx K cI cJ cc nL own rm) {mc ms : Nat} {post : Int → va_W → Prop} (hRt : RtI K .boolean mc ms post) {b : Bool} (hp : post (b2 b) ws) (d : decode cc pc = .ok (.ireturn, 1)) (hk : k ≤ mc) (hs : n ≤ ms) : V K nL ws k n pc lv [vi (b2 b)] := by
  obtain ⟨p, l, e, R, s, m, args, below, meth, c, D, A, Q⟩ := K
  obtain ⟨hx, hb, hml, hown, hts, hK, hA, hR, hnw⟩ := C
  obtain ⟨hr, hlocks, rfl⟩ := hRt
  intro H locs ls hP hD hS hl
  refine W.widen hk hs ?_
  exact W.zret (v := zi (b2 b)) hx hb hr (by cases b <;> rfl) (fun t ht hW => ⟨⟨zi (b2 b), ws, rfl, ⟨b2 b, rfl, hp⟩, by rw [ht]; exact hP, hD⟩, hS.F ht⟩) hS.2.2 d
theorem qv_lret {K : Kx} {cI cJ : ClassId} {cc : ByteArray} {nL : Nat} {own : String} {rm : Room} {ws : va_W} {k n pc : Nat} {lv : List (Nat × Value)} (C : Cx K cI cJ cc nL own rm) {mc ms : Nat} {post : Int → va_W → Prop} (hRt : RtJ K mc ms post) {z : Int} (hp : post z ws) (d : decode cc pc = .ok (.lreturn, 1)) (hk : k ≤ mc) (hs : n ≤ ms) : V K nL ws k n pc lv [vj z] := by
  obtain ⟨p, l, e, R, s, m, args, below, meth, c, D, A, Q⟩ := K
  obtain ⟨hx, hb, hml, hown, hts, hK, hA, hR, hnw⟩ := C
  obtain ⟨hr, hlocks, rfl⟩ := hRt
  intro H locs ls hP hD hS hl
  refine W.widen hk hs ?_
  exact W.lret (v := zj z) hx hb hr (fun t ht hW => ⟨⟨zj z, ws, rfl, ⟨z, rfl, hp⟩, by rw [ht]; exact hP, hD⟩, hS.F ht⟩) hS.2.2 d
theorem qv_vret {K : Kx} {cI cJ : ClassId} {cc : ByteArray} {nL : Nat} {own : String} {rm : Room} {ws : va_W} {k n pc : Nat} {lv : List (Nat × Value)} (C : Cx K cI cJ cc nL own rm) {mc ms : Nat} {post : va_W → Prop} (hRt : RtV K mc ms post) (hp : post ws) (d : decode cc pc = .ok (.return_, 1)) (hk : k ≤ mc) (hs : n ≤ ms) : V K nL ws k n pc lv [] := by
  obtain ⟨p, l, e, R, s, m, args, below, meth, c, D, A, Q⟩ := K
  obtain ⟨hx, hb, hml, hown, hts, hK, hA, hR, hnw⟩ := C
  obtain ⟨hr, hlocks, rfl⟩ := hRt
  intro H locs ls hP hD hS hl
  refine W.widen hk hs ?_
  exact W.vret hx hb hr (fun t ht hW => ⟨⟨ws, rfl, hp, by rw [ht]; exact hP, hD⟩, hS.F ht⟩) hS.2.2 d
theorem cl_B {R : Room} {s : State} {args : Array Value} {own : String} {ix : Nat} {y : MethodName} {np : Nat} {bytes : ByteArray} {maxL : Nat} {ret : Option FieldType} {rm : Room} (hts : ∀ w ∈ al, w.before args s = true) (hl : Cond.methodLink own ix y ∈ al) (hi : Cond.initialized y.cls ∈ al) (h1 : y.cls ≠ "java/lang/invoke/MethodHandle") (h2 : y.cls ≠ "java/lang/invoke/VarHandle") (h3 : (parseMethodDescriptor y.desc).map (fun d => d.parameters.length) = some np) (cd : Cond.code y bytes maxL ret ∈ al) (hR : rm.frames + 1 ≤ R.frames ∧ 8 + (maxL + 11) + rm.locals ≤ R.locals) : CallB R s args own ix y bytes maxL ret (.code y bytes maxL ret :: al) rm rm.cells rm.slots np := by
  refine ⟨rfl, rfl, hR.1, hR.2, ?_, List.mem_cons_self, hts _ cd, hts _ hi, ⟨h1, h2⟩, ?_, hts _ hl⟩
  · intro w hw a' U hW
    have hw2 : w ∈ al := by
      rcases List.mem_cons.mp hw with rfl | hw
      · exact cd
      · exact hw
    exact word_at hW (al_good hw2) (hts w hw2)
  · intro sig hs
    rw [hs] at h3
    exact (Option.some.inj h3).symm
theorem cl_N {R : Room} {s : State} {args : Array Value} {own host : String} {ix : Nat} {y : MethodName} {np : Nat} {bytes : ByteArray} {maxL : Nat} {ret : Option FieldType} {rm : Room} (hts : ∀ w ∈ al, w.before args s = true) (hl : va_Nw (.methodLinkNest own ix y host) s) (hi : Cond.initialized y.cls ∈ al) (h1 : y.cls ≠ "java/lang/invoke/MethodHandle") (h2 : y.cls ≠ "java/lang/invoke/VarHandle") (h3 : (parseMethodDescriptor y.desc).map (fun d => d.parameters.length) = some np) (cd : Cond.code y bytes maxL ret ∈ al) (hR : rm.frames + 1 ≤ R.frames ∧ 8 + (maxL + 11) + rm.locals ≤ R.locals) : va_CN R s args own ix y host bytes maxL ret (.code y bytes maxL ret :: al) rm rm.cells rm.slots np :=
  va_cnB np hts (al_in (fun w hw => by
    rcases List.mem_cons.mp hw with rfl | hw
    · exact cd
    · exact hw)) rfl rfl rfl hl (hts _ hi) ⟨h1, h2, h3⟩ hR
theorem pre_in {s : State} {H : Heap} {D : va_G} {cI cJ : ClassId} {X : (Nat → Prop) → State → Prop} {wc : va_W} {A : Nat → Prop} (av : List Value) (hb : Xbl X) (hX : ∀ U : State, U.heap = H → s.WarmedH U.vm → X (va_A wc H.size) U) (hP : va_P D clz wc H) (hD : va_D A wc) (hK : va_K D clz [(cI, .int), (cJ, .long)] s) (hnw : ∀ w ∈ nl, va_Nw w s) : PreS s H (va_Pc av (Pre D cI cJ X H.size wc)) av := by
  refine ⟨fun a U g mk q => ?_, fun U hU hW => ⟨rfl, by rw [hU], by rw [hU]; exact hP, va_K.moved hW.alike hK, hD.weaken (fun _ _ _ _ => trivial), nw_warm hW hnw, hX U hU hW⟩⟩
  obtain ⟨q0, q1, qP, qK, qD, qn, qX⟩ := q
  exact ⟨q0, q1, qP, va_K.moved (u := U) (U := U.calling g mk a) (Vm.Alike.refl U.vm) qK, qD, nw_same (s := U) (U := U.calling g mk a) rfl qn, hb _ _ _ _ _ qX⟩
theorem qc_vI {K : Kx} {cI cJ : ClassId} {cc : ByteArray} {nL : Nat} {own : String} {rm : Room} {ws : va_W} {k n pc : Nat} {lv : List (Nat × Value)} {st : List Value} (C : Cx K cI cJ cc nL own rm) {ix np : Nat} {y : MethodName} {cc' : ByteArray} {nL' : Nat} {ret : FieldType} {rm' : Room} {X : (Nat → Prop) → State → Prop} {b ci : Nat} {fs : List Value} {q0 : vw_C} {As : List Value} {wc wr : va_W} {post : Int → va_W → Prop} {st0 : List Value} (hc : ClV own ix y np) (cd : Cond.code y cc' nL' (some ret) ∈ al) (hM : MtI cI cJ y cc' nL' ret rm' X (.ref b :: As) wc post) (hX : Xok K X) (hXb : Xbl X)
    (isC isR : List Nat) (hC : isC.map (fun i => ws[i]?) = wc.map some) (hR : isR.map (fun i => ws[i]?) = wr.map some) (hnd : va_nd isC = true) (hn : va_nd isR = true) (hdis : ∀ i ∈ isR, i ∉ isC) (j : Nat) (hj : wc[j]? = some (oc b ci fs)) (hcl : clz[ci]? = some q0) (hq0 : q0.1 = y.cls) (hst : st0 = As.reverse ++ .ref b :: st) (hlen : As.length = np) (hroom : (st.map fun v => v.category).sum ≤ 8) (hfr : rm'.frames + 1 ≤ rm.frames ∧ 8 + (nL' + 11) + rm'.locals ≤ rm.locals) (hce : k + rm'.cells ≤ rm.cells ∧ n + rm'.slots ≤ rm.slots) (d : decode cc pc = .ok (.invokevirtual ix, 3)) (h : ∀ (z : Int) (u : va_W), post z u → V K nL (wr ++ u) (k + rm'.cells) (n + rm'.slots) (pc + 3) lv (vi z :: st)) : V K nL ws k n pc lv st0 := by
  obtain ⟨p, l, e, R, s, m, args, below, meth, c, D, A, Q⟩ := K
  obtain ⟨hx, hb, hml, hown, hts, hK, hA, rfl, hnw⟩ := C
  subst hst
  intro H locs ls hP hD hS hl
  have hDc := hD.sub isC hnd hC
  have hPc := hP.sub (ws' := wc) isC (by
    have h1 : ∀ (is : List Nat) (ws' : va_W), is.map (fun i => ws[i]?) = ws'.map some → is.filterMap (fun i => ws[i]?) = ws' := by
      intro is
      induction is with
      | nil => intro ws' h; cases ws' with
        | nil => rfl
        | cons a t => cases h
      | cons i is ih => intro ws' h; cases ws' with
        | nil => cases h
        | cons a t =>
          rw [List.map_cons, List.map_cons] at h
          injection h with h1 h2
          rw [List.filterMap_cons, h1]
          show a :: List.filterMap _ is = a :: t
          rw [ih t h2]
    exact h1 isC wc hC)
  have hFc := va_free (wc := wc) hD hS hA isC hC
  have hXc : ∀ U : State, U.heap = H → s.WarmedH U.vm → X (va_A wc H.size) U := fun U hU hW => hX H locs _ U hS hFc hU hW
  have hp := pre_in (s := s) (H := H) (D := D) (cI := cI) (cJ := cJ) (.ref b :: As) hXb hXc hPc hDc hK hnw
  obtain ⟨⟨hlk, hi, h1, h2, h3⟩, hin, hsel⟩ := hc
  have hrc := va_recv (s := s) hK hPc hcl hj
  rw [hq0] at hrc
  rcases hlk with hlk | ⟨host, hlk⟩
  · exact va_calli (va_runV (Ts := al) (As := As) (rest := st) (C := y.cls) ⟨hx, hb, hml, hown, hts⟩ (hM l D H.size) ⟨cl_B hts hlk hi h1 h2 h3 cd hfr, hts _ hin, hts _ hsel⟩ ⟨hp.1, hrc, hp.2⟩ rfl hlen hl.1 rfl (lv_room hroom) d hce) hS (fun q _ h => hFc q h) hFc (fun r u t H1 locs1 ht hvm hq hB hz1 hk1 hS1 => by
    obtain ⟨z, rfl, hp⟩ := hq
    obtain ⟨hP1, hD1⟩ := hB
    rw [ht] at hP1
    obtain ⟨hP2, hD2⟩ := va_join hP hD isC isR hC hR hn hdis hk1 hFc hP1 hD1
    exact h z u hp H1 locs1 ls hP2 hD2 hS1 hl)
  · exact va_calli (va_runVN (Ts := al) (As := As) (rest := st) (C := y.cls) (host := host) ⟨hx, hb, hml, hown, hts⟩ (hM l D H.size) ⟨cl_N hts (hnw _ hlk) hi h1 h2 h3 cd hfr, hts _ hin, hts _ hsel⟩ ⟨hp.1, hrc, hp.2⟩ rfl hlen hl.1 rfl (lv_room hroom) d hce) hS (fun q _ h => hFc q h) hFc (fun r u t H1 locs1 ht hvm hq hB hz1 hk1 hS1 => by
    obtain ⟨z, rfl, hp⟩ := hq
    obtain ⟨hP1, hD1⟩ := hB
    rw [ht] at hP1
    obtain ⟨hP2, hD2⟩ := va_join hP hD isC isR hC hR hn hdis hk1 hFc hP1 hD1
    exact h z u hp H1 locs1 ls hP2 hD2 hS1 hl)
theorem qc_sI {K : Kx} {cI cJ : ClassId} {cc : ByteArray} {nL : Nat} {own : String} {rm : Room} {ws : va_W} {k n pc : Nat} {lv : List (Nat × Value)} {st : List Value} (C : Cx K cI cJ cc nL own rm) {ix np : Nat} {y : MethodName} {cc' : ByteArray} {nL' : Nat} {ret : FieldType} {rm' : Room} {X : (Nat → Prop) → State → Prop} {As : List Value} {wc wr : va_W} {post : Int → va_W → Prop} {st0 : List Value} (hc : ClS own ix y np) (cd : Cond.code y cc' nL' (some ret) ∈ al) (hM : MtI cI cJ y cc' nL' ret rm' X As wc post) (hX : Xok K X) (hXb : Xbl X)
    (isC isR : List Nat) (hC : isC.map (fun i => ws[i]?) = wc.map some) (hR : isR.map (fun i => ws[i]?) = wr.map some) (hnd : va_nd isC = true) (hn : va_nd isR = true) (hdis : ∀ i ∈ isR, i ∉ isC) (hst : st0 = As.reverse ++ st) (hlen : As.length = np) (hroom : (st.map fun v => v.category).sum ≤ 8) (hfr : rm'.frames + 1 ≤ rm.frames ∧ 8 + (nL' + 11) + rm'.locals ≤ rm.locals) (hce : k + rm'.cells ≤ rm.cells ∧ n + rm'.slots ≤ rm.slots) (d : decode cc pc = .ok (.invokestatic ix, 3)) (h : ∀ (z : Int) (u : va_W), post z u → V K nL (wr ++ u) (k + rm'.cells) (n + rm'.slots) (pc + 3) lv (vi z :: st)) : V K nL ws k n pc lv st0 := by
  obtain ⟨p, l, e, R, s, m, args, below, meth, c, D, A, Q⟩ := K
  obtain ⟨hx, hb, hml, hown, hts, hK, hA, rfl, hnw⟩ := C
  subst hst
  intro H locs ls hP hD hS hl
  have hDc := hD.sub isC hnd hC
  have hPc := hP.sub (ws' := wc) isC (by
    have h1 : ∀ (is : List Nat) (ws' : va_W), is.map (fun i => ws[i]?) = ws'.map some → is.filterMap (fun i => ws[i]?) = ws' := by
      intro is
      induction is with
      | nil => intro ws' h; cases ws' with
        | nil => rfl
        | cons a t => cases h
      | cons i is ih => intro ws' h; cases ws' with
        | nil => cases h
        | cons a t =>
          rw [List.map_cons, List.map_cons] at h
          injection h with h1 h2
          rw [List.filterMap_cons, h1]
          show a :: List.filterMap _ is = a :: t
          rw [ih t h2]
    exact h1 isC wc hC)
  have hFc := va_free (wc := wc) hD hS hA isC hC
  have hXc : ∀ U : State, U.heap = H → s.WarmedH U.vm → X (va_A wc H.size) U := fun U hU hW => hX H locs _ U hS hFc hU hW
  have hp := pre_in (s := s) (H := H) (D := D) (cI := cI) (cJ := cJ) As hXb hXc hPc hDc hK hnw
  obtain ⟨⟨hlk, hi, h1, h2, h3⟩, hsta⟩ := hc
  rcases hlk with hlk | ⟨host, hlk⟩
  · exact va_calli (va_runS (Ts := al) (As := As) (rest := st) ⟨hx, hb, hml, hown, hts⟩ (hM l D H.size) ⟨cl_B hts hlk hi h1 h2 h3 cd hfr, hts _ hsta⟩ hp rfl hlen hl.1 rfl (lv_room hroom) d hce) hS (fun q _ h => hFc q h) hFc (fun r u t H1 locs1 ht hvm hq hB hz1 hk1 hS1 => by
    obtain ⟨z, rfl, hp⟩ := hq
    obtain ⟨hP1, hD1⟩ := hB
    rw [ht] at hP1
    obtain ⟨hP2, hD2⟩ := va_join hP hD isC isR hC hR hn hdis hk1 hFc hP1 hD1
    exact h z u hp H1 locs1 ls hP2 hD2 hS1 hl)
  · exact va_calli (va_runSN (Ts := al) (As := As) (rest := st) (host := host) ⟨hx, hb, hml, hown, hts⟩ (hM l D H.size) ⟨cl_N hts (hnw _ hlk) hi h1 h2 h3 cd hfr, hts _ hsta, trivial⟩ hp rfl hlen hl.1 rfl (lv_room hroom) d hce) hS (fun q _ h => hFc q h) hFc (fun r u t H1 locs1 ht hvm hq hB hz1 hk1 hS1 => by
    obtain ⟨z, rfl, hp⟩ := hq
    obtain ⟨hP1, hD1⟩ := hB
    rw [ht] at hP1
    obtain ⟨hP2, hD2⟩ := va_join hP hD isC isR hC hR hn hdis hk1 hFc hP1 hD1
    exact h z u hp H1 locs1 ls hP2 hD2 hS1 hl)
theorem qc_vJ {K : Kx} {cI cJ : ClassId} {cc : ByteArray} {nL : Nat} {own : String} {rm : Room} {ws : va_W} {k n pc : Nat} {lv : List (Nat × Value)} {st : List Value} (C : Cx K cI cJ cc nL own rm) {ix np : Nat} {y : MethodName} {cc' : ByteArray} {nL' : Nat} {rm' : Room} {X : (Nat → Prop) → State → Prop} {b ci : Nat} {fs : List Value} {q0 : vw_C} {As : List Value} {wc wr : va_W} {post : Int → va_W → Prop} {st0 : List Value} (hc : ClV own ix y np) (cd : Cond.code y cc' nL' (some .long) ∈ al) (hM : MtJ cI cJ y cc' nL' rm' X (.ref b :: As) wc post) (hX : Xok K X) (hXb : Xbl X)
    (isC isR : List Nat) (hC : isC.map (fun i => ws[i]?) = wc.map some) (hR : isR.map (fun i => ws[i]?) = wr.map some) (hnd : va_nd isC = true) (hn : va_nd isR = true) (hdis : ∀ i ∈ isR, i ∉ isC) (j : Nat) (hj : wc[j]? = some (oc b ci fs)) (hcl : clz[ci]? = some q0) (hq0 : q0.1 = y.cls) (hst : st0 = As.reverse ++ .ref b :: st) (hlen : As.length = np) (hroom : (st.map fun v => v.category).sum ≤ 8) (hfr : rm'.frames + 1 ≤ rm.frames ∧ 8 + (nL' + 11) + rm'.locals ≤ rm.locals) (hce : k + rm'.cells ≤ rm.cells ∧ n + rm'.slots ≤ rm.slots) (d : decode cc pc = .ok (.invokevirtual ix, 3)) (h : ∀ (z : Int) (u : va_W), post z u → V K nL (wr ++ u) (k + rm'.cells) (n + rm'.slots) (pc + 3) lv (vj z :: st)) : V K nL ws k n pc lv st0 := by
  obtain ⟨p, l, e, R, s, m, args, below, meth, c, D, A, Q⟩ := K
  obtain ⟨hx, hb, hml, hown, hts, hK, hA, rfl, hnw⟩ := C
  subst hst
  intro H locs ls hP hD hS hl
  have hDc := hD.sub isC hnd hC
  have hPc := hP.sub (ws' := wc) isC (by
    have h1 : ∀ (is : List Nat) (ws' : va_W), is.map (fun i => ws[i]?) = ws'.map some → is.filterMap (fun i => ws[i]?) = ws' := by
      intro is
      induction is with
      | nil => intro ws' h; cases ws' with
        | nil => rfl
        | cons a t => cases h
      | cons i is ih => intro ws' h; cases ws' with
        | nil => cases h
        | cons a t =>
          rw [List.map_cons, List.map_cons] at h
          injection h with h1 h2
          rw [List.filterMap_cons, h1]
          show a :: List.filterMap _ is = a :: t
          rw [ih t h2]
    exact h1 isC wc hC)
  have hFc := va_free (wc := wc) hD hS hA isC hC
  have hXc : ∀ U : State, U.heap = H → s.WarmedH U.vm → X (va_A wc H.size) U := fun U hU hW => hX H locs _ U hS hFc hU hW
  have hp := pre_in (s := s) (H := H) (D := D) (cI := cI) (cJ := cJ) (.ref b :: As) hXb hXc hPc hDc hK hnw
  obtain ⟨⟨hlk, hi, h1, h2, h3⟩, hin, hsel⟩ := hc
  have hrc := va_recv (s := s) hK hPc hcl hj
  rw [hq0] at hrc
  rcases hlk with hlk | ⟨host, hlk⟩
  · exact va_calll (va_runV (Ts := al) (As := As) (rest := st) (C := y.cls) ⟨hx, hb, hml, hown, hts⟩ (hM l D H.size) ⟨cl_B hts hlk hi h1 h2 h3 cd hfr, hts _ hin, hts _ hsel⟩ ⟨hp.1, hrc, hp.2⟩ rfl hlen hl.1 rfl (lv_room hroom) d hce) hS (fun q _ h => hFc q h) hFc (fun r u t H1 locs1 ht hvm hq hB hz1 hk1 hS1 => by
    obtain ⟨z, rfl, hp⟩ := hq
    obtain ⟨hP1, hD1⟩ := hB
    rw [ht] at hP1
    obtain ⟨hP2, hD2⟩ := va_join hP hD isC isR hC hR hn hdis hk1 hFc hP1 hD1
    exact h z u hp H1 locs1 ls hP2 hD2 hS1 hl)
  · exact va_calll (va_runVN (Ts := al) (As := As) (rest := st) (C := y.cls) (host := host) ⟨hx, hb, hml, hown, hts⟩ (hM l D H.size) ⟨cl_N hts (hnw _ hlk) hi h1 h2 h3 cd hfr, hts _ hin, hts _ hsel⟩ ⟨hp.1, hrc, hp.2⟩ rfl hlen hl.1 rfl (lv_room hroom) d hce) hS (fun q _ h => hFc q h) hFc (fun r u t H1 locs1 ht hvm hq hB hz1 hk1 hS1 => by
    obtain ⟨z, rfl, hp⟩ := hq
    obtain ⟨hP1, hD1⟩ := hB
    rw [ht] at hP1
    obtain ⟨hP2, hD2⟩ := va_join hP hD isC isR hC hR hn hdis hk1 hFc hP1 hD1
    exact h z u hp H1 locs1 ls hP2 hD2 hS1 hl)
theorem qc_sJ {K : Kx} {cI cJ : ClassId} {cc : ByteArray} {nL : Nat} {own : String} {rm : Room} {ws : va_W} {k n pc : Nat} {lv : List (Nat × Value)} {st : List Value} (C : Cx K cI cJ cc nL own rm) {ix np : Nat} {y : MethodName} {cc' : ByteArray} {nL' : Nat} {rm' : Room} {X : (Nat → Prop) → State → Prop} {As : List Value} {wc wr : va_W} {post : Int → va_W → Prop} {st0 : List Value} (hc : ClS own ix y np) (cd : Cond.code y cc' nL' (some .long) ∈ al) (hM : MtJ cI cJ y cc' nL' rm' X As wc post) (hX : Xok K X) (hXb : Xbl X)
    (isC isR : List Nat) (hC : isC.map (fun i => ws[i]?) = wc.map some) (hR : isR.map (fun i => ws[i]?) = wr.map some) (hnd : va_nd isC = true) (hn : va_nd isR = true) (hdis : ∀ i ∈ isR, i ∉ isC) (hst : st0 = As.reverse ++ st) (hlen : As.length = np) (hroom : (st.map fun v => v.category).sum ≤ 8) (hfr : rm'.frames + 1 ≤ rm.frames ∧ 8 + (nL' + 11) + rm'.locals ≤ rm.locals) (hce : k + rm'.cells ≤ rm.cells ∧ n + rm'.slots ≤ rm.slots) (d : decode cc pc = .ok (.invokestatic ix, 3)) (h : ∀ (z : Int) (u : va_W), post z u → V K nL (wr ++ u) (k + rm'.cells) (n + rm'.slots) (pc + 3) lv (vj z :: st)) : V K nL ws k n pc lv st0 := by
  obtain ⟨p, l, e, R, s, m, args, below, meth, c, D, A, Q⟩ := K
  obtain ⟨hx, hb, hml, hown, hts, hK, hA, rfl, hnw⟩ := C
  subst hst
  intro H locs ls hP hD hS hl
  have hDc := hD.sub isC hnd hC
  have hPc := hP.sub (ws' := wc) isC (by
    have h1 : ∀ (is : List Nat) (ws' : va_W), is.map (fun i => ws[i]?) = ws'.map some → is.filterMap (fun i => ws[i]?) = ws' := by
      intro is
      induction is with
      | nil => intro ws' h; cases ws' with
        | nil => rfl
        | cons a t => cases h
      | cons i is ih => intro ws' h; cases ws' with
        | nil => cases h
        | cons a t =>
          rw [List.map_cons, List.map_cons] at h
          injection h with h1 h2
          rw [List.filterMap_cons, h1]
          show a :: List.filterMap _ is = a :: t
          rw [ih t h2]
    exact h1 isC wc hC)
  have hFc := va_free (wc := wc) hD hS hA isC hC
  have hXc : ∀ U : State, U.heap = H → s.WarmedH U.vm → X (va_A wc H.size) U := fun U hU hW => hX H locs _ U hS hFc hU hW
  have hp := pre_in (s := s) (H := H) (D := D) (cI := cI) (cJ := cJ) As hXb hXc hPc hDc hK hnw
  obtain ⟨⟨hlk, hi, h1, h2, h3⟩, hsta⟩ := hc
  rcases hlk with hlk | ⟨host, hlk⟩
  · exact va_calll (va_runS (Ts := al) (As := As) (rest := st) ⟨hx, hb, hml, hown, hts⟩ (hM l D H.size) ⟨cl_B hts hlk hi h1 h2 h3 cd hfr, hts _ hsta⟩ hp rfl hlen hl.1 rfl (lv_room hroom) d hce) hS (fun q _ h => hFc q h) hFc (fun r u t H1 locs1 ht hvm hq hB hz1 hk1 hS1 => by
    obtain ⟨z, rfl, hp⟩ := hq
    obtain ⟨hP1, hD1⟩ := hB
    rw [ht] at hP1
    obtain ⟨hP2, hD2⟩ := va_join hP hD isC isR hC hR hn hdis hk1 hFc hP1 hD1
    exact h z u hp H1 locs1 ls hP2 hD2 hS1 hl)
  · exact va_calll (va_runSN (Ts := al) (As := As) (rest := st) (host := host) ⟨hx, hb, hml, hown, hts⟩ (hM l D H.size) ⟨cl_N hts (hnw _ hlk) hi h1 h2 h3 cd hfr, hts _ hsta, trivial⟩ hp rfl hlen hl.1 rfl (lv_room hroom) d hce) hS (fun q _ h => hFc q h) hFc (fun r u t H1 locs1 ht hvm hq hB hz1 hk1 hS1 => by
    obtain ⟨z, rfl, hp⟩ := hq
    obtain ⟨hP1, hD1⟩ := hB
    rw [ht] at hP1
    obtain ⟨hP2, hD2⟩ := va_join hP hD isC isR hC hR hn hdis hk1 hFc hP1 hD1
    exact h z u hp H1 locs1 ls hP2 hD2 hS1 hl)
theorem qc_vV {K : Kx} {cI cJ : ClassId} {cc : ByteArray} {nL : Nat} {own : String} {rm : Room} {ws : va_W} {k n pc : Nat} {lv : List (Nat × Value)} {st : List Value} (C : Cx K cI cJ cc nL own rm) {ix np : Nat} {y : MethodName} {cc' : ByteArray} {nL' : Nat} {rm' : Room} {X : (Nat → Prop) → State → Prop} {b ci : Nat} {fs : List Value} {q0 : vw_C} {As : List Value} {wc wr : va_W} {post : va_W → Prop} {st0 : List Value} (hc : ClV own ix y np) (cd : Cond.code y cc' nL' none ∈ al) (hM : MtV cI cJ y cc' nL' rm' X (.ref b :: As) wc post) (hX : Xok K X) (hXb : Xbl X)
    (isC isR : List Nat) (hC : isC.map (fun i => ws[i]?) = wc.map some) (hR : isR.map (fun i => ws[i]?) = wr.map some) (hnd : va_nd isC = true) (hn : va_nd isR = true) (hdis : ∀ i ∈ isR, i ∉ isC) (j : Nat) (hj : wc[j]? = some (oc b ci fs)) (hcl : clz[ci]? = some q0) (hq0 : q0.1 = y.cls) (hst : st0 = As.reverse ++ .ref b :: st) (hlen : As.length = np) (hroom : (st.map fun v => v.category).sum ≤ 8) (hfr : rm'.frames + 1 ≤ rm.frames ∧ 8 + (nL' + 11) + rm'.locals ≤ rm.locals) (hce : k + rm'.cells ≤ rm.cells ∧ n + rm'.slots ≤ rm.slots) (d : decode cc pc = .ok (.invokevirtual ix, 3)) (h : ∀ (u : va_W), post u → V K nL (wr ++ u) (k + rm'.cells) (n + rm'.slots) (pc + 3) lv st) : V K nL ws k n pc lv st0 := by
  obtain ⟨p, l, e, R, s, m, args, below, meth, c, D, A, Q⟩ := K
  obtain ⟨hx, hb, hml, hown, hts, hK, hA, rfl, hnw⟩ := C
  subst hst
  intro H locs ls hP hD hS hl
  have hDc := hD.sub isC hnd hC
  have hPc := hP.sub (ws' := wc) isC (by
    have h1 : ∀ (is : List Nat) (ws' : va_W), is.map (fun i => ws[i]?) = ws'.map some → is.filterMap (fun i => ws[i]?) = ws' := by
      intro is
      induction is with
      | nil => intro ws' h; cases ws' with
        | nil => rfl
        | cons a t => cases h
      | cons i is ih => intro ws' h; cases ws' with
        | nil => cases h
        | cons a t =>
          rw [List.map_cons, List.map_cons] at h
          injection h with h1 h2
          rw [List.filterMap_cons, h1]
          show a :: List.filterMap _ is = a :: t
          rw [ih t h2]
    exact h1 isC wc hC)
  have hFc := va_free (wc := wc) hD hS hA isC hC
  have hXc : ∀ U : State, U.heap = H → s.WarmedH U.vm → X (va_A wc H.size) U := fun U hU hW => hX H locs _ U hS hFc hU hW
  have hp := pre_in (s := s) (H := H) (D := D) (cI := cI) (cJ := cJ) (.ref b :: As) hXb hXc hPc hDc hK hnw
  obtain ⟨⟨hlk, hi, h1, h2, h3⟩, hin, hsel⟩ := hc
  have hrc := va_recv (s := s) hK hPc hcl hj
  rw [hq0] at hrc
  rcases hlk with hlk | ⟨host, hlk⟩
  · exact va_callv (va_runV (Ts := al) (As := As) (rest := st) (C := y.cls) ⟨hx, hb, hml, hown, hts⟩ (hM l D H.size) ⟨cl_B hts hlk hi h1 h2 h3 cd hfr, hts _ hin, hts _ hsel⟩ ⟨hp.1, hrc, hp.2⟩ rfl hlen hl.1 rfl (lv_room hroom) d hce) hS (fun q _ h => hFc q h) hFc (fun u t H1 locs1 ht hvm hq hB hz1 hk1 hS1 => by
    have hp := hq
    obtain ⟨hP1, hD1⟩ := hB
    rw [ht] at hP1
    obtain ⟨hP2, hD2⟩ := va_join hP hD isC isR hC hR hn hdis hk1 hFc hP1 hD1
    exact h u hp H1 locs1 ls hP2 hD2 hS1 hl)
  · exact va_callv (va_runVN (Ts := al) (As := As) (rest := st) (C := y.cls) (host := host) ⟨hx, hb, hml, hown, hts⟩ (hM l D H.size) ⟨cl_N hts (hnw _ hlk) hi h1 h2 h3 cd hfr, hts _ hin, hts _ hsel⟩ ⟨hp.1, hrc, hp.2⟩ rfl hlen hl.1 rfl (lv_room hroom) d hce) hS (fun q _ h => hFc q h) hFc (fun u t H1 locs1 ht hvm hq hB hz1 hk1 hS1 => by
    have hp := hq
    obtain ⟨hP1, hD1⟩ := hB
    rw [ht] at hP1
    obtain ⟨hP2, hD2⟩ := va_join hP hD isC isR hC hR hn hdis hk1 hFc hP1 hD1
    exact h u hp H1 locs1 ls hP2 hD2 hS1 hl)
theorem qc_sV {K : Kx} {cI cJ : ClassId} {cc : ByteArray} {nL : Nat} {own : String} {rm : Room} {ws : va_W} {k n pc : Nat} {lv : List (Nat × Value)} {st : List Value} (C : Cx K cI cJ cc nL own rm) {ix np : Nat} {y : MethodName} {cc' : ByteArray} {nL' : Nat} {rm' : Room} {X : (Nat → Prop) → State → Prop} {As : List Value} {wc wr : va_W} {post : va_W → Prop} {st0 : List Value} (hc : ClS own ix y np) (cd : Cond.code y cc' nL' none ∈ al) (hM : MtV cI cJ y cc' nL' rm' X As wc post) (hX : Xok K X) (hXb : Xbl X)
    (isC isR : List Nat) (hC : isC.map (fun i => ws[i]?) = wc.map some) (hR : isR.map (fun i => ws[i]?) = wr.map some) (hnd : va_nd isC = true) (hn : va_nd isR = true) (hdis : ∀ i ∈ isR, i ∉ isC) (hst : st0 = As.reverse ++ st) (hlen : As.length = np) (hroom : (st.map fun v => v.category).sum ≤ 8) (hfr : rm'.frames + 1 ≤ rm.frames ∧ 8 + (nL' + 11) + rm'.locals ≤ rm.locals) (hce : k + rm'.cells ≤ rm.cells ∧ n + rm'.slots ≤ rm.slots) (d : decode cc pc = .ok (.invokestatic ix, 3)) (h : ∀ (u : va_W), post u → V K nL (wr ++ u) (k + rm'.cells) (n + rm'.slots) (pc + 3) lv st) : V K nL ws k n pc lv st0 := by
  obtain ⟨p, l, e, R, s, m, args, below, meth, c, D, A, Q⟩ := K
  obtain ⟨hx, hb, hml, hown, hts, hK, hA, rfl, hnw⟩ := C
  subst hst
  intro H locs ls hP hD hS hl
  have hDc := hD.sub isC hnd hC
  have hPc := hP.sub (ws' := wc) isC (by
    have h1 : ∀ (is : List Nat) (ws' : va_W), is.map (fun i => ws[i]?) = ws'.map some → is.filterMap (fun i => ws[i]?) = ws' := by
      intro is
      induction is with
      | nil => intro ws' h; cases ws' with
        | nil => rfl
        | cons a t => cases h
      | cons i is ih => intro ws' h; cases ws' with
        | nil => cases h
        | cons a t =>
          rw [List.map_cons, List.map_cons] at h
          injection h with h1 h2
          rw [List.filterMap_cons, h1]
          show a :: List.filterMap _ is = a :: t
          rw [ih t h2]
    exact h1 isC wc hC)
  have hFc := va_free (wc := wc) hD hS hA isC hC
  have hXc : ∀ U : State, U.heap = H → s.WarmedH U.vm → X (va_A wc H.size) U := fun U hU hW => hX H locs _ U hS hFc hU hW
  have hp := pre_in (s := s) (H := H) (D := D) (cI := cI) (cJ := cJ) As hXb hXc hPc hDc hK hnw
  obtain ⟨⟨hlk, hi, h1, h2, h3⟩, hsta⟩ := hc
  rcases hlk with hlk | ⟨host, hlk⟩
  · exact va_callv (va_runS (Ts := al) (As := As) (rest := st) ⟨hx, hb, hml, hown, hts⟩ (hM l D H.size) ⟨cl_B hts hlk hi h1 h2 h3 cd hfr, hts _ hsta⟩ hp rfl hlen hl.1 rfl (lv_room hroom) d hce) hS (fun q _ h => hFc q h) hFc (fun u t H1 locs1 ht hvm hq hB hz1 hk1 hS1 => by
    have hp := hq
    obtain ⟨hP1, hD1⟩ := hB
    rw [ht] at hP1
    obtain ⟨hP2, hD2⟩ := va_join hP hD isC isR hC hR hn hdis hk1 hFc hP1 hD1
    exact h u hp H1 locs1 ls hP2 hD2 hS1 hl)
  · exact va_callv (va_runSN (Ts := al) (As := As) (rest := st) (host := host) ⟨hx, hb, hml, hown, hts⟩ (hM l D H.size) ⟨cl_N hts (hnw _ hlk) hi h1 h2 h3 cd hfr, hts _ hsta, trivial⟩ hp rfl hlen hl.1 rfl (lv_room hroom) d hce) hS (fun q _ h => hFc q h) hFc (fun u t H1 locs1 ht hvm hq hB hz1 hk1 hS1 => by
    have hp := hq
    obtain ⟨hP1, hD1⟩ := hB
    rw [ht] at hP1
    obtain ⟨hP2, hD2⟩ := va_join hP hD isC isR hC hR hn hdis hk1 hFc hP1 hD1
    exact h u hp H1 locs1 ls hP2 hD2 hS1 hl)
theorem qc_iV {K : Kx} {cI cJ : ClassId} {cc : ByteArray} {nL : Nat} {own : String} {rm : Room} {ws : va_W} {k n pc : Nat} {lv : List (Nat × Value)} {st : List Value} (C : Cx K cI cJ cc nL own rm) {ix np : Nat} {y : MethodName} {cc' : ByteArray} {nL' : Nat} {rm' : Room} {X : (Nat → Prop) → State → Prop} {b : Nat} {As : List Value} {wc wr : va_W} {post : va_W → Prop} {st0 : List Value} (hc : ClI own ix y np) (cd : Cond.code y cc' nL' none ∈ al) (hM : MtV cI cJ y cc' nL' rm' X (.ref b :: As) wc post) (hX : Xok K X) (hXb : Xbl X)
    (isC isR : List Nat) (hC : isC.map (fun i => ws[i]?) = wc.map some) (hR : isR.map (fun i => ws[i]?) = wr.map some) (hnd : va_nd isC = true) (hn : va_nd isR = true) (hdis : ∀ i ∈ isR, i ∉ isC) (hst : st0 = As.reverse ++ .ref b :: st) (hlen : As.length = np) (hroom : (st.map fun v => v.category).sum ≤ 8) (hfr : rm'.frames + 1 ≤ rm.frames ∧ 8 + (nL' + 11) + rm'.locals ≤ rm.locals) (hce : k + rm'.cells ≤ rm.cells ∧ n + rm'.slots ≤ rm.slots) (d : decode cc pc = .ok (.invokespecial ix, 3)) (h : ∀ (u : va_W), post u → V K nL (wr ++ u) (k + rm'.cells) (n + rm'.slots) (pc + 3) lv st) : V K nL ws k n pc lv st0 := by
  obtain ⟨p, l, e, R, s, m, args, below, meth, c, D, A, Q⟩ := K
  obtain ⟨hx, hb, hml, hown, hts, hK, hA, rfl, hnw⟩ := C
  subst hst
  intro H locs ls hP hD hS hl
  have hDc := hD.sub isC hnd hC
  have hPc := hP.sub (ws' := wc) isC (by
    have h1 : ∀ (is : List Nat) (ws' : va_W), is.map (fun i => ws[i]?) = ws'.map some → is.filterMap (fun i => ws[i]?) = ws' := by
      intro is
      induction is with
      | nil => intro ws' h; cases ws' with
        | nil => rfl
        | cons a t => cases h
      | cons i is ih => intro ws' h; cases ws' with
        | nil => cases h
        | cons a t =>
          rw [List.map_cons, List.map_cons] at h
          injection h with h1 h2
          rw [List.filterMap_cons, h1]
          show a :: List.filterMap _ is = a :: t
          rw [ih t h2]
    exact h1 isC wc hC)
  have hFc := va_free (wc := wc) hD hS hA isC hC
  have hXc : ∀ U : State, U.heap = H → s.WarmedH U.vm → X (va_A wc H.size) U := fun U hU hW => hX H locs _ U hS hFc hU hW
  have hp := pre_in (s := s) (H := H) (D := D) (cI := cI) (cJ := cJ) (.ref b :: As) hXb hXc hPc hDc hK hnw
  obtain ⟨⟨hlk, hi, h1, h2, h3⟩, hin, hnm⟩ := hc
  rcases hlk with hlk | ⟨host, hlk⟩
  · exact va_callv (va_runI (Ts := al) (As := As) (rest := st) ⟨hx, hb, hml, hown, hts⟩ (hM l D H.size) ⟨cl_B hts hlk hi h1 h2 h3 cd hfr, hnm, hts _ hin⟩ hp rfl hlen hl.1 rfl (lv_room hroom) d hce) hS (fun q _ h => hFc q h) hFc (fun u t H1 locs1 ht hvm hq hB hz1 hk1 hS1 => by
    have hp := hq
    obtain ⟨hP1, hD1⟩ := hB
    rw [ht] at hP1
    obtain ⟨hP2, hD2⟩ := va_join hP hD isC isR hC hR hn hdis hk1 hFc hP1 hD1
    exact h u hp H1 locs1 ls hP2 hD2 hS1 hl)
  · exact va_callv (va_runIN (Ts := al) (As := As) (rest := st) (host := host) ⟨hx, hb, hml, hown, hts⟩ (hM l D H.size) ⟨cl_N hts (hnw _ hlk) hi h1 h2 h3 cd hfr, hnm, hts _ hin⟩ hp rfl hlen hl.1 rfl (lv_room hroom) d hce) hS (fun q _ h => hFc q h) hFc (fun u t H1 locs1 ht hvm hq hB hz1 hk1 hS1 => by
    have hp := hq
    obtain ⟨hP1, hD1⟩ := hB
    rw [ht] at hP1
    obtain ⟨hP2, hD2⟩ := va_join hP hD isC isR hC hR hn hdis hk1 hFc hP1 hD1
    exact h u hp H1 locs1 ls hP2 hD2 hS1 hl)
