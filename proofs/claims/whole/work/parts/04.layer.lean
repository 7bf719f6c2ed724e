/-! the layer: one walk judgement over a bundle K, a row an instruction -/
abbrev Kx : Type := Program × Launch × Env × Room × State × MethodId × Array Value × List Frame × Method × Code × va_G × (Nat → Prop) × (State → Prop)
def V (K : Kx) (nL : Nat) (ws : va_W) (k n pc : Nat) (lv : List (Nat × Value)) (st : List Value) : Prop :=
  match K with
  | (p, l, e, R, s, m, args, below, meth, c, D, A, Q) => ∀ (H : Heap) (locs : List Loc) (ls : Array Slot), va_P D clz ws H → va_D A ws → va_S A s.heap H locs → lv_has ls nL lv → W p l e R s m args below meth c H locs k n Q (F0 m pc ls st)
def Cx (K : Kx) (cI cJ : ClassId) (cc : ByteArray) (nL : Nat) (own : String) (rm : Room) : Prop :=
  match K with
  | (p, _, _, R, s, m, args, _, _, c, D, A, _) => p.tables.exec = Jvm.exec ∧ c.code = cc ∧ c.maxLocals = nL ∧ s.vm.findClass own = some m.cls ∧ (∀ w ∈ al, w.before args s = true) ∧ va_K D clz [(cI, .int), (cJ, .long)] s ∧ (∀ q : Nat, s.heap.size ≤ q → A q) ∧ R = rm ∧ (∀ w ∈ nl, va_Nw w s)
def lk : List (Nat × Value) → Nat → Option Value
  | [], _ => none
  | (j, v) :: t, i => cond (Nat.beq j i) (some v) (lk t i)
theorem lk_mem : ∀ (lv : List (Nat × Value)) (i : Nat) (v : Value), lk lv i = some v → (i, v) ∈ lv
  | [], _, _, h => by cases h
  | (j, w) :: t, i, v, h => by
    unfold lk at h
    cases hb : Nat.beq j i with
    | true =>
      rw [hb] at h
      have h1 : w = v := Option.some.inj h
      have h2 : j = i := Nat.eq_of_beq_eq_true hb
      rw [h1, h2]
      exact List.mem_cons_self
    | false =>
      rw [hb] at h
      exact List.mem_cons_of_mem _ (lk_mem t i v h)
theorem lk_at {ls : Array Slot} {nL : Nat} {lv : List (Nat × Value)} (h : lv_has ls nL lv) {i : Nat} {v : Value} (hk : lk lv i = some v) : ls[i]? = some (.val v) := h.2.2 (i, v) (lk_mem _ _ _ hk)
abbrev ai (cI : ClassId) (a n : Nat) (f : Nat → Nat) : Nat × va_E := (a, .inl (cI, n, .inl (fun i => zi (f i : Nat))))
abbrev aj (cJ : ClassId) (a n : Nat) (f : Nat → Nat) : Nat × va_E := (a, .inl (cJ, n, .inr (.inl (fun i => zj (f i : Nat)))))
abbrev oc (a ci : Nat) (fs : List Value) : Nat × va_E := (a, .inr (ci, fs))
abbrev vi (z : Int) : Value := .int (zi z)
abbrev vj (z : Int) : Value := .long (zj z)
def un (f : Nat → Nat) (k x : Nat) : Nat → Nat := fun j => if j = k then x else f j
theorem un_i (f : Nat → Nat) (k x : Nat) : upd (fun i => zi (f i : Nat)) k (zi (x : Nat)) = fun i => zi (un f k x i : Nat) := by
  funext j; unfold upd un; by_cases h : j = k
  · rw [if_pos h, if_pos h]
  · rw [if_neg h, if_neg h]
theorem un_j (f : Nat → Nat) (k x : Nat) : vp_updL (fun i => zj (f i : Nat)) k (zj (x : Nat)) = fun i => zj (un f k x i : Nat) := by
  funext j; unfold vp_updL un; by_cases h : j = k
  · rw [if_pos h, if_pos h]
  · rw [if_neg h, if_neg h]
section Layer
variable {K : Kx} {cI cJ : ClassId} {cc : ByteArray} {nL : Nat} {own : String} {rm : Room} {ws : va_W} {k n pc : Nat} {lv : List (Nat × Value)} {st : List Value}
theorem qv_lv (ks : List Nat) {lv' : List (Nat × Value)} (hl : lv_pick lv ks = lv') (h : V K nL ws k n pc lv' st) : V K nL ws k n pc lv st := by
  obtain ⟨p, l, e, R, s, m, args, below, meth, c, D, A, Q⟩ := K
  intro H locs ls hP hD hS hl0
  exact h H locs ls hP hD hS (lv_sub hl0 ks hl)
theorem qv_ws (is : List Nat) {ws' : va_W} (hn : va_nd is = true) (hs : is.map (fun i => ws[i]?) = ws'.map some) (h : V K nL ws' k n pc lv st) : V K nL ws k n pc lv st := by
  obtain ⟨p, l, e, R, s, m, args, below, meth, c, D, A, Q⟩ := K
  intro H locs ls hP hD hS hl0
  refine h H locs ls (hP.sub is ?_) (hD.sub is hn hs) hS hl0
  have h1 : ∀ (is : List Nat) (ws' : va_W), is.map (fun i => ws[i]?) = ws'.map some → is.filterMap (fun i => ws[i]?) = ws' := by
    intro is
    induction is with
    | nil => intro ws' h; cases ws' with
      | nil => rfl
      | cons a t => cases h
    | cons i is ih => intro ws' h; cases ws' with
      | nil => cases h
      | cons a t =>
        rw [List.map_cons, List.map_cons] at h
        injection h with h1 h2
        rw [List.filterMap_cons, h1]
        show a :: List.filterMap _ is = a :: t
        rw [ih t h2]
  exact h1 is ws' hs
theorem qv_eq {ws' : va_W} {k' n' pc' : Nat} {lv' : List (Nat × Value)} {st' : List Value} (h : V K nL ws' k' n' pc' lv' st') (h1 : ws = ws') (h2 : lv = lv') (h3 : st = st') (h4 : pc = pc' := by rfl) (h5 : k = k' := by rfl) (h6 : n = n' := by rfl) : V K nL ws k n pc lv st := by
  subst h1 h2 h3 h4 h5 h6; exact h
theorem qv_wide {k' n' : Nat} (h1 : k ≤ k') (h2 : n ≤ n') (h : V K nL ws k' n' pc lv st) : V K nL ws k n pc lv st := by
  obtain ⟨p, l, e, R, s, m, args, below, meth, c, D, A, Q⟩ := K
  intro H locs ls hP hD hS hl0
  exact W.widen h1 h2 (h H locs ls hP hD hS hl0)
theorem qv_iconst (C : Cx K cI cJ cc nL own rm) {z : Int} (d : decode cc pc = .ok (.iconst z, 1)) (h : V K nL ws k n (pc + 1) lv (vi z :: st)) : V K nL ws k n pc lv st := by
  obtain ⟨p, l, e, R, s, m, args, below, meth, c, D, A, Q⟩ := K
  obtain ⟨hx, hb, hml, hown, hts, hK, hA, hR, hnw⟩ := C
  intro H locs ls hP hD hS hl
  exact lv_iconst hx hb d rfl (h H locs ls hP hD hS hl)
theorem qv_bipush (C : Cx K cI cJ cc nL own rm) {z : Int} (hz : (Int8.ofInt z).toInt32 = zi z) (d : decode cc pc = .ok (.bipush z, 2)) (h : V K nL ws k n (pc + 2) lv (vi z :: st)) : V K nL ws k n pc lv st := by
  obtain ⟨p, l, e, R, s, m, args, below, meth, c, D, A, Q⟩ := K
  obtain ⟨hx, hb, hml, hown, hts, hK, hA, hR, hnw⟩ := C
  intro H locs ls hP hD hS hl
  exact lv_bipush hx hb d hz (h H locs ls hP hD hS hl)
theorem qv_sipush (C : Cx K cI cJ cc nL own rm) {z : Int} (hz : (Int16.ofInt z).toInt32 = zi z) (d : decode cc pc = .ok (.sipush z, 3)) (h : V K nL ws k n (pc + 3) lv (vi z :: st)) : V K nL ws k n pc lv st := by
  obtain ⟨p, l, e, R, s, m, args, below, meth, c, D, A, Q⟩ := K
  obtain ⟨hx, hb, hml, hown, hts, hK, hA, hR, hnw⟩ := C
  intro H locs ls hP hD hS hl
  exact lv_sipush hx hb d hz (h H locs ls hP hD hS hl)
theorem qv_lconst (C : Cx K cI cJ cc nL own rm) {i : Fin 2} {z : Int} (hz : Int64.ofNat (i : Nat) = zj z) (d : decode cc pc = .ok (.lconst i, 1)) (h : V K nL ws k n (pc + 1) lv (vj z :: st)) : V K nL ws k n pc lv st := by
  obtain ⟨p, l, e, R, s, m, args, below, meth, c, D, A, Q⟩ := K
  obtain ⟨hx, hb, hml, hown, hts, hK, hA, hR, hnw⟩ := C
  intro H locs ls hP hD hS hl
  exact lv_lconst hx hb d hz (h H locs ls hP hD hS hl)
theorem qv_ldc (C : Cx K cI cJ cc nL own rm) {ix : Nat} {z : Int} (hw : Cond.constant own ix (zi z) ∈ al) (d : decode cc pc = .ok (.ldc ix, 2)) (h : V K nL ws k n (pc + 2) lv (vi z :: st)) : V K nL ws k n pc lv st := by
  obtain ⟨p, l, e, R, s, m, args, below, meth, c, D, A, Q⟩ := K
  obtain ⟨hx, hb, hml, hown, hts, hK, hA, hR, hnw⟩ := C
  intro H locs ls hP hD hS hl
  exact lv_ldc hx hb hown (hts _ hw) d (h H locs ls hP hD hS hl)
theorem qv_ldcw (C : Cx K cI cJ cc nL own rm) {ix : Nat} {z : Int} (hw : Cond.constant own ix (zi z) ∈ al) (d : decode cc pc = .ok (.ldc_w ix, 3)) (h : V K nL ws k n (pc + 3) lv (vi z :: st)) : V K nL ws k n pc lv st := by
  obtain ⟨p, l, e, R, s, m, args, below, meth, c, D, A, Q⟩ := K
  obtain ⟨hx, hb, hml, hown, hts, hK, hA, hR, hnw⟩ := C
  intro H locs ls hP hD hS hl
  exact lv_ldcw hx hb hown (hts _ hw) d (h H locs ls hP hD hS hl)
theorem qv_ldc2 (C : Cx K cI cJ cc nL own rm) {ix : Nat} {z : Int} (hw : Cond.constantLong own ix (zj z) ∈ al) (d : decode cc pc = .ok (.ldc2_w ix, 3)) (h : V K nL ws k n (pc + 3) lv (vj z :: st)) : V K nL ws k n pc lv st := by
  obtain ⟨p, l, e, R, s, m, args, below, meth, c, D, A, Q⟩ := K
  obtain ⟨hx, hb, hml, hown, hts, hK, hA, hR, hnw⟩ := C
  intro H locs ls hP hD hS hl
  exact lv_ldc2 hx hb hown (hts _ hw) d (h H locs ls hP hD hS hl)
theorem qv_iload_n (C : Cx K cI cJ cc nL own rm) {i : Fin 4} {x : Int32} (hl0 : lk lv i = some (.int x)) (d : decode cc pc = .ok (.iload_n i, 1)) (h : V K nL ws k n (pc + 1) lv (.int x :: st)) : V K nL ws k n pc lv st := by
  obtain ⟨p, l, e, R, s, m, args, below, meth, c, D, A, Q⟩ := K
  obtain ⟨hx, hb, hml, hown, hts, hK, hA, hR, hnw⟩ := C
  intro H locs ls hP hD hS hl
  exact lv_iload_n hx hb d rfl (lk_at hl hl0) (h H locs ls hP hD hS hl)
theorem qv_iload (C : Cx K cI cJ cc nL own rm) {i : Nat} {x : Int32} (hl0 : lk lv i = some (.int x)) (d : decode cc pc = .ok (.iload i, 2)) (h : V K nL ws k n (pc + 2) lv (.int x :: st)) : V K nL ws k n pc lv st := by
  obtain ⟨p, l, e, R, s, m, args, below, meth, c, D, A, Q⟩ := K
  obtain ⟨hx, hb, hml, hown, hts, hK, hA, hR, hnw⟩ := C
  intro H locs ls hP hD hS hl
  exact lv_iload hx hb d (lk_at hl hl0) (h H locs ls hP hD hS hl)
theorem qv_lload_n (C : Cx K cI cJ cc nL own rm) {i : Fin 4} {x : Int64} (hl0 : lk lv i = some (.long x)) (d : decode cc pc = .ok (.lload_n i, 1)) (h : V K nL ws k n (pc + 1) lv (.long x :: st)) : V K nL ws k n pc lv st := by
  obtain ⟨p, l, e, R, s, m, args, below, meth, c, D, A, Q⟩ := K
  obtain ⟨hx, hb, hml, hown, hts, hK, hA, hR, hnw⟩ := C
  intro H locs ls hP hD hS hl
  exact lv_lload_n hx hb d rfl (lk_at hl hl0) (h H locs ls hP hD hS hl)
theorem qv_lload (C : Cx K cI cJ cc nL own rm) {i : Nat} {x : Int64} (hl0 : lk lv i = some (.long x)) (d : decode cc pc = .ok (.lload i, 2)) (h : V K nL ws k n (pc + 2) lv (.long x :: st)) : V K nL ws k n pc lv st := by
  obtain ⟨p, l, e, R, s, m, args, below, meth, c, D, A, Q⟩ := K
  obtain ⟨hx, hb, hml, hown, hts, hK, hA, hR, hnw⟩ := C
  intro H locs ls hP hD hS hl
  exact lv_lload hx hb d (lk_at hl hl0) (h H locs ls hP hD hS hl)
theorem qv_aload_n (C : Cx K cI cJ cc nL own rm) {i : Fin 4} {x : Nat} (hl0 : lk lv i = some (.ref x)) (d : decode cc pc = .ok (.aload_n i, 1)) (h : V K nL ws k n (pc + 1) lv (.ref x :: st)) : V K nL ws k n pc lv st := by
  obtain ⟨p, l, e, R, s, m, args, below, meth, c, D, A, Q⟩ := K
  obtain ⟨hx, hb, hml, hown, hts, hK, hA, hR, hnw⟩ := C
  intro H locs ls hP hD hS hl
  exact lv_aload_n hx hb d rfl (lk_at hl hl0) (h H locs ls hP hD hS hl)
theorem qv_aload (C : Cx K cI cJ cc nL own rm) {i : Nat} {x : Nat} (hl0 : lk lv i = some (.ref x)) (d : decode cc pc = .ok (.aload i, 2)) (h : V K nL ws k n (pc + 2) lv (.ref x :: st)) : V K nL ws k n pc lv st := by
  obtain ⟨p, l, e, R, s, m, args, below, meth, c, D, A, Q⟩ := K
  obtain ⟨hx, hb, hml, hown, hts, hK, hA, hR, hnw⟩ := C
  intro H locs ls hP hD hS hl
  exact lv_aload hx hb d (lk_at hl hl0) (h H locs ls hP hD hS hl)
theorem qv_istore_n (C : Cx K cI cJ cc nL own rm) {i : Fin 4} {x : Int32} {lv' : List (Nat × Value)} (hn : i.val < nL) (hv : ((i : Nat), Value.int x) :: lv.filter (fun q => !(q.1 == (i : Nat)) && !(q.1 + 1 == (i : Nat) && q.2.category == 2)) = lv') (d : decode cc pc = .ok (.istore_n i, 1)) (h : V K nL ws k n (pc + 1) lv' st) : V K nL ws k n pc lv (Value.int x :: st) := by
  obtain ⟨p, l, e, R, s, m, args, below, meth, c, D, A, Q⟩ := K
  obtain ⟨hx, hb, hml, hown, hts, hK, hA, hR, hnw⟩ := C
  intro H locs ls hP hD hS hl
  exact lv_istore_n hx hb d rfl hl hn hv (fun ls' hl' => h H locs ls' hP hD hS hl')
theorem qv_istore (C : Cx K cI cJ cc nL own rm) {i : Nat} {x : Int32} {lv' : List (Nat × Value)} (hn : i < nL) (hv : (i, Value.int x) :: lv.filter (fun q => !(q.1 == i) && !(q.1 + 1 == i && q.2.category == 2)) = lv') (d : decode cc pc = .ok (.istore i, 2)) (h : V K nL ws k n (pc + 2) lv' st) : V K nL ws k n pc lv (Value.int x :: st) := by
  obtain ⟨p, l, e, R, s, m, args, below, meth, c, D, A, Q⟩ := K
  obtain ⟨hx, hb, hml, hown, hts, hK, hA, hR, hnw⟩ := C
  intro H locs ls hP hD hS hl
  exact lv_istore hx hb d hl hn hv (fun ls' hl' => h H locs ls' hP hD hS hl')
theorem qv_lstore_n (C : Cx K cI cJ cc nL own rm) {i : Fin 4} {x : Int64} {lv' : List (Nat × Value)} (hn : i.val + 1 < nL) (hv : ((i : Nat), Value.long x) :: lv.filter (fun q => !(q.1 == (i : Nat)) && (!(q.1 == (i : Nat) + 1) && !(q.1 + 1 == (i : Nat) && q.2.category == 2))) = lv') (d : decode cc pc = .ok (.lstore_n i, 1)) (h : V K nL ws k n (pc + 1) lv' st) : V K nL ws k n pc lv (Value.long x :: st) := by
  obtain ⟨p, l, e, R, s, m, args, below, meth, c, D, A, Q⟩ := K
  obtain ⟨hx, hb, hml, hown, hts, hK, hA, hR, hnw⟩ := C
  intro H locs ls hP hD hS hl
  exact lv_lstore_n hx hb d rfl hl hn hv (fun ls' hl' => h H locs ls' hP hD hS hl')
theorem qv_lstore (C : Cx K cI cJ cc nL own rm) {i : Nat} {x : Int64} {lv' : List (Nat × Value)} (hn : i + 1 < nL) (hv : (i, Value.long x) :: lv.filter (fun q => !(q.1 == i) && (!(q.1 == i + 1) && !(q.1 + 1 == i && q.2.category == 2))) = lv') (d : decode cc pc = .ok (.lstore i, 2)) (h : V K nL ws k n (pc + 2) lv' st) : V K nL ws k n pc lv (Value.long x :: st) := by
  obtain ⟨p, l, e, R, s, m, args, below, meth, c, D, A, Q⟩ := K
  obtain ⟨hx, hb, hml, hown, hts, hK, hA, hR, hnw⟩ := C
  intro H locs ls hP hD hS hl
  exact lv_lstore hx hb d hl hn hv (fun ls' hl' => h H locs ls' hP hD hS hl')
theorem qv_astore_n (C : Cx K cI cJ cc nL own rm) {i : Fin 4} {x : Nat} {lv' : List (Nat × Value)} (hn : i.val < nL) (hv : ((i : Nat), Value.ref x) :: lv.filter (fun q => !(q.1 == (i : Nat)) && !(q.1 + 1 == (i : Nat) && q.2.category == 2)) = lv') (d : decode cc pc = .ok (.astore_n i, 1)) (h : V K nL ws k n (pc + 1) lv' st) : V K nL ws k n pc lv (Value.ref x :: st) := by
  obtain ⟨p, l, e, R, s, m, args, below, meth, c, D, A, Q⟩ := K
  obtain ⟨hx, hb, hml, hown, hts, hK, hA, hR, hnw⟩ := C
  intro H locs ls hP hD hS hl
  exact lv_astore_n hx hb d rfl hl hn hv (fun ls' hl' => h H locs ls' hP hD hS hl')
theorem qv_astore (C : Cx K cI cJ cc nL own rm) {i : Nat} {x : Nat} {lv' : List (Nat × Value)} (hn : i < nL) (hv : (i, Value.ref x) :: lv.filter (fun q => !(q.1 == i) && !(q.1 + 1 == i && q.2.category == 2)) = lv') (d : decode cc pc = .ok (.astore i, 2)) (h : V K nL ws k n (pc + 2) lv' st) : V K nL ws k n pc lv (Value.ref x :: st) := by
  obtain ⟨p, l, e, R, s, m, args, below, meth, c, D, A, Q⟩ := K
  obtain ⟨hx, hb, hml, hown, hts, hK, hA, hR, hnw⟩ := C
  intro H locs ls hP hD hS hl
  exact lv_astore hx hb d hl hn hv (fun ls' hl' => h H locs ls' hP hD hS hl')
theorem qv_iinc (C : Cx K cI cJ cc nL own rm) {i j : Nat} {a z r : Int} {lv' : List (Nat × Value)} (er : a + z = r) (hj : lv[j]? = some (i, vi a)) (hn : i < nL) (hv : (i, vi r) :: lv.filter (fun q => !(q.1 == i) && !(q.1 + 1 == i && q.2.category == 2)) = lv') (d : decode cc pc = .ok (.iinc i z, 3)) (h : V K nL ws k n (pc + 3) lv' st) : V K nL ws k n pc lv st := by
  obtain ⟨p, l, e, R, s, m, args, below, meth, c, D, A, Q⟩ := K
  obtain ⟨hx, hb, hml, hown, hts, hK, hA, hR, hnw⟩ := C
  intro H locs ls hP hD hS hl
  subst er
  exact lv_iinc hx hb d hl hj (zi_add a z) hn hv (fun ls' hl' => h H locs ls' hP hD hS hl')
theorem qv_iincW (C : Cx K cI cJ cc nL own rm) {i j : Nat} {a z r : Int} {lv' : List (Nat × Value)} (er : a + z = r) (hj : lv[j]? = some (i, vi a)) (hn : i < nL) (hv : (i, vi r) :: lv.filter (fun q => !(q.1 == i) && !(q.1 + 1 == i && q.2.category == 2)) = lv') (d : decode cc pc = .ok (.iinc i z, 6)) (h : V K nL ws k n (pc + 6) lv' st) : V K nL ws k n pc lv st := by
  obtain ⟨p, l, e, R, s, m, args, below, meth, c, D, A, Q⟩ := K
  obtain ⟨hx, hb, hml, hown, hts, hK, hA, hR, hnw⟩ := C
  intro H locs ls hP hD hS hl
  subst er
  exact lv_iincW hx hb d hl hj (zi_add a z) hn hv (fun ls' hl' => h H locs ls' hP hD hS hl')
theorem qv_iadd (C : Cx K cI cJ cc nL own rm) {a b r : Int} (er : a + b = r) (d : decode cc pc = .ok (.iadd, 1)) (h : V K nL ws k n (pc + 1) lv (vi r :: st)) : V K nL ws k n pc lv (vi b :: vi a :: st) := by
  subst er
  obtain ⟨p, l, e, R, s, m, args, below, meth, c, D, A, Q⟩ := K
  obtain ⟨hx, hb, hml, hown, hts, hK, hA, hR, hnw⟩ := C
  intro H locs ls hP hD hS hl
  refine lv_iadd hx hb d ?_
  rw [zi_add]
  exact h H locs ls hP hD hS hl
theorem qv_isub (C : Cx K cI cJ cc nL own rm) {a b r : Int} (er : a - b = r) (d : decode cc pc = .ok (.isub, 1)) (h : V K nL ws k n (pc + 1) lv (vi r :: st)) : V K nL ws k n pc lv (vi b :: vi a :: st) := by
  subst er
  obtain ⟨p, l, e, R, s, m, args, below, meth, c, D, A, Q⟩ := K
  obtain ⟨hx, hb, hml, hown, hts, hK, hA, hR, hnw⟩ := C
  intro H locs ls hP hD hS hl
  refine lv_isub hx hb d ?_
  rw [zi_sub]
  exact h H locs ls hP hD hS hl
theorem qv_imul (C : Cx K cI cJ cc nL own rm) {a b r : Int} (er : a * b = r) (d : decode cc pc = .ok (.imul, 1)) (h : V K nL ws k n (pc + 1) lv (vi r :: st)) : V K nL ws k n pc lv (vi b :: vi a :: st) := by
  subst er
  obtain ⟨p, l, e, R, s, m, args, below, meth, c, D, A, Q⟩ := K
  obtain ⟨hx, hb, hml, hown, hts, hK, hA, hR, hnw⟩ := C
  intro H locs ls hP hD hS hl
  refine lv_imul hx hb d ?_
  rw [zi_mul]
  exact h H locs ls hP hD hS hl
theorem qv_ladd (C : Cx K cI cJ cc nL own rm) {a b r : Int} (er : a + b = r) (d : decode cc pc = .ok (.ladd, 1)) (h : V K nL ws k n (pc + 1) lv (vj r :: st)) : V K nL ws k n pc lv (vj b :: vj a :: st) := by
  subst er
  obtain ⟨p, l, e, R, s, m, args, below, meth, c, D, A, Q⟩ := K
  obtain ⟨hx, hb, hml, hown, hts, hK, hA, hR, hnw⟩ := C
  intro H locs ls hP hD hS hl
  refine lv_ladd hx hb d ?_
  rw [zj_add]
  exact h H locs ls hP hD hS hl
theorem qv_lsub (C : Cx K cI cJ cc nL own rm) {a b r : Int} (er : a - b = r) (d : decode cc pc = .ok (.lsub, 1)) (h : V K nL ws k n (pc + 1) lv (vj r :: st)) : V K nL ws k n pc lv (vj b :: vj a :: st) := by
  subst er
  obtain ⟨p, l, e, R, s, m, args, below, meth, c, D, A, Q⟩ := K
  obtain ⟨hx, hb, hml, hown, hts, hK, hA, hR, hnw⟩ := C
  intro H locs ls hP hD hS hl
  refine lv_lsub hx hb d ?_
  rw [zj_sub]
  exact h H locs ls hP hD hS hl
theorem qv_lmul (C : Cx K cI cJ cc nL own rm) {a b r : Int} (er : a * b = r) (d : decode cc pc = .ok (.lmul, 1)) (h : V K nL ws k n (pc + 1) lv (vj r :: st)) : V K nL ws k n pc lv (vj b :: vj a :: st) := by
  subst er
  obtain ⟨p, l, e, R, s, m, args, below, meth, c, D, A, Q⟩ := K
  obtain ⟨hx, hb, hml, hown, hts, hK, hA, hR, hnw⟩ := C
  intro H locs ls hP hD hS hl
  refine lv_lmul hx hb d ?_
  rw [zj_mul]
  exact h H locs ls hP hD hS hl
theorem qv_idiv (C : Cx K cI cJ cc nL own rm) {a b r : Int} (ha : 0 ≤ a) (ha2 : a ≤ 2147483647) (hb0 : 0 < b) (hb2 : b ≤ 2147483647) (er : a / b = r) (d : decode cc pc = .ok (.idiv, 1)) (h : V K nL ws k n (pc + 1) lv (vi r :: st)) : V K nL ws k n pc lv (vi b :: vi a :: st) := by
  subst er
  obtain ⟨p, l, e, R, s, m, args, below, meth, c, D, A, Q⟩ := K
  obtain ⟨hx, hb, hml, hown, hts, hK, hA, hR, hnw⟩ := C
  intro H locs ls hP hD hS hl
  refine lv_idiv hx hb d (zi_nz ⟨by omega, hb2⟩ (by omega)) ?_
  rw [zi_div ha ha2 hb0 hb2]
  exact h H locs ls hP hD hS hl
theorem qv_irem (C : Cx K cI cJ cc nL own rm) {a b r : Int} (ha : 0 ≤ a) (ha2 : a ≤ 2147483647) (hb0 : 0 < b) (hb2 : b ≤ 2147483647) (er : a % b = r) (d : decode cc pc = .ok (.irem, 1)) (h : V K nL ws k n (pc + 1) lv (vi r :: st)) : V K nL ws k n pc lv (vi b :: vi a :: st) := by
  subst er
  obtain ⟨p, l, e, R, s, m, args, below, meth, c, D, A, Q⟩ := K
  obtain ⟨hx, hb, hml, hown, hts, hK, hA, hR, hnw⟩ := C
  intro H locs ls hP hD hS hl
  refine lv_irem hx hb d (zi_nz ⟨by omega, hb2⟩ (by omega)) ?_
  rw [zi_rem ha ha2 hb0 hb2]
  exact h H locs ls hP hD hS hl
theorem qv_ldiv (C : Cx K cI cJ cc nL own rm) {a b r : Int} (ha : 0 ≤ a) (ha2 : a ≤ 9223372036854775807) (hb0 : 0 < b) (hb2 : b ≤ 9223372036854775807) (er : a / b = r) (d : decode cc pc = .ok (.ldiv, 1)) (h : V K nL ws k n (pc + 1) lv (vj r :: st)) : V K nL ws k n pc lv (vj b :: vj a :: st) := by
  subst er
  obtain ⟨p, l, e, R, s, m, args, below, meth, c, D, A, Q⟩ := K
  obtain ⟨hx, hb, hml, hown, hts, hK, hA, hR, hnw⟩ := C
  intro H locs ls hP hD hS hl
  refine lv_ldiv hx hb d (zj_nz ⟨by omega, hb2⟩ (by omega)) ?_
  rw [zj_div ha ha2 hb0 hb2]
  exact h H locs ls hP hD hS hl
theorem qv_lrem (C : Cx K cI cJ cc nL own rm) {a b r : Int} (ha : 0 ≤ a) (ha2 : a ≤ 9223372036854775807) (hb0 : 0 < b) (hb2 : b ≤ 9223372036854775807) (er : a % b = r) (d : decode cc pc = .ok (.lrem, 1)) (h : V K nL ws k n (pc + 1) lv (vj r :: st)) : V K nL ws k n pc lv (vj b :: vj a :: st) := by
  subst er
  obtain ⟨p, l, e, R, s, m, args, below, meth, c, D, A, Q⟩ := K
  obtain ⟨hx, hb, hml, hown, hts, hK, hA, hR, hnw⟩ := C
  intro H locs ls hP hD hS hl
  refine lv_lrem hx hb d (zj_nz ⟨by omega, hb2⟩ (by omega)) ?_
  rw [zj_rem ha ha2 hb0 hb2]
  exact h H locs ls hP hD hS hl
theorem qv_ineg (C : Cx K cI cJ cc nL own rm) {a : Int} (d : decode cc pc = .ok (.ineg, 1)) (h : V K nL ws k n (pc + 1) lv (vi (-a) :: st)) : V K nL ws k n pc lv (vi a :: st) := by
  obtain ⟨p, l, e, R, s, m, args, below, meth, c, D, A, Q⟩ := K
  obtain ⟨hx, hb, hml, hown, hts, hK, hA, hR, hnw⟩ := C
  intro H locs ls hP hD hS hl
  refine lv_ineg hx hb d ?_
  rw [zi_neg]
  exact h H locs ls hP hD hS hl
theorem qv_i2l (C : Cx K cI cJ cc nL own rm) {a : Int} (ha : ri a) (d : decode cc pc = .ok (.i2l, 1)) (h : V K nL ws k n (pc + 1) lv (vj a :: st)) : V K nL ws k n pc lv (vi a :: st) := by
  obtain ⟨p, l, e, R, s, m, args, below, meth, c, D, A, Q⟩ := K
  obtain ⟨hx, hb, hml, hown, hts, hK, hA, hR, hnw⟩ := C
  intro H locs ls hP hD hS hl
  exact lv_i2l hx hb d (zi_zj ha) (h H locs ls hP hD hS hl)
theorem qv_l2i (C : Cx K cI cJ cc nL own rm) {a : Int} (d : decode cc pc = .ok (.l2i, 1)) (h : V K nL ws k n (pc + 1) lv (vi a :: st)) : V K nL ws k n pc lv (vj a :: st) := by
  obtain ⟨p, l, e, R, s, m, args, below, meth, c, D, A, Q⟩ := K
  obtain ⟨hx, hb, hml, hown, hts, hK, hA, hR, hnw⟩ := C
  intro H locs ls hP hD hS hl
  exact lv_l2i hx hb d (zj_zi a) (h H locs ls hP hD hS hl)
theorem qv_lshl (C : Cx K cI cJ cc nL own rm) {a b : Int} (x y : Nat) (hx1 : a = (x : Int)) (hy1 : b = (y : Int)) (hy : y < 64) (d : decode cc pc = .ok (.lshl, 1)) (h : V K nL ws k n (pc + 1) lv (vj ((x * 2 ^ y : Nat) : Int) :: st)) : V K nL ws k n pc lv (vi b :: vj a :: st) := by
  obtain ⟨p, l, e, R, s, m, args, below, meth, c, D, A, Q⟩ := K
  obtain ⟨hx, hb, hml, hown, hts, hK, hA, hR, hnw⟩ := C
  intro H locs ls hP hD hS hl
  subst hx1 hy1
  exact lv_lshl hx hb d (zj_shl hy) (h H locs ls hP hD hS hl)
theorem qv_lushr (C : Cx K cI cJ cc nL own rm) {a b : Int} (x y : Nat) (hx1 : a = (x : Int)) (hx2 : x < 18446744073709551616) (hy1 : b = (y : Int)) (hy : y < 64) (d : decode cc pc = .ok (.lushr, 1)) (h : V K nL ws k n (pc + 1) lv (vj ((x / 2 ^ y : Nat) : Int) :: st)) : V K nL ws k n pc lv (vi b :: vj a :: st) := by
  obtain ⟨p, l, e, R, s, m, args, below, meth, c, D, A, Q⟩ := K
  obtain ⟨hx, hb, hml, hown, hts, hK, hA, hR, hnw⟩ := C
  intro H locs ls hP hD hS hl
  subst hx1 hy1
  exact lv_lushr hx hb d (zj_ushr hx2 hy) (h H locs ls hP hD hS hl)
theorem qv_land (C : Cx K cI cJ cc nL own rm) {a b : Int} {r : Int} (hr : zj a &&& zj b = zj r) (d : decode cc pc = .ok (.land, 1)) (h : V K nL ws k n (pc + 1) lv (vj r :: st)) : V K nL ws k n pc lv (vj b :: vj a :: st) := by
  obtain ⟨p, l, e, R, s, m, args, below, meth, c, D, A, Q⟩ := K
  obtain ⟨hx, hb, hml, hown, hts, hK, hA, hR, hnw⟩ := C
  intro H locs ls hP hD hS hl
  refine lv_land hx hb d ?_
  rw [hr]
  exact h H locs ls hP hD hS hl
theorem qv_lor (C : Cx K cI cJ cc nL own rm) {a b : Int} {r : Int} (hr : zj a ||| zj b = zj r) (d : decode cc pc = .ok (.lor, 1)) (h : V K nL ws k n (pc + 1) lv (vj r :: st)) : V K nL ws k n pc lv (vj b :: vj a :: st) := by
  obtain ⟨p, l, e, R, s, m, args, below, meth, c, D, A, Q⟩ := K
  obtain ⟨hx, hb, hml, hown, hts, hK, hA, hR, hnw⟩ := C
  intro H locs ls hP hD hS hl
  refine lv_lor hx hb d ?_
  rw [hr]
  exact h H locs ls hP hD hS hl
theorem qv_iand (C : Cx K cI cJ cc nL own rm) {a b : Int} {r : Int} (hr : zi a &&& zi b = zi r) (d : decode cc pc = .ok (.iand, 1)) (h : V K nL ws k n (pc + 1) lv (vi r :: st)) : V K nL ws k n pc lv (vi b :: vi a :: st) := by
  obtain ⟨p, l, e, R, s, m, args, below, meth, c, D, A, Q⟩ := K
  obtain ⟨hx, hb, hml, hown, hts, hK, hA, hR, hnw⟩ := C
  intro H locs ls hP hD hS hl
  refine lv_iand hx hb d ?_
  rw [hr]
  exact h H locs ls hP hD hS hl
theorem qv_ior (C : Cx K cI cJ cc nL own rm) {a b : Int} {r : Int} (hr : zi a ||| zi b = zi r) (d : decode cc pc = .ok (.ior, 1)) (h : V K nL ws k n (pc + 1) lv (vi r :: st)) : V K nL ws k n pc lv (vi b :: vi a :: st) := by
  obtain ⟨p, l, e, R, s, m, args, below, meth, c, D, A, Q⟩ := K
  obtain ⟨hx, hb, hml, hown, hts, hK, hA, hR, hnw⟩ := C
  intro H locs ls hP hD hS hl
  refine lv_ior hx hb d ?_
  rw [hr]
  exact h H locs ls hP hD hS hl
theorem qv_lcmp (C : Cx K cI cJ cc nL own rm) {a b : Int} (ha : rj a) (hb0 : rj b) (d : decode cc pc = .ok (.lcmp, 1)) (h : V K nL ws k n (pc + 1) lv (vi (if b < a then 1 else if a = b then 0 else -1) :: st)) : V K nL ws k n pc lv (vj b :: vj a :: st) := by
  obtain ⟨p, l, e, R, s, m, args, below, meth, c, D, A, Q⟩ := K
  obtain ⟨hx, hb, hml, hown, hts, hK, hA, hR, hnw⟩ := C
  intro H locs ls hP hD hS hl
  refine W.lcmp hx hb d ?_
  rw [zj_cmp ha hb0]
  exact h H locs ls hP hD hS hl
theorem qv_dup (C : Cx K cI cJ cc nL own rm) {v : Value} (hv : v.category = 1) (d : decode cc pc = .ok (.dup, 1)) (h : V K nL ws k n (pc + 1) lv (v :: v :: st)) : V K nL ws k n pc lv (v :: st) := by
  obtain ⟨p, l, e, R, s, m, args, below, meth, c, D, A, Q⟩ := K
  obtain ⟨hx, hb, hml, hown, hts, hK, hA, hR, hnw⟩ := C
  intro H locs ls hP hD hS hl
  exact lv_dup hx hb d hv (h H locs ls hP hD hS hl)
theorem qv_pop (C : Cx K cI cJ cc nL own rm) {v : Value} (hv : v.category = 1) (d : decode cc pc = .ok (.pop, 1)) (h : V K nL ws k n (pc + 1) lv st) : V K nL ws k n pc lv (v :: st) := by
  obtain ⟨p, l, e, R, s, m, args, below, meth, c, D, A, Q⟩ := K
  obtain ⟨hx, hb, hml, hown, hts, hK, hA, hR, hnw⟩ := C
  intro H locs ls hP hD hS hl
  exact lv_pop hx hb d hv (h H locs ls hP hD hS hl)
theorem qv_pop2 (C : Cx K cI cJ cc nL own rm) {v : Value} (hv : v.category = 2) (d : decode cc pc = .ok (.pop2, 1)) (h : V K nL ws k n (pc + 1) lv st) : V K nL ws k n pc lv (v :: st) := by
  obtain ⟨p, l, e, R, s, m, args, below, meth, c, D, A, Q⟩ := K
  obtain ⟨hx, hb, hml, hown, hts, hK, hA, hR, hnw⟩ := C
  intro H locs ls hP hD hS hl
  exact lv_pop2_2 hx hb d hv (h H locs ls hP hD hS hl)
theorem qv_dup_x1 (C : Cx K cI cJ cc nL own rm) {v u : Value} (hv : v.category = 1) (hu : u.category = 1) (d : decode cc pc = .ok (.dup_x1, 1)) (h : V K nL ws k n (pc + 1) lv (v :: u :: v :: st)) : V K nL ws k n pc lv (v :: u :: st) := by
  obtain ⟨p, l, e, R, s, m, args, below, meth, c, D, A, Q⟩ := K
  obtain ⟨hx, hb, hml, hown, hts, hK, hA, hR, hnw⟩ := C
  intro H locs ls hP hD hS hl
  exact lv_dup_x1 hx hb d hv hu (h H locs ls hP hD hS hl)
theorem qv_dup2 (C : Cx K cI cJ cc nL own rm) {v u : Value} (hv : v.category = 1) (hu : u.category = 1) (d : decode cc pc = .ok (.dup2, 1)) (h : V K nL ws k n (pc + 1) lv (v :: u :: v :: u :: st)) : V K nL ws k n pc lv (v :: u :: st) := by
  obtain ⟨p, l, e, R, s, m, args, below, meth, c, D, A, Q⟩ := K
  obtain ⟨hx, hb, hml, hown, hts, hK, hA, hR, hnw⟩ := C
  intro H locs ls hP hD hS hl
  exact lv_dup2_11 hx hb d hv hu (h H locs ls hP hD hS hl)
theorem qv_dup2L (C : Cx K cI cJ cc nL own rm) {v : Value} (hv : v.category = 2) (d : decode cc pc = .ok (.dup2, 1)) (h : V K nL ws k n (pc + 1) lv (v :: v :: st)) : V K nL ws k n pc lv (v :: st) := by
  obtain ⟨p, l, e, R, s, m, args, below, meth, c, D, A, Q⟩ := K
  obtain ⟨hx, hb, hml, hown, hts, hK, hA, hR, hnw⟩ := C
  intro H locs ls hP hD hS hl
  exact lv_dup2_2 hx hb d hv (h H locs ls hP hD hS hl)
theorem qv_ifeq (C : Cx K cI cJ cc nL own rm) {a off : Int} {tgt : Nat} (ha : ri a) (ht : (pc : Int) + off = (tgt : Int)) (d : decode cc pc = .ok (.ifCond .eq off, 3)) (h1 : a = 0 → V K nL ws k n tgt lv st) (h2 : ¬ a = 0 → V K nL ws k n (pc + 3) lv st) : V K nL ws k n pc lv (vi a :: st) := by
  obtain ⟨p, l, e, R, s, m, args, below, meth, c, D, A, Q⟩ := K
  obtain ⟨hx, hb, hml, hown, hts, hK, hA, hR, hnw⟩ := C
  intro H locs ls hP hD hS hl
  have e0 : zi a = 0 ↔ a = 0 := by rw [← zi_0]; exact zi_eq ha (by omega)
  exact lv_if_eq hx hb d ht (fun q => h1 (e0.mp q) H locs ls hP hD hS hl) (fun q => h2 (fun q2 => q (e0.mpr q2)) H locs ls hP hD hS hl)
theorem qv_ifne (C : Cx K cI cJ cc nL own rm) {a off : Int} {tgt : Nat} (ha : ri a) (ht : (pc : Int) + off = (tgt : Int)) (d : decode cc pc = .ok (.ifCond .ne off, 3)) (h1 : a ≠ 0 → V K nL ws k n tgt lv st) (h2 : a = 0 → V K nL ws k n (pc + 3) lv st) : V K nL ws k n pc lv (vi a :: st) := by
  obtain ⟨p, l, e, R, s, m, args, below, meth, c, D, A, Q⟩ := K
  obtain ⟨hx, hb, hml, hown, hts, hK, hA, hR, hnw⟩ := C
  intro H locs ls hP hD hS hl
  have e0 : zi a = 0 ↔ a = 0 := by rw [← zi_0]; exact zi_eq ha (by omega)
  exact lv_if_ne hx hb d ht (fun q => h1 (fun q2 => q (e0.mpr q2)) H locs ls hP hD hS hl) (fun q => h2 (e0.mp q) H locs ls hP hD hS hl)
theorem qv_iflt (C : Cx K cI cJ cc nL own rm) {a off : Int} {tgt : Nat} (ha : ri a) (ht : (pc : Int) + off = (tgt : Int)) (d : decode cc pc = .ok (.ifCond .lt off, 3)) (h1 : a < 0 → V K nL ws k n tgt lv st) (h2 : ¬ a < 0 → V K nL ws k n (pc + 3) lv st) : V K nL ws k n pc lv (vi a :: st) := by
  obtain ⟨p, l, e, R, s, m, args, below, meth, c, D, A, Q⟩ := K
  obtain ⟨hx, hb, hml, hown, hts, hK, hA, hR, hnw⟩ := C
  intro H locs ls hP hD hS hl
  have e0 : zi a < 0 ↔ a < 0 := by rw [← zi_0]; exact zi_lt ha (by omega)
  exact lv_if_lt hx hb d ht (fun q => h1 (e0.mp q) H locs ls hP hD hS hl) (fun q => h2 (fun q2 => q (e0.mpr q2)) H locs ls hP hD hS hl)
theorem qv_ifge (C : Cx K cI cJ cc nL own rm) {a off : Int} {tgt : Nat} (ha : ri a) (ht : (pc : Int) + off = (tgt : Int)) (d : decode cc pc = .ok (.ifCond .ge off, 3)) (h1 : 0 ≤ a → V K nL ws k n tgt lv st) (h2 : ¬ 0 ≤ a → V K nL ws k n (pc + 3) lv st) : V K nL ws k n pc lv (vi a :: st) := by
  obtain ⟨p, l, e, R, s, m, args, below, meth, c, D, A, Q⟩ := K
  obtain ⟨hx, hb, hml, hown, hts, hK, hA, hR, hnw⟩ := C
  intro H locs ls hP hD hS hl
  have e0 : (0 : Int32) ≤ zi a ↔ 0 ≤ a := by rw [← zi_0]; exact zi_le (by omega) ha
  exact lv_if_ge hx hb d ht (fun q => h1 (e0.mp q) H locs ls hP hD hS hl) (fun q => h2 (fun q2 => q (e0.mpr q2)) H locs ls hP hD hS hl)
theorem qv_ifgt (C : Cx K cI cJ cc nL own rm) {a off : Int} {tgt : Nat} (ha : ri a) (ht : (pc : Int) + off = (tgt : Int)) (d : decode cc pc = .ok (.ifCond .gt off, 3)) (h1 : 0 < a → V K nL ws k n tgt lv st) (h2 : ¬ 0 < a → V K nL ws k n (pc + 3) lv st) : V K nL ws k n pc lv (vi a :: st) := by
  obtain ⟨p, l, e, R, s, m, args, below, meth, c, D, A, Q⟩ := K
  obtain ⟨hx, hb, hml, hown, hts, hK, hA, hR, hnw⟩ := C
  intro H locs ls hP hD hS hl
  have e0 : (0 : Int32) < zi a ↔ 0 < a := by rw [← zi_0]; exact zi_lt (by omega) ha
  exact lv_if_gt hx hb d ht (fun q => h1 (e0.mp q) H locs ls hP hD hS hl) (fun q => h2 (fun q2 => q (e0.mpr q2)) H locs ls hP hD hS hl)
theorem qv_ifle (C : Cx K cI cJ cc nL own rm) {a off : Int} {tgt : Nat} (ha : ri a) (ht : (pc : Int) + off = (tgt : Int)) (d : decode cc pc = .ok (.ifCond .le off, 3)) (h1 : a ≤ 0 → V K nL ws k n tgt lv st) (h2 : ¬ a ≤ 0 → V K nL ws k n (pc + 3) lv st) : V K nL ws k n pc lv (vi a :: st) := by
  obtain ⟨p, l, e, R, s, m, args, below, meth, c, D, A, Q⟩ := K
  obtain ⟨hx, hb, hml, hown, hts, hK, hA, hR, hnw⟩ := C
  intro H locs ls hP hD hS hl
  have e0 : zi a ≤ 0 ↔ a ≤ 0 := by rw [← zi_0]; exact zi_le ha (by omega)
  exact lv_if_le hx hb d ht (fun q => h1 (e0.mp q) H locs ls hP hD hS hl) (fun q => h2 (fun q2 => q (e0.mpr q2)) H locs ls hP hD hS hl)
theorem qv_iceq (C : Cx K cI cJ cc nL own rm) {a b off : Int} {tgt : Nat} (ha : ri a) (hb0 : ri b) (ht : (pc : Int) + off = (tgt : Int)) (d : decode cc pc = .ok (.if_icmp .eq off, 3)) (h1 : a = b → V K nL ws k n tgt lv st) (h2 : ¬ a = b → V K nL ws k n (pc + 3) lv st) : V K nL ws k n pc lv (vi b :: vi a :: st) := by
  obtain ⟨p, l, e, R, s, m, args, below, meth, c, D, A, Q⟩ := K
  obtain ⟨hx, hb, hml, hown, hts, hK, hA, hR, hnw⟩ := C
  intro H locs ls hP hD hS hl
  have e0 : zi a = zi b ↔ a = b := zi_eq ha hb0
  exact lv_icmp_eq hx hb d ht (fun q => h1 (e0.mp q) H locs ls hP hD hS hl) (fun q => h2 (fun q2 => q (e0.mpr q2)) H locs ls hP hD hS hl)
theorem qv_icne (C : Cx K cI cJ cc nL own rm) {a b off : Int} {tgt : Nat} (ha : ri a) (hb0 : ri b) (ht : (pc : Int) + off = (tgt : Int)) (d : decode cc pc = .ok (.if_icmp .ne off, 3)) (h1 : a ≠ b → V K nL ws k n tgt lv st) (h2 : a = b → V K nL ws k n (pc + 3) lv st) : V K nL ws k n pc lv (vi b :: vi a :: st) := by
  obtain ⟨p, l, e, R, s, m, args, below, meth, c, D, A, Q⟩ := K
  obtain ⟨hx, hb, hml, hown, hts, hK, hA, hR, hnw⟩ := C
  intro H locs ls hP hD hS hl
  have e0 : zi a = zi b ↔ a = b := zi_eq ha hb0
  exact lv_icmp_ne hx hb d ht (fun q => h1 (fun q2 => q (e0.mpr q2)) H locs ls hP hD hS hl) (fun q => h2 (e0.mp q) H locs ls hP hD hS hl)
theorem qv_iclt (C : Cx K cI cJ cc nL own rm) {a b off : Int} {tgt : Nat} (ha : ri a) (hb0 : ri b) (ht : (pc : Int) + off = (tgt : Int)) (d : decode cc pc = .ok (.if_icmp .lt off, 3)) (h1 : a < b → V K nL ws k n tgt lv st) (h2 : ¬ a < b → V K nL ws k n (pc + 3) lv st) : V K nL ws k n pc lv (vi b :: vi a :: st) := by
  obtain ⟨p, l, e, R, s, m, args, below, meth, c, D, A, Q⟩ := K
  obtain ⟨hx, hb, hml, hown, hts, hK, hA, hR, hnw⟩ := C
  intro H locs ls hP hD hS hl
  have e0 : zi a < zi b ↔ a < b := zi_lt ha hb0
  exact lv_icmp_lt hx hb d ht (fun q => h1 (e0.mp q) H locs ls hP hD hS hl) (fun q => h2 (fun q2 => q (e0.mpr q2)) H locs ls hP hD hS hl)
theorem qv_icge (C : Cx K cI cJ cc nL own rm) {a b off : Int} {tgt : Nat} (ha : ri a) (hb0 : ri b) (ht : (pc : Int) + off = (tgt : Int)) (d : decode cc pc = .ok (.if_icmp .ge off, 3)) (h1 : b ≤ a → V K nL ws k n tgt lv st) (h2 : ¬ b ≤ a → V K nL ws k n (pc + 3) lv st) : V K nL ws k n pc lv (vi b :: vi a :: st) := by
  obtain ⟨p, l, e, R, s, m, args, below, meth, c, D, A, Q⟩ := K
  obtain ⟨hx, hb, hml, hown, hts, hK, hA, hR, hnw⟩ := C
  intro H locs ls hP hD hS hl
  have e0 : zi b ≤ zi a ↔ b ≤ a := zi_le hb0 ha
  exact lv_icmp_ge hx hb d ht (fun q => h1 (e0.mp q) H locs ls hP hD hS hl) (fun q => h2 (fun q2 => q (e0.mpr q2)) H locs ls hP hD hS hl)
theorem qv_icgt (C : Cx K cI cJ cc nL own rm) {a b off : Int} {tgt : Nat} (ha : ri a) (hb0 : ri b) (ht : (pc : Int) + off = (tgt : Int)) (d : decode cc pc = .ok (.if_icmp .gt off, 3)) (h1 : b < a → V K nL ws k n tgt lv st) (h2 : ¬ b < a → V K nL ws k n (pc + 3) lv st) : V K nL ws k n pc lv (vi b :: vi a :: st) := by
  obtain ⟨p, l, e, R, s, m, args, below, meth, c, D, A, Q⟩ := K
  obtain ⟨hx, hb, hml, hown, hts, hK, hA, hR, hnw⟩ := C
  intro H locs ls hP hD hS hl
  have e0 : zi b < zi a ↔ b < a := zi_lt hb0 ha
  exact lv_icmp_gt hx hb d ht (fun q => h1 (e0.mp q) H locs ls hP hD hS hl) (fun q => h2 (fun q2 => q (e0.mpr q2)) H locs ls hP hD hS hl)
theorem qv_icle (C : Cx K cI cJ cc nL own rm) {a b off : Int} {tgt : Nat} (ha : ri a) (hb0 : ri b) (ht : (pc : Int) + off = (tgt : Int)) (d : decode cc pc = .ok (.if_icmp .le off, 3)) (h1 : a ≤ b → V K nL ws k n tgt lv st) (h2 : ¬ a ≤ b → V K nL ws k n (pc + 3) lv st) : V K nL ws k n pc lv (vi b :: vi a :: st) := by
  obtain ⟨p, l, e, R, s, m, args, below, meth, c, D, A, Q⟩ := K
  obtain ⟨hx, hb, hml, hown, hts, hK, hA, hR, hnw⟩ := C
  intro H locs ls hP hD hS hl
  have e0 : zi a ≤ zi b ↔ a ≤ b := zi_le ha hb0
  exact lv_icmp_le hx hb d ht (fun q => h1 (e0.mp q) H locs ls hP hD hS hl) (fun q => h2 (fun q2 => q (e0.mpr q2)) H locs ls hP hD hS hl)
theorem qv_goto (C : Cx K cI cJ cc nL own rm) {off : Int} {tgt : Nat} (ht : (pc : Int) + off = (tgt : Int)) (d : decode cc pc = .ok (.goto off, 3)) (h : V K nL ws k n tgt lv st) : V K nL ws k n pc lv st := by
  obtain ⟨p, l, e, R, s, m, args, below, meth, c, D, A, Q⟩ := K
  obtain ⟨hx, hb, hml, hown, hts, hK, hA, hR, hnw⟩ := C
  intro H locs ls hP hD hS hl
  exact lv_goto hx hb d ht (h H locs ls hP hD hS hl)
theorem qv_lceq (C : Cx K cI cJ cc nL own rm) {a b off : Int} {tgt : Nat} (ha : rj a) (hb0 : rj b) (d0 : decode cc pc = .ok (.lcmp, 1)) (ht : ((pc + 1 : Nat) : Int) + off = (tgt : Int)) (d : decode cc (pc + 1) = .ok (.ifCond .eq off, 3)) (h1 : a = b → V K nL ws k n tgt lv st) (h2 : ¬ a = b → V K nL ws k n (pc + 1 + 3) lv st) : V K nL ws k n pc lv (vj b :: vj a :: st) := by
  refine qv_lcmp C ha hb0 d0 ?_
  by_cases g1 : b < a
  · rw [if_pos g1]
    exact qv_ifeq C (by omega) ht d (fun q => h1 (by omega)) (fun q => h2 (by omega))
  · rw [if_neg g1]
    by_cases g2 : a = b
    · rw [if_pos g2]
      exact qv_ifeq C (by omega) ht d (fun q => h1 (by omega)) (fun q => h2 (by omega))
    · rw [if_neg g2]
      exact qv_ifeq C (by omega) ht d (fun q => h1 (by omega)) (fun q => h2 (by omega))
theorem qv_lcne (C : Cx K cI cJ cc nL own rm) {a b off : Int} {tgt : Nat} (ha : rj a) (hb0 : rj b) (d0 : decode cc pc = .ok (.lcmp, 1)) (ht : ((pc + 1 : Nat) : Int) + off = (tgt : Int)) (d : decode cc (pc + 1) = .ok (.ifCond .ne off, 3)) (h1 : a ≠ b → V K nL ws k n tgt lv st) (h2 : a = b → V K nL ws k n (pc + 1 + 3) lv st) : V K nL ws k n pc lv (vj b :: vj a :: st) := by
  refine qv_lcmp C ha hb0 d0 ?_
  by_cases g1 : b < a
  · rw [if_pos g1]
    exact qv_ifne C (by omega) ht d (fun q => h1 (by omega)) (fun q => h2 (by omega))
  · rw [if_neg g1]
    by_cases g2 : a = b
    · rw [if_pos g2]
      exact qv_ifne C (by omega) ht d (fun q => h1 (by omega)) (fun q => h2 (by omega))
    · rw [if_neg g2]
      exact qv_ifne C (by omega) ht d (fun q => h1 (by omega)) (fun q => h2 (by omega))
theorem qv_lclt (C : Cx K cI cJ cc nL own rm) {a b off : Int} {tgt : Nat} (ha : rj a) (hb0 : rj b) (d0 : decode cc pc = .ok (.lcmp, 1)) (ht : ((pc + 1 : Nat) : Int) + off = (tgt : Int)) (d : decode cc (pc + 1) = .ok (.ifCond .lt off, 3)) (h1 : a < b → V K nL ws k n tgt lv st) (h2 : ¬ a < b → V K nL ws k n (pc + 1 + 3) lv st) : V K nL ws k n pc lv (vj b :: vj a :: st) := by
  refine qv_lcmp C ha hb0 d0 ?_
  by_cases g1 : b < a
  · rw [if_pos g1]
    exact qv_iflt C (by omega) ht d (fun q => h1 (by omega)) (fun q => h2 (by omega))
  · rw [if_neg g1]
    by_cases g2 : a = b
    · rw [if_pos g2]
      exact qv_iflt C (by omega) ht d (fun q => h1 (by omega)) (fun q => h2 (by omega))
    · rw [if_neg g2]
      exact qv_iflt C (by omega) ht d (fun q => h1 (by omega)) (fun q => h2 (by omega))
theorem qv_lcge (C : Cx K cI cJ cc nL own rm) {a b off : Int} {tgt : Nat} (ha : rj a) (hb0 : rj b) (d0 : decode cc pc = .ok (.lcmp, 1)) (ht : ((pc + 1 : Nat) : Int) + off = (tgt : Int)) (d : decode cc (pc + 1) = .ok (.ifCond .ge off, 3)) (h1 : b ≤ a → V K nL ws k n tgt lv st) (h2 : ¬ b ≤ a → V K nL ws k n (pc + 1 + 3) lv st) : V K nL ws k n pc lv (vj b :: vj a :: st) := by
  refine qv_lcmp C ha hb0 d0 ?_
  by_cases g1 : b < a
  · rw [if_pos g1]
    exact qv_ifge C (by omega) ht d (fun q => h1 (by omega)) (fun q => h2 (by omega))
  · rw [if_neg g1]
    by_cases g2 : a = b
    · rw [if_pos g2]
      exact qv_ifge C (by omega) ht d (fun q => h1 (by omega)) (fun q => h2 (by omega))
    · rw [if_neg g2]
      exact qv_ifge C (by omega) ht d (fun q => h1 (by omega)) (fun q => h2 (by omega))
theorem qv_lcgt (C : Cx K cI cJ cc nL own rm) {a b off : Int} {tgt : Nat} (ha : rj a) (hb0 : rj b) (d0 : decode cc pc = .ok (.lcmp, 1)) (ht : ((pc + 1 : Nat) : Int) + off = (tgt : Int)) (d : decode cc (pc + 1) = .ok (.ifCond .gt off, 3)) (h1 : b < a → V K nL ws k n tgt lv st) (h2 : ¬ b < a → V K nL ws k n (pc + 1 + 3) lv st) : V K nL ws k n pc lv (vj b :: vj a :: st) := by
  refine qv_lcmp C ha hb0 d0 ?_
  by_cases g1 : b < a
  · rw [if_pos g1]
    exact qv_ifgt C (by omega) ht d (fun q => h1 (by omega)) (fun q => h2 (by omega))
  · rw [if_neg g1]
    by_cases g2 : a = b
    · rw [if_pos g2]
      exact qv_ifgt C (by omega) ht d (fun q => h1 (by omega)) (fun q => h2 (by omega))
    · rw [if_neg g2]
      exact qv_ifgt C (by omega) ht d (fun q => h1 (by omega)) (fun q => h2 (by omega))
theorem qv_lcle (C : Cx K cI cJ cc nL own rm) {a b off : Int} {tgt : Nat} (ha : rj a) (hb0 : rj b) (d0 : decode cc pc = .ok (.lcmp, 1)) (ht : ((pc + 1 : Nat) : Int) + off = (tgt : Int)) (d : decode cc (pc + 1) = .ok (.ifCond .le off, 3)) (h1 : a ≤ b → V K nL ws k n tgt lv st) (h2 : ¬ a ≤ b → V K nL ws k n (pc + 1 + 3) lv st) : V K nL ws k n pc lv (vj b :: vj a :: st) := by
  refine qv_lcmp C ha hb0 d0 ?_
  by_cases g1 : b < a
  · rw [if_pos g1]
    exact qv_ifle C (by omega) ht d (fun q => h1 (by omega)) (fun q => h2 (by omega))
  · rw [if_neg g1]
    by_cases g2 : a = b
    · rw [if_pos g2]
      exact qv_ifle C (by omega) ht d (fun q => h1 (by omega)) (fun q => h2 (by omega))
    · rw [if_neg g2]
      exact qv_ifle C (by omega) ht d (fun q => h1 (by omega)) (fun q => h2 (by omega))
theorem qv_iald (C : Cx K cI cJ cc nL own rm) {a N : Nat} {f : Nat → Nat} {z : Int} (q i : Nat) (hw : ws[q]? = some (ai cI a N f)) (hi : z = (i : Int)) (hin : i < N) (hN : N ≤ 2147483647) (d : decode cc pc = .ok (.iaload, 1)) (h : V K nL ws k n (pc + 1) lv (vi (f i : Nat) :: st)) : V K nL ws k n pc lv (vi z :: .ref a :: st) := by
  obtain ⟨p, l, e, R, s, m, args, below, meth, c, D, A, Q⟩ := K
  obtain ⟨hx, hb, hml, hown, hts, hK, hA, hR, hnw⟩ := C
  intro H locs ls hP hD hS hl
  subst hi
  refine va_iald hx hb hK hP q 0 hw rfl (zi_in hin hN) d ?_
  rw [zi_nat (by omega)]
  exact h H locs ls hP hD hS hl
theorem qv_lald (C : Cx K cI cJ cc nL own rm) {a N : Nat} {f : Nat → Nat} {z : Int} (q i : Nat) (hw : ws[q]? = some (aj cJ a N f)) (hi : z = (i : Int)) (hin : i < N) (hN : N ≤ 2147483647) (d : decode cc pc = .ok (.laload, 1)) (h : V K nL ws k n (pc + 1) lv (vj (f i : Nat) :: st)) : V K nL ws k n pc lv (vi z :: .ref a :: st) := by
  obtain ⟨p, l, e, R, s, m, args, below, meth, c, D, A, Q⟩ := K
  obtain ⟨hx, hb, hml, hown, hts, hK, hA, hR, hnw⟩ := C
  intro H locs ls hP hD hS hl
  subst hi
  refine va_lald hx hb hK hP q 1 hw rfl (zi_in hin hN) d ?_
  rw [zi_nat (by omega)]
  exact h H locs ls hP hD hS hl
theorem qv_iast (C : Cx K cI cJ cc nL own rm) {a N : Nat} {f : Nat → Nat} {y z : Int} {ws' : va_W} (q i x : Nat) (hw : ws[q]? = some (ai cI a N f)) (hi : z = (i : Int)) (hin : i < N) (hN : N ≤ 2147483647) (hy : y = (x : Int)) (hw2 : ws.set q (ai cI a N (un f i x)) = ws') (d : decode cc pc = .ok (.iastore, 1)) (h : V K nL ws' k n (pc + 1) lv st) : V K nL ws k n pc lv (vi y :: vi z :: .ref a :: st) := by
  obtain ⟨p, l, e, R, s, m, args, below, meth, c, D, A, Q⟩ := K
  obtain ⟨hx, hb, hml, hown, hts, hK, hA, hR, hnw⟩ := C
  intro H locs ls hP hD hS hl
  subst hi hy hw2
  refine va_iast hx hb hK hP hD hS q 0 hw rfl (zi_in hin hN) d (fun H1 locs1 hP1 hD1 hS1 => ?_)
  rw [zi_nat (by omega), un_i] at hP1 hD1
  exact h H1 locs1 ls hP1 hD1 hS1 hl
theorem qv_last (C : Cx K cI cJ cc nL own rm) {a N : Nat} {f : Nat → Nat} {y z : Int} {ws' : va_W} (q i x : Nat) (hw : ws[q]? = some (aj cJ a N f)) (hi : z = (i : Int)) (hin : i < N) (hN : N ≤ 2147483647) (hy : y = (x : Int)) (hw2 : ws.set q (aj cJ a N (un f i x)) = ws') (d : decode cc pc = .ok (.lastore, 1)) (h : V K nL ws' k n (pc + 1) lv st) : V K nL ws k n pc lv (vj y :: vi z :: .ref a :: st) := by
  obtain ⟨p, l, e, R, s, m, args, below, meth, c, D, A, Q⟩ := K
  obtain ⟨hx, hb, hml, hown, hts, hK, hA, hR, hnw⟩ := C
  intro H locs ls hP hD hS hl
  subst hi hy hw2
  refine va_last hx hb hK hP hD hS q 1 hw rfl (zi_in hin hN) d (fun H1 locs1 hP1 hD1 hS1 => ?_)
  rw [zi_nat (by omega), un_j] at hP1 hD1
  exact h H1 locs1 ls hP1 hD1 hS1 hl
theorem qv_alen (C : Cx K cI cJ cc nL own rm) {a N : Nat} {f : Nat → Nat} (q : Nat) (hw : ws[q]? = some (ai cI a N f)) (d : decode cc pc = .ok (.arraylength, 1)) (h : V K nL ws k n (pc + 1) lv (vi (N : Nat) :: st)) : V K nL ws k n pc lv (.ref a :: st) := by
  obtain ⟨p, l, e, R, s, m, args, below, meth, c, D, A, Q⟩ := K
  obtain ⟨hx, hb, hml, hown, hts, hK, hA, hR, hnw⟩ := C
  intro H locs ls hP hD hS hl
  exact va_alen hx hb hK hP q 0 hw rfl (zi_ofNat N) d (h H locs ls hP hD hS hl)
theorem qv_ti {K : Kx} {nL : Nat} {ws : va_W} {k n pc : Nat} {lv : List (Nat × Value)} {st : List Value} {z r : Int} (e : z = r) (h : V K nL ws k n pc lv (vi r :: st)) : V K nL ws k n pc lv (vi z :: st) := e ▸ h
theorem qv_tj {K : Kx} {nL : Nat} {ws : va_W} {k n pc : Nat} {lv : List (Nat × Value)} {st : List Value} {z r : Int} (e : z = r) (h : V K nL ws k n pc lv (vj r :: st)) : V K nL ws k n pc lv (vj z :: st) := e ▸ h
theorem qv_cgi {a N : Nat} {f g : Nat → Nat} {ws' : va_W} (q : Nat) (hw : ws[q]? = some (ai cI a N f)) (hfg : ∀ i, i < N → f i = g i) (hw2 : ws.set q (ai cI a N g) = ws') (h : V K nL ws' k n pc lv st) : V K nL ws k n pc lv st := by
  obtain ⟨p, l, e, R, s, m, args, below, meth, c, D, A, Q⟩ := K
  subst hw2
  intro H locs ls hP hD hS hl
  have h0 : H[a]? = some (arrV cI N (fun j => .int (zi (f j : Nat)))) := hP q _ hw
  have e : arrV cI N (fun j => Value.int (zi (f j : Nat))) = arrV cI N (fun j => .int (zi (g j : Nat))) := by
    unfold arrV
    have e1 : (fun j : Fin N => Value.int (zi (f j.val : Nat))) = fun j : Fin N => Value.int (zi (g j.val : Nat)) := funext fun j => by rw [hfg j.val j.isLt]
    rw [e1]
  rw [e] at h0
  exact h H locs ls (hP.set hD hw (show va_at D clz (ai cI a N g) H from h0) (fun _ _ => rfl)) (hD.set hw) hS hl
theorem qv_cgj {a N : Nat} {f g : Nat → Nat} {ws' : va_W} (q : Nat) (hw : ws[q]? = some (aj cJ a N f)) (hfg : ∀ i, i < N → f i = g i) (hw2 : ws.set q (aj cJ a N g) = ws') (h : V K nL ws' k n pc lv st) : V K nL ws k n pc lv st := by
  obtain ⟨p, l, e, R, s, m, args, below, meth, c, D, A, Q⟩ := K
  subst hw2
  intro H locs ls hP hD hS hl
  have h0 : H[a]? = some (arrV cJ N (fun j => .long (zj (f j : Nat)))) := hP q _ hw
  have e : arrV cJ N (fun j => Value.long (zj (f j : Nat))) = arrV cJ N (fun j => .long (zj (g j : Nat))) := by
    unfold arrV
    have e1 : (fun j : Fin N => Value.long (zj (f j.val : Nat))) = fun j : Fin N => Value.long (zj (g j.val : Nat)) := funext fun j => by rw [hfg j.val j.isLt]
    rw [e1]
  rw [e] at h0
  exact h H locs ls (hP.set hD hw (show va_at D clz (aj cJ a N g) H from h0) (fun _ _ => rfl)) (hD.set hw) hS hl
end Layer
