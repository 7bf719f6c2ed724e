/-! methods that catch -/
abbrev rH : Room := { frames := 8, cells := 1, slots := 6, locals := 180 }
def Hx (K : Kx) (hh : List (Nat × Nat × Nat × Nat)) : Prop :=
  match K with
  | (_, l, _, _, _, _, _, _, _, c, _, _, _) => l.stackTraces = false ∧ c.exceptionTable.toList = tableOf hh
def MhI (cI cJ : ClassId) (y : MethodName) (cc : ByteArray) (nL : Nat) (hh : List (Nat × Nat × Nat × Nat)) (rm : Room) (X : (Nat → Prop) → State → Prop) (av : List Value) (wc : va_W) (post : Int → va_W → Prop) : Prop := ∀ (l : Launch) (D : va_G) (sz : Nat), l.stackTraces = false → Met l y (.codeWith y cc nL (some .int) hh :: al) rm (va_Pc av (Pre D cI cJ X sz wc)) (va_Qi (fun r u => ∃ z : Int, r = zi z ∧ post z u) (fun u t => va_P D clz u t.heap ∧ va_D (va_A wc sz) u) (va_A wc sz)) rm.cells rm.slots (va_A wc sz)
theorem MhI_in {cI cJ : ClassId} {y : MethodName} {cc : ByteArray} {nL : Nat} {hh : List (Nat × Nat × Nat × Nat)} {rm : Room} {X : (Nat → Prop) → State → Prop} {av : List Value} {wc : va_W} {post : Int → va_W → Prop} (hy : plainName y.cls = true) (hlen : (lg_sl av).length ≤ nL)
    (h : ∀ K : Kx, Cx K cI cJ cc nL y.cls rm → RtI K .int rm.cells rm.slots post → Hx K hh → Xk K X → V K nL wc 0 0 0 (lv_args 0 av) []) : MhI cI cJ y cc nL hh rm X av wc post := by
  intro l D sz hst
  refine va_MetW (cc := cc) (maxL := nL) (ret := (some .int)) (hh := hh) hy rfl ?_
  intro p e s m args below meth c s₁ B hml hv
  obtain ⟨rfl, hsz, hP, hK, hD0, hnw, hX⟩ := hv
  have hts := atoms_spec (ws := Cond.codeWith y cc nL (some .int) hh :: al) B.pre
  have hown : s.vm.findClass y.cls = some m.cls := findClass_of_methodNamed B.named
  have htb : c.exceptionTable.toList = tableOf hh := vx_table (x := y) B (hts _ List.mem_cons_self)
  subst hsz
  have hD := hD0.self (sz := s.heap.size)
  have hl := lv_entry av (n := nL) hlen
  rw [lg_entry_eq]
  exact h (p, l, e, rm, s, m, av.toArray, below, meth, c, D, va_A wc s.heap.size, _) ⟨B.exec, B.bytes, hml, hown, fun w hw => hts w (List.mem_cons_of_mem _ hw), hK, fun q hq => Or.inr hq, rfl, hnw⟩ ⟨B.returns, B.notSynchronized, rfl⟩ ⟨hst, htb⟩ hX s.heap [] _ hP hD va_S.rf hl
/-- a row of the table takes E, thrown at pc, to hpc; a row ahead names IllegalArgumentException, and E is the other one -/
def Cat (own : String) (hh : List (Nat × Nat × Nat × Nat)) (pc : Nat) (E : String) (hpc : Nat) : Prop := ∃ (pre : List ExceptionTableEntry) (x : ExceptionTableEntry) (suf : List ExceptionTableEntry), tableOf hh = pre ++ x :: suf ∧ (∀ z ∈ pre, z.catchType ≠ 0 ∧ Cond.classLink own z.catchType nIAE ∈ al ∧ E = nIOB) ∧ covers x pc = true ∧ x.catchType ≠ 0 ∧ Cond.classLink own x.catchType E ∈ al ∧ Cond.castable E E ∈ ots ∧ x.handlerPc = hpc

theorem qx_vI {K : Kx} {cI cJ : ClassId} {cc : ByteArray} {nL : Nat} {own : String} {rm : Room} {ws : va_W} {k n pc : Nat} {lv : List (Nat × Value)} {st : List Value} (C : Cx K cI cJ cc nL own rm) {hh : List (Nat × Nat × Nat × Nat)} (hH : Hx K hh) (hXT : Xk K XT) {ix np : Nat} {y : MethodName} {cc' : ByteArray} {nL' : Nat} {rm' : Room} {b ci : Nat} {fs : List Value} {q0 : vw_C} {As : List Value} {wc wr : va_W} {post : Int → va_W → Prop} {px : String → va_W → Prop} {st0 : List Value} (hc : Cond.methodLink own ix y ∈ al ∧ ClV own ix y np) (cd : Cond.code y cc' nL' (some .int) ∈ al) (hM : MxI cI cJ y cc' nL' rm' XT (.ref b :: As) wc post px)
    (isC isR : List Nat) (hC : isC.map (fun i => ws[i]?) = wc.map some) (hR : isR.map (fun i => ws[i]?) = wr.map some) (hnd : va_nd isC = true) (hn : va_nd isR = true) (hdis : ∀ i ∈ isR, i ∉ isC) (j : Nat) (hj : wc[j]? = some (oc b ci fs)) (hcl : clz[ci]? = some q0) (hq0 : q0.1 = y.cls) (hst : st0 = As.reverse ++ .ref b :: st) (hlen : As.length = np) (hroom : (st.map fun v => v.category).sum ≤ 8) (hfr : rm'.frames + 1 ≤ rm.frames ∧ 8 + (nL' + 11) + rm'.locals ≤ rm.locals) (hce : k + rm'.cells ≤ rm.cells ∧ n + rm'.slots ≤ rm.slots) (d : decode cc pc = .ok (.invokevirtual ix, 3))
    (hxx : ∀ (E : String) (u : va_W), px E u → ∃ hpc : Nat, Cat own hh pc E hpc ∧ ∀ q : Nat, V K nL (wr ++ u) (k + rm'.cells) (n + rm'.slots) hpc lv [.ref q])
    (h : ∀ (z : Int) (u : va_W), post z u → V K nL (wr ++ u) (k + rm'.cells) (n + rm'.slots) (pc + 3) lv (vi z :: st)) : V K nL ws k n pc lv st0 := by
  have hX0 := XT_ok hXT
  have hXb := XT_bl
  obtain ⟨p, l, e, R, s, m, args, below, meth, c, D, A, Q⟩ := K
  obtain ⟨hx, hb, hml, hown, hts, hK, hA, rfl, hnw⟩ := C
  obtain ⟨hst0, htab⟩ := hH
  subst hst
  intro H locs ls hP hD hS hl
  have hDc := hD.sub isC hnd hC
  have hPc := hP.sub (ws' := wc) isC (by
    have h1 : ∀ (is : List Nat) (ws' : va_W), is.map (fun i => ws[i]?) = ws'.map some → is.filterMap (fun i => ws[i]?) = ws' := by
      intro is
      induction is with
      | nil => intro ws' h; cases ws' with
        | nil => rfl
        | cons a t => cases h
      | cons i is ih => intro ws' h; cases ws' with
        | nil => cases h
        | cons a t =>
          rw [List.map_cons, List.map_cons] at h
          injection h with h1 h2
          rw [List.filterMap_cons, h1]
          show a :: List.filterMap _ is = a :: t
          rw [ih t h2]
    exact h1 isC wc hC)
  have hFc := va_free (wc := wc) hD hS hA isC hC
  have hXc : ∀ U : State, U.heap = H → s.WarmedH U.vm → XT (va_A wc H.size) U := fun U hU hW => hX0 H locs _ U hS hFc hU hW
  have hp := pre_in (s := s) (H := H) (D := D) (cI := cI) (cJ := cJ) (.ref b :: As) hXb hXc hPc hDc hK hnw
  obtain ⟨hlk, ⟨-, hi, h1, h2, h3⟩, hin, hsel⟩ := hc
  have hrc := va_recv (s := s) hK hPc hcl hj
  rw [hq0] at hrc
  exact vx_calli (vx_runV (Ts := al) (As := As) (rest := st) (C := y.cls) ⟨hx, hb, hml, hown, hts⟩ (hM l D H.size hst0) ⟨cl_B hts hlk hi h1 h2 h3 cd hfr, hts _ hin, hts _ hsel⟩ ⟨hp.1, hrc, hp.2⟩ rfl hlen hl.1 rfl (lv_room hroom) d hce) hS (fun q _ h => hFc q h) hFc (fun q _ h => hFc q h) (fun E ce q9 u t H1 locs1 ht hvm _ hB hz1 hk1 hS1 hce1 hcv hcl1 => by
    obtain ⟨hpx, hP1, hD1⟩ := hB
    rw [ht] at hP1
    obtain ⟨hP2, hD2⟩ := va_join hP hD isC isR hC hR hn hdis hk1 hFc hP1 hD1
    obtain ⟨hpc, ⟨pre, x, suf, hsp, hps, hcv2, hc0, hlk2, hct, rfl⟩, hVV⟩ := hxx E u hpx
    refine vx_catch (own := own) (name := E) hown pre x suf (htab.trans hsp) (fun z hz => ?_) hcv2 hc0 (hts _ hlk2) (va_any (ots_on _ hct).1 (hXT.2.2.2.2.2 _ hct)) hce1 hcv hcl1 ?_
    · obtain ⟨g1, g2, g3⟩ := hps z hz
      exact Or.inr ⟨g1, nIAE, hts _ g2, by rw [g3]; exact hXT.2.2.2.2.1⟩
    · exact hVV q9 H1 locs1 ls hP2 hD2 hS1 hl) (fun r u t H1 locs1 ht hvm hq hB hz1 hk1 hS1 => by
    obtain ⟨z, rfl, hp⟩ := hq
    obtain ⟨hP1, hD1⟩ := hB
    rw [ht] at hP1
    obtain ⟨hP2, hD2⟩ := va_join hP hD isC isR hC hR hn hdis hk1 hFc hP1 hD1
    exact h z u hp H1 locs1 ls hP2 hD2 hS1 hl)
theorem qx_vJ {K : Kx} {cI cJ : ClassId} {cc : ByteArray} {nL : Nat} {own : String} {rm : Room} {ws : va_W} {k n pc : Nat} {lv : List (Nat × Value)} {st : List Value} (C : Cx K cI cJ cc nL own rm) {hh : List (Nat × Nat × Nat × Nat)} (hH : Hx K hh) (hXT : Xk K XT) {ix np : Nat} {y : MethodName} {cc' : ByteArray} {nL' : Nat} {rm' : Room} {b ci : Nat} {fs : List Value} {q0 : vw_C} {As : List Value} {wc wr : va_W} {post : Int → va_W → Prop} {px : String → va_W → Prop} {st0 : List Value} (hc : Cond.methodLink own ix y ∈ al ∧ ClV own ix y np) (cd : Cond.code y cc' nL' (some .long) ∈ al) (hM : MxJ cI cJ y cc' nL' rm' XT (.ref b :: As) wc post px)
    (isC isR : List Nat) (hC : isC.map (fun i => ws[i]?) = wc.map some) (hR : isR.map (fun i => ws[i]?) = wr.map some) (hnd : va_nd isC = true) (hn : va_nd isR = true) (hdis : ∀ i ∈ isR, i ∉ isC) (j : Nat) (hj : wc[j]? = some (oc b ci fs)) (hcl : clz[ci]? = some q0) (hq0 : q0.1 = y.cls) (hst : st0 = As.reverse ++ .ref b :: st) (hlen : As.length = np) (hroom : (st.map fun v => v.category).sum ≤ 8) (hfr : rm'.frames + 1 ≤ rm.frames ∧ 8 + (nL' + 11) + rm'.locals ≤ rm.locals) (hce : k + rm'.cells ≤ rm.cells ∧ n + rm'.slots ≤ rm.slots) (d : decode cc pc = .ok (.invokevirtual ix, 3))
    (hxx : ∀ (E : String) (u : va_W), px E u → ∃ hpc : Nat, Cat own hh pc E hpc ∧ ∀ q : Nat, V K nL (wr ++ u) (k + rm'.cells) (n + rm'.slots) hpc lv [.ref q])
    (h : ∀ (z : Int) (u : va_W), post z u → V K nL (wr ++ u) (k + rm'.cells) (n + rm'.slots) (pc + 3) lv (vj z :: st)) : V K nL ws k n pc lv st0 := by
  have hX0 := XT_ok hXT
  have hXb := XT_bl
  obtain ⟨p, l, e, R, s, m, args, below, meth, c, D, A, Q⟩ := K
  obtain ⟨hx, hb, hml, hown, hts, hK, hA, rfl, hnw⟩ := C
  obtain ⟨hst0, htab⟩ := hH
  subst hst
  intro H locs ls hP hD hS hl
  have hDc := hD.sub isC hnd hC
  have hPc := hP.sub (ws' := wc) isC (by
    have h1 : ∀ (is : List Nat) (ws' : va_W), is.map (fun i => ws[i]?) = ws'.map some → is.filterMap (fun i => ws[i]?) = ws' := by
      intro is
      induction is with
      | nil => intro ws' h; cases ws' with
        | nil => rfl
        | cons a t => cases h
      | cons i is ih => intro ws' h; cases ws' with
        | nil => cases h
        | cons a t =>
          rw [List.map_cons, List.map_cons] at h
          injection h with h1 h2
          rw [List.filterMap_cons, h1]
          show a :: List.filterMap _ is = a :: t
          rw [ih t h2]
    exact h1 isC wc hC)
  have hFc := va_free (wc := wc) hD hS hA isC hC
  have hXc : ∀ U : State, U.heap = H → s.WarmedH U.vm → XT (va_A wc H.size) U := fun U hU hW => hX0 H locs _ U hS hFc hU hW
  have hp := pre_in (s := s) (H := H) (D := D) (cI := cI) (cJ := cJ) (.ref b :: As) hXb hXc hPc hDc hK hnw
  obtain ⟨hlk, ⟨-, hi, h1, h2, h3⟩, hin, hsel⟩ := hc
  have hrc := va_recv (s := s) hK hPc hcl hj
  rw [hq0] at hrc
  exact vx_calll (vx_runV (Ts := al) (As := As) (rest := st) (C := y.cls) ⟨hx, hb, hml, hown, hts⟩ (hM l D H.size hst0) ⟨cl_B hts hlk hi h1 h2 h3 cd hfr, hts _ hin, hts _ hsel⟩ ⟨hp.1, hrc, hp.2⟩ rfl hlen hl.1 rfl (lv_room hroom) d hce) hS (fun q _ h => hFc q h) hFc (fun q _ h => hFc q h) (fun E ce q9 u t H1 locs1 ht hvm _ hB hz1 hk1 hS1 hce1 hcv hcl1 => by
    obtain ⟨hpx, hP1, hD1⟩ := hB
    rw [ht] at hP1
    obtain ⟨hP2, hD2⟩ := va_join hP hD isC isR hC hR hn hdis hk1 hFc hP1 hD1
    obtain ⟨hpc, ⟨pre, x, suf, hsp, hps, hcv2, hc0, hlk2, hct, rfl⟩, hVV⟩ := hxx E u hpx
    refine vx_catch (own := own) (name := E) hown pre x suf (htab.trans hsp) (fun z hz => ?_) hcv2 hc0 (hts _ hlk2) (va_any (ots_on _ hct).1 (hXT.2.2.2.2.2 _ hct)) hce1 hcv hcl1 ?_
    · obtain ⟨g1, g2, g3⟩ := hps z hz
      exact Or.inr ⟨g1, nIAE, hts _ g2, by rw [g3]; exact hXT.2.2.2.2.1⟩
    · exact hVV q9 H1 locs1 ls hP2 hD2 hS1 hl) (fun r u t H1 locs1 ht hvm hq hB hz1 hk1 hS1 => by
    obtain ⟨z, rfl, hp⟩ := hq
    obtain ⟨hP1, hD1⟩ := hB
    rw [ht] at hP1
    obtain ⟨hP2, hD2⟩ := va_join hP hD isC isR hC hR hn hdis hk1 hFc hP1 hD1
    exact h z u hp H1 locs1 ls hP2 hD2 hS1 hl)
theorem qx_vV {K : Kx} {cI cJ : ClassId} {cc : ByteArray} {nL : Nat} {own : String} {rm : Room} {ws : va_W} {k n pc : Nat} {lv : List (Nat × Value)} {st : List Value} (C : Cx K cI cJ cc nL own rm) {hh : List (Nat × Nat × Nat × Nat)} (hH : Hx K hh) (hXT : Xk K XT) {ix np : Nat} {y : MethodName} {cc' : ByteArray} {nL' : Nat} {rm' : Room} {b ci : Nat} {fs : List Value} {q0 : vw_C} {As : List Value} {wc wr : va_W} {post : va_W → Prop} {px : String → va_W → Prop} {st0 : List Value} (hc : Cond.methodLink own ix y ∈ al ∧ ClV own ix y np) (cd : Cond.code y cc' nL' none ∈ al) (hM : MxV cI cJ y cc' nL' rm' XT (.ref b :: As) wc post px)
    (isC isR : List Nat) (hC : isC.map (fun i => ws[i]?) = wc.map some) (hR : isR.map (fun i => ws[i]?) = wr.map some) (hnd : va_nd isC = true) (hn : va_nd isR = true) (hdis : ∀ i ∈ isR, i ∉ isC) (j : Nat) (hj : wc[j]? = some (oc b ci fs)) (hcl : clz[ci]? = some q0) (hq0 : q0.1 = y.cls) (hst : st0 = As.reverse ++ .ref b :: st) (hlen : As.length = np) (hroom : (st.map fun v => v.category).sum ≤ 8) (hfr : rm'.frames + 1 ≤ rm.frames ∧ 8 + (nL' + 11) + rm'.locals ≤ rm.locals) (hce : k + rm'.cells ≤ rm.cells ∧ n + rm'.slots ≤ rm.slots) (d : decode cc pc = .ok (.invokevirtual ix, 3))
    (hxx : ∀ (E : String) (u : va_W), px E u → ∃ hpc : Nat, Cat own hh pc E hpc ∧ ∀ q : Nat, V K nL (wr ++ u) (k + rm'.cells) (n + rm'.slots) hpc lv [.ref q])
    (h : ∀ (u : va_W), post u → V K nL (wr ++ u) (k + rm'.cells) (n + rm'.slots) (pc + 3) lv (st)) : V K nL ws k n pc lv st0 := by
  have hX0 := XT_ok hXT
  have hXb := XT_bl
  obtain ⟨p, l, e, R, s, m, args, below, meth, c, D, A, Q⟩ := K
  obtain ⟨hx, hb, hml, hown, hts, hK, hA, rfl, hnw⟩ := C
  obtain ⟨hst0, htab⟩ := hH
  subst hst
  intro H locs ls hP hD hS hl
  have hDc := hD.sub isC hnd hC
  have hPc := hP.sub (ws' := wc) isC (by
    have h1 : ∀ (is : List Nat) (ws' : va_W), is.map (fun i => ws[i]?) = ws'.map some → is.filterMap (fun i => ws[i]?) = ws' := by
      intro is
      induction is with
      | nil => intro ws' h; cases ws' with
        | nil => rfl
        | cons a t => cases h
      | cons i is ih => intro ws' h; cases ws' with
        | nil => cases h
        | cons a t =>
          rw [List.map_cons, List.map_cons] at h
          injection h with h1 h2
          rw [List.filterMap_cons, h1]
          show a :: List.filterMap _ is = a :: t
          rw [ih t h2]
    exact h1 isC wc hC)
  have hFc := va_free (wc := wc) hD hS hA isC hC
  have hXc : ∀ U : State, U.heap = H → s.WarmedH U.vm → XT (va_A wc H.size) U := fun U hU hW => hX0 H locs _ U hS hFc hU hW
  have hp := pre_in (s := s) (H := H) (D := D) (cI := cI) (cJ := cJ) (.ref b :: As) hXb hXc hPc hDc hK hnw
  obtain ⟨hlk, ⟨-, hi, h1, h2, h3⟩, hin, hsel⟩ := hc
  have hrc := va_recv (s := s) hK hPc hcl hj
  rw [hq0] at hrc
  exact vx_callv (vx_runV (Ts := al) (As := As) (rest := st) (C := y.cls) ⟨hx, hb, hml, hown, hts⟩ (hM l D H.size hst0) ⟨cl_B hts hlk hi h1 h2 h3 cd hfr, hts _ hin, hts _ hsel⟩ ⟨hp.1, hrc, hp.2⟩ rfl hlen hl.1 rfl (lv_room hroom) d hce) hS (fun q _ h => hFc q h) hFc (fun q _ h => hFc q h) (fun E ce q9 u t H1 locs1 ht hvm _ hB hz1 hk1 hS1 hce1 hcv hcl1 => by
    obtain ⟨hpx, hP1, hD1⟩ := hB
    rw [ht] at hP1
    obtain ⟨hP2, hD2⟩ := va_join hP hD isC isR hC hR hn hdis hk1 hFc hP1 hD1
    obtain ⟨hpc, ⟨pre, x, suf, hsp, hps, hcv2, hc0, hlk2, hct, rfl⟩, hVV⟩ := hxx E u hpx
    refine vx_catch (own := own) (name := E) hown pre x suf (htab.trans hsp) (fun z hz => ?_) hcv2 hc0 (hts _ hlk2) (va_any (ots_on _ hct).1 (hXT.2.2.2.2.2 _ hct)) hce1 hcv hcl1 ?_
    · obtain ⟨g1, g2, g3⟩ := hps z hz
      exact Or.inr ⟨g1, nIAE, hts _ g2, by rw [g3]; exact hXT.2.2.2.2.1⟩
    · exact hVV q9 H1 locs1 ls hP2 hD2 hS1 hl) (fun u t H1 locs1 ht hvm hq hB hz1 hk1 hS1 => by
    obtain ⟨hP1, hD1⟩ := hB
    rw [ht] at hP1
    obtain ⟨hP2, hD2⟩ := va_join hP hD isC isR hC hR hn hdis hk1 hFc hP1 hD1
    exact h u hq H1 locs1 ls hP2 hD2 hS1 hl)
