theorem law_world {s : State} {args : Array Value} (hts : ∀ w ∈ al, w.before args s = true) : ∃ (D : va_G) (cI cJ : ClassId), va_K D clz [(cI, .int), (cJ, .long)] s := by
  obtain ⟨c0, i0, k0⟩ := u_known (n := 3) hts tu_0 (hts _ (wl (i := 26) rfl rfl))
  obtain ⟨c1, i1, k1⟩ := u_known (n := 3) hts tu_1 (hts _ (wl (i := 49) rfl rfl))
  obtain ⟨c2, i2, k2⟩ := u_known (n := 2) hts tu_2 (hts _ (wl (i := 69) rfl rfl))
  obtain ⟨c3, i3, k3⟩ := u_known (n := 9) hts tu_3 (hts _ (wl (i := 18) rfl rfl))
  obtain ⟨c4, i4, k4⟩ := u_known (n := 19) hts tu_4 (hts _ (wl (i := 454) rfl rfl))
  obtain ⟨cI, kI, coI, f1, f2, f3⟩ := Cond.arrayClass_spec (hts (.arrayClass .int) (wl (i := 47) rfl rfl))
  obtain ⟨cJ, kJ, coJ, g1, g2, g3⟩ := Cond.arrayClass_spec (hts (.arrayClass .long) (wl (i := 67) rfl rfl))
  refine ⟨(fun j => match j with | 0 => c0 | 1 => c1 | 2 => c2 | 3 => c3 | _ => c4, fun j => match j with | 0 => i0 | 1 => i1 | 2 => i2 | 3 => i3 | _ => i4), cI, cJ, ?_, ?_⟩
  · intro c q hq
    match c, hq with
    | 0, hq => obtain rfl := Option.some.inj hq; exact k0
    | 1, hq => obtain rfl := Option.some.inj hq; exact k1
    | 2, hq => obtain rfl := Option.some.inj hq; exact k2
    | 3, hq => obtain rfl := Option.some.inj hq; exact k3
    | 4, hq => obtain rfl := Option.some.inj hq; exact k4
    | n + 5, hq => cases (show (none : Option vw_C) = some q from hq)
  · intro c q hq
    match c, hq with
    | 0, hq => obtain rfl := Option.some.inj hq; exact ⟨fun n z => ⟨fun k h => (by cases h), kI, f2, coI, f3⟩, f1⟩
    | 1, hq => obtain rfl := Option.some.inj hq; exact ⟨fun n z => ⟨fun k h => (by cases h), kJ, g2, coJ, g3⟩, g1⟩
    | n + 2, hq => cases (show (none : Option (ClassId × FieldType)) = some q from hq)
theorem tw {i : Nat} {w : Cond} (h : tables_1[i]? = some w) : w ∈ lw_tbl := List.mem_append_right _ (List.mem_of_getElem? h)
abbrev fg : List Cond := flatC (Jvm.Cond.and given_1 narrow_1)
theorem law_U {s : State} {args : Array Value} {A : Nat → Prop} (hts : ∀ w ∈ lw_tbl, w.before args s = true) (hf : ∀ c ∈ fg, c.before args s = true) (hA : ∀ a : Nat, a < s.heap.size → ¬ A a) : XU A s := by
  have harr : (Cond.arrayOf (.static "DecimalTruth$Groups" "UNITS" "[J") .long).before args s = true := hf _ (by decide +kernel)
  have hlen : (Term.length (.static "DecimalTruth$Groups" "UNITS" "[J")).eval args s none [] s = some (.int 9) := va_eqt (hf (.eq (.length (.static "DecimalTruth$Groups" "UNITS" "[J")) (.int 9)) (by decide +kernel))
  have hel : ∀ j : Nat, j < 9 → (Term.elem (.static "DecimalTruth$Groups" "UNITS" "[J") (.int (Int32.ofNat j))).eval args s none [] s = some (.long (zj ((10 ^ (8 - j) : Nat) : Int))) := by
    intro j hj
    rcases (show j = 0 ∨ j = 1 ∨ j = 2 ∨ j = 3 ∨ j = 4 ∨ j = 5 ∨ j = 6 ∨ j = 7 ∨ j = 8 by omega) with rfl | rfl | rfl | rfl | rfl | rfl | rfl | rfl | rfl
    · exact va_eqtl (hf (.eq (.elem (.static "DecimalTruth$Groups" "UNITS" "[J") (.int 0)) (.long 100000000)) (by decide +kernel))
    · exact va_eqtl (hf (.eq (.elem (.static "DecimalTruth$Groups" "UNITS" "[J") (.int 1)) (.long 10000000)) (by decide +kernel))
    · exact va_eqtl (hf (.eq (.elem (.static "DecimalTruth$Groups" "UNITS" "[J") (.int 2)) (.long 1000000)) (by decide +kernel))
    · exact va_eqtl (hf (.eq (.elem (.static "DecimalTruth$Groups" "UNITS" "[J") (.int 3)) (.long 100000)) (by decide +kernel))
    · exact va_eqtl (hf (.eq (.elem (.static "DecimalTruth$Groups" "UNITS" "[J") (.int 4)) (.long 10000)) (by decide +kernel))
    · exact va_eqtl (hf (.eq (.elem (.static "DecimalTruth$Groups" "UNITS" "[J") (.int 5)) (.long 1000)) (by decide +kernel))
    · exact va_eqtl (hf (.eq (.elem (.static "DecimalTruth$Groups" "UNITS" "[J") (.int 6)) (.long 100)) (by decide +kernel))
    · exact va_eqtl (hf (.eq (.elem (.static "DecimalTruth$Groups" "UNITS" "[J") (.int 7)) (.long 10)) (by decide +kernel))
    · exact va_eqtl (hf (.eq (.elem (.static "DecimalTruth$Groups" "UNITS" "[J") (.int 8)) (.long 1)) (by decide +kernel))
  obtain ⟨t, ht, hT⟩ := va_Tof (tm := (.static "DecimalTruth$Groups" "UNITS" "[J")) (ty := .long) (N := 9) (f := fun j => .long (zj ((10 ^ (8 - j) : Nat) : Int))) (A := A) (by decide) harr hlen hel hA
  exact ⟨t, va_Zref (hts _ (tw (i := 347) rfl)) (hts _ (tw (i := 3) rfl)) ht hA, hT⟩
theorem sx_in : ∀ q ∈ sxs, Cond.stringRef "DecimalTruth" q.1 q.2 ∈ tables_1 := by decide +kernel
theorem ot_in : ∀ w ∈ ots, w ∈ tables_1 := by decide +kernel
theorem law_T {s : State} {args : Array Value} {A : Nat → Prop} (hts : ∀ w ∈ lw_tbl, w.before args s = true) (hf : ∀ c ∈ fg, c.before args s = true) (hcl : ∃ cur : Nat, s.vm.findClass "DecimalTruth" = some cur) (hA : ∀ a : Nat, a < s.heap.size → ¬ A a) : XT A s := by
  obtain ⟨cur, hcur⟩ := hcl
  refine ⟨law_U hts hf hA, vx_Zqof (hts _ (tw (i := 146) rfl)) (hts _ (tw (i := 6) rfl)) (hf _ (by decide +kernel)) hA, vx_Zqof (hts _ (tw (i := 148) rfl)) (hts _ (tw (i := 6) rfl)) (hf _ (by decide +kernel)) hA, fun q hq => ?_, va_Nc.of (hf _ (by decide +kernel)), fun w hw => va_Nw.of (ots_on w hw).1 (hts w (List.mem_append_right _ (ot_in w hw)))⟩
  have h1 := hts _ (List.mem_append_right _ (sx_in q hq))
  obtain ⟨k, cf, i, a, -, -, -, -, -, hev⟩ := Cond.stringRef_spec hcur h1
  exact ⟨a, vk_R.of h1 hev⟩
theorem whole_start {p : Program} {e : Env} {s : State} {m : MethodId} {below : List Frame} {meth : Method} {c : Code} (l : Launch) (hst : l.stackTraces = false) {b L : Nat} {xs : Nat → Int32} (hL : L ≤ 1536) (C0 : lw_At p s m meth c b L xs) : W p l e room_1 s m #[Value.ref b] below meth c s.heap [] 0 0 (lw_Z below #[Value.ref b] s) (entryFrame m ([Value.ref b] : List Value).toArray 8) := by
  obtain ⟨hx, hb, hr, hml, hown, hts, hX, hbl, hlk, hgv⟩ := C0
  have hal : ∀ w ∈ al, w.before #[Value.ref b] s = true := fun w hw => hts w (List.mem_filter.mp hw).1
  have hf := flat_of_before _ hgv
  obtain ⟨D, cI, cJ, hK⟩ := law_world hal
  have hnl : ∀ w ∈ nl, va_Nw w s := fun w hw => by
    have h1 := hts w (List.mem_filter.mp hw).1
    rcases isN_cases (List.mem_filter.mp hw).2 with ⟨a, i, b, x, d, y, rfl⟩ | ⟨a, i, x, y, rfl⟩
    · exact va_Nw.of rfl h1
    · exact va_Nw.of rfl h1
  have hA : ∀ a : Nat, a < s.heap.size → ¬ s.heap.size ≤ a := fun a h => Nat.not_le.mpr h
  have hXT : XT (fun q => s.heap.size ≤ q) s := law_T hts hf ⟨_, (hK.1 3 _ rfl).2.1⟩ hA
  have hV := law_start (K := (p, l, e, room_1, s, m, #[Value.ref b], below, meth, c, D, fun q => s.heap.size ≤ q, lw_Z below #[Value.ref b] s)) (cI := cI) (cJ := cJ) ⟨hx, hb, hml, hown, hal, hK, fun q hq => hq, rfl, hnl⟩ hXT (sc := b) (L := L) (xs := xs) ⟨hst, hX, hbl, hA b hbl⟩ hL ⟨rfl, hr, hlk, fun q h => h, rfl⟩
  have hl := lv_entry [Value.ref b] (n := 8) (Nat.le_of_ble_eq_true rfl)
  rw [lg_entry_eq]
  exact hV s.heap [] _ (fun k q h => absurd h (by simp)) ⟨fun i j p q h => absurd h (by simp), fun k q h => absurd h (by simp)⟩ va_S.rf hl
set_option maxHeartbeats 4000000 in
theorem lw_walk (l : Launch) (hst : l.stackTraces = false) (b : Addr) (xs : List Int32) : MetFree l x (headSpec (Jvm.Cond.code x code maxLocals ret :: tables_1) room_1) (lw_P b xs) (fun _ _ _ _ _ => True) lw_Q := by
  refine MetFree.of_bodyS (code := code) (maxLocals := maxLocals) (ret := ret) (by decide) ?_ ?_
  · intro args s m h hn
    obtain ⟨meth, c, h1, h2, h3, h4, h5, h6, -, -⟩ := Cond.code_spec hn (atoms_spec (ws := Jvm.Cond.code x code maxLocals ret :: tables_1) h _ List.mem_cons_self)
    exact ⟨meth, c, h1, h2, h3, h4, h5, h6⟩
  · intro p e s m args below meth c s₁ B hml0 hP _
    obtain ⟨rfl, hx, hbd, hgv⟩ := hP
    obtain ⟨scr, harrAt, hlist, hof, hsmall⟩ := hx
    obtain ⟨hcb, hkn, -, -⟩ := State.arrayAt?_spec harrAt
    have hown : s.vm.findClass R_law = some m.cls := findClass_of_methodNamed B.named
    have hts0 : ∀ c ∈ (Jvm.Cond.code x code maxLocals ret :: tables_1), c.before #[Value.ref b] s = true := atoms_spec (ws := Jvm.Cond.code x code maxLocals ret :: tables_1) B.pre
    have hts : ∀ w ∈ lw_tbl, w.before #[Value.ref b] s = true := k2_hts_sels lw_privs (fun w hw => hts0 w (List.mem_cons_of_mem _ hw)) lw_privs_ok
    have hml : c.maxLocals = 8 := B.maxLocals_eq (hts0 _ List.mem_cons_self)
    have X₀ : Stand p l e room_1 s m #[Value.ref b] below meth c s₁ [] 0 0 := Stand.of_body B
    have hh0 : s₁.heap = s.heap := by rw [B.state]; rfl
    have hsz : scr.slots.size = xs.length := by rw [← Array.length_toList, hlist, List.length_map]
    have hval : ∀ j : Nat, j < xs.length → scr.slots[j]? = some (.int (xs.getD j 0)) := fun j hj => by
      rw [← Array.getElem?_toList, hlist]
      simp [hj]
    have hbl : b < s.heap.size := (Array.getElem?_eq_some_iff.mp hcb).1
    have hX : va_X b xs.length (fun j => xs.getD j 0) s s.heap := ⟨scr, hcb, hof, hkn, hsz, hval⟩
    have K : W p l e room_1 s m #[Value.ref b] below meth c s₁.heap [] 0 0 (lw_Z below #[Value.ref b] s) (entryFrame m ([Value.ref b] : List Value).toArray 8) := by
      rw [hh0]
      exact whole_start l hst hbd ⟨B.exec, B.bytes, B.returns, hml, hown, hts, hX, hbl, B.notSynchronized, hgv⟩
    obtain ⟨t, a1, o, b1, b2, b3⟩ := K s₁ rfl X₀
    exact ⟨t, o, a1, b1, b2, b3⟩
theorem lw_pre_spec {args : Array Value} {s : State} (h : (Jvm.Cond.and given_1 narrow_1).before args s = true) (hr : rest_1_c.before args s = true) : ∃ (b : Addr) (xs : List Int32), lw_P b xs args s := by
  have hs := flat_of_before _ h
  have hq := flat_of_before _ hr
  have hc : (Cond.count 1).before args s = true := hs _ (by decide +kernel)
  have harr : (Cond.arrayOf (.arg 0) .int).before args s = true := hs _ (by decide +kernel)
  have hle : (Cond.le (.length (.arg 0)) (.int 1536)).before args s = true := hs _ (by decide +kernel)
  have hlen : (Cond.isInt (.length (.arg 0))).before args s = true := hq _ (by decide +kernel)
  have hall : (Cond.all (.arg 0) (.isInt (.elem (.arg 0) (.index 0)))).before args s = true := hq _ (by decide +kernel)
  obtain ⟨b, xs, hb, hx⟩ := State.ints_of_pre rfl harr hlen hall
  have hsm : xs.length < 2 ^ 31 := hx.choose_spec.2.2.2
  have hev : (Term.length (.arg 0)).eval args s none [] s = some (.int xs.length.toInt32) := hx.length_eval hb
  have hv := Cond.le_ints hev (show (Term.int 1536).eval args s none [] s = some (.int 1536) from rfl)
  have hd : xs.length.toInt32 ≤ 1536 := by
    simpa [Cond.before, Cond.holds, hv] using hle
  have hN : xs.length ≤ 1536 := (Int32.ofNat_le_ofNat hsm (by decide)).mp (show Int32.ofNat xs.length ≤ Int32.ofNat 1536 from hd)
  exact ⟨b, xs, Cond.one_arg hc (show args[0]? = some (.ref b) from hb), hx, hN, h⟩
theorem lw_comes (l : Launch) (hst : l.stackTraces = false) : Comes l x (Jvm.Cond.code x code maxLocals ret :: tables_1) room_1 (fun tb e args s => Calls_1 tb e args s ∧ rest_1 tb e args s ∧ Pre_1 tb e args s)
    (fun _ _ args s o t => lw_Q args s o t) := by
  intro p e ha hc hk s m args below hf hfit hheap happ hpre
  obtain ⟨b, xs, hP⟩ := lw_pre_spec hpre.2.2 hpre.2.1
  obtain ⟨k, o, h1, h2, h3, hQ⟩ := lw_walk l hst b xs p e ha hc hk s m args below hf ((Spec.applies_iff_loose hf).mp happ).1 hP trivial
  exact ⟨k, o, h1, h2, h3, hQ⟩
theorem lw_frame {s t : State} {o : Outcome} {args : Array Value} (h : Framed s o t [] 1055 18028) :
    Framed s o t (fieldLocs frame_1_writes args s ++ arrayLocs frame_1_arrays args s ++ staticLocs frame_1_statics s) 1055 18028 := h
theorem lw_limb (L : Cond) (hL : ∀ (args : Array Value) (s t : State), L.after args s (.returned (some (.int 1))) t = true) :
    ArmFor flags0 classFile x code maxLocals ret World_1 tables_1 room_1 Calls_1 rest_1 Pre_1
      (fun tb e a s o t => postC L tb e a s o t ∧ Framed s o t (fieldLocs frame_1_writes a s ++ arrayLocs frame_1_arrays a s ++ staticLocs frame_1_statics s) 1055 18028) := by
  intro l hfl _ _ p e ha hc hk s m args below hf hfit hheap happ hpre
  obtain ⟨k, o, h1, h2, h3, rfl, hF⟩ := lw_comes l (by unfold Launch.stackTraces; rw [hfl]; decide) p e ha hc hk s m args below hf hfit hheap happ hpre
  exact ⟨k, _, h1, h2, h3, hL args s _, lw_frame hF⟩
theorem i_vc : Claimed_1_1 ∧ Claimed_1_2 := ⟨lw_limb limb_1_1 (fun args s t => by simp [limb_1_1, Cond.after, Cond.holds, Cond.value]), lw_limb limb_1_2 (fun args s t => Cond.after_iff.mpr (by
  first | (rw [show limb_1_2 = Cond.eq .result (.int 1) from rfl, Cond.eq_ints (x := 1) (y := 1) rfl rfl]; simp; done) | (simp [limb_1_2, Cond.value, Term.eval]; done)))⟩

