/-! methods that throw -/
def nmX : List String := ["java/lang/RuntimeException", "java/lang/Exception"]
abbrev nIAE : String := "java/lang/IllegalArgumentException"
abbrev nIOB : String := "java/lang/IndexOutOfBoundsException"
abbrev nARI : String := "java/lang/ArithmeticException"
def sxs : List (Nat × String) := [(45, "it is infinite or no number"), (73, "no digit"), (81, "too many digits"), (94, "place is not -1000..1000"), (99, "n is not 0..800"), (104, "n is not -1000..2000"), (118, "it is beyond"), (126, "there is no such digit"), (132, "what is not 0..2")]
/-- words of a throw that the tables decide and no reader of steady words carries -/
def ots : List Cond := [.castable nIAE nIAE, .castable nIOB nIOB, .castable nARI nARI, .declares ⟨"java/lang/RuntimeException", "<init>", "(Ljava/lang/String;)V"⟩, .declares ⟨"java/lang/Exception", "<init>", "(Ljava/lang/String;)V"⟩, .declares ⟨"java/lang/Throwable", "<init>", "(Ljava/lang/String;)V"⟩]
theorem ots_on : ∀ w ∈ ots, w.onTables = true ∧ ((∃ C T, w = .castable C T) ∨ ∃ x, w = .declares x) := by
  intro w hw
  simp only [ots, List.mem_cons, List.not_mem_nil, or_false] at hw
  rcases hw with rfl | rfl | rfl | rfl | rfl | rfl
  · exact ⟨rfl, Or.inl ⟨_, _, rfl⟩⟩
  · exact ⟨rfl, Or.inl ⟨_, _, rfl⟩⟩
  · exact ⟨rfl, Or.inl ⟨_, _, rfl⟩⟩
  · exact ⟨rfl, Or.inr ⟨_, rfl⟩⟩
  · exact ⟨rfl, Or.inr ⟨_, rfl⟩⟩
  · exact ⟨rfl, Or.inr ⟨_, rfl⟩⟩
theorem ots_moved {u U : State} (hvm : u.vm.Alike U.vm) (h : ∀ w ∈ ots, w.before #[] u = true) : ∀ w ∈ ots, w.before #[] U = true := by
  intro w hw
  obtain ⟨hc, hk⟩ := ots_on w hw
  have e := Cond.onTables_vm (A := #[]) (A' := #[]) (U := u) (U' := U) U.vm w hc
  have hU : U.setVm U.vm = U := rfl
  rw [hU] at e
  rw [← e]
  rcases hk with ⟨C, T, rfl⟩ | ⟨x, rfl⟩
  · rw [Cond.castable_setVm hvm]; exact h _ hw
  · rw [Cond.declares_setVm hvm]; exact h _ hw
def XT : (Nat → Prop) → State → Prop := fun A U => XU A U ∧ vx_Zq Bundle.tN "UNASSIGNED_STACK" Bundle.steD A U U.heap ∧ vx_Zq Bundle.tN "SUPPRESSED_SENTINEL" Bundle.listD A U U.heap ∧ (∀ q ∈ sxs, ∃ sa : Nat, vk_R "DecimalTruth" q.1 q.2 sa U) ∧ va_Nc nIOB nIAE U ∧ ∀ w ∈ ots, w.before #[] U = true
theorem XT_bl : Xbl XT := by
  intro A U g mk a h
  obtain ⟨h1, h2, h3, h4, h5, y1⟩ := h
  refine ⟨XU_bl A U g mk a h1, vx_Zq.moved (u := U) (U := U.calling g mk a) (Vm.Alike.refl U.vm) h2, vx_Zq.moved (u := U) (U := U.calling g mk a) (Vm.Alike.refl U.vm) h3, fun q hq => ?_, va_Nc.moved (u := U) (U := U.calling g mk a) (Vm.Alike.refl U.vm) h5, ots_moved (u := U) (U := U.calling g mk a) (Vm.Alike.refl U.vm) y1⟩
  obtain ⟨sa, h6⟩ := h4 q hq
  exact ⟨sa, vk_R.same (u := U) rfl h6⟩
theorem XT_ok {K : Kx} (h : Xk K XT) : Xok K XT := by
  obtain ⟨p, l, e, R, s, m, args, below, meth, c, D, A, Q⟩ := K
  obtain ⟨h1, h2, h3, h4, h5, y1⟩ := h
  have h1' := XU_ok (K := (p, l, e, R, s, m, args, below, meth, c, D, A, Q)) h1
  intro H locs B U hS hB hU hW
  refine ⟨h1' H locs B U hS hB hU hW, ?_, ?_, fun q hq => ?_, va_Nc.moved hW.alike h5, ots_moved hW.alike y1⟩
  · rw [hU]
    exact vx_Zq.moved hW.alike ((vx_Zq.kept h2 hS.2.1).narrow hB)
  · rw [hU]
    exact vx_Zq.moved hW.alike ((vx_Zq.kept h3 hS.2.1).narrow hB)
  · obtain ⟨sa, h6⟩ := h4 q hq
    exact ⟨sa, vk_R.warm hW h6⟩
theorem XT_U {K : Kx} (h : Xk K XT) : Xk K XU := by
  obtain ⟨p, l, e, R, s, m, args, below, meth, c, D, A, Q⟩ := K
  exact h.1
theorem at_I : ∀ w ∈ (vx_atS "DecimalTruth" 47 nIAE nmX).filter goodWord, w ∈ lw_tbl := by decide +kernel
theorem ag_I : ∀ w ∈ (vx_atS "DecimalTruth" 47 nIAE nmX).filter (fun w => !goodWord w), w ∈ ots := by decide +kernel
theorem at_B : ∀ w ∈ (vx_atS "DecimalTruth" 83 nIOB nmX).filter goodWord, w ∈ lw_tbl := by decide +kernel
theorem ag_B : ∀ w ∈ (vx_atS "DecimalTruth" 83 nIOB nmX).filter (fun w => !goodWord w), w ∈ ots := by decide +kernel
theorem at_A : ∀ w ∈ (vx_atS "DecimalTruth" 120 nARI nmX).filter goodWord, w ∈ lw_tbl := by decide +kernel
theorem ag_A : ∀ w ∈ (vx_atS "DecimalTruth" 120 nARI nmX).filter (fun w => !goodWord w), w ∈ ots := by decide +kernel
/-- the words of one throw: good ones, and that the class casts to itself -/
def Aw (ic : Nat) (cls : String) : Prop := (∀ w ∈ (vx_atS "DecimalTruth" ic cls nmX).filter goodWord, w ∈ lw_tbl) ∧ (∀ w ∈ (vx_atS "DecimalTruth" ic cls nmX).filter (fun w => !goodWord w), w ∈ ots)
theorem ax_I : Aw 47 nIAE := ⟨at_I, ag_I⟩
theorem ax_B : Aw 83 nIOB := ⟨at_B, ag_B⟩
theorem ax_A : Aw 120 nARI := ⟨at_A, ag_A⟩
theorem ak_I : Cond.classLink "DecimalTruth" 43 nIAE ∈ al := List.mem_filter.mpr ⟨by decide +kernel, rfl⟩
theorem ak_B : Cond.classLink "DecimalTruth" 79 nIOB ∈ al := List.mem_filter.mpr ⟨by decide +kernel, rfl⟩
theorem ak_A : Cond.classLink "DecimalTruth" 116 nARI ∈ al := List.mem_filter.mpr ⟨by decide +kernel, rfl⟩
theorem ai_I : Cond.initialized nIAE ∈ al := List.mem_filter.mpr ⟨by decide +kernel, rfl⟩
theorem ai_B : Cond.initialized nIOB ∈ al := List.mem_filter.mpr ⟨by decide +kernel, rfl⟩
theorem ai_A : Cond.initialized nARI ∈ al := List.mem_filter.mpr ⟨by decide +kernel, rfl⟩
/-- where a method may throw: what it owes then -/
def Rx (K : Kx) (mc ms : Nat) (px : String → va_W → Prop) : Prop :=
  match K with
  | (_, l, _, _, s, _, args, below, meth, c, D, A, Q) => l.stackTraces = false ∧ (∀ x ∈ c.exceptionTable.toList, False) ∧ meth.locks = false ∧ ∃ Qc, Q = vx_MQ below Qc (vx_X (fun _ : va_W => True) (fun E u t => px E u ∧ va_P D clz u t.heap ∧ va_D A u) A) args s mc ms A
theorem qx_throw {K : Kx} {cI cJ : ClassId} {cc : ByteArray} {nL : Nat} {rm : Room} {ws : va_W} {k n pc : Nat} {lv : List (Nat × Value)} (C : Cx K cI cJ cc nL "DecimalTruth" rm) {mc ms : Nat} {px : String → va_W → Prop} (hRx : Rx K mc ms px) (hX : Xk K XT) {ik is ic : Nat} {cls text : String} (hcls : Bundle.fit cls = true) (hk : Cond.classLink "DecimalTruth" ik cls ∈ al) (hini : Cond.initialized cls ∈ al) (hst : (is, text) ∈ sxs) (hat : Aw ic cls) (hp : px cls ws)
    (d0 : decode cc pc = .ok (.new ik, 3)) (d3 : decode cc (pc + 3) = .ok (.dup, 1)) (d4 : decode cc (pc + 4) = .ok (.ldc is, 2)) (d6 : decode cc (pc + 6) = .ok (.invokespecial ic, 3)) (d9 : decode cc (pc + 9) = .ok (.athrow, 1))
    (hfr : 5 < rm.frames) (hlo : 82 ≤ rm.locals) (hce : k + 1 ≤ rm.cells ∧ n + 6 ≤ rm.slots) (hmc : k + 1 ≤ mc ∧ n + 6 ≤ ms) : V K nL ws k n pc lv [] := by
  obtain ⟨p, l, e, R, s, m, args, below, meth, c, D, A, Q⟩ := K
  obtain ⟨hx, hb, hml, hown, hts, hK, hA, rfl, hnw⟩ := C
  obtain ⟨hl, hno, hlocks, Qc, rfl⟩ := hRx
  obtain ⟨w1, w2⟩ := hat
  have hg : ∀ w ∈ vx_atS "DecimalTruth" ic cls nmX, w ∈ al ∨ w ∈ ots := by
    intro w hw
    cases hgw : goodWord w
    · exact Or.inr (w2 w (List.mem_filter.mpr ⟨hw, by rw [hgw]; rfl⟩))
    · exact Or.inl (List.mem_filter.mpr ⟨w1 w (List.mem_filter.mpr ⟨hw, hgw⟩), hgw⟩)
  obtain ⟨-, h2, h3, h4, -, hY⟩ := hX
  obtain ⟨sa, h5⟩ := h4 _ hst
  intro H locs ls hP hD hS hv
  refine vx_throwS (ls := ls) (rest := []) hx hb hl hown hcls (names := nmX) (by decide) (hts _ hk) (hts _ hini) h5 (fun w hw => (hg w hw).elim (fun h => hts _ h) (fun h => va_any (ots_on w h).1 (hY w h))) (fun w hw => ?_) h2 h3 hS (by rw [hml]; exact hv.1) d0 d3 d4 d6 d9 (fun x hx => (hno x hx).elim) hfr hlo hce.1 hce.2 hlocks ?_ hS.2.2 hmc.1 hmc.2
  · have h6 : w ∈ al ∨ w ∈ ots := by
      rcases List.mem_cons.mp hw with rfl | hw
      · exact Or.inl hk
      · rcases List.mem_cons.mp hw with rfl | hw
        · exact Or.inl hini
        · exact hg w hw
    rcases h6 with h6 | h6
    · have h7 : goodWord w = true := (List.mem_filter.mp h6).2
      unfold vx_ot
      rw [h7, Bool.or_true]
    · unfold vx_ot
      rw [(ots_on w h6).1, Bool.true_or]
  · intro t ht hz hq
    refine ⟨ws, trivial, ⟨hp, va_P.kept hP (fun k q hk => hq _ (vx_lt hP hk)), hD⟩, ?_, fun q h6 h7 => ?_⟩
    · exact Nat.le_trans hS.1 hz
    · rw [hq q (Nat.lt_of_lt_of_le h6 hS.1)]
      exact hS.2.1 q h6 h7
