/-! rules of the law: whole numbers as longs, the script, calls of methods with handlers -/
def lj (z : Int) : Nat := (z % 18446744073709551616).toNat
theorem lj_zj (z : Int) : zj ((lj z : Nat) : Int) = zj z := by
  unfold lj
  rw [Int.toNat_of_nonneg (Int.emod_nonneg _ (by decide))]
  have e : z = z % 18446744073709551616 + 18446744073709551616 * (z / 18446744073709551616) := by omega
  have h : zj (18446744073709551616 * (z / 18446744073709551616)) = 0 := by
    rw [← zj_mul, show zj 18446744073709551616 = 0 by decide, Int64.zero_mul]
  have e2 := congrArg zj e
  rw [e2, ← zj_add, h, Int64.add_zero]
theorem out_same {oo : Nat → Nat} {z w : Int} (e : z = w) : zj ((un oo 0 (lj z) 0 : Nat) : Int) = zj w := by
  subst e
  show zj (((if 0 = 0 then lj z else oo 0 : Nat)) : Int) = zj z
  rw [if_pos rfl]
  exact lj_zj z
theorem zi_15 (x : Int32) : ∃ r : Nat, r < 16 ∧ zi x.toInt &&& zi 15 = zi (r : Int) := by
  rw [← zi_of]
  have h : (x &&& zi 15).toBitVec.toNat ≤ 15 := by
    show (x.toBitVec &&& (zi 15).toBitVec).toNat ≤ 15
    rw [BitVec.toNat_and, show (zi 15).toBitVec.toNat = 15 by decide]
    exact Nat.and_le_right
  exact ⟨(x &&& zi 15).toBitVec.toNat, by omega, zi_bve (by omega)⟩
/-- the long that the law makes of two ints -/
def lB (a c : Int) : Nat := (lj a % 4294967296) * 4294967296 + lj c % 4294967296
theorem lB_lt (a c : Int) : lB a c < 18446744073709551616 := by unfold lB; omega
theorem lB_hi (a : Int) : zj ((lj a * 2 ^ 32 : Nat) : Int) = zj ((lj a % 4294967296 * 2 ^ 32 : Nat) : Int) := by
  have e : (lj a * 2 ^ 32) % 2 ^ 64 = (lj a % 4294967296 * 2 ^ 32) % 2 ^ 64 := by omega
  rw [← zj_modn (lj a * 2 ^ 32), e, zj_modn]
theorem lB_lo (c : Int) : zj ((lj c : Nat) : Int) &&& zj 4294967295 = zj ((lj c % 4294967296 : Nat) : Int) := zj_and (a := lj c) (b := 32) (by omega)
theorem lB_or (a c : Int) : zj ((lj a % 4294967296 * 2 ^ 32 : Nat) : Int) ||| zj ((lj c % 4294967296 : Nat) : Int) = zj ((lB a c : Nat) : Int) := zj_or (a := lj a % 4294967296) (b := lj c % 4294967296) (k := 32) (by omega) (by omega)
def Sx (K : Kx) (b L : Nat) (xs : Nat → Int32) : Prop :=
  match K with
  | (_, l, _, _, s, _, _, _, _, _, _, A, _) => l.stackTraces = false ∧ va_X b L xs s s.heap ∧ b < s.heap.size ∧ ¬ A b
section LawRules
variable {K : Kx} {cI cJ : ClassId} {cc : ByteArray} {nL : Nat} {own : String} {rm : Room} {ws : va_W} {k n pc : Nat} {lv : List (Nat × Value)} {st : List Value}
theorem qs_ld (C : Cx K cI cJ cc nL own rm) {b L : Nat} {xs : Nat → Int32} (hs : Sx K b L xs) {z : Int} (i : Nat) (hz : z = (i : Int)) (hi : i < L) (hL : L ≤ 2147483647) (d : decode cc pc = .ok (.iaload, 1)) (h : V K nL ws k n (pc + 1) lv (vi (xs i).toInt :: st)) : V K nL ws k n pc lv (vi z :: .ref b :: st) := by
  obtain ⟨p, l, e, R, s, m, args, below, meth, c, D, A, Q⟩ := K
  obtain ⟨hx, hb, hml, hown, hts, hK, hA, hR, hnw⟩ := C
  obtain ⟨-, hX, hbl, hbA⟩ := hs
  subst hz
  intro H locs ls hP hD hS hl
  refine va_sld hx hb hX hbl hbA hS (i := zi (i : Int)) (zi_in hi hL) d ?_
  rw [zi_nat (by omega)]
  have e : Value.int (xs i) = vi (xs i).toInt := congrArg Value.int (zi_of _)
  rw [e]
  exact h H locs ls hP hD hS hl
theorem qs_len (C : Cx K cI cJ cc nL own rm) {b L : Nat} {xs : Nat → Int32} (hs : Sx K b L xs) (d : decode cc pc = .ok (.arraylength, 1)) (h : V K nL ws k n (pc + 1) lv (vi (L : Int) :: st)) : V K nL ws k n pc lv (.ref b :: st) := by
  obtain ⟨p, l, e, R, s, m, args, below, meth, c, D, A, Q⟩ := K
  obtain ⟨hx, hb, hml, hown, hts, hK, hA, hR, hnw⟩ := C
  obtain ⟨-, hX, hbl, hbA⟩ := hs
  intro H locs ls hP hD hS hl
  refine va_slen hx hb hX hbl hbA hS d ?_
  have e : Value.int (Int32.ofNat L) = vi (L : Int) := congrArg Value.int (zi_ofNat L)
  rw [e]
  exact h H locs ls hP hD hS hl
theorem qv_lcsame (C : Cx K cI cJ cc nL own rm) {a b off : Int} {tgt : Nat} (e : zj a = zj b) (d0 : decode cc pc = .ok (.lcmp, 1)) (ht : ((pc + 1 : Nat) : Int) + off = (tgt : Int)) (d : decode cc (pc + 1) = .ok (.ifCond .eq off, 3)) (h : V K nL ws k n tgt lv st) : V K nL ws k n pc lv (vj b :: vj a :: st) := by
  have e1 : vj b = vj (zj a).toInt := congrArg Value.long (e.symm.trans (zj_of _))
  have e2 : vj a = vj (zj a).toInt := congrArg Value.long (zj_of _)
  rw [e1, e2]
  exact qv_lceq C (zj_rj _) (zj_rj _) d0 ht d (fun _ => h) (fun q => absurd rfl q)
/-- a static call of a method with handlers -/
theorem qh_sI (C : Cx K cI cJ cc nL own rm) {b0 L0 : Nat} {xs0 : Nat → Int32} (hs0 : Sx K b0 L0 xs0) {hh : List (Nat × Nat × Nat × Nat)} {ix np : Nat} {y : MethodName} {cc' : ByteArray} {nL' : Nat} {rm' : Room} {X : (Nat → Prop) → State → Prop} {As : List Value} {wc wr : va_W} {post : Int → va_W → Prop} {st0 : List Value} (hlk : Cond.methodLink own ix y ∈ al) (hc : ClS own ix y np) (cd : Cond.codeWith y cc' nL' (some .int) hh ∈ al) (hM : MhI cI cJ y cc' nL' hh rm' X As wc post) (hX : Xok K X) (hXb : Xbl X)
    (isC isR : List Nat) (hC : isC.map (fun i => ws[i]?) = wc.map some) (hR : isR.map (fun i => ws[i]?) = wr.map some) (hnd : va_nd isC = true) (hn : va_nd isR = true) (hdis : ∀ i ∈ isR, i ∉ isC) (hst : st0 = As.reverse ++ st) (hlen : As.length = np) (hroom : (st.map fun v => v.category).sum ≤ 8) (hfr : rm'.frames + 1 ≤ rm.frames ∧ 8 + (nL' + 11) + rm'.locals ≤ rm.locals) (hce : k + rm'.cells ≤ rm.cells ∧ n + rm'.slots ≤ rm.slots) (d : decode cc pc = .ok (.invokestatic ix, 3)) (h : ∀ (z : Int) (u : va_W), post z u → V K nL (wr ++ u) (k + rm'.cells) (n + rm'.slots) (pc + 3) lv (vi z :: st)) : V K nL ws k n pc lv st0 := by
  obtain ⟨p, l, e, R, s, m, args, below, meth, c, D, A, Q⟩ := K
  obtain ⟨hx, hb, hml, hown, hts, hK, hA, rfl, hnw⟩ := C
  have hst0 : l.stackTraces = false := hs0.1
  subst hst
  intro H locs ls hP hD hS hl
  have hDc := hD.sub isC hnd hC
  have hPc := hP.sub (ws' := wc) isC (by
    have h1 : ∀ (is : List Nat) (ws' : va_W), is.map (fun i => ws[i]?) = ws'.map some → is.filterMap (fun i => ws[i]?) = ws' := by
      intro is
      induction is with
      | nil => intro ws' h; cases ws' with
        | nil => rfl
        | cons a t => cases h
      | cons i is ih => intro ws' h; cases ws' with
        | nil => cases h
        | cons a t =>
          rw [List.map_cons, List.map_cons] at h
          injection h with h1 h2
          rw [List.filterMap_cons, h1]
          show a :: List.filterMap _ is = a :: t
          rw [ih t h2]
    exact h1 isC wc hC)
  have hFc := va_free (wc := wc) hD hS hA isC hC
  have hXc : ∀ U : State, U.heap = H → s.WarmedH U.vm → X (va_A wc H.size) U := fun U hU hW => hX H locs _ U hS hFc hU hW
  have hp := pre_in (s := s) (H := H) (D := D) (cI := cI) (cJ := cJ) As hXb hXc hPc hDc hK hnw
  obtain ⟨⟨-, hi, h1, h2, h3⟩, hsta⟩ := hc
  have hcw : vx_CSW R s args own ix y cc' nL' (some .int) hh (.codeWith y cc' nL' (some .int) hh :: al) rm' rm'.cells rm'.slots np := by
    refine ⟨⟨rfl, rfl, hfr.1, hfr.2, ?_, List.mem_cons_self⟩, hts _ cd, hts _ hi, ⟨h1, h2⟩, ?_, hts _ hlk, hts _ hsta⟩
    · intro w hw a' U hW
      have hw2 : w ∈ al := by
        rcases List.mem_cons.mp hw with rfl | hw
        · exact cd
        · exact hw
      exact word_at hW (al_good hw2) (hts w hw2)
    · intro sig hs
      rw [hs] at h3
      exact (Option.some.inj h3).symm
  exact va_calli (vx_runSW (Ts := al) (As := As) (rest := st) ⟨hx, hb, hml, hown, hts⟩ (hM l D H.size hst0) hcw hp rfl hlen hl.1 rfl (lv_room hroom) d hce) hS (fun q _ h => hFc q h) hFc (fun r u t H1 locs1 ht hvm hq hB hz1 hk1 hS1 => by
    obtain ⟨z, rfl, hp⟩ := hq
    obtain ⟨hP1, hD1⟩ := hB
    rw [ht] at hP1
    obtain ⟨hP2, hD2⟩ := va_join hP hD isC isR hC hR hn hdis hk1 hFc hP1 hD1
    exact h z u hp H1 locs1 ls hP2 hD2 hS1 hl)
end LawRules
/-- what a helper leaves: code 0 with the answer in the array, or the code of what was thrown -/
def hpI (cJ : ClassId) (o : Nat) (oo : Nat → Nat) (post : Int → va_W → Prop) (px : String → va_W → Prop) (E : String) : Int → va_W → Prop := fun c u => (c = 0 ∧ ∃ (z : Int) (u0 : va_W), post z u0 ∧ u = aj cJ o 1 (un oo 0 (lj z)) :: u0) ∨ (c = 1 ∧ ∃ u0 : va_W, px E u0 ∧ u = aj cJ o 1 oo :: u0)
def hpD (cJ : ClassId) (o : Nat) (oo : Nat → Nat) (post : Int → va_W → Prop) (px : String → va_W → Prop) : Int → va_W → Prop := fun c u => (c = 0 ∧ ∃ (z : Int) (u0 : va_W), post z u0 ∧ u = aj cJ o 1 (un oo 0 (lj z)) :: u0) ∨ (c = 1 ∧ ∃ u0 : va_W, px nIAE u0 ∧ u = aj cJ o 1 oo :: u0) ∨ (c = 2 ∧ ∃ u0 : va_W, px nIOB u0 ∧ u = aj cJ o 1 oo :: u0)
def hpV (post : va_W → Prop) (px : String → va_W → Prop) : Int → va_W → Prop := fun c u => (c = 0 ∧ post u) ∨ (c = 1 ∧ px nIAE u)
