theorem c_Mod_thrown (cI cJ : ClassId) (y dg rw bt wz lw hg : Nat) (er : Int) (mi : Bool) (nd : Nat) (pl : Int) (zr : Nat) (bh : Int) (mn : Nat) (fr fo : Int) (ls : Nat) (lp : Int) (hs : Nat) (hq : Int) : MtI cI cJ ky_Mod_thrown kb_Mod_thrown 1 .int rm_Mod_thrown Xt [.ref y] [oc y 4 [vi er, vi (b2 mi), .ref dg, vi ((nd : Nat) : Int), vi pl, vi ((zr : Nat) : Int), vi bh, .ref rw, vi ((mn : Nat) : Int), vi fr, vj fo, .ref bt, .ref wz, .ref lw, .ref hg, vi ((ls : Nat) : Int), vi lp, vi ((hs : Nat) : Int), vi hq]] (fun z u => z = er ∧ u = [mo y dg rw bt wz lw hg er mi nd pl zr bh mn fr fo ls lp hs hq]) := by
  refine MtI_in (by decide) (Nat.le_of_ble_eq_true rfl) (fun K C hR hX hN => ?_)
  show V K 1 [oc y 4 [vi er, vi (b2 mi), .ref dg, vi ((nd : Nat) : Int), vi pl, vi ((zr : Nat) : Int), vi bh, .ref rw, vi ((mn : Nat) : Int), vi fr, vj fo, .ref bt, .ref wz, .ref lw, .ref hg, vi ((ls : Nat) : Int), vi lp, vi ((hs : Nat) : Int), vi hq]] 0 0 0 [(0, .ref y)] []
  refine qv_aload_n C rfl dq_Mod_thrown_0 ?_
  refine qv_get C fl_Mod_28 0 rfl rfl dq_Mod_thrown_1 ?_
  refine qv_iret C hR ?_ dq_Mod_thrown_4 (by decide) (by decide)
  exact ⟨rfl, rfl⟩

theorem c_Mod_nothing (cI cJ : ClassId) (y dg rw bt wz lw hg : Nat) (er : Int) (mi : Bool) (nd : Nat) (pl : Int) (zr : Nat) (bh : Int) (mn : Nat) (fr fo : Int) (ls : Nat) (lp : Int) (hs : Nat) (hq : Int) : MtV cI cJ ky_Mod_nothing kb_Mod_nothing 1 rm_Mod_nothing Xt [.ref y] [oc y 4 [vi er, vi (b2 mi), .ref dg, vi ((nd : Nat) : Int), vi pl, vi ((zr : Nat) : Int), vi bh, .ref rw, vi ((mn : Nat) : Int), vi fr, vj fo, .ref bt, .ref wz, .ref lw, .ref hg, vi ((ls : Nat) : Int), vi lp, vi ((hs : Nat) : Int), vi hq]] (fun u => u = [mo y dg rw bt wz lw hg er mi 0 0 zr bh mn fr fo ls lp hs hq]) := by
  refine MtV_in (by decide) (Nat.le_of_ble_eq_true rfl) (fun K C hR hX hN => ?_)
  show V K 1 [oc y 4 [vi er, vi (b2 mi), .ref dg, vi ((nd : Nat) : Int), vi pl, vi ((zr : Nat) : Int), vi bh, .ref rw, vi ((mn : Nat) : Int), vi fr, vj fo, .ref bt, .ref wz, .ref lw, .ref hg, vi ((ls : Nat) : Int), vi lp, vi ((hs : Nat) : Int), vi hq]] 0 0 0 [(0, .ref y)] []
  refine qv_aload_n C rfl dq_Mod_nothing_0 ?_
  refine qv_iconst C dq_Mod_nothing_1 ?_
  refine qv_put C (ws' := [oc y 4 [vi er, vi (b2 mi), .ref dg, vi 0, vi pl, vi ((zr : Nat) : Int), vi bh, .ref rw, vi ((mn : Nat) : Int), vi fr, vj fo, .ref bt, .ref wz, .ref lw, .ref hg, vi ((ls : Nat) : Int), vi lp, vi ((hs : Nat) : Int), vi hq]]) fl_Mod_61 fs_4_3 0 rfl rfl rfl (Nat.le_of_ble_eq_true rfl) rfl dq_Mod_nothing_2 ?_
  refine qv_aload_n C rfl dq_Mod_nothing_5 ?_
  refine qv_iconst C dq_Mod_nothing_6 ?_
  refine qv_put C (ws' := [oc y 4 [vi er, vi (b2 mi), .ref dg, vi 0, vi 0, vi ((zr : Nat) : Int), vi bh, .ref rw, vi ((mn : Nat) : Int), vi fr, vj fo, .ref bt, .ref wz, .ref lw, .ref hg, vi ((ls : Nat) : Int), vi lp, vi ((hs : Nat) : Int), vi hq]]) fl_Mod_64 fs_4_4 0 rfl rfl rfl (Nat.le_of_ble_eq_true rfl) rfl dq_Mod_nothing_7 ?_
  refine qv_vret C hR ?_ dq_Mod_nothing_10 (by decide) (by decide)
  rfl

theorem c_Mod_in (cI cJ : ClassId) (v a b : Int) (hv : rj v) (ha : rj a) (hb : rj b) : MtI cI cJ ky_Mod_in kb_Mod_in 6 .boolean rm_Mod_in Xt [vj v, vj a, vj b] [] (fun z u => z = b2 (decide (a ≤ v ∧ v ≤ b)) ∧ u = []) := by
  refine MtI_in (by decide) (Nat.le_of_ble_eq_true rfl) (fun K C hR hX hN => ?_)
  show V K 6 [] 0 0 0 [(0, vj v), (2, vj a), (4, vj b)] []
  refine qv_lload_n C rfl dq_Mod_in_0 ?_
  refine qv_lload_n C rfl dq_Mod_in_1 ?_
  refine qv_lclt C (by omega) (by omega) dq_Mod_in_2 (tgt := 17) (by decide) dq_Mod_in_3 (fun h2 => ?_) (fun h2 => ?_)
  · skip
    refine qv_iconst C dq_Mod_in_17 ?_
    refine qv_zret (b := false) C hR ?_ dq_Mod_in_18 (by decide) (by decide)
    refine ⟨congrArg b2 ?_, rfl⟩
    symm
    exact decide_eq_false (by omega)
  · skip
    refine qv_lload_n C rfl dq_Mod_in_6 ?_
    refine qv_lload C rfl dq_Mod_in_7 ?_
    refine qv_lcgt C (by omega) (by omega) dq_Mod_in_9 (tgt := 17) (by decide) dq_Mod_in_10 (fun h9 => ?_) (fun h9 => ?_)
    · skip
      refine qv_iconst C dq_Mod_in_17 ?_
      refine qv_zret (b := false) C hR ?_ dq_Mod_in_18 (by decide) (by decide)
      refine ⟨congrArg b2 ?_, rfl⟩
      symm
      exact decide_eq_false (by omega)
    · skip
      refine qv_iconst C dq_Mod_in_13 ?_
      refine qv_goto C (tgt := 18) (by decide) dq_Mod_in_14 ?_
      refine qv_zret (b := true) C hR ?_ dq_Mod_in_18 (by decide) (by decide)
      refine ⟨congrArg b2 ?_, rfl⟩
      symm
      exact decide_eq_true (by omega)

theorem c_Mod_fails (cI cJ : ClassId) (y dg rw bt wz lw hg : Nat) (mi : Bool) (nd : Nat) (pl : Int) (zr : Nat) (bh : Int) (mn : Nat) (fr fo : Int) (ls : Nat) (lp : Int) (hs : Nat) (hq : Int) (is : Bool) (code : Int) (hc : 0 < code ∧ code ≤ 2) : MtI cI cJ ky_Mod_fails kb_Mod_fails 3 .boolean rm_Mod_fails Xt [.ref y, vi (b2 is), vi code] [oc y 4 [vi 0, vi (b2 mi), .ref dg, vi ((nd : Nat) : Int), vi pl, vi ((zr : Nat) : Int), vi bh, .ref rw, vi ((mn : Nat) : Int), vi fr, vj fo, .ref bt, .ref wz, .ref lw, .ref hg, vi ((ls : Nat) : Int), vi lp, vi ((hs : Nat) : Int), vi hq]] (fun z u => z = b2 is ∧ u = [mo y dg rw bt wz lw hg (if is = true then code else 0) mi nd pl zr bh mn fr fo ls lp hs hq]) := by
  refine MtI_in (by decide) (Nat.le_of_ble_eq_true rfl) (fun K C hR hX hN => ?_)
  show V K 3 [oc y 4 [vi 0, vi (b2 mi), .ref dg, vi ((nd : Nat) : Int), vi pl, vi ((zr : Nat) : Int), vi bh, .ref rw, vi ((mn : Nat) : Int), vi fr, vj fo, .ref bt, .ref wz, .ref lw, .ref hg, vi ((ls : Nat) : Int), vi lp, vi ((hs : Nat) : Int), vi hq]] 0 0 0 [(0, .ref y), (1, vi (b2 is)), (2, vi code)] []
  refine qv_iload_n C rfl dq_Mod_fails_0 ?_
  refine qv_ifeq C (rb_b2 is) (tgt := 16) (by decide) dq_Mod_fails_1 (fun h1 => ?_) (fun h1 => ?_)
  · skip
    have e1 := b2_f h1
    refine qv_aload_n C rfl dq_Mod_fails_16 ?_
    refine qv_get C fl_Mod_28 0 rfl rfl dq_Mod_fails_17 ?_
    refine qv_ifeq C (by omega) (tgt := 27) (by decide) dq_Mod_fails_20 (fun h20 => ?_) (fun h20 => ?_)
    · skip
      refine qv_iconst C dq_Mod_fails_27 ?_
      refine qv_zret (b := false) C hR ?_ dq_Mod_fails_28 (by decide) (by decide)
      rw [e1]
      exact ⟨rfl, rfl⟩
    · exfalso; omega
  · skip
    have e1 := b2_t h1
    refine qv_aload_n C rfl dq_Mod_fails_4 ?_
    refine qv_get C fl_Mod_28 0 rfl rfl dq_Mod_fails_5 ?_
    refine qv_ifne C (by omega) (tgt := 16) (by decide) dq_Mod_fails_8 (fun h8 => ?_) (fun h8 => ?_)
    · exfalso; omega
    · skip
      refine qv_aload_n C rfl dq_Mod_fails_11 ?_
      refine qv_iload_n C rfl dq_Mod_fails_12 ?_
      refine qv_put C (ws' := [oc y 4 [vi code, vi (b2 mi), .ref dg, vi ((nd : Nat) : Int), vi pl, vi ((zr : Nat) : Int), vi bh, .ref rw, vi ((mn : Nat) : Int), vi fr, vj fo, .ref bt, .ref wz, .ref lw, .ref hg, vi ((ls : Nat) : Int), vi lp, vi ((hs : Nat) : Int), vi hq]]) fl_Mod_28 fs_4_0 0 rfl rfl rfl (Nat.le_of_ble_eq_true rfl) rfl dq_Mod_fails_13 ?_
      refine qv_aload_n C rfl dq_Mod_fails_16 ?_
      refine qv_get C fl_Mod_28 0 rfl rfl dq_Mod_fails_17 ?_
      refine qv_ifeq C (by omega) (tgt := 27) (by decide) dq_Mod_fails_20 (fun h20 => ?_) (fun h20 => ?_)
      · skip
        refine qv_iconst C dq_Mod_fails_27 ?_
        refine qv_zret (b := false) C hR ?_ dq_Mod_fails_28 (by decide) (by decide)
        exfalso; omega
      · skip
        refine qv_iconst C dq_Mod_fails_23 ?_
        refine qv_goto C (tgt := 28) (by decide) dq_Mod_fails_24 ?_
        refine qv_zret (b := true) C hR ?_ dq_Mod_fails_28 (by decide) (by decide)
        rw [e1]
        exact ⟨rfl, rfl⟩

theorem c_Mod_twice (cI cJ : ClassId) (y dg rw bt wz lw hg : Nat) (er : Int) (mi : Bool) (nd : Nat) (pl : Int) (zr : Nat) (bh : Int) (mn : Nat) (fr fo : Int) (ls : Nat) (lp : Int) (hs : Nat) (hq : Int) (f : Nat → Nat) (hf : ∀ i, f i ≤ 9) (hm : mn < 1200) : MtV cI cJ ky_Mod_twice kb_Mod_twice 4 rm_Mod_twice Xt [.ref y] [oc y 4 [vi er, vi (b2 mi), .ref dg, vi ((nd : Nat) : Int), vi pl, vi ((zr : Nat) : Int), vi bh, .ref rw, vi ((mn : Nat) : Int), vi fr, vj fo, .ref bt, .ref wz, .ref lw, .ref hg, vi ((ls : Nat) : Int), vi lp, vi ((hs : Nat) : Int), vi hq], ai cI rw 1200 f] (fun u => ∃ (f2 : Nat → Nat) (n2 : Nat), u = [mo y dg rw bt wz lw hg er mi nd pl zr bh n2 fr fo ls lp hs hq, ai cI rw 1200 f2] ∧ Tw f mn f2 n2) := by
  refine MtV_in (by decide) (Nat.le_of_ble_eq_true rfl) (fun K C hR hX hN => ?_)
  show V K 4 [oc y 4 [vi er, vi (b2 mi), .ref dg, vi ((nd : Nat) : Int), vi pl, vi ((zr : Nat) : Int), vi bh, .ref rw, vi ((mn : Nat) : Int), vi fr, vj fo, .ref bt, .ref wz, .ref lw, .ref hg, vi ((ls : Nat) : Int), vi lp, vi ((hs : Nat) : Int), vi hq], ai cI rw 1200 f] 0 0 0 [(0, .ref y)] []
  have shf : ∀ (f2 : Nat → Nat) (c : Nat), TI f f2 mn 0 c → 0 < c → ∀ k, k ≤ mn → V K 4 [oc y 4 [vi er, vi (b2 mi), .ref dg, vi ((nd : Nat) : Int), vi pl, vi ((zr : Nat) : Int), vi bh, .ref rw, vi ((mn : Nat) : Int), vi fr, vj fo, .ref bt, .ref wz, .ref lw, .ref hg, vi ((ls : Nat) : Int), vi lp, vi ((hs : Nat) : Int), vi hq], ai cI rw 1200 (sk f2 mn k)] 0 0 54 [(0, .ref y), (1, vi ((c : Nat) : Int)), (2, vi ((k : Nat) : Int))] [] := by
    intro f2 c hT hc k
    have hc2 := hT.2.2.2.1
    induction k with
    | zero =>
      intro hk
      refine qv_iload_n C rfl dq_Mod_twice_54 ?_
      refine qv_ifle C (by omega) (tgt := 78) (by decide) dq_Mod_twice_55 (fun h55 => ?_) (fun h55 => ?_)
      · skip
        refine qv_aload_n C rfl dq_Mod_twice_78 ?_
        refine qv_get C fl_Mod_13 0 rfl rfl dq_Mod_twice_79 ?_
        refine qv_iconst C dq_Mod_twice_82 ?_
        refine qv_iload_n C rfl dq_Mod_twice_83 ?_
        refine qv_iast C (ws' := [oc y 4 [vi er, vi (b2 mi), .ref dg, vi ((nd : Nat) : Int), vi pl, vi ((zr : Nat) : Int), vi bh, .ref rw, vi ((mn : Nat) : Int), vi fr, vj fo, .ref bt, .ref wz, .ref lw, .ref hg, vi ((ls : Nat) : Int), vi lp, vi ((hs : Nat) : Int), vi hq], ai cI rw 1200 (un (sk f2 mn 0) 0 c)]) 1 0 c rfl (by omega) (by omega) (by omega) (by omega) rfl dq_Mod_twice_84 ?_
        refine qv_aload_n C rfl dq_Mod_twice_85 ?_
        refine qv_dup C rfl dq_Mod_twice_86 ?_
        refine qv_get C fl_Mod_40 0 rfl rfl dq_Mod_twice_87 ?_
        refine qv_iconst C dq_Mod_twice_90 ?_
        refine qv_iadd C (r := (((mn + 1) : Nat) : Int)) (by omega) dq_Mod_twice_91 ?_
        refine qv_put C (ws' := [oc y 4 [vi er, vi (b2 mi), .ref dg, vi ((nd : Nat) : Int), vi pl, vi ((zr : Nat) : Int), vi bh, .ref rw, vi (((mn + 1) : Nat) : Int), vi fr, vj fo, .ref bt, .ref wz, .ref lw, .ref hg, vi ((ls : Nat) : Int), vi lp, vi ((hs : Nat) : Int), vi hq], ai cI rw 1200 (un (sk f2 mn 0) 0 c)]) fl_Mod_40 fs_4_8 0 rfl rfl rfl (Nat.le_of_ble_eq_true rfl) rfl dq_Mod_twice_92 ?_
        refine qv_vret C hR ?_ dq_Mod_twice_95 (by decide) (by decide)
        exact ⟨un (sk f2 mn 0) 0 c, mn + 1, rfl, Tw_b hT hc (un_le (sk_9 hT.1 mn 0) (by omega)) (fun i hi => sk_sh hi)⟩
      · exfalso; omega
    | succ k ih =>
      intro hk
      refine qv_iload_n C rfl dq_Mod_twice_54 ?_
      refine qv_ifle C (by omega) (tgt := 78) (by decide) dq_Mod_twice_55 (fun h55 => ?_) (fun h55 => ?_)
      · exfalso; omega
      · skip
        refine qv_aload_n C rfl dq_Mod_twice_58 ?_
        refine qv_get C fl_Mod_13 0 rfl rfl dq_Mod_twice_59 ?_
        refine qv_iload_n C rfl dq_Mod_twice_62 ?_
        refine qv_aload_n C rfl dq_Mod_twice_63 ?_
        refine qv_get C fl_Mod_13 0 rfl rfl dq_Mod_twice_64 ?_
        refine qv_iload_n C rfl dq_Mod_twice_67 ?_
        refine qv_iconst C dq_Mod_twice_68 ?_
        refine qv_isub C (r := ((k : Nat) : Int)) (by omega) dq_Mod_twice_69 ?_
        refine qv_iald C 1 k rfl (by omega) (by omega) (by omega) dq_Mod_twice_70 ?_
        refine qv_ti (r := ((f2 k : Nat) : Int)) (by rw [sk_at]) ?_
        refine qv_iast C (ws' := [oc y 4 [vi er, vi (b2 mi), .ref dg, vi ((nd : Nat) : Int), vi pl, vi ((zr : Nat) : Int), vi bh, .ref rw, vi ((mn : Nat) : Int), vi fr, vj fo, .ref bt, .ref wz, .ref lw, .ref hg, vi ((ls : Nat) : Int), vi lp, vi ((hs : Nat) : Int), vi hq], ai cI rw 1200 (un (sk f2 mn (k + 1)) (k + 1) (f2 k))]) 1 (k + 1) (f2 k) rfl (by omega) (by omega) (by omega) (by omega) rfl dq_Mod_twice_71 ?_
        refine qv_iinc C (j := 2) (lv' := [(2, vi ((k : Nat) : Int)), (0, .ref y), (1, vi ((c : Nat) : Int))]) (by omega) rfl (by decide) rfl dq_Mod_twice_72 ?_
        refine qv_goto C (tgt := 54) (by decide) dq_Mod_twice_75 ?_
        refine qv_lv [1, 2, 0] (lv' := [(0, .ref y), (1, vi ((c : Nat) : Int)), (2, vi ((k : Nat) : Int))]) rfl ?_
        rw [sk_s f2 (by omega)]
        exact ih (by omega)
  have loop : ∀ k (f2 : Nat → Nat) (c : Nat), TI f f2 mn k c → V K 4 [oc y 4 [vi er, vi (b2 mi), .ref dg, vi ((nd : Nat) : Int), vi pl, vi ((zr : Nat) : Int), vi bh, .ref rw, vi ((mn : Nat) : Int), vi fr, vj fo, .ref bt, .ref wz, .ref lw, .ref hg, vi ((ls : Nat) : Int), vi lp, vi ((hs : Nat) : Int), vi hq], ai cI rw 1200 f2] 0 0 9 [(0, .ref y), (1, vi ((c : Nat) : Int)), (2, vi (((k : Nat) : Int) - 1))] [] := by
    intro k
    induction k with
    | zero =>
      intro f2 c hT
      have hc2 := hT.2.2.2.1
      refine qv_iload_n C rfl dq_Mod_twice_9 ?_
      refine qv_iflt C (by omega) (tgt := 45) (by decide) dq_Mod_twice_10 (fun h10 => ?_) (fun h10 => ?_)
      · skip
        refine qv_iload_n C rfl dq_Mod_twice_45 ?_
        refine qv_ifle C (by omega) (tgt := 95) (by decide) dq_Mod_twice_46 (fun h46 => ?_) (fun h46 => ?_)
        · skip
          refine qv_vret C hR ?_ dq_Mod_twice_95 (by decide) (by decide)
          have ec : c = 0 := by omega
          subst ec
          exact ⟨f2, mn, rfl, Tw_a hT⟩
        · skip
          refine qv_aload_n C rfl dq_Mod_twice_49 ?_
          refine qv_get C fl_Mod_40 0 rfl rfl dq_Mod_twice_50 ?_
          refine qv_istore_n C (lv' := [(2, vi ((mn : Nat) : Int)), (0, .ref y), (1, vi ((c : Nat) : Int))]) (by decide) rfl dq_Mod_twice_53 ?_
          refine qv_lv [1, 2, 0] (lv' := [(0, .ref y), (1, vi ((c : Nat) : Int)), (2, vi ((mn : Nat) : Int))]) rfl ?_
          have s0 := shf f2 c hT (by omega) mn (Nat.le_refl _)
          rw [sk_n] at s0
          exact s0
      · exfalso; omega
    | succ k ih =>
      intro f2 c hT
      have hc2 := hT.2.2.2.1
      have hk := hT.2.2.1
      have h9 := hT.1 k
      have et : (((k + 1 : Nat) : Int) - 1) = ((k : Nat) : Int) := by omega
      rw [et]
      refine qv_iload_n C rfl dq_Mod_twice_9 ?_
      refine qv_iflt C (by omega) (tgt := 45) (by decide) dq_Mod_twice_10 (fun h10 => ?_) (fun h10 => ?_)
      · exfalso; omega
      · skip
        refine qv_iconst C dq_Mod_twice_13 ?_
        refine qv_aload_n C rfl dq_Mod_twice_14 ?_
        refine qv_get C fl_Mod_13 0 rfl rfl dq_Mod_twice_15 ?_
        refine qv_iload_n C rfl dq_Mod_twice_18 ?_
        refine qv_iald C 1 k rfl (by omega) (by omega) (by omega) dq_Mod_twice_19 ?_
        refine qv_imul C (r := (((2 * f2 k) : Nat) : Int)) (by omega) dq_Mod_twice_20 ?_
        refine qv_iload_n C rfl dq_Mod_twice_21 ?_
        refine qv_iadd C (r := (((2 * f2 k + c) : Nat) : Int)) (by omega) dq_Mod_twice_22 ?_
        refine qv_istore_n C (lv' := [(3, vi (((2 * f2 k + c) : Nat) : Int)), (0, .ref y), (1, vi ((c : Nat) : Int)), (2, vi ((k : Nat) : Int))]) (by decide) rfl dq_Mod_twice_23 ?_
        refine qv_aload_n C rfl dq_Mod_twice_24 ?_
        refine qv_get C fl_Mod_13 0 rfl rfl dq_Mod_twice_25 ?_
        refine qv_iload_n C rfl dq_Mod_twice_28 ?_
        refine qv_iload_n C rfl dq_Mod_twice_29 ?_
        refine qv_bipush C (by decide) dq_Mod_twice_30 ?_
        refine qv_irem C (r := ((((2 * f2 k + c) % 10) : Nat) : Int)) (by omega) (by omega) (by omega) (by omega) (by omega) dq_Mod_twice_32 ?_
        refine qv_iast C (ws' := [oc y 4 [vi er, vi (b2 mi), .ref dg, vi ((nd : Nat) : Int), vi pl, vi ((zr : Nat) : Int), vi bh, .ref rw, vi ((mn : Nat) : Int), vi fr, vj fo, .ref bt, .ref wz, .ref lw, .ref hg, vi ((ls : Nat) : Int), vi lp, vi ((hs : Nat) : Int), vi hq], ai cI rw 1200 (un f2 k ((2 * f2 k + c) % 10))]) 1 k ((2 * f2 k + c) % 10) rfl (by omega) (by omega) (by omega) (by omega) rfl dq_Mod_twice_33 ?_
        refine qv_iload_n C rfl dq_Mod_twice_34 ?_
        refine qv_bipush C (by decide) dq_Mod_twice_35 ?_
        refine qv_idiv C (r := ((((2 * f2 k + c) / 10) : Nat) : Int)) (by omega) (by omega) (by omega) (by omega) (by omega) dq_Mod_twice_37 ?_
        refine qv_istore_n C (lv' := [(1, vi ((((2 * f2 k + c) / 10) : Nat) : Int)), (3, vi (((2 * f2 k + c) : Nat) : Int)), (0, .ref y), (2, vi ((k : Nat) : Int))]) (by decide) rfl dq_Mod_twice_38 ?_
        refine qv_iinc C (j := 3) (lv' := [(2, vi (((k : Nat) : Int) - 1)), (1, vi ((((2 * f2 k + c) / 10) : Nat) : Int)), (3, vi (((2 * f2 k + c) : Nat) : Int)), (0, .ref y)]) (by omega) rfl (by decide) rfl dq_Mod_twice_39 ?_
        refine qv_goto C (tgt := 9) (by decide) dq_Mod_twice_42 ?_
        refine qv_lv [3, 1, 0] (lv' := [(0, .ref y), (1, vi ((((2 * f2 k + c) / 10) : Nat) : Int)), (2, vi (((k : Nat) : Int) - 1))]) rfl ?_
        exact ih _ _ (TI_s hT)
  refine qv_iconst C dq_Mod_twice_0 ?_
  refine qv_istore_n C (lv' := [(1, vi 0), (0, .ref y)]) (by decide) rfl dq_Mod_twice_1 ?_
  refine qv_aload_n C rfl dq_Mod_twice_2 ?_
  refine qv_get C fl_Mod_40 0 rfl rfl dq_Mod_twice_3 ?_
  refine qv_iconst C dq_Mod_twice_6 ?_
  refine qv_isub C (r := (((mn : Nat) : Int) - 1)) rfl dq_Mod_twice_7 ?_
  refine qv_istore_n C (lv' := [(2, vi (((mn : Nat) : Int) - 1)), (1, vi 0), (0, .ref y)]) (by decide) rfl dq_Mod_twice_8 ?_
  refine qv_lv [2, 1, 0] (lv' := [(0, .ref y), (1, vi 0), (2, vi (((mn : Nat) : Int) - 1))]) rfl ?_
  exact loop mn f 0 (TI_0 hf)

theorem c_Mod_half (cI cJ : ClassId) (y dg rw bt wz lw hg : Nat) (er : Int) (mi : Bool) (nd : Nat) (pl : Int) (zr : Nat) (bh : Int) (mn : Nat) (fr fo : Int) (ls : Nat) (lp : Int) (hs : Nat) (hq : Int) (f : Nat → Nat) (hf : ∀ i, f i ≤ 9) (hm : mn < 1200) (hm0 : 0 < mn) (h0 : f 0 ≠ 0) : MtV cI cJ ky_Mod_half kb_Mod_half 4 rm_Mod_half Xt [.ref y] [oc y 4 [vi er, vi (b2 mi), .ref dg, vi ((nd : Nat) : Int), vi pl, vi ((zr : Nat) : Int), vi bh, .ref rw, vi ((mn : Nat) : Int), vi fr, vj fo, .ref bt, .ref wz, .ref lw, .ref hg, vi ((ls : Nat) : Int), vi lp, vi ((hs : Nat) : Int), vi hq], ai cI rw 1200 f] (fun u => ∃ (f2 : Nat → Nat) (n2 x : Nat), u = [mo y dg rw bt wz lw hg er mi nd pl zr bh n2 (fr + (x : Int)) fo ls lp hs hq, ai cI rw 1200 f2] ∧ Hf f mn f2 n2 x) := by
  refine MtV_in (by decide) (Nat.le_of_ble_eq_true rfl) (fun K C hR hX hN => ?_)
  show V K 4 [oc y 4 [vi er, vi (b2 mi), .ref dg, vi ((nd : Nat) : Int), vi pl, vi ((zr : Nat) : Int), vi bh, .ref rw, vi ((mn : Nat) : Int), vi fr, vj fo, .ref bt, .ref wz, .ref lw, .ref hg, vi ((ls : Nat) : Int), vi lp, vi ((hs : Nat) : Int), vi hq], ai cI rw 1200 f] 0 0 0 [(0, .ref y)] []
  have aft : ∀ (g : Nat → Nat) (m x : Nat), (∀ i, g i ≤ 9) → x ≤ 1 → m = mn + x → dv 10 g m * 2 = dv 10 f mn * 10 ^ x → V K 4 [oc y 4 [vi er, vi (b2 mi), .ref dg, vi ((nd : Nat) : Int), vi pl, vi ((zr : Nat) : Int), vi bh, .ref rw, vi ((m : Nat) : Int), vi (fr + (x : Int)), vj fo, .ref bt, .ref wz, .ref lw, .ref hg, vi ((ls : Nat) : Int), vi lp, vi ((hs : Nat) : Int), vi hq], ai cI rw 1200 g] 0 0 74 [(0, .ref y)] [] := by
    intro g m x hgn hx hmx hv
    have hg0 := hgn 0
    have shl : g 0 = 0 → ∀ c k, k + c = m → 0 < k → V K 4 [oc y 4 [vi er, vi (b2 mi), .ref dg, vi ((nd : Nat) : Int), vi pl, vi ((zr : Nat) : Int), vi bh, .ref rw, vi ((m : Nat) : Int), vi (fr + (x : Int)), vj fo, .ref bt, .ref wz, .ref lw, .ref hg, vi ((ls : Nat) : Int), vi lp, vi ((hs : Nat) : Int), vi hq], ai cI rw 1200 (sl1 g k)] 0 0 85 [(0, .ref y), (2, vi ((k : Nat) : Int))] [] := by
      intro hz c
      induction c with
      | zero =>
        intro k hk hk0
        have ek : k = m := by omega
        subst ek
        refine qv_iload_n C rfl dq_Mod_half_85 ?_
        refine qv_aload_n C rfl dq_Mod_half_86 ?_
        refine qv_get C fl_Mod_40 0 rfl rfl dq_Mod_half_87 ?_
        refine qv_icge C (by omega) (by omega) (tgt := 113) (by decide) dq_Mod_half_90 (fun h90 => ?_) (fun h90 => ?_)
        · skip
          refine qv_aload_n C rfl dq_Mod_half_113 ?_
          refine qv_dup C rfl dq_Mod_half_114 ?_
          refine qv_get C fl_Mod_40 0 rfl rfl dq_Mod_half_115 ?_
          refine qv_iconst C dq_Mod_half_118 ?_
          refine qv_isub C (r := (((k - 1) : Nat) : Int)) (by omega) dq_Mod_half_119 ?_
          refine qv_put C (ws' := [oc y 4 [vi er, vi (b2 mi), .ref dg, vi ((nd : Nat) : Int), vi pl, vi ((zr : Nat) : Int), vi bh, .ref rw, vi (((k - 1) : Nat) : Int), vi (fr + (x : Int)), vj fo, .ref bt, .ref wz, .ref lw, .ref hg, vi ((ls : Nat) : Int), vi lp, vi ((hs : Nat) : Int), vi hq], ai cI rw 1200 (sl1 g k)]) fl_Mod_40 fs_4_8 0 rfl rfl rfl (Nat.le_of_ble_eq_true rfl) rfl dq_Mod_half_120 ?_
          refine qv_vret C hR ?_ dq_Mod_half_123 (by decide) (by decide)
          exact ⟨sl1 g k, k - 1, x, rfl, Hf_b (fun _ => h0) hgn hx hmx hv hz (by omega) (sl1_9 hgn k) (fun i hi => if_pos (by omega))⟩
        · exfalso; omega
      | succ c ih =>
        intro k hk hk0
        refine qv_iload_n C rfl dq_Mod_half_85 ?_
        refine qv_aload_n C rfl dq_Mod_half_86 ?_
        refine qv_get C fl_Mod_40 0 rfl rfl dq_Mod_half_87 ?_
        refine qv_icge C (by omega) (by omega) (tgt := 113) (by decide) dq_Mod_half_90 (fun h90 => ?_) (fun h90 => ?_)
        · exfalso; omega
        · skip
          refine qv_aload_n C rfl dq_Mod_half_93 ?_
          refine qv_get C fl_Mod_13 0 rfl rfl dq_Mod_half_94 ?_
          refine qv_iload_n C rfl dq_Mod_half_97 ?_
          refine qv_iconst C dq_Mod_half_98 ?_
          refine qv_isub C (r := (((k - 1) : Nat) : Int)) (by omega) dq_Mod_half_99 ?_
          refine qv_aload_n C rfl dq_Mod_half_100 ?_
          refine qv_get C fl_Mod_13 0 rfl rfl dq_Mod_half_101 ?_
          refine qv_iload_n C rfl dq_Mod_half_104 ?_
          refine qv_iald C 1 k rfl (by omega) (by omega) (by omega) dq_Mod_half_105 ?_
          refine qv_ti (r := ((g k : Nat) : Int)) (by rw [sl1_at]) ?_
          refine qv_iast C (ws' := [oc y 4 [vi er, vi (b2 mi), .ref dg, vi ((nd : Nat) : Int), vi pl, vi ((zr : Nat) : Int), vi bh, .ref rw, vi ((m : Nat) : Int), vi (fr + (x : Int)), vj fo, .ref bt, .ref wz, .ref lw, .ref hg, vi ((ls : Nat) : Int), vi lp, vi ((hs : Nat) : Int), vi hq], ai cI rw 1200 (un (sl1 g k) (k - 1) (g k))]) 1 (k - 1) (g k) rfl (by omega) (by omega) (by omega) (by omega) rfl dq_Mod_half_106 ?_
          refine qv_iinc C (j := 1) (lv' := [(2, vi (((k + 1) : Nat) : Int)), (0, .ref y)]) (by omega) rfl (by decide) rfl dq_Mod_half_107 ?_
          refine qv_goto C (tgt := 85) (by decide) dq_Mod_half_110 ?_
          refine qv_lv [1, 0] (lv' := [(0, .ref y), (2, vi (((k + 1) : Nat) : Int))]) rfl ?_
          rw [sl1_s g (by omega)]
          exact ih (k + 1) (by omega) (by omega)
    refine qv_aload_n C rfl dq_Mod_half_74 ?_
    refine qv_get C fl_Mod_13 0 rfl rfl dq_Mod_half_75 ?_
    refine qv_iconst C dq_Mod_half_78 ?_
    refine qv_iald C 1 0 rfl (by omega) (by omega) (by omega) dq_Mod_half_79 ?_
    refine qv_ifne C (by omega) (tgt := 123) (by decide) dq_Mod_half_80 (fun h80 => ?_) (fun h80 => ?_)
    · skip
      refine qv_vret C hR ?_ dq_Mod_half_123 (by decide) (by decide)
      exact ⟨g, m, x, rfl, Hf_a hgn hx hmx hv (by omega) (by omega)⟩
    · skip
      refine qv_iconst C dq_Mod_half_83 ?_
      refine qv_istore_n C (lv' := [(2, vi 1), (0, .ref y)]) (by decide) rfl dq_Mod_half_84 ?_
      refine qv_lv [1, 0] (lv' := [(0, .ref y), (2, vi 1)]) rfl ?_
      have s0 := shl (by omega) (m - 1) 1 (by omega) (by omega)
      rw [sl1_1] at s0
      exact s0
  have loop : ∀ n i (f2 : Nat → Nat) (c : Nat), i + n = mn → HI f f2 i c → V K 4 [oc y 4 [vi er, vi (b2 mi), .ref dg, vi ((nd : Nat) : Int), vi pl, vi ((zr : Nat) : Int), vi bh, .ref rw, vi ((mn : Nat) : Int), vi fr, vj fo, .ref bt, .ref wz, .ref lw, .ref hg, vi ((ls : Nat) : Int), vi lp, vi ((hs : Nat) : Int), vi hq], ai cI rw 1200 f2] 0 0 4 [(0, .ref y), (1, vi ((c : Nat) : Int)), (2, vi ((i : Nat) : Int))] [] := by
    intro n
    induction n with
    | zero =>
      intro i f2 c hi hH
      have hc2 := hH.2.2.1
      have ei : i = mn := by omega
      subst ei
      refine qv_iload_n C rfl dq_Mod_half_4 ?_
      refine qv_aload_n C rfl dq_Mod_half_5 ?_
      refine qv_get C fl_Mod_40 0 rfl rfl dq_Mod_half_6 ?_
      refine qv_icge C (by omega) (by omega) (tgt := 43) (by decide) dq_Mod_half_9 (fun h9 => ?_) (fun h9 => ?_)
      · skip
        refine qv_iload_n C rfl dq_Mod_half_43 ?_
        refine qv_ifle C (by omega) (tgt := 74) (by decide) dq_Mod_half_44 (fun h44 => ?_) (fun h44 => ?_)
        · skip
          refine qv_lv [0] (lv' := [(0, .ref y)]) rfl ?_
          have ec : c = 0 := by omega
          subst ec
          have a0 := aft f2 i 0 hH.1 (by omega) (by omega) (by have := hH.2.2.2; rw [Nat.pow_zero, Nat.mul_one]; omega)
          have ef : fr + ((0 : Nat) : Int) = fr := by omega
          rw [ef] at a0
          exact a0
        · skip
          refine qv_aload_n C rfl dq_Mod_half_47 ?_
          refine qv_get C fl_Mod_13 0 rfl rfl dq_Mod_half_48 ?_
          refine qv_aload_n C rfl dq_Mod_half_51 ?_
          refine qv_dup C rfl dq_Mod_half_52 ?_
          refine qv_get C fl_Mod_40 0 rfl rfl dq_Mod_half_53 ?_
          refine qv_dup_x1 C rfl rfl dq_Mod_half_56 ?_
          refine qv_iconst C dq_Mod_half_57 ?_
          refine qv_iadd C (r := (((i + 1) : Nat) : Int)) (by omega) dq_Mod_half_58 ?_
          refine qv_put C (ws' := [oc y 4 [vi er, vi (b2 mi), .ref dg, vi ((nd : Nat) : Int), vi pl, vi ((zr : Nat) : Int), vi bh, .ref rw, vi (((i + 1) : Nat) : Int), vi fr, vj fo, .ref bt, .ref wz, .ref lw, .ref hg, vi ((ls : Nat) : Int), vi lp, vi ((hs : Nat) : Int), vi hq], ai cI rw 1200 f2]) fl_Mod_40 fs_4_8 0 rfl rfl rfl (Nat.le_of_ble_eq_true rfl) rfl dq_Mod_half_59 ?_
          refine qv_iconst C dq_Mod_half_62 ?_
          refine qv_iast C (ws' := [oc y 4 [vi er, vi (b2 mi), .ref dg, vi ((nd : Nat) : Int), vi pl, vi ((zr : Nat) : Int), vi bh, .ref rw, vi (((i + 1) : Nat) : Int), vi fr, vj fo, .ref bt, .ref wz, .ref lw, .ref hg, vi ((ls : Nat) : Int), vi lp, vi ((hs : Nat) : Int), vi hq], ai cI rw 1200 (un f2 i 5)]) 1 i 5 rfl (by omega) (by omega) (by omega) (by omega) rfl dq_Mod_half_63 ?_
          refine qv_aload_n C rfl dq_Mod_half_64 ?_
          refine qv_dup C rfl dq_Mod_half_65 ?_
          refine qv_get C fl_Mod_43 0 rfl rfl dq_Mod_half_66 ?_
          refine qv_iconst C dq_Mod_half_69 ?_
          refine qv_iadd C (r := (fr + 1)) rfl dq_Mod_half_70 ?_
          refine qv_put C (ws' := [oc y 4 [vi er, vi (b2 mi), .ref dg, vi ((nd : Nat) : Int), vi pl, vi ((zr : Nat) : Int), vi bh, .ref rw, vi (((i + 1) : Nat) : Int), vi (fr + 1), vj fo, .ref bt, .ref wz, .ref lw, .ref hg, vi ((ls : Nat) : Int), vi lp, vi ((hs : Nat) : Int), vi hq], ai cI rw 1200 (un f2 i 5)]) fl_Mod_43 fs_4_9 0 rfl rfl rfl (Nat.le_of_ble_eq_true rfl) rfl dq_Mod_half_71 ?_
          refine qv_lv [0] (lv' := [(0, .ref y)]) rfl ?_
          have ec : c = 1 := by omega
          subst ec
          exact aft (un f2 i 5) (i + 1) 1 (un_le hH.1 (by omega)) (by omega) rfl (Hf_5 hH)
      · exfalso; omega
    | succ n ih =>
      intro i f2 c hi hH
      have hc2 := hH.2.2.1
      have h9 := hH.1 i
      refine qv_iload_n C rfl dq_Mod_half_4 ?_
      refine qv_aload_n C rfl dq_Mod_half_5 ?_
      refine qv_get C fl_Mod_40 0 rfl rfl dq_Mod_half_6 ?_
      refine qv_icge C (by omega) (by omega) (tgt := 43) (by decide) dq_Mod_half_9 (fun h9 => ?_) (fun h9 => ?_)
      · exfalso; omega
      · skip
        refine qv_bipush C (by decide) dq_Mod_half_12 ?_
        refine qv_iload_n C rfl dq_Mod_half_14 ?_
        refine qv_imul C (r := (((10 * c) : Nat) : Int)) (by omega) dq_Mod_half_15 ?_
        refine qv_aload_n C rfl dq_Mod_half_16 ?_
        refine qv_get C fl_Mod_13 0 rfl rfl dq_Mod_half_17 ?_
        refine qv_iload_n C rfl dq_Mod_half_20 ?_
        refine qv_iald C 1 i rfl (by omega) (by omega) (by omega) dq_Mod_half_21 ?_
        refine qv_iadd C (r := (((10 * c + f2 i) : Nat) : Int)) (by omega) dq_Mod_half_22 ?_
        refine qv_istore_n C (lv' := [(3, vi (((10 * c + f2 i) : Nat) : Int)), (0, .ref y), (1, vi ((c : Nat) : Int)), (2, vi ((i : Nat) : Int))]) (by decide) rfl dq_Mod_half_23 ?_
        refine qv_aload_n C rfl dq_Mod_half_24 ?_
        refine qv_get C fl_Mod_13 0 rfl rfl dq_Mod_half_25 ?_
        refine qv_iload_n C rfl dq_Mod_half_28 ?_
        refine qv_iload_n C rfl dq_Mod_half_29 ?_
        refine qv_iconst C dq_Mod_half_30 ?_
        refine qv_idiv C (r := ((((10 * c + f2 i) / 2) : Nat) : Int)) (by omega) (by omega) (by omega) (by omega) (by omega) dq_Mod_half_31 ?_
        refine qv_iast C (ws' := [oc y 4 [vi er, vi (b2 mi), .ref dg, vi ((nd : Nat) : Int), vi pl, vi ((zr : Nat) : Int), vi bh, .ref rw, vi ((mn : Nat) : Int), vi fr, vj fo, .ref bt, .ref wz, .ref lw, .ref hg, vi ((ls : Nat) : Int), vi lp, vi ((hs : Nat) : Int), vi hq], ai cI rw 1200 (un f2 i ((10 * c + f2 i) / 2))]) 1 i ((10 * c + f2 i) / 2) rfl (by omega) (by omega) (by omega) (by omega) rfl dq_Mod_half_32 ?_
        refine qv_iload_n C rfl dq_Mod_half_33 ?_
        refine qv_iconst C dq_Mod_half_34 ?_
        refine qv_irem C (r := ((((10 * c + f2 i) % 2) : Nat) : Int)) (by omega) (by omega) (by omega) (by omega) (by omega) dq_Mod_half_35 ?_
        refine qv_istore_n C (lv' := [(1, vi ((((10 * c + f2 i) % 2) : Nat) : Int)), (3, vi (((10 * c + f2 i) : Nat) : Int)), (0, .ref y), (2, vi ((i : Nat) : Int))]) (by decide) rfl dq_Mod_half_36 ?_
        refine qv_iinc C (j := 3) (lv' := [(2, vi (((i + 1) : Nat) : Int)), (1, vi ((((10 * c + f2 i) % 2) : Nat) : Int)), (3, vi (((10 * c + f2 i) : Nat) : Int)), (0, .ref y)]) (by omega) rfl (by decide) rfl dq_Mod_half_37 ?_
        refine qv_goto C (tgt := 4) (by decide) dq_Mod_half_40 ?_
        refine qv_lv [3, 1, 0] (lv' := [(0, .ref y), (1, vi ((((10 * c + f2 i) % 2) : Nat) : Int)), (2, vi (((i + 1) : Nat) : Int))]) rfl ?_
        exact ih (i + 1) _ _ (by omega) (HI_s hH)
  refine qv_iconst C dq_Mod_half_0 ?_
  refine qv_istore_n C (lv' := [(1, vi 0), (0, .ref y)]) (by decide) rfl dq_Mod_half_1 ?_
  refine qv_iconst C dq_Mod_half_2 ?_
  refine qv_istore_n C (lv' := [(2, vi 0), (1, vi 0), (0, .ref y)]) (by decide) rfl dq_Mod_half_3 ?_
  refine qv_lv [2, 1, 0] (lv' := [(0, .ref y), (1, vi 0), (2, vi 0)]) rfl ?_
  exact loop mn 0 f 0 (by omega) (HI_0 hf)

