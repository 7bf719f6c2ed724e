theorem c_Mod_nearest (cI cJ : ClassId) (y dg rw bt wz lw hg : Nat) (er : Int) (mi : Bool) (nd : Nat) (pl : Int) (zr : Nat) (bh : Int) (mn : Nat) (fr fo : Int) (ls : Nat) (lp : Int) (hs : Nat) (hq : Int) (d f bb : Nat → Nat) (hK : Kd d nd pl) (hpl : -10000 ≤ pl ∧ pl ≤ 10000) (hf : ∀ i, f i ≤ 9) (hbb : ∀ i, bb i < 2) : MtJ cI cJ ky_Mod_nearest kb_Mod_nearest 1 rm_Mod_nearest Xt [.ref y] [oc y 4 [vi er, vi (b2 mi), .ref dg, vi ((nd : Nat) : Int), vi pl, vi ((zr : Nat) : Int), vi bh, .ref rw, vi ((mn : Nat) : Int), vi fr, vj fo, .ref bt, .ref wz, .ref lw, .ref hg, vi ((ls : Nat) : Int), vi lp, vi ((hs : Nat) : Int), vi hq], ai cI dg 800 d, ai cI rw 1200 f, ai cI bt 1100 bb] (fun z u => ∃ (r : Nat) (f2 bb2 : Nat → Nat) (mn2 : Nat), Ne d nd pl r ∧ (∀ i, f2 i ≤ 9) ∧ (∀ i, bb2 i < 2) ∧ ((r < INF ∧ z = ((r + (if mi = true then 9223372036854775808 else 0) : Nat) : Int) ∧ u = [mo y dg rw bt wz lw hg 0 mi nd pl zr bh mn2 fr ((r : Nat) : Int) ls lp hs hq, ai cI dg 800 d, ai cI rw 1200 f2, ai cI bt 1100 bb2]) ∨ (r = INF ∧ z = 0 ∧ u = [mo y dg rw bt wz lw hg 1 mi nd pl zr bh mn2 fr 0 ls lp hs hq, ai cI dg 800 d, ai cI rw 1200 f2, ai cI bt 1100 bb2]))) := by
  refine MtJ_in (by decide) (Nat.le_of_ble_eq_true rfl) (fun K C hR hX hN => ?_)
  show V K 1 [oc y 4 [vi er, vi (b2 mi), .ref dg, vi ((nd : Nat) : Int), vi pl, vi ((zr : Nat) : Int), vi bh, .ref rw, vi ((mn : Nat) : Int), vi fr, vj fo, .ref bt, .ref wz, .ref lw, .ref hg, vi ((ls : Nat) : Int), vi lp, vi ((hs : Nat) : Int), vi hq], ai cI dg 800 d, ai cI rw 1200 f, ai cI bt 1100 bb] 0 0 0 [(0, .ref y)] []
  have hI : INF = 9218868437227405312 := rfl
  refine qv_aload_n C rfl dq_Mod_nearest_0 ?_
  refine qv_iconst C dq_Mod_nearest_1 ?_
  refine qv_put C (ws' := [oc y 4 [vi 0, vi (b2 mi), .ref dg, vi ((nd : Nat) : Int), vi pl, vi ((zr : Nat) : Int), vi bh, .ref rw, vi ((mn : Nat) : Int), vi fr, vj fo, .ref bt, .ref wz, .ref lw, .ref hg, vi ((ls : Nat) : Int), vi lp, vi ((hs : Nat) : Int), vi hq], ai cI dg 800 d, ai cI rw 1200 f, ai cI bt 1100 bb]) fl_Mod_28 fs_4_0 0 rfl rfl rfl (Nat.le_of_ble_eq_true rfl) rfl dq_Mod_nearest_2 ?_
  refine qv_aload_n C rfl dq_Mod_nearest_5 ?_
  refine qv_aload_n C rfl dq_Mod_nearest_6 ?_
  refine qv_aload_n C rfl dq_Mod_nearest_7 ?_
  refine qv_get C fl_Mod_61 0 rfl rfl dq_Mod_nearest_8 ?_
  refine qc_vI (wr := []) (st := [.ref y]) C cl_Mod_110 cd_Mod_finds (c_Mod_finds cI cJ y dg rw bt wz lw hg 0 mi nd pl zr bh mn fr fo ls lp hs hq d f bb hK hpl hf hbb) (Xok_t K) Xbl_t [0, 1, 2, 3] [] rfl rfl (by decide) (by decide) (by decide) 0 rfl rfl rfl rfl rfl (Nat.le_of_ble_eq_true rfl) (by decide) (by decide) dq_Mod_nearest_11 (fun z u hu => ?_)
  obtain ⟨r, f2, bb2, mn2, hNe, hf2, hbb2, hcase⟩ := hu
  rcases hcase with ⟨hlt, rfl, rfl⟩ | ⟨heq, rfl, rfl⟩
  · show V K 1 [oc y 4 [vi 0, vi (b2 mi), .ref dg, vi ((nd : Nat) : Int), vi pl, vi ((zr : Nat) : Int), vi bh, .ref rw, vi ((mn2 : Nat) : Int), vi fr, vj ((r : Nat) : Int), .ref bt, .ref wz, .ref lw, .ref hg, vi ((ls : Nat) : Int), vi lp, vi ((hs : Nat) : Int), vi hq], ai cI dg 800 d, ai cI rw 1200 f2, ai cI bt 1100 bb2] 0 0 14 [(0, .ref y)] [vi 1, .ref y]
    refine qv_ifne C (by omega) (tgt := 21) (by decide) dq_Mod_nearest_14 (fun h14 => ?_) (fun h14 => ?_)
    · skip
      refine qv_iconst C dq_Mod_nearest_21 ?_
      refine qv_iconst C dq_Mod_nearest_22 ?_
      refine qc_vI (wr := [ai cI dg 800 d, ai cI rw 1200 f2, ai cI bt 1100 bb2]) (st := []) C cl_Mod_32 cd_Mod_fails (c_Mod_fails cI cJ y dg rw bt wz lw hg mi nd pl zr bh mn2 fr ((r : Nat) : Int) ls lp hs hq false 1 (by omega)) (Xok_t K) Xbl_t [0] [1, 2, 3] rfl rfl (by decide) (by decide) (by decide) 0 rfl rfl rfl rfl rfl (Nat.le_of_ble_eq_true rfl) (by decide) (by decide) dq_Mod_nearest_23 (fun z u hu => ?_)
      obtain ⟨rfl, rfl⟩ := hu
      show V K 1 [ai cI dg 800 d, ai cI rw 1200 f2, ai cI bt 1100 bb2, oc y 4 [vi 0, vi (b2 mi), .ref dg, vi ((nd : Nat) : Int), vi pl, vi ((zr : Nat) : Int), vi bh, .ref rw, vi ((mn2 : Nat) : Int), vi fr, vj ((r : Nat) : Int), .ref bt, .ref wz, .ref lw, .ref hg, vi ((ls : Nat) : Int), vi lp, vi ((hs : Nat) : Int), vi hq]] 0 0 26 [(0, .ref y)] [vi 0]
      refine qv_ifeq C (by omega) (tgt := 31) (by decide) dq_Mod_nearest_26 (fun h26 => ?_) (fun h26 => ?_)
      · skip
        refine qv_ws [3, 0, 1, 2] (ws' := [oc y 4 [vi 0, vi (b2 mi), .ref dg, vi ((nd : Nat) : Int), vi pl, vi ((zr : Nat) : Int), vi bh, .ref rw, vi ((mn2 : Nat) : Int), vi fr, vj ((r : Nat) : Int), .ref bt, .ref wz, .ref lw, .ref hg, vi ((ls : Nat) : Int), vi lp, vi ((hs : Nat) : Int), vi hq], ai cI dg 800 d, ai cI rw 1200 f2, ai cI bt 1100 bb2]) (by decide) rfl ?_
        refine qv_aload_n C rfl dq_Mod_nearest_31 ?_
        refine qv_get C fl_Mod_96 0 rfl rfl dq_Mod_nearest_32 ?_
        refine qv_aload_n C rfl dq_Mod_nearest_35 ?_
        refine qv_get C fl_Mod_54 0 rfl rfl dq_Mod_nearest_36 ?_
        refine qv_ifeq C (rb_b2 mi) (tgt := 48) (by decide) dq_Mod_nearest_39 (fun h39 => ?_) (fun h39 => ?_)
        · skip
          refine qv_lconst C (z := 0) (by decide) dq_Mod_nearest_48 ?_
          refine qv_lor C (r := ((r : Nat) : Int)) (by rw [zj_0, Int64.or_zero]) dq_Mod_nearest_49 ?_
          refine qv_lret C hR ?_ dq_Mod_nearest_50 (by decide) (by decide)
          refine ⟨r, f2, bb2, mn2, hNe, hf2, hbb2, Or.inl ⟨hlt, ?_, rfl⟩⟩
          have em := b2_f h39
          rw [em]
          rw [if_neg (by decide)] <;> rfl
        · skip
          refine qv_ldc2 C (z := (-9223372036854775808)) wk_Mod_114 dq_Mod_nearest_42 ?_
          refine qv_goto C (tgt := 49) (by decide) dq_Mod_nearest_45 ?_
          refine qv_tjw (r := ((1 * 2 ^ 63 : Nat) : Int)) (by decide) ?_
          refine qv_lor C (r := (((1 * 2 ^ 63 + r) : Nat) : Int)) (zj_or' (by omega) (by omega)) dq_Mod_nearest_49 ?_
          refine qv_lret C hR ?_ dq_Mod_nearest_50 (by decide) (by decide)
          refine ⟨r, f2, bb2, mn2, hNe, hf2, hbb2, Or.inl ⟨hlt, ?_, rfl⟩⟩
          have em := b2_t h39
          rw [em]
          rw [if_pos rfl]; omega
      · exfalso; omega
    · exfalso; omega
  · show V K 1 [oc y 4 [vi 0, vi (b2 mi), .ref dg, vi ((nd : Nat) : Int), vi pl, vi ((zr : Nat) : Int), vi bh, .ref rw, vi ((mn2 : Nat) : Int), vi fr, vj 0, .ref bt, .ref wz, .ref lw, .ref hg, vi ((ls : Nat) : Int), vi lp, vi ((hs : Nat) : Int), vi hq], ai cI dg 800 d, ai cI rw 1200 f2, ai cI bt 1100 bb2] 0 0 14 [(0, .ref y)] [vi 0, .ref y]
    refine qv_ifne C (by omega) (tgt := 21) (by decide) dq_Mod_nearest_14 (fun h14 => ?_) (fun h14 => ?_)
    · exfalso; omega
    · skip
      refine qv_iconst C dq_Mod_nearest_17 ?_
      refine qv_goto C (tgt := 22) (by decide) dq_Mod_nearest_18 ?_
      refine qv_iconst C dq_Mod_nearest_22 ?_
      refine qc_vI (wr := [ai cI dg 800 d, ai cI rw 1200 f2, ai cI bt 1100 bb2]) (st := []) C cl_Mod_32 cd_Mod_fails (c_Mod_fails cI cJ y dg rw bt wz lw hg mi nd pl zr bh mn2 fr 0 ls lp hs hq true 1 (by omega)) (Xok_t K) Xbl_t [0] [1, 2, 3] rfl rfl (by decide) (by decide) (by decide) 0 rfl rfl rfl rfl rfl (Nat.le_of_ble_eq_true rfl) (by decide) (by decide) dq_Mod_nearest_23 (fun z u hu => ?_)
      obtain ⟨rfl, rfl⟩ := hu
      show V K 1 [ai cI dg 800 d, ai cI rw 1200 f2, ai cI bt 1100 bb2, oc y 4 [vi 1, vi (b2 mi), .ref dg, vi ((nd : Nat) : Int), vi pl, vi ((zr : Nat) : Int), vi bh, .ref rw, vi ((mn2 : Nat) : Int), vi fr, vj 0, .ref bt, .ref wz, .ref lw, .ref hg, vi ((ls : Nat) : Int), vi lp, vi ((hs : Nat) : Int), vi hq]] 0 0 26 [(0, .ref y)] [vi 1]
      refine qv_ifeq C (by omega) (tgt := 31) (by decide) dq_Mod_nearest_26 (fun h26 => ?_) (fun h26 => ?_)
      · exfalso; omega
      · skip
        refine qv_lconst C (z := 0) (by decide) dq_Mod_nearest_29 ?_
        refine qv_ws [3, 0, 1, 2] (ws' := [oc y 4 [vi 1, vi (b2 mi), .ref dg, vi ((nd : Nat) : Int), vi pl, vi ((zr : Nat) : Int), vi bh, .ref rw, vi ((mn2 : Nat) : Int), vi fr, vj 0, .ref bt, .ref wz, .ref lw, .ref hg, vi ((ls : Nat) : Int), vi lp, vi ((hs : Nat) : Int), vi hq], ai cI dg 800 d, ai cI rw 1200 f2, ai cI bt 1100 bb2]) (by decide) rfl ?_
        refine qv_lret C hR ?_ dq_Mod_nearest_30 (by decide) (by decide)
        exact ⟨r, f2, bb2, mn2, hNe, hf2, hbb2, Or.inr ⟨heq, rfl, rfl⟩⟩

