theorem c_Mod_round (cI cJ : ClassId) (y dg rw bt wz lw hg : Nat) (er : Int) (mi : Bool) (nd : Nat) (pl : Int) (zr : Nat) (bh : Int) (mn : Nat) (fr fo : Int) (ls : Nat) (lp : Int) (hs : Nat) (hq : Int) (d : Nat → Nat) (a : Int) (ha : ri a) (hd : ∀ i, d i ≤ 9) (hnd : nd ≤ 800) : MtI cI cJ ky_Mod_round kb_Mod_round 2 .int rm_Mod_round Xt [.ref y, vi a] [oc y 4 [vi er, vi (b2 mi), .ref dg, vi ((nd : Nat) : Int), vi pl, vi ((zr : Nat) : Int), vi bh, .ref rw, vi ((mn : Nat) : Int), vi fr, vj fo, .ref bt, .ref wz, .ref lw, .ref hg, vi ((ls : Nat) : Int), vi lp, vi ((hs : Nat) : Int), vi hq], ai cI dg 800 d] (fun z u => (¬ (0 ≤ a ∧ a ≤ 800) ∧ z = 0 ∧ u = [mo y dg rw bt wz lw hg 1 mi nd pl zr bh mn fr fo ls lp hs hq, ai cI dg 800 d]) ∨ ((0 ≤ a ∧ a ≤ 800) ∧ z = ((cL d nd (rz a.toNat) : Nat) : Int) ∧ u = [mo y dg rw bt wz lw hg 0 mi (cL d nd (rz a.toNat)) (cP d nd (rz a.toNat) pl) 0 0 mn fr fo ls lp hs hq, ai cI dg 800 (cF d nd (rz a.toNat))])) := by
  refine MtI_in (by decide) (Nat.le_of_ble_eq_true rfl) (fun K C hR hX hN => ?_)
  show V K 2 [oc y 4 [vi er, vi (b2 mi), .ref dg, vi ((nd : Nat) : Int), vi pl, vi ((zr : Nat) : Int), vi bh, .ref rw, vi ((mn : Nat) : Int), vi fr, vj fo, .ref bt, .ref wz, .ref lw, .ref hg, vi ((ls : Nat) : Int), vi lp, vi ((hs : Nat) : Int), vi hq], ai cI dg 800 d] 0 0 0 [(0, .ref y), (1, vi a)] []
  refine qv_aload_n C rfl dq_Mod_round_0 ?_
  refine qv_iconst C dq_Mod_round_1 ?_
  refine qv_put C (ws' := [oc y 4 [vi 0, vi (b2 mi), .ref dg, vi ((nd : Nat) : Int), vi pl, vi ((zr : Nat) : Int), vi bh, .ref rw, vi ((mn : Nat) : Int), vi fr, vj fo, .ref bt, .ref wz, .ref lw, .ref hg, vi ((ls : Nat) : Int), vi lp, vi ((hs : Nat) : Int), vi hq], ai cI dg 800 d]) fl_Mod_28 fs_4_0 0 rfl rfl rfl (Nat.le_of_ble_eq_true rfl) rfl dq_Mod_round_2 ?_
  refine qv_aload_n C rfl dq_Mod_round_5 ?_
  refine qv_iload_n C rfl dq_Mod_round_6 ?_
  refine qv_i2l C (by omega) dq_Mod_round_7 ?_
  refine qv_lconst C (z := 0) (by decide) dq_Mod_round_8 ?_
  refine qv_ldc2 C (z := 800) wk_Mod_86 dq_Mod_round_9 ?_
  refine qc_sI (wr := [oc y 4 [vi 0, vi (b2 mi), .ref dg, vi ((nd : Nat) : Int), vi pl, vi ((zr : Nat) : Int), vi bh, .ref rw, vi ((mn : Nat) : Int), vi fr, vj fo, .ref bt, .ref wz, .ref lw, .ref hg, vi ((ls : Nat) : Int), vi lp, vi ((hs : Nat) : Int), vi hq], ai cI dg 800 d]) (st := [.ref y]) C cl_Mod_75 cd_Mod_in (c_Mod_in cI cJ a 0 800 (by omega) (by omega) (by omega)) (Xok_t K) Xbl_t [] [0, 1] rfl rfl (by decide) (by decide) (by decide) rfl rfl (Nat.le_of_ble_eq_true rfl) (by decide) (by decide) dq_Mod_round_12 (fun z u hu => ?_)
  obtain ⟨rfl, rfl⟩ := hu
  show V K 2 [oc y 4 [vi 0, vi (b2 mi), .ref dg, vi ((nd : Nat) : Int), vi pl, vi ((zr : Nat) : Int), vi bh, .ref rw, vi ((mn : Nat) : Int), vi fr, vj fo, .ref bt, .ref wz, .ref lw, .ref hg, vi ((ls : Nat) : Int), vi lp, vi ((hs : Nat) : Int), vi hq], ai cI dg 800 d] 0 0 15 [(0, .ref y), (1, vi a)] [vi (b2 (decide (0 ≤ a ∧ a ≤ 800))), .ref y]
  refine qv_ifne C (rb_b2 _) (tgt := 22) (by decide) dq_Mod_round_15 (fun h15 => ?_) (fun h15 => ?_)
  · skip
    have hin := of_decide_eq_true (b2_t h15)
    refine qv_iconst C dq_Mod_round_22 ?_
    refine qv_iconst C dq_Mod_round_23 ?_
    refine qc_vI (wr := [ai cI dg 800 d]) (st := []) C cl_Mod_32 cd_Mod_fails (c_Mod_fails cI cJ y dg rw bt wz lw hg mi nd pl zr bh mn fr fo ls lp hs hq false 1 (by omega)) (Xok_t K) Xbl_t [0] [1] rfl rfl (by decide) (by decide) (by decide) 0 rfl rfl rfl rfl rfl (Nat.le_of_ble_eq_true rfl) (by decide) (by decide) dq_Mod_round_24 (fun z u hu => ?_)
    obtain ⟨rfl, rfl⟩ := hu
    show V K 2 [ai cI dg 800 d, oc y 4 [vi 0, vi (b2 mi), .ref dg, vi ((nd : Nat) : Int), vi pl, vi ((zr : Nat) : Int), vi bh, .ref rw, vi ((mn : Nat) : Int), vi fr, vj fo, .ref bt, .ref wz, .ref lw, .ref hg, vi ((ls : Nat) : Int), vi lp, vi ((hs : Nat) : Int), vi hq]] 0 0 27 [(0, .ref y), (1, vi a)] [vi 0]
    refine qv_ifeq C (by omega) (tgt := 32) (by decide) dq_Mod_round_27 (fun h27 => ?_) (fun h27 => ?_)
    · skip
      refine qv_ws [1, 0] (ws' := [oc y 4 [vi 0, vi (b2 mi), .ref dg, vi ((nd : Nat) : Int), vi pl, vi ((zr : Nat) : Int), vi bh, .ref rw, vi ((mn : Nat) : Int), vi fr, vj fo, .ref bt, .ref wz, .ref lw, .ref hg, vi ((ls : Nat) : Int), vi lp, vi ((hs : Nat) : Int), vi hq], ai cI dg 800 d]) (by decide) rfl ?_
      refine qv_aload_n C rfl dq_Mod_round_32 ?_
      refine qv_iload_n C rfl dq_Mod_round_33 ?_
      refine qv_ifle C (by omega) (tgt := 42) (by decide) dq_Mod_round_34 (fun h34 => ?_) (fun h34 => ?_)
      · skip
        refine qv_ldc2 C (z := (-1)) wk_Mod_88 dq_Mod_round_42 ?_
        refine qc_vV (wr := []) (st := []) C cl_Mod_90 cd_Mod_cut (c_Mod_cut cI cJ y dg rw bt wz lw hg 0 mi nd pl zr bh mn fr fo ls lp hs hq d (-1) hd hnd (by omega)) (Xok_t K) Xbl_t [0, 1] [] rfl rfl (by decide) (by decide) (by decide) 0 rfl rfl rfl rfl rfl (Nat.le_of_ble_eq_true rfl) (by decide) (by decide) dq_Mod_round_45 (fun u hu => ?_)
        obtain rfl := hu
        show V K 2 [oc y 4 [vi 0, vi (b2 mi), .ref dg, vi ((cL d nd (-1) : Nat) : Int), vi (cP d nd (-1) pl), vi 0, vi 0, .ref rw, vi ((mn : Nat) : Int), vi fr, vj fo, .ref bt, .ref wz, .ref lw, .ref hg, vi ((ls : Nat) : Int), vi lp, vi ((hs : Nat) : Int), vi hq], ai cI dg 800 (cF d nd (-1))] 0 0 48 [(0, .ref y), (1, vi a)] []
        refine qv_aload_n C rfl dq_Mod_round_48 ?_
        refine qv_get C fl_Mod_61 0 rfl rfl dq_Mod_round_49 ?_
        refine qv_iret C hR ?_ dq_Mod_round_52 (by decide) (by decide)
        refine Or.inr ⟨hin, ?_⟩
        have e : rz a.toNat = -1 := by
          have e0 : a.toNat = 0 := by omega
          rw [e0]; rfl
        rw [e]; exact ⟨rfl, rfl⟩
      · skip
        refine qv_iload_n C rfl dq_Mod_round_37 ?_
        refine qv_i2l C (by omega) dq_Mod_round_38 ?_
        refine qv_goto C (tgt := 45) (by decide) dq_Mod_round_39 ?_
        refine qc_vV (wr := []) (st := []) C cl_Mod_90 cd_Mod_cut (c_Mod_cut cI cJ y dg rw bt wz lw hg 0 mi nd pl zr bh mn fr fo ls lp hs hq d a hd hnd (by omega)) (Xok_t K) Xbl_t [0, 1] [] rfl rfl (by decide) (by decide) (by decide) 0 rfl rfl rfl rfl rfl (Nat.le_of_ble_eq_true rfl) (by decide) (by decide) dq_Mod_round_45 (fun u hu => ?_)
        obtain rfl := hu
        show V K 2 [oc y 4 [vi 0, vi (b2 mi), .ref dg, vi ((cL d nd a : Nat) : Int), vi (cP d nd a pl), vi 0, vi 0, .ref rw, vi ((mn : Nat) : Int), vi fr, vj fo, .ref bt, .ref wz, .ref lw, .ref hg, vi ((ls : Nat) : Int), vi lp, vi ((hs : Nat) : Int), vi hq], ai cI dg 800 (cF d nd a)] 0 0 48 [(0, .ref y), (1, vi a)] []
        refine qv_aload_n C rfl dq_Mod_round_48 ?_
        refine qv_get C fl_Mod_61 0 rfl rfl dq_Mod_round_49 ?_
        refine qv_iret C hR ?_ dq_Mod_round_52 (by decide) (by decide)
        refine Or.inr ⟨hin, ?_⟩
        have e : rz a.toNat = a := by rw [rz_s (by omega)]; omega
        rw [e]; exact ⟨rfl, rfl⟩
    · exfalso; omega
  · skip
    have hin := of_decide_eq_false (b2_f h15)
    refine qv_iconst C dq_Mod_round_18 ?_
    refine qv_goto C (tgt := 23) (by decide) dq_Mod_round_19 ?_
    refine qv_iconst C dq_Mod_round_23 ?_
    refine qc_vI (wr := [ai cI dg 800 d]) (st := []) C cl_Mod_32 cd_Mod_fails (c_Mod_fails cI cJ y dg rw bt wz lw hg mi nd pl zr bh mn fr fo ls lp hs hq true 1 (by omega)) (Xok_t K) Xbl_t [0] [1] rfl rfl (by decide) (by decide) (by decide) 0 rfl rfl rfl rfl rfl (Nat.le_of_ble_eq_true rfl) (by decide) (by decide) dq_Mod_round_24 (fun z u hu => ?_)
    obtain ⟨rfl, rfl⟩ := hu
    show V K 2 [ai cI dg 800 d, oc y 4 [vi 1, vi (b2 mi), .ref dg, vi ((nd : Nat) : Int), vi pl, vi ((zr : Nat) : Int), vi bh, .ref rw, vi ((mn : Nat) : Int), vi fr, vj fo, .ref bt, .ref wz, .ref lw, .ref hg, vi ((ls : Nat) : Int), vi lp, vi ((hs : Nat) : Int), vi hq]] 0 0 27 [(0, .ref y), (1, vi a)] [vi 1]
    refine qv_ifeq C (by omega) (tgt := 32) (by decide) dq_Mod_round_27 (fun h27 => ?_) (fun h27 => ?_)
    · exfalso; omega
    · skip
      refine qv_iconst C dq_Mod_round_30 ?_
      refine qv_ws [1, 0] (ws' := [oc y 4 [vi 1, vi (b2 mi), .ref dg, vi ((nd : Nat) : Int), vi pl, vi ((zr : Nat) : Int), vi bh, .ref rw, vi ((mn : Nat) : Int), vi fr, vj fo, .ref bt, .ref wz, .ref lw, .ref hg, vi ((ls : Nat) : Int), vi lp, vi ((hs : Nat) : Int), vi hq], ai cI dg 800 d]) (by decide) rfl ?_
      refine qv_iret C hR ?_ dq_Mod_round_31 (by decide) (by decide)
      exact Or.inl ⟨hin, rfl, rfl⟩

theorem c_Mod_places (cI cJ : ClassId) (y dg rw bt wz lw hg : Nat) (er : Int) (mi : Bool) (nd : Nat) (pl : Int) (zr : Nat) (bh : Int) (mn : Nat) (fr fo : Int) (ls : Nat) (lp : Int) (hs : Nat) (hq : Int) (d : Nat → Nat) (a : Int) (ha : ri a) (hd : ∀ i, d i ≤ 9) (hnd : nd ≤ 800) (hpl : -10000 ≤ pl ∧ pl ≤ 10000) : MtI cI cJ ky_Mod_places kb_Mod_places 2 .int rm_Mod_places Xt [.ref y, vi a] [oc y 4 [vi er, vi (b2 mi), .ref dg, vi ((nd : Nat) : Int), vi pl, vi ((zr : Nat) : Int), vi bh, .ref rw, vi ((mn : Nat) : Int), vi fr, vj fo, .ref bt, .ref wz, .ref lw, .ref hg, vi ((ls : Nat) : Int), vi lp, vi ((hs : Nat) : Int), vi hq], ai cI dg 800 d] (fun z u => (¬ (-1000 ≤ a ∧ a ≤ 2000) ∧ z = 0 ∧ u = [mo y dg rw bt wz lw hg 1 mi nd pl zr bh mn fr fo ls lp hs hq, ai cI dg 800 d]) ∨ ((-1000 ≤ a ∧ a ≤ 2000) ∧ z = ((cL d nd (pl + a) : Nat) : Int) ∧ u = [mo y dg rw bt wz lw hg 0 mi (cL d nd (pl + a)) (cP d nd (pl + a) pl) 0 0 mn fr fo ls lp hs hq, ai cI dg 800 (cF d nd (pl + a))])) := by
  refine MtI_in (by decide) (Nat.le_of_ble_eq_true rfl) (fun K C hR hX hN => ?_)
  show V K 2 [oc y 4 [vi er, vi (b2 mi), .ref dg, vi ((nd : Nat) : Int), vi pl, vi ((zr : Nat) : Int), vi bh, .ref rw, vi ((mn : Nat) : Int), vi fr, vj fo, .ref bt, .ref wz, .ref lw, .ref hg, vi ((ls : Nat) : Int), vi lp, vi ((hs : Nat) : Int), vi hq], ai cI dg 800 d] 0 0 0 [(0, .ref y), (1, vi a)] []
  refine qv_aload_n C rfl dq_Mod_places_0 ?_
  refine qv_iconst C dq_Mod_places_1 ?_
  refine qv_put C (ws' := [oc y 4 [vi 0, vi (b2 mi), .ref dg, vi ((nd : Nat) : Int), vi pl, vi ((zr : Nat) : Int), vi bh, .ref rw, vi ((mn : Nat) : Int), vi fr, vj fo, .ref bt, .ref wz, .ref lw, .ref hg, vi ((ls : Nat) : Int), vi lp, vi ((hs : Nat) : Int), vi hq], ai cI dg 800 d]) fl_Mod_28 fs_4_0 0 rfl rfl rfl (Nat.le_of_ble_eq_true rfl) rfl dq_Mod_places_2 ?_
  refine qv_aload_n C rfl dq_Mod_places_5 ?_
  refine qv_iload_n C rfl dq_Mod_places_6 ?_
  refine qv_i2l C (by omega) dq_Mod_places_7 ?_
  refine qv_ldc2 C (z := (-1000)) wk_Mod_79 dq_Mod_places_8 ?_
  refine qv_ldc2 C (z := 2000) wk_Mod_94 dq_Mod_places_11 ?_
  refine qc_sI (wr := [oc y 4 [vi 0, vi (b2 mi), .ref dg, vi ((nd : Nat) : Int), vi pl, vi ((zr : Nat) : Int), vi bh, .ref rw, vi ((mn : Nat) : Int), vi fr, vj fo, .ref bt, .ref wz, .ref lw, .ref hg, vi ((ls : Nat) : Int), vi lp, vi ((hs : Nat) : Int), vi hq], ai cI dg 800 d]) (st := [.ref y]) C cl_Mod_75 cd_Mod_in (c_Mod_in cI cJ a (-1000) 2000 (by omega) (by omega) (by omega)) (Xok_t K) Xbl_t [] [0, 1] rfl rfl (by decide) (by decide) (by decide) rfl rfl (Nat.le_of_ble_eq_true rfl) (by decide) (by decide) dq_Mod_places_14 (fun z u hu => ?_)
  obtain ⟨rfl, rfl⟩ := hu
  show V K 2 [oc y 4 [vi 0, vi (b2 mi), .ref dg, vi ((nd : Nat) : Int), vi pl, vi ((zr : Nat) : Int), vi bh, .ref rw, vi ((mn : Nat) : Int), vi fr, vj fo, .ref bt, .ref wz, .ref lw, .ref hg, vi ((ls : Nat) : Int), vi lp, vi ((hs : Nat) : Int), vi hq], ai cI dg 800 d] 0 0 17 [(0, .ref y), (1, vi a)] [vi (b2 (decide ((-1000) ≤ a ∧ a ≤ 2000))), .ref y]
  refine qv_ifne C (rb_b2 _) (tgt := 24) (by decide) dq_Mod_places_17 (fun h17 => ?_) (fun h17 => ?_)
  · skip
    have hin := of_decide_eq_true (b2_t h17)
    refine qv_iconst C dq_Mod_places_24 ?_
    refine qv_iconst C dq_Mod_places_25 ?_
    refine qc_vI (wr := [ai cI dg 800 d]) (st := []) C cl_Mod_32 cd_Mod_fails (c_Mod_fails cI cJ y dg rw bt wz lw hg mi nd pl zr bh mn fr fo ls lp hs hq false 1 (by omega)) (Xok_t K) Xbl_t [0] [1] rfl rfl (by decide) (by decide) (by decide) 0 rfl rfl rfl rfl rfl (Nat.le_of_ble_eq_true rfl) (by decide) (by decide) dq_Mod_places_26 (fun z u hu => ?_)
    obtain ⟨rfl, rfl⟩ := hu
    show V K 2 [ai cI dg 800 d, oc y 4 [vi 0, vi (b2 mi), .ref dg, vi ((nd : Nat) : Int), vi pl, vi ((zr : Nat) : Int), vi bh, .ref rw, vi ((mn : Nat) : Int), vi fr, vj fo, .ref bt, .ref wz, .ref lw, .ref hg, vi ((ls : Nat) : Int), vi lp, vi ((hs : Nat) : Int), vi hq]] 0 0 29 [(0, .ref y), (1, vi a)] [vi 0]
    refine qv_ifeq C (by omega) (tgt := 34) (by decide) dq_Mod_places_29 (fun h29 => ?_) (fun h29 => ?_)
    · skip
      refine qv_ws [1, 0] (ws' := [oc y 4 [vi 0, vi (b2 mi), .ref dg, vi ((nd : Nat) : Int), vi pl, vi ((zr : Nat) : Int), vi bh, .ref rw, vi ((mn : Nat) : Int), vi fr, vj fo, .ref bt, .ref wz, .ref lw, .ref hg, vi ((ls : Nat) : Int), vi lp, vi ((hs : Nat) : Int), vi hq], ai cI dg 800 d]) (by decide) rfl ?_
      refine qv_aload_n C rfl dq_Mod_places_34 ?_
      refine qv_aload_n C rfl dq_Mod_places_35 ?_
      refine qv_get C fl_Mod_64 0 rfl rfl dq_Mod_places_36 ?_
      refine qv_i2l C (by omega) dq_Mod_places_39 ?_
      refine qv_iload_n C rfl dq_Mod_places_40 ?_
      refine qv_i2l C (by omega) dq_Mod_places_41 ?_
      refine qv_ladd C (r := (pl + a)) rfl dq_Mod_places_42 ?_
      refine qc_vV (wr := []) (st := []) C cl_Mod_90 cd_Mod_cut (c_Mod_cut cI cJ y dg rw bt wz lw hg 0 mi nd pl zr bh mn fr fo ls lp hs hq d (pl + a) hd hnd (by omega)) (Xok_t K) Xbl_t [0, 1] [] rfl rfl (by decide) (by decide) (by decide) 0 rfl rfl rfl rfl rfl (Nat.le_of_ble_eq_true rfl) (by decide) (by decide) dq_Mod_places_43 (fun u hu => ?_)
      obtain rfl := hu
      show V K 2 [oc y 4 [vi 0, vi (b2 mi), .ref dg, vi ((cL d nd (pl + a) : Nat) : Int), vi (cP d nd (pl + a) pl), vi 0, vi 0, .ref rw, vi ((mn : Nat) : Int), vi fr, vj fo, .ref bt, .ref wz, .ref lw, .ref hg, vi ((ls : Nat) : Int), vi lp, vi ((hs : Nat) : Int), vi hq], ai cI dg 800 (cF d nd (pl + a))] 0 0 46 [(0, .ref y), (1, vi a)] []
      refine qv_aload_n C rfl dq_Mod_places_46 ?_
      refine qv_get C fl_Mod_61 0 rfl rfl dq_Mod_places_47 ?_
      refine qv_iret C hR ?_ dq_Mod_places_50 (by decide) (by decide)
      exact Or.inr ⟨hin, rfl, rfl⟩
    · exfalso; omega
  · skip
    have hin := of_decide_eq_false (b2_f h17)
    refine qv_iconst C dq_Mod_places_20 ?_
    refine qv_goto C (tgt := 25) (by decide) dq_Mod_places_21 ?_
    refine qv_iconst C dq_Mod_places_25 ?_
    refine qc_vI (wr := [ai cI dg 800 d]) (st := []) C cl_Mod_32 cd_Mod_fails (c_Mod_fails cI cJ y dg rw bt wz lw hg mi nd pl zr bh mn fr fo ls lp hs hq true 1 (by omega)) (Xok_t K) Xbl_t [0] [1] rfl rfl (by decide) (by decide) (by decide) 0 rfl rfl rfl rfl rfl (Nat.le_of_ble_eq_true rfl) (by decide) (by decide) dq_Mod_places_26 (fun z u hu => ?_)
    obtain ⟨rfl, rfl⟩ := hu
    show V K 2 [ai cI dg 800 d, oc y 4 [vi 1, vi (b2 mi), .ref dg, vi ((nd : Nat) : Int), vi pl, vi ((zr : Nat) : Int), vi bh, .ref rw, vi ((mn : Nat) : Int), vi fr, vj fo, .ref bt, .ref wz, .ref lw, .ref hg, vi ((ls : Nat) : Int), vi lp, vi ((hs : Nat) : Int), vi hq]] 0 0 29 [(0, .ref y), (1, vi a)] [vi 1]
    refine qv_ifeq C (by omega) (tgt := 34) (by decide) dq_Mod_places_29 (fun h29 => ?_) (fun h29 => ?_)
    · exfalso; omega
    · skip
      refine qv_iconst C dq_Mod_places_32 ?_
      refine qv_ws [1, 0] (ws' := [oc y 4 [vi 1, vi (b2 mi), .ref dg, vi ((nd : Nat) : Int), vi pl, vi ((zr : Nat) : Int), vi bh, .ref rw, vi ((mn : Nat) : Int), vi fr, vj fo, .ref bt, .ref wz, .ref lw, .ref hg, vi ((ls : Nat) : Int), vi lp, vi ((hs : Nat) : Int), vi hq], ai cI dg 800 d]) (by decide) rfl ?_
      refine qv_iret C hR ?_ dq_Mod_places_33 (by decide) (by decide)
      exact Or.inl ⟨hin, rfl, rfl⟩

theorem c_Mod_look (cI cJ : ClassId) (y dg rw bt wz lw hg : Nat) (er : Int) (mi : Bool) (nd : Nat) (pl : Int) (zr : Nat) (bh : Int) (mn : Nat) (fr fo : Int) (ls : Nat) (lp : Int) (hs : Nat) (hq : Int) (d : Nat → Nat) (a : Int) (ha : ri a) (hnd : nd ≤ 800) : MtI cI cJ ky_Mod_look kb_Mod_look 2 .int rm_Mod_look Xt [.ref y, vi a] [oc y 4 [vi er, vi (b2 mi), .ref dg, vi ((nd : Nat) : Int), vi pl, vi ((zr : Nat) : Int), vi bh, .ref rw, vi ((mn : Nat) : Int), vi fr, vj fo, .ref bt, .ref wz, .ref lw, .ref hg, vi ((ls : Nat) : Int), vi lp, vi ((hs : Nat) : Int), vi hq], ai cI dg 800 d] (fun z u => (¬ (0 ≤ a ∧ a ≤ (nd : Int) - 1) ∧ z = 0 ∧ u = [mo y dg rw bt wz lw hg 1 mi nd pl zr bh mn fr fo ls lp hs hq, ai cI dg 800 d]) ∨ ((0 ≤ a ∧ a ≤ (nd : Int) - 1) ∧ z = ((d a.toNat : Nat) : Int) ∧ u = [mo y dg rw bt wz lw hg 0 mi nd pl zr bh mn fr fo ls lp hs hq, ai cI dg 800 d])) := by
  refine MtI_in (by decide) (Nat.le_of_ble_eq_true rfl) (fun K C hR hX hN => ?_)
  show V K 2 [oc y 4 [vi er, vi (b2 mi), .ref dg, vi ((nd : Nat) : Int), vi pl, vi ((zr : Nat) : Int), vi bh, .ref rw, vi ((mn : Nat) : Int), vi fr, vj fo, .ref bt, .ref wz, .ref lw, .ref hg, vi ((ls : Nat) : Int), vi lp, vi ((hs : Nat) : Int), vi hq], ai cI dg 800 d] 0 0 0 [(0, .ref y), (1, vi a)] []
  refine qv_aload_n C rfl dq_Mod_look_0 ?_
  refine qv_iconst C dq_Mod_look_1 ?_
  refine qv_put C (ws' := [oc y 4 [vi 0, vi (b2 mi), .ref dg, vi ((nd : Nat) : Int), vi pl, vi ((zr : Nat) : Int), vi bh, .ref rw, vi ((mn : Nat) : Int), vi fr, vj fo, .ref bt, .ref wz, .ref lw, .ref hg, vi ((ls : Nat) : Int), vi lp, vi ((hs : Nat) : Int), vi hq], ai cI dg 800 d]) fl_Mod_28 fs_4_0 0 rfl rfl rfl (Nat.le_of_ble_eq_true rfl) rfl dq_Mod_look_2 ?_
  refine qv_aload_n C rfl dq_Mod_look_5 ?_
  refine qv_iload_n C rfl dq_Mod_look_6 ?_
  refine qv_i2l C (by omega) dq_Mod_look_7 ?_
  refine qv_lconst C (z := 0) (by decide) dq_Mod_look_8 ?_
  refine qv_aload_n C rfl dq_Mod_look_9 ?_
  refine qv_get C fl_Mod_61 0 rfl rfl dq_Mod_look_10 ?_
  refine qv_iconst C dq_Mod_look_13 ?_
  refine qv_isub C (r := (((nd : Nat) : Int) - 1)) rfl dq_Mod_look_14 ?_
  refine qv_i2l C (by omega) dq_Mod_look_15 ?_
  refine qc_sI (wr := [oc y 4 [vi 0, vi (b2 mi), .ref dg, vi ((nd : Nat) : Int), vi pl, vi ((zr : Nat) : Int), vi bh, .ref rw, vi ((mn : Nat) : Int), vi fr, vj fo, .ref bt, .ref wz, .ref lw, .ref hg, vi ((ls : Nat) : Int), vi lp, vi ((hs : Nat) : Int), vi hq], ai cI dg 800 d]) (st := [.ref y]) C cl_Mod_75 cd_Mod_in (c_Mod_in cI cJ a 0 (((nd : Nat) : Int) - 1) (by omega) (by omega) (by omega)) (Xok_t K) Xbl_t [] [0, 1] rfl rfl (by decide) (by decide) (by decide) rfl rfl (Nat.le_of_ble_eq_true rfl) (by decide) (by decide) dq_Mod_look_16 (fun z u hu => ?_)
  obtain ⟨rfl, rfl⟩ := hu
  show V K 2 [oc y 4 [vi 0, vi (b2 mi), .ref dg, vi ((nd : Nat) : Int), vi pl, vi ((zr : Nat) : Int), vi bh, .ref rw, vi ((mn : Nat) : Int), vi fr, vj fo, .ref bt, .ref wz, .ref lw, .ref hg, vi ((ls : Nat) : Int), vi lp, vi ((hs : Nat) : Int), vi hq], ai cI dg 800 d] 0 0 19 [(0, .ref y), (1, vi a)] [vi (b2 (decide (0 ≤ a ∧ a ≤ (((nd : Nat) : Int) - 1)))), .ref y]
  refine qv_ifne C (rb_b2 _) (tgt := 26) (by decide) dq_Mod_look_19 (fun h19 => ?_) (fun h19 => ?_)
  · skip
    have hin := of_decide_eq_true (b2_t h19)
    refine qv_iconst C dq_Mod_look_26 ?_
    refine qv_iconst C dq_Mod_look_27 ?_
    refine qc_vI (wr := [ai cI dg 800 d]) (st := []) C cl_Mod_32 cd_Mod_fails (c_Mod_fails cI cJ y dg rw bt wz lw hg mi nd pl zr bh mn fr fo ls lp hs hq false 1 (by omega)) (Xok_t K) Xbl_t [0] [1] rfl rfl (by decide) (by decide) (by decide) 0 rfl rfl rfl rfl rfl (Nat.le_of_ble_eq_true rfl) (by decide) (by decide) dq_Mod_look_28 (fun z u hu => ?_)
    obtain ⟨rfl, rfl⟩ := hu
    show V K 2 [ai cI dg 800 d, oc y 4 [vi 0, vi (b2 mi), .ref dg, vi ((nd : Nat) : Int), vi pl, vi ((zr : Nat) : Int), vi bh, .ref rw, vi ((mn : Nat) : Int), vi fr, vj fo, .ref bt, .ref wz, .ref lw, .ref hg, vi ((ls : Nat) : Int), vi lp, vi ((hs : Nat) : Int), vi hq]] 0 0 31 [(0, .ref y), (1, vi a)] [vi 0]
    refine qv_ifeq C (by omega) (tgt := 38) (by decide) dq_Mod_look_31 (fun h31 => ?_) (fun h31 => ?_)
    · skip
      refine qv_ws [1, 0] (ws' := [oc y 4 [vi 0, vi (b2 mi), .ref dg, vi ((nd : Nat) : Int), vi pl, vi ((zr : Nat) : Int), vi bh, .ref rw, vi ((mn : Nat) : Int), vi fr, vj fo, .ref bt, .ref wz, .ref lw, .ref hg, vi ((ls : Nat) : Int), vi lp, vi ((hs : Nat) : Int), vi hq], ai cI dg 800 d]) (by decide) rfl ?_
      rw [show vi a = vi ((a.toNat : Nat) : Int) by congr 2; omega]
      refine qv_aload_n C rfl dq_Mod_look_38 ?_
      refine qv_get C fl_Mod_9 0 rfl rfl dq_Mod_look_39 ?_
      refine qv_iload_n C rfl dq_Mod_look_42 ?_
      refine qv_iald C 1 a.toNat rfl (by omega) (by omega) (by omega) dq_Mod_look_43 ?_
      refine qv_iret C hR ?_ dq_Mod_look_44 (by decide) (by decide)
      exact Or.inr ⟨hin, rfl, rfl⟩
    · exfalso; omega
  · skip
    have hin := of_decide_eq_false (b2_f h19)
    refine qv_iconst C dq_Mod_look_22 ?_
    refine qv_goto C (tgt := 27) (by decide) dq_Mod_look_23 ?_
    refine qv_iconst C dq_Mod_look_27 ?_
    refine qc_vI (wr := [ai cI dg 800 d]) (st := []) C cl_Mod_32 cd_Mod_fails (c_Mod_fails cI cJ y dg rw bt wz lw hg mi nd pl zr bh mn fr fo ls lp hs hq true 1 (by omega)) (Xok_t K) Xbl_t [0] [1] rfl rfl (by decide) (by decide) (by decide) 0 rfl rfl rfl rfl rfl (Nat.le_of_ble_eq_true rfl) (by decide) (by decide) dq_Mod_look_28 (fun z u hu => ?_)
    obtain ⟨rfl, rfl⟩ := hu
    show V K 2 [ai cI dg 800 d, oc y 4 [vi 1, vi (b2 mi), .ref dg, vi ((nd : Nat) : Int), vi pl, vi ((zr : Nat) : Int), vi bh, .ref rw, vi ((mn : Nat) : Int), vi fr, vj fo, .ref bt, .ref wz, .ref lw, .ref hg, vi ((ls : Nat) : Int), vi lp, vi ((hs : Nat) : Int), vi hq]] 0 0 31 [(0, .ref y), (1, vi a)] [vi 1]
    refine qv_ifeq C (by omega) (tgt := 38) (by decide) dq_Mod_look_31 (fun h31 => ?_) (fun h31 => ?_)
    · exfalso; omega
    · skip
      refine qv_ws [1, 0] (ws' := [oc y 4 [vi 1, vi (b2 mi), .ref dg, vi ((nd : Nat) : Int), vi pl, vi ((zr : Nat) : Int), vi bh, .ref rw, vi ((mn : Nat) : Int), vi fr, vj fo, .ref bt, .ref wz, .ref lw, .ref hg, vi ((ls : Nat) : Int), vi lp, vi ((hs : Nat) : Int), vi hq], ai cI dg 800 d]) (by decide) rfl ?_
      refine qv_iconst C dq_Mod_look_34 ?_
      refine qv_goto C (tgt := 44) (by decide) dq_Mod_look_35 ?_
      refine qv_iret C hR ?_ dq_Mod_look_44 (by decide) (by decide)
      exact Or.inl ⟨hin, rfl, rfl⟩

theorem c_Mod_count (cI cJ : ClassId) (y dg rw bt wz lw hg : Nat) (er : Int) (mi : Bool) (nd : Nat) (pl : Int) (zr : Nat) (bh : Int) (mn : Nat) (fr fo : Int) (ls : Nat) (lp : Int) (hs : Nat) (hq : Int) (a : Int) (ha : ri a) : MtI cI cJ ky_Mod_count kb_Mod_count 2 .int rm_Mod_count Xt [.ref y, vi a] [oc y 4 [vi er, vi (b2 mi), .ref dg, vi ((nd : Nat) : Int), vi pl, vi ((zr : Nat) : Int), vi bh, .ref rw, vi ((mn : Nat) : Int), vi fr, vj fo, .ref bt, .ref wz, .ref lw, .ref hg, vi ((ls : Nat) : Int), vi lp, vi ((hs : Nat) : Int), vi hq]] (fun z u => (¬ (0 ≤ a ∧ a ≤ 2) ∧ z = 0 ∧ u = [mo y dg rw bt wz lw hg 1 mi nd pl zr bh mn fr fo ls lp hs hq]) ∨ ((0 ≤ a ∧ a ≤ 2) ∧ z = (if a = 0 then ((nd : Nat) : Int) else if a = 1 then pl else b2 mi) ∧ u = [mo y dg rw bt wz lw hg 0 mi nd pl zr bh mn fr fo ls lp hs hq])) := by
  refine MtI_in (by decide) (Nat.le_of_ble_eq_true rfl) (fun K C hR hX hN => ?_)
  show V K 2 [oc y 4 [vi er, vi (b2 mi), .ref dg, vi ((nd : Nat) : Int), vi pl, vi ((zr : Nat) : Int), vi bh, .ref rw, vi ((mn : Nat) : Int), vi fr, vj fo, .ref bt, .ref wz, .ref lw, .ref hg, vi ((ls : Nat) : Int), vi lp, vi ((hs : Nat) : Int), vi hq]] 0 0 0 [(0, .ref y), (1, vi a)] []
  refine qv_aload_n C rfl dq_Mod_count_0 ?_
  refine qv_iconst C dq_Mod_count_1 ?_
  refine qv_put C (ws' := [oc y 4 [vi 0, vi (b2 mi), .ref dg, vi ((nd : Nat) : Int), vi pl, vi ((zr : Nat) : Int), vi bh, .ref rw, vi ((mn : Nat) : Int), vi fr, vj fo, .ref bt, .ref wz, .ref lw, .ref hg, vi ((ls : Nat) : Int), vi lp, vi ((hs : Nat) : Int), vi hq]]) fl_Mod_28 fs_4_0 0 rfl rfl rfl (Nat.le_of_ble_eq_true rfl) rfl dq_Mod_count_2 ?_
  refine qv_aload_n C rfl dq_Mod_count_5 ?_
  refine qv_iload_n C rfl dq_Mod_count_6 ?_
  refine qv_i2l C (by omega) dq_Mod_count_7 ?_
  refine qv_lconst C (z := 0) (by decide) dq_Mod_count_8 ?_
  refine qv_ldc2 C (z := 2) wk_Mod_116 dq_Mod_count_9 ?_
  refine qc_sI (wr := [oc y 4 [vi 0, vi (b2 mi), .ref dg, vi ((nd : Nat) : Int), vi pl, vi ((zr : Nat) : Int), vi bh, .ref rw, vi ((mn : Nat) : Int), vi fr, vj fo, .ref bt, .ref wz, .ref lw, .ref hg, vi ((ls : Nat) : Int), vi lp, vi ((hs : Nat) : Int), vi hq]]) (st := [.ref y]) C cl_Mod_75 cd_Mod_in (c_Mod_in cI cJ a 0 2 (by omega) (by omega) (by omega)) (Xok_t K) Xbl_t [] [0] rfl rfl (by decide) (by decide) (by decide) rfl rfl (Nat.le_of_ble_eq_true rfl) (by decide) (by decide) dq_Mod_count_12 (fun z u hu => ?_)
  obtain ⟨rfl, rfl⟩ := hu
  show V K 2 [oc y 4 [vi 0, vi (b2 mi), .ref dg, vi ((nd : Nat) : Int), vi pl, vi ((zr : Nat) : Int), vi bh, .ref rw, vi ((mn : Nat) : Int), vi fr, vj fo, .ref bt, .ref wz, .ref lw, .ref hg, vi ((ls : Nat) : Int), vi lp, vi ((hs : Nat) : Int), vi hq]] 0 0 15 [(0, .ref y), (1, vi a)] [vi (b2 (decide (0 ≤ a ∧ a ≤ 2))), .ref y]
  refine qv_ifne C (rb_b2 _) (tgt := 22) (by decide) dq_Mod_count_15 (fun h15 => ?_) (fun h15 => ?_)
  · skip
    have hin := of_decide_eq_true (b2_t h15)
    refine qv_iconst C dq_Mod_count_22 ?_
    refine qv_iconst C dq_Mod_count_23 ?_
    refine qc_vI (wr := []) (st := []) C cl_Mod_32 cd_Mod_fails (c_Mod_fails cI cJ y dg rw bt wz lw hg mi nd pl zr bh mn fr fo ls lp hs hq false 1 (by omega)) (Xok_t K) Xbl_t [0] [] rfl rfl (by decide) (by decide) (by decide) 0 rfl rfl rfl rfl rfl (Nat.le_of_ble_eq_true rfl) (by decide) (by decide) dq_Mod_count_24 (fun z u hu => ?_)
    obtain ⟨rfl, rfl⟩ := hu
    show V K 2 [oc y 4 [vi 0, vi (b2 mi), .ref dg, vi ((nd : Nat) : Int), vi pl, vi ((zr : Nat) : Int), vi bh, .ref rw, vi ((mn : Nat) : Int), vi fr, vj fo, .ref bt, .ref wz, .ref lw, .ref hg, vi ((ls : Nat) : Int), vi lp, vi ((hs : Nat) : Int), vi hq]] 0 0 27 [(0, .ref y), (1, vi a)] [vi 0]
    refine qv_ifeq C (by omega) (tgt := 32) (by decide) dq_Mod_count_27 (fun h27 => ?_) (fun h27 => ?_)
    · skip
      refine qv_iload_n C rfl dq_Mod_count_32 ?_
      refine qv_ifne C (by omega) (tgt := 43) (by decide) dq_Mod_count_33 (fun h33 => ?_) (fun h33 => ?_)
      · skip
        refine qv_iload_n C rfl dq_Mod_count_43 ?_
        refine qv_iconst C dq_Mod_count_44 ?_
        refine qv_icne C (by omega) (by omega) (tgt := 55) (by decide) dq_Mod_count_45 (fun h45 => ?_) (fun h45 => ?_)
        · skip
          refine qv_aload_n C rfl dq_Mod_count_55 ?_
          refine qv_get C fl_Mod_54 0 rfl rfl dq_Mod_count_56 ?_
          refine qv_ifeq C (rb_b2 _) (tgt := 66) (by decide) dq_Mod_count_59 (fun h59 => ?_) (fun h59 => ?_)
          · skip
            refine qv_iconst C dq_Mod_count_66 ?_
            refine qv_iret C hR ?_ dq_Mod_count_67 (by decide) (by decide)
            refine Or.inr ⟨hin, ?_, rfl⟩
            rw [if_neg (by omega), if_neg (by omega), b2_f h59]; rfl
          · skip
            refine qv_iconst C dq_Mod_count_62 ?_
            refine qv_goto C (tgt := 67) (by decide) dq_Mod_count_63 ?_
            refine qv_iret C hR ?_ dq_Mod_count_67 (by decide) (by decide)
            refine Or.inr ⟨hin, ?_, rfl⟩
            rw [if_neg (by omega), if_neg (by omega), b2_t h59]; rfl
        · skip
          refine qv_aload_n C rfl dq_Mod_count_48 ?_
          refine qv_get C fl_Mod_64 0 rfl rfl dq_Mod_count_49 ?_
          refine qv_goto C (tgt := 67) (by decide) dq_Mod_count_52 ?_
          refine qv_iret C hR ?_ dq_Mod_count_67 (by decide) (by decide)
          refine Or.inr ⟨hin, ?_, rfl⟩
          rw [if_neg (by omega), if_pos (by omega)]
      · skip
        refine qv_aload_n C rfl dq_Mod_count_36 ?_
        refine qv_get C fl_Mod_61 0 rfl rfl dq_Mod_count_37 ?_
        refine qv_goto C (tgt := 67) (by decide) dq_Mod_count_40 ?_
        refine qv_iret C hR ?_ dq_Mod_count_67 (by decide) (by decide)
        refine Or.inr ⟨hin, ?_, rfl⟩
        rw [if_pos (by omega)]
    · exfalso; omega
  · skip
    have hin := of_decide_eq_false (b2_f h15)
    refine qv_iconst C dq_Mod_count_18 ?_
    refine qv_goto C (tgt := 23) (by decide) dq_Mod_count_19 ?_
    refine qv_iconst C dq_Mod_count_23 ?_
    refine qc_vI (wr := []) (st := []) C cl_Mod_32 cd_Mod_fails (c_Mod_fails cI cJ y dg rw bt wz lw hg mi nd pl zr bh mn fr fo ls lp hs hq true 1 (by omega)) (Xok_t K) Xbl_t [0] [] rfl rfl (by decide) (by decide) (by decide) 0 rfl rfl rfl rfl rfl (Nat.le_of_ble_eq_true rfl) (by decide) (by decide) dq_Mod_count_24 (fun z u hu => ?_)
    obtain ⟨rfl, rfl⟩ := hu
    show V K 2 [oc y 4 [vi 1, vi (b2 mi), .ref dg, vi ((nd : Nat) : Int), vi pl, vi ((zr : Nat) : Int), vi bh, .ref rw, vi ((mn : Nat) : Int), vi fr, vj fo, .ref bt, .ref wz, .ref lw, .ref hg, vi ((ls : Nat) : Int), vi lp, vi ((hs : Nat) : Int), vi hq]] 0 0 27 [(0, .ref y), (1, vi a)] [vi 1]
    refine qv_ifeq C (by omega) (tgt := 32) (by decide) dq_Mod_count_27 (fun h27 => ?_) (fun h27 => ?_)
    · exfalso; omega
    · skip
      refine qv_iconst C dq_Mod_count_30 ?_
      refine qv_iret C hR ?_ dq_Mod_count_31 (by decide) (by decide)
      exact Or.inl ⟨hin, rfl, rfl⟩

theorem c_Mod_clear (cI cJ : ClassId) (y dg rw bt wz lw hg : Nat) (er : Int) (mi : Bool) (nd : Nat) (pl : Int) (zr : Nat) (bh : Int) (mn : Nat) (fr fo : Int) (ls : Nat) (lp : Int) (hs : Nat) (hq : Int) (sg : Bool) (a : Int) (ha : ri a) : MtV cI cJ ky_Mod_clear kb_Mod_clear 3 rm_Mod_clear Xt [.ref y, vi (b2 sg), vi a] [oc y 4 [vi er, vi (b2 mi), .ref dg, vi ((nd : Nat) : Int), vi pl, vi ((zr : Nat) : Int), vi bh, .ref rw, vi ((mn : Nat) : Int), vi fr, vj fo, .ref bt, .ref wz, .ref lw, .ref hg, vi ((ls : Nat) : Int), vi lp, vi ((hs : Nat) : Int), vi hq]] (fun u => (¬ (-1000 ≤ a ∧ a ≤ 1000) ∧ u = [mo y dg rw bt wz lw hg 1 mi nd pl zr bh mn fr fo ls lp hs hq]) ∨ ((-1000 ≤ a ∧ a ≤ 1000) ∧ u = [mo y dg rw bt wz lw hg 0 sg 0 0 0 a mn fr fo ls lp hs hq])) := by
  refine MtV_in (by decide) (Nat.le_of_ble_eq_true rfl) (fun K C hR hX hN => ?_)
  show V K 3 [oc y 4 [vi er, vi (b2 mi), .ref dg, vi ((nd : Nat) : Int), vi pl, vi ((zr : Nat) : Int), vi bh, .ref rw, vi ((mn : Nat) : Int), vi fr, vj fo, .ref bt, .ref wz, .ref lw, .ref hg, vi ((ls : Nat) : Int), vi lp, vi ((hs : Nat) : Int), vi hq]] 0 0 0 [(0, .ref y), (1, vi (b2 sg)), (2, vi a)] []
  refine qv_aload_n C rfl dq_Mod_clear_0 ?_
  refine qv_iconst C dq_Mod_clear_1 ?_
  refine qv_put C (ws' := [oc y 4 [vi 0, vi (b2 mi), .ref dg, vi ((nd : Nat) : Int), vi pl, vi ((zr : Nat) : Int), vi bh, .ref rw, vi ((mn : Nat) : Int), vi fr, vj fo, .ref bt, .ref wz, .ref lw, .ref hg, vi ((ls : Nat) : Int), vi lp, vi ((hs : Nat) : Int), vi hq]]) fl_Mod_28 fs_4_0 0 rfl rfl rfl (Nat.le_of_ble_eq_true rfl) rfl dq_Mod_clear_2 ?_
  refine qv_aload_n C rfl dq_Mod_clear_5 ?_
  refine qv_iload_n C rfl dq_Mod_clear_6 ?_
  refine qv_i2l C (by omega) dq_Mod_clear_7 ?_
  refine qv_ldc2 C (z := (-1000)) wk_Mod_79 dq_Mod_clear_8 ?_
  refine qv_ldc2 C (z := 1000) wk_Mod_81 dq_Mod_clear_11 ?_
  refine qc_sI (wr := [oc y 4 [vi 0, vi (b2 mi), .ref dg, vi ((nd : Nat) : Int), vi pl, vi ((zr : Nat) : Int), vi bh, .ref rw, vi ((mn : Nat) : Int), vi fr, vj fo, .ref bt, .ref wz, .ref lw, .ref hg, vi ((ls : Nat) : Int), vi lp, vi ((hs : Nat) : Int), vi hq]]) (st := [.ref y]) C cl_Mod_75 cd_Mod_in (c_Mod_in cI cJ a (-1000) 1000 (by omega) (by omega) (by omega)) (Xok_t K) Xbl_t [] [0] rfl rfl (by decide) (by decide) (by decide) rfl rfl (Nat.le_of_ble_eq_true rfl) (by decide) (by decide) dq_Mod_clear_14 (fun z u hu => ?_)
  obtain ⟨rfl, rfl⟩ := hu
  show V K 3 [oc y 4 [vi 0, vi (b2 mi), .ref dg, vi ((nd : Nat) : Int), vi pl, vi ((zr : Nat) : Int), vi bh, .ref rw, vi ((mn : Nat) : Int), vi fr, vj fo, .ref bt, .ref wz, .ref lw, .ref hg, vi ((ls : Nat) : Int), vi lp, vi ((hs : Nat) : Int), vi hq]] 0 0 17 [(0, .ref y), (1, vi (b2 sg)), (2, vi a)] [vi (b2 (decide ((-1000) ≤ a ∧ a ≤ 1000))), .ref y]
  refine qv_ifne C (rb_b2 _) (tgt := 24) (by decide) dq_Mod_clear_17 (fun h17 => ?_) (fun h17 => ?_)
  · skip
    have hin := of_decide_eq_true (b2_t h17)
    refine qv_iconst C dq_Mod_clear_24 ?_
    refine qv_iconst C dq_Mod_clear_25 ?_
    refine qc_vI (wr := []) (st := []) C cl_Mod_32 cd_Mod_fails (c_Mod_fails cI cJ y dg rw bt wz lw hg mi nd pl zr bh mn fr fo ls lp hs hq false 1 (by omega)) (Xok_t K) Xbl_t [0] [] rfl rfl (by decide) (by decide) (by decide) 0 rfl rfl rfl rfl rfl (Nat.le_of_ble_eq_true rfl) (by decide) (by decide) dq_Mod_clear_26 (fun z u hu => ?_)
    obtain ⟨rfl, rfl⟩ := hu
    show V K 3 [oc y 4 [vi 0, vi (b2 mi), .ref dg, vi ((nd : Nat) : Int), vi pl, vi ((zr : Nat) : Int), vi bh, .ref rw, vi ((mn : Nat) : Int), vi fr, vj fo, .ref bt, .ref wz, .ref lw, .ref hg, vi ((ls : Nat) : Int), vi lp, vi ((hs : Nat) : Int), vi hq]] 0 0 29 [(0, .ref y), (1, vi (b2 sg)), (2, vi a)] [vi 0]
    refine qv_ifeq C (by omega) (tgt := 33) (by decide) dq_Mod_clear_29 (fun h29 => ?_) (fun h29 => ?_)
    · skip
      refine qv_aload_n C rfl dq_Mod_clear_33 ?_
      refine qv_iload_n C rfl dq_Mod_clear_34 ?_
      refine qv_put C (ws' := [oc y 4 [vi 0, vi (b2 sg), .ref dg, vi ((nd : Nat) : Int), vi pl, vi ((zr : Nat) : Int), vi bh, .ref rw, vi ((mn : Nat) : Int), vi fr, vj fo, .ref bt, .ref wz, .ref lw, .ref hg, vi ((ls : Nat) : Int), vi lp, vi ((hs : Nat) : Int), vi hq]]) fl_Mod_54 fs_4_1 0 rfl (nz_b2 _) (fz_b2 _) (Nat.le_of_ble_eq_true rfl) rfl dq_Mod_clear_35 ?_
      refine qv_aload_n C rfl dq_Mod_clear_38 ?_
      refine qv_iconst C dq_Mod_clear_39 ?_
      refine qv_put C (ws' := [oc y 4 [vi 0, vi (b2 sg), .ref dg, vi 0, vi pl, vi ((zr : Nat) : Int), vi bh, .ref rw, vi ((mn : Nat) : Int), vi fr, vj fo, .ref bt, .ref wz, .ref lw, .ref hg, vi ((ls : Nat) : Int), vi lp, vi ((hs : Nat) : Int), vi hq]]) fl_Mod_61 fs_4_3 0 rfl rfl rfl (Nat.le_of_ble_eq_true rfl) rfl dq_Mod_clear_40 ?_
      refine qv_aload_n C rfl dq_Mod_clear_43 ?_
      refine qv_iconst C dq_Mod_clear_44 ?_
      refine qv_put C (ws' := [oc y 4 [vi 0, vi (b2 sg), .ref dg, vi 0, vi 0, vi ((zr : Nat) : Int), vi bh, .ref rw, vi ((mn : Nat) : Int), vi fr, vj fo, .ref bt, .ref wz, .ref lw, .ref hg, vi ((ls : Nat) : Int), vi lp, vi ((hs : Nat) : Int), vi hq]]) fl_Mod_64 fs_4_4 0 rfl rfl rfl (Nat.le_of_ble_eq_true rfl) rfl dq_Mod_clear_45 ?_
      refine qv_aload_n C rfl dq_Mod_clear_48 ?_
      refine qv_iconst C dq_Mod_clear_49 ?_
      refine qv_put C (ws' := [oc y 4 [vi 0, vi (b2 sg), .ref dg, vi 0, vi 0, vi 0, vi bh, .ref rw, vi ((mn : Nat) : Int), vi fr, vj fo, .ref bt, .ref wz, .ref lw, .ref hg, vi ((ls : Nat) : Int), vi lp, vi ((hs : Nat) : Int), vi hq]]) fl_Mod_67 fs_4_5 0 rfl rfl rfl (Nat.le_of_ble_eq_true rfl) rfl dq_Mod_clear_50 ?_
      refine qv_aload_n C rfl dq_Mod_clear_53 ?_
      refine qv_iload_n C rfl dq_Mod_clear_54 ?_
      refine qv_put C (ws' := [oc y 4 [vi 0, vi (b2 sg), .ref dg, vi 0, vi 0, vi 0, vi a, .ref rw, vi ((mn : Nat) : Int), vi fr, vj fo, .ref bt, .ref wz, .ref lw, .ref hg, vi ((ls : Nat) : Int), vi lp, vi ((hs : Nat) : Int), vi hq]]) fl_Mod_70 fs_4_6 0 rfl rfl rfl (Nat.le_of_ble_eq_true rfl) rfl dq_Mod_clear_55 ?_
      refine qv_vret C hR ?_ dq_Mod_clear_58 (by decide) (by decide)
      exact Or.inr ⟨hin, rfl⟩
    · exfalso; omega
  · skip
    have hin := of_decide_eq_false (b2_f h17)
    refine qv_iconst C dq_Mod_clear_20 ?_
    refine qv_goto C (tgt := 25) (by decide) dq_Mod_clear_21 ?_
    refine qv_iconst C dq_Mod_clear_25 ?_
    refine qc_vI (wr := []) (st := []) C cl_Mod_32 cd_Mod_fails (c_Mod_fails cI cJ y dg rw bt wz lw hg mi nd pl zr bh mn fr fo ls lp hs hq true 1 (by omega)) (Xok_t K) Xbl_t [0] [] rfl rfl (by decide) (by decide) (by decide) 0 rfl rfl rfl rfl rfl (Nat.le_of_ble_eq_true rfl) (by decide) (by decide) dq_Mod_clear_26 (fun z u hu => ?_)
    obtain ⟨rfl, rfl⟩ := hu
    show V K 3 [oc y 4 [vi 1, vi (b2 mi), .ref dg, vi ((nd : Nat) : Int), vi pl, vi ((zr : Nat) : Int), vi bh, .ref rw, vi ((mn : Nat) : Int), vi fr, vj fo, .ref bt, .ref wz, .ref lw, .ref hg, vi ((ls : Nat) : Int), vi lp, vi ((hs : Nat) : Int), vi hq]] 0 0 29 [(0, .ref y), (1, vi (b2 sg)), (2, vi a)] [vi 1]
    refine qv_ifeq C (by omega) (tgt := 33) (by decide) dq_Mod_clear_29 (fun h29 => ?_) (fun h29 => ?_)
    · exfalso; omega
    · skip
      refine qv_vret C hR ?_ dq_Mod_clear_32 (by decide) (by decide)
      exact Or.inl ⟨hin, rfl⟩

theorem c_Mod_digit (cI cJ : ClassId) (y dg rw bt wz lw hg : Nat) (er : Int) (mi : Bool) (nd : Nat) (pl : Int) (zr : Nat) (bh : Int) (mn : Nat) (fr fo : Int) (ls : Nat) (lp : Int) (hs : Nat) (hq : Int) (d : Nat → Nat) (a : Int) (ha : ri a) (hnd : nd ≤ 800) (hzr : zr ≤ 800) (hbh : -10000 ≤ bh ∧ bh ≤ 10000) : MtI cI cJ ky_Mod_digit kb_Mod_digit 2 .int rm_Mod_digit Xt [.ref y, vi a] [oc y 4 [vi er, vi (b2 mi), .ref dg, vi ((nd : Nat) : Int), vi pl, vi ((zr : Nat) : Int), vi bh, .ref rw, vi ((mn : Nat) : Int), vi fr, vj fo, .ref bt, .ref wz, .ref lw, .ref hg, vi ((ls : Nat) : Int), vi lp, vi ((hs : Nat) : Int), vi hq], ai cI dg 800 d] (fun z u => (¬ (0 ≤ a ∧ a ≤ 9) ∧ z = 0 ∧ u = [mo y dg rw bt wz lw hg 1 mi nd pl zr bh mn fr fo ls lp hs hq, ai cI dg 800 d]) ∨ ((0 ≤ a ∧ a ≤ 9) ∧ nd = 0 ∧ a = 0 ∧ bh < -1000 ∧ z = 0 ∧ u = [mo y dg rw bt wz lw hg 2 mi nd pl zr bh mn fr fo ls lp hs hq, ai cI dg 800 d]) ∨ ((0 ≤ a ∧ a ≤ 9) ∧ nd = 0 ∧ a = 0 ∧ ¬ bh < -1000 ∧ z = 0 ∧ u = [mo y dg rw bt wz lw hg 0 mi nd pl zr (bh - 1) mn fr fo ls lp hs hq, ai cI dg 800 d]) ∨ ((0 ≤ a ∧ a ≤ 9) ∧ nd = 0 ∧ a ≠ 0 ∧ z = 1 ∧ u = [mo y dg rw bt wz lw hg 0 mi 1 bh 0 bh mn fr fo ls lp hs hq, ai cI dg 800 (un d 0 a.toNat)]) ∨ ((0 ≤ a ∧ a ≤ 9) ∧ nd ≠ 0 ∧ 800 ≤ nd + zr ∧ z = 0 ∧ u = [mo y dg rw bt wz lw hg 2 mi nd pl zr bh mn fr fo ls lp hs hq, ai cI dg 800 d]) ∨ ((0 ≤ a ∧ a ≤ 9) ∧ nd ≠ 0 ∧ ¬ 800 ≤ nd + zr ∧ a = 0 ∧ z = ((nd : Nat) : Int) ∧ u = [mo y dg rw bt wz lw hg 0 mi nd pl (zr + 1) bh mn fr fo ls lp hs hq, ai cI dg 800 d]) ∨ ((0 ≤ a ∧ a ≤ 9) ∧ nd ≠ 0 ∧ ¬ 800 ≤ nd + zr ∧ a ≠ 0 ∧ z = ((nd + zr + 1 : Nat) : Int) ∧ u = [mo y dg rw bt wz lw hg 0 mi (nd + zr + 1) pl 0 bh mn fr fo ls lp hs hq, ai cI dg 800 (un (zf d nd zr) (nd + zr) a.toNat)])) := by
  refine MtI_in (by decide) (Nat.le_of_ble_eq_true rfl) (fun K C hR hX hN => ?_)
  show V K 2 [oc y 4 [vi er, vi (b2 mi), .ref dg, vi ((nd : Nat) : Int), vi pl, vi ((zr : Nat) : Int), vi bh, .ref rw, vi ((mn : Nat) : Int), vi fr, vj fo, .ref bt, .ref wz, .ref lw, .ref hg, vi ((ls : Nat) : Int), vi lp, vi ((hs : Nat) : Int), vi hq], ai cI dg 800 d] 0 0 0 [(0, .ref y), (1, vi a)] []
  have loop : ∀ q : Nat, a = (q : Int) → q ≤ 9 → q ≠ 0 → nd ≠ 0 → ¬ 800 ≤ nd + zr → ∀ r j, j + r = zr → V K 2 [oc y 4 [vi 0, vi (b2 mi), .ref dg, vi (((nd + j) : Nat) : Int), vi pl, vi ((r : Nat) : Int), vi bh, .ref rw, vi ((mn : Nat) : Int), vi fr, vj fo, .ref bt, .ref wz, .ref lw, .ref hg, vi ((ls : Nat) : Int), vi lp, vi ((hs : Nat) : Int), vi hq], ai cI dg 800 (zf d nd j)] 0 0 160 [(0, .ref y), (1, vi ((q : Nat) : Int))] [] := by
    intro q haq hq9 hq0 hnd0 hlt r
    induction r with
    | zero =>
      intro j hj
      have ej : j = zr := by omega
      subst ej
      refine qv_aload_n C rfl dq_Mod_digit_160 ?_
      refine qv_get C fl_Mod_67 0 rfl rfl dq_Mod_digit_161 ?_
      refine qv_ifle C (by omega) (tgt := 197) (by decide) dq_Mod_digit_164 (fun h164 => ?_) (fun h164 => ?_)
      · skip
        refine qv_aload_n C rfl dq_Mod_digit_197 ?_
        refine qv_get C fl_Mod_9 0 rfl rfl dq_Mod_digit_198 ?_
        refine qv_aload_n C rfl dq_Mod_digit_201 ?_
        refine qv_dup C rfl dq_Mod_digit_202 ?_
        refine qv_get C fl_Mod_61 0 rfl rfl dq_Mod_digit_203 ?_
        refine qv_dup_x1 C rfl rfl dq_Mod_digit_206 ?_
        refine qv_iconst C dq_Mod_digit_207 ?_
        refine qv_iadd C (r := ((((nd + j) + 1) : Nat) : Int)) (by omega) dq_Mod_digit_208 ?_
        refine qv_put C (ws' := [oc y 4 [vi 0, vi (b2 mi), .ref dg, vi ((((nd + j) + 1) : Nat) : Int), vi pl, vi ((0 : Nat) : Int), vi bh, .ref rw, vi ((mn : Nat) : Int), vi fr, vj fo, .ref bt, .ref wz, .ref lw, .ref hg, vi ((ls : Nat) : Int), vi lp, vi ((hs : Nat) : Int), vi hq], ai cI dg 800 (zf d nd j)]) fl_Mod_61 fs_4_3 0 rfl rfl rfl (Nat.le_of_ble_eq_true rfl) rfl dq_Mod_digit_209 ?_
        refine qv_iload_n C rfl dq_Mod_digit_212 ?_
        refine qv_iast C (ws' := [oc y 4 [vi 0, vi (b2 mi), .ref dg, vi ((((nd + j) + 1) : Nat) : Int), vi pl, vi ((0 : Nat) : Int), vi bh, .ref rw, vi ((mn : Nat) : Int), vi fr, vj fo, .ref bt, .ref wz, .ref lw, .ref hg, vi ((ls : Nat) : Int), vi lp, vi ((hs : Nat) : Int), vi hq], ai cI dg 800 (un (zf d nd j) (nd + j) q)]) 1 (nd + j) q rfl (by omega) (by omega) (by omega) (by omega) rfl dq_Mod_digit_213 ?_
        refine qv_aload_n C rfl dq_Mod_digit_214 ?_
        refine qv_get C fl_Mod_61 0 rfl rfl dq_Mod_digit_215 ?_
        refine qv_iret C hR ?_ dq_Mod_digit_218 (by decide) (by decide)
        refine Or.inr (Or.inr (Or.inr (Or.inr (Or.inr (Or.inr ⟨by omega, hnd0, hlt, by omega, rfl, ?_⟩)))))
        have eq : a.toNat = q := by omega
        rw [eq] <;> rfl
      · exfalso; omega
    | succ r ih =>
      intro j hj
      refine qv_aload_n C rfl dq_Mod_digit_160 ?_
      refine qv_get C fl_Mod_67 0 rfl rfl dq_Mod_digit_161 ?_
      refine qv_ifle C (by omega) (tgt := 197) (by decide) dq_Mod_digit_164 (fun h164 => ?_) (fun h164 => ?_)
      · exfalso; omega
      · skip
        refine qv_aload_n C rfl dq_Mod_digit_167 ?_
        refine qv_get C fl_Mod_9 0 rfl rfl dq_Mod_digit_168 ?_
        refine qv_aload_n C rfl dq_Mod_digit_171 ?_
        refine qv_dup C rfl dq_Mod_digit_172 ?_
        refine qv_get C fl_Mod_61 0 rfl rfl dq_Mod_digit_173 ?_
        refine qv_dup_x1 C rfl rfl dq_Mod_digit_176 ?_
        refine qv_iconst C dq_Mod_digit_177 ?_
        refine qv_iadd C (r := ((((nd + j) + 1) : Nat) : Int)) (by omega) dq_Mod_digit_178 ?_
        refine qv_put C (ws' := [oc y 4 [vi 0, vi (b2 mi), .ref dg, vi ((((nd + j) + 1) : Nat) : Int), vi pl, vi (((r + 1) : Nat) : Int), vi bh, .ref rw, vi ((mn : Nat) : Int), vi fr, vj fo, .ref bt, .ref wz, .ref lw, .ref hg, vi ((ls : Nat) : Int), vi lp, vi ((hs : Nat) : Int), vi hq], ai cI dg 800 (zf d nd j)]) fl_Mod_61 fs_4_3 0 rfl rfl rfl (Nat.le_of_ble_eq_true rfl) rfl dq_Mod_digit_179 ?_
        refine qv_iconst C dq_Mod_digit_182 ?_
        refine qv_iast C (ws' := [oc y 4 [vi 0, vi (b2 mi), .ref dg, vi ((((nd + j) + 1) : Nat) : Int), vi pl, vi (((r + 1) : Nat) : Int), vi bh, .ref rw, vi ((mn : Nat) : Int), vi fr, vj fo, .ref bt, .ref wz, .ref lw, .ref hg, vi ((ls : Nat) : Int), vi lp, vi ((hs : Nat) : Int), vi hq], ai cI dg 800 (un (zf d nd j) (nd + j) 0)]) 1 (nd + j) 0 rfl (by omega) (by omega) (by omega) (by omega) rfl dq_Mod_digit_183 ?_
        refine qv_aload_n C rfl dq_Mod_digit_184 ?_
        refine qv_dup C rfl dq_Mod_digit_185 ?_
        refine qv_get C fl_Mod_67 0 rfl rfl dq_Mod_digit_186 ?_
        refine qv_iconst C dq_Mod_digit_189 ?_
        refine qv_isub C (r := ((r : Nat) : Int)) (by omega) dq_Mod_digit_190 ?_
        refine qv_put C (ws' := [oc y 4 [vi 0, vi (b2 mi), .ref dg, vi ((((nd + j) + 1) : Nat) : Int), vi pl, vi ((r : Nat) : Int), vi bh, .ref rw, vi ((mn : Nat) : Int), vi fr, vj fo, .ref bt, .ref wz, .ref lw, .ref hg, vi ((ls : Nat) : Int), vi lp, vi ((hs : Nat) : Int), vi hq], ai cI dg 800 (un (zf d nd j) (nd + j) 0)]) fl_Mod_67 fs_4_5 0 rfl rfl rfl (Nat.le_of_ble_eq_true rfl) rfl dq_Mod_digit_191 ?_
        refine qv_goto C (tgt := 160) (by decide) dq_Mod_digit_194 ?_
        rw [zf_s]
        exact ih (j + 1) (by omega)
  refine qv_aload_n C rfl dq_Mod_digit_0 ?_
  refine qv_iconst C dq_Mod_digit_1 ?_
  refine qv_put C (ws' := [oc y 4 [vi 0, vi (b2 mi), .ref dg, vi ((nd : Nat) : Int), vi pl, vi ((zr : Nat) : Int), vi bh, .ref rw, vi ((mn : Nat) : Int), vi fr, vj fo, .ref bt, .ref wz, .ref lw, .ref hg, vi ((ls : Nat) : Int), vi lp, vi ((hs : Nat) : Int), vi hq], ai cI dg 800 d]) fl_Mod_28 fs_4_0 0 rfl rfl rfl (Nat.le_of_ble_eq_true rfl) rfl dq_Mod_digit_2 ?_
  refine qv_aload_n C rfl dq_Mod_digit_5 ?_
  refine qv_iload_n C rfl dq_Mod_digit_6 ?_
  refine qv_i2l C (by omega) dq_Mod_digit_7 ?_
  refine qv_lconst C (z := 0) (by decide) dq_Mod_digit_8 ?_
  refine qv_ldc2 C (z := 9) wk_Mod_73 dq_Mod_digit_9 ?_
  refine qc_sI (wr := [oc y 4 [vi 0, vi (b2 mi), .ref dg, vi ((nd : Nat) : Int), vi pl, vi ((zr : Nat) : Int), vi bh, .ref rw, vi ((mn : Nat) : Int), vi fr, vj fo, .ref bt, .ref wz, .ref lw, .ref hg, vi ((ls : Nat) : Int), vi lp, vi ((hs : Nat) : Int), vi hq], ai cI dg 800 d]) (st := [.ref y]) C cl_Mod_75 cd_Mod_in (c_Mod_in cI cJ a 0 9 (by omega) (by omega) (by omega)) (Xok_t K) Xbl_t [] [0, 1] rfl rfl (by decide) (by decide) (by decide) rfl rfl (Nat.le_of_ble_eq_true rfl) (by decide) (by decide) dq_Mod_digit_12 (fun z u hu => ?_)
  obtain ⟨rfl, rfl⟩ := hu
  show V K 2 [oc y 4 [vi 0, vi (b2 mi), .ref dg, vi ((nd : Nat) : Int), vi pl, vi ((zr : Nat) : Int), vi bh, .ref rw, vi ((mn : Nat) : Int), vi fr, vj fo, .ref bt, .ref wz, .ref lw, .ref hg, vi ((ls : Nat) : Int), vi lp, vi ((hs : Nat) : Int), vi hq], ai cI dg 800 d] 0 0 15 [(0, .ref y), (1, vi a)] [vi (b2 (decide (0 ≤ a ∧ a ≤ 9))), .ref y]
  refine qv_ifne C (rb_b2 _) (tgt := 22) (by decide) dq_Mod_digit_15 (fun h15 => ?_) (fun h15 => ?_)
  · skip
    have hin := of_decide_eq_true (b2_t h15)
    refine qv_iconst C dq_Mod_digit_22 ?_
    refine qv_iconst C dq_Mod_digit_23 ?_
    refine qc_vI (wr := [ai cI dg 800 d]) (st := []) C cl_Mod_32 cd_Mod_fails (c_Mod_fails cI cJ y dg rw bt wz lw hg mi nd pl zr bh mn fr fo ls lp hs hq false 1 (by omega)) (Xok_t K) Xbl_t [0] [1] rfl rfl (by decide) (by decide) (by decide) 0 rfl rfl rfl rfl rfl (Nat.le_of_ble_eq_true rfl) (by decide) (by decide) dq_Mod_digit_24 (fun z u hu => ?_)
    obtain ⟨rfl, rfl⟩ := hu
    show V K 2 [ai cI dg 800 d, oc y 4 [vi 0, vi (b2 mi), .ref dg, vi ((nd : Nat) : Int), vi pl, vi ((zr : Nat) : Int), vi bh, .ref rw, vi ((mn : Nat) : Int), vi fr, vj fo, .ref bt, .ref wz, .ref lw, .ref hg, vi ((ls : Nat) : Int), vi lp, vi ((hs : Nat) : Int), vi hq]] 0 0 27 [(0, .ref y), (1, vi a)] [vi 0]
    refine qv_ifeq C (by omega) (tgt := 32) (by decide) dq_Mod_digit_27 (fun h27 => ?_) (fun h27 => ?_)
    · skip
      refine qv_ws [1, 0] (ws' := [oc y 4 [vi 0, vi (b2 mi), .ref dg, vi ((nd : Nat) : Int), vi pl, vi ((zr : Nat) : Int), vi bh, .ref rw, vi ((mn : Nat) : Int), vi fr, vj fo, .ref bt, .ref wz, .ref lw, .ref hg, vi ((ls : Nat) : Int), vi lp, vi ((hs : Nat) : Int), vi hq], ai cI dg 800 d]) (by decide) rfl ?_
      refine qv_aload_n C rfl dq_Mod_digit_32 ?_
      refine qv_get C fl_Mod_61 0 rfl rfl dq_Mod_digit_33 ?_
      refine qv_ifne C (by omega) (tgt := 111) (by decide) dq_Mod_digit_36 (fun h36 => ?_) (fun h36 => ?_)
      · skip
        refine qv_aload_n C rfl dq_Mod_digit_111 ?_
        refine qv_aload_n C rfl dq_Mod_digit_112 ?_
        refine qv_get C fl_Mod_61 0 rfl rfl dq_Mod_digit_113 ?_
        refine qv_aload_n C rfl dq_Mod_digit_116 ?_
        refine qv_get C fl_Mod_67 0 rfl rfl dq_Mod_digit_117 ?_
        refine qv_iadd C (r := (((nd + zr) : Nat) : Int)) (by omega) dq_Mod_digit_120 ?_
        refine qv_sipush C (by decide) dq_Mod_digit_121 ?_
        refine qv_iclt C (by omega) (by omega) (tgt := 131) (by decide) dq_Mod_digit_124 (fun h124 => ?_) (fun h124 => ?_)
        · skip
          refine qv_iconst C dq_Mod_digit_131 ?_
          refine qv_iconst C dq_Mod_digit_132 ?_
          refine qc_vI (wr := [ai cI dg 800 d]) (st := []) C cl_Mod_32 cd_Mod_fails (c_Mod_fails cI cJ y dg rw bt wz lw hg mi nd pl zr bh mn fr fo ls lp hs hq false 2 (by omega)) (Xok_t K) Xbl_t [0] [1] rfl rfl (by decide) (by decide) (by decide) 0 rfl rfl rfl rfl rfl (Nat.le_of_ble_eq_true rfl) (by decide) (by decide) dq_Mod_digit_133 (fun z u hu => ?_)
          obtain ⟨rfl, rfl⟩ := hu
          show V K 2 [ai cI dg 800 d, oc y 4 [vi 0, vi (b2 mi), .ref dg, vi ((nd : Nat) : Int), vi pl, vi ((zr : Nat) : Int), vi bh, .ref rw, vi ((mn : Nat) : Int), vi fr, vj fo, .ref bt, .ref wz, .ref lw, .ref hg, vi ((ls : Nat) : Int), vi lp, vi ((hs : Nat) : Int), vi hq]] 0 0 136 [(0, .ref y), (1, vi a)] [vi 0]
          refine qv_ifeq C (by omega) (tgt := 141) (by decide) dq_Mod_digit_136 (fun h136 => ?_) (fun h136 => ?_)
          · skip
            refine qv_ws [1, 0] (ws' := [oc y 4 [vi 0, vi (b2 mi), .ref dg, vi ((nd : Nat) : Int), vi pl, vi ((zr : Nat) : Int), vi bh, .ref rw, vi ((mn : Nat) : Int), vi fr, vj fo, .ref bt, .ref wz, .ref lw, .ref hg, vi ((ls : Nat) : Int), vi lp, vi ((hs : Nat) : Int), vi hq], ai cI dg 800 d]) (by decide) rfl ?_
            refine qv_iload_n C rfl dq_Mod_digit_141 ?_
            refine qv_ifne C (by omega) (tgt := 160) (by decide) dq_Mod_digit_142 (fun h142 => ?_) (fun h142 => ?_)
            · skip
              obtain ⟨q, haq⟩ : ∃ q : Nat, a = (q : Int) := ⟨a.toNat, by omega⟩
              rw [show vi a = vi ((q : Nat) : Int) by rw [haq]]
              have l0 := loop q haq (by omega) (by omega) (by omega) (by omega) zr 0 (by omega)
              rw [zf_0] at l0
              exact l0
            · skip
              refine qv_aload_n C rfl dq_Mod_digit_145 ?_
              refine qv_dup C rfl dq_Mod_digit_146 ?_
              refine qv_get C fl_Mod_67 0 rfl rfl dq_Mod_digit_147 ?_
              refine qv_iconst C dq_Mod_digit_150 ?_
              refine qv_iadd C (r := (((zr + 1) : Nat) : Int)) (by omega) dq_Mod_digit_151 ?_
              refine qv_put C (ws' := [oc y 4 [vi 0, vi (b2 mi), .ref dg, vi ((nd : Nat) : Int), vi pl, vi (((zr + 1) : Nat) : Int), vi bh, .ref rw, vi ((mn : Nat) : Int), vi fr, vj fo, .ref bt, .ref wz, .ref lw, .ref hg, vi ((ls : Nat) : Int), vi lp, vi ((hs : Nat) : Int), vi hq], ai cI dg 800 d]) fl_Mod_67 fs_4_5 0 rfl rfl rfl (Nat.le_of_ble_eq_true rfl) rfl dq_Mod_digit_152 ?_
              refine qv_aload_n C rfl dq_Mod_digit_155 ?_
              refine qv_get C fl_Mod_61 0 rfl rfl dq_Mod_digit_156 ?_
              refine qv_iret C hR ?_ dq_Mod_digit_159 (by decide) (by decide)
              exact Or.inr (Or.inr (Or.inr (Or.inr (Or.inr (Or.inl ⟨hin, by omega, by omega, by omega, rfl, rfl⟩)))))
          · exfalso; omega
        · skip
          refine qv_iconst C dq_Mod_digit_127 ?_
          refine qv_goto C (tgt := 132) (by decide) dq_Mod_digit_128 ?_
          refine qv_iconst C dq_Mod_digit_132 ?_
          refine qc_vI (wr := [ai cI dg 800 d]) (st := []) C cl_Mod_32 cd_Mod_fails (c_Mod_fails cI cJ y dg rw bt wz lw hg mi nd pl zr bh mn fr fo ls lp hs hq true 2 (by omega)) (Xok_t K) Xbl_t [0] [1] rfl rfl (by decide) (by decide) (by decide) 0 rfl rfl rfl rfl rfl (Nat.le_of_ble_eq_true rfl) (by decide) (by decide) dq_Mod_digit_133 (fun z u hu => ?_)
          obtain ⟨rfl, rfl⟩ := hu
          show V K 2 [ai cI dg 800 d, oc y 4 [vi 2, vi (b2 mi), .ref dg, vi ((nd : Nat) : Int), vi pl, vi ((zr : Nat) : Int), vi bh, .ref rw, vi ((mn : Nat) : Int), vi fr, vj fo, .ref bt, .ref wz, .ref lw, .ref hg, vi ((ls : Nat) : Int), vi lp, vi ((hs : Nat) : Int), vi hq]] 0 0 136 [(0, .ref y), (1, vi a)] [vi 1]
          refine qv_ifeq C (by omega) (tgt := 141) (by decide) dq_Mod_digit_136 (fun h136 => ?_) (fun h136 => ?_)
          · exfalso; omega
          · skip
            refine qv_iconst C dq_Mod_digit_139 ?_
            refine qv_ws [1, 0] (ws' := [oc y 4 [vi 2, vi (b2 mi), .ref dg, vi ((nd : Nat) : Int), vi pl, vi ((zr : Nat) : Int), vi bh, .ref rw, vi ((mn : Nat) : Int), vi fr, vj fo, .ref bt, .ref wz, .ref lw, .ref hg, vi ((ls : Nat) : Int), vi lp, vi ((hs : Nat) : Int), vi hq], ai cI dg 800 d]) (by decide) rfl ?_
            refine qv_iret C hR ?_ dq_Mod_digit_140 (by decide) (by decide)
            exact Or.inr (Or.inr (Or.inr (Or.inr (Or.inl ⟨hin, by omega, by omega, rfl, rfl⟩))))
      · skip
        refine qv_aload_n C rfl dq_Mod_digit_39 ?_
        refine qv_iload_n C rfl dq_Mod_digit_40 ?_
        refine qv_ifne C (by omega) (tgt := 58) (by decide) dq_Mod_digit_41 (fun h41 => ?_) (fun h41 => ?_)
        · skip
          refine qv_iconst C dq_Mod_digit_58 ?_
          refine qv_iconst C dq_Mod_digit_59 ?_
          refine qc_vI (wr := [ai cI dg 800 d]) (st := []) C cl_Mod_32 cd_Mod_fails (c_Mod_fails cI cJ y dg rw bt wz lw hg mi nd pl zr bh mn fr fo ls lp hs hq false 2 (by omega)) (Xok_t K) Xbl_t [0] [1] rfl rfl (by decide) (by decide) (by decide) 0 rfl rfl rfl rfl rfl (Nat.le_of_ble_eq_true rfl) (by decide) (by decide) dq_Mod_digit_60 (fun z u hu => ?_)
          obtain ⟨rfl, rfl⟩ := hu
          show V K 2 [ai cI dg 800 d, oc y 4 [vi 0, vi (b2 mi), .ref dg, vi ((nd : Nat) : Int), vi pl, vi ((zr : Nat) : Int), vi bh, .ref rw, vi ((mn : Nat) : Int), vi fr, vj fo, .ref bt, .ref wz, .ref lw, .ref hg, vi ((ls : Nat) : Int), vi lp, vi ((hs : Nat) : Int), vi hq]] 0 0 63 [(0, .ref y), (1, vi a)] [vi 0]
          refine qv_ifeq C (by omega) (tgt := 68) (by decide) dq_Mod_digit_63 (fun h63 => ?_) (fun h63 => ?_)
          · skip
            refine qv_ws [1, 0] (ws' := [oc y 4 [vi 0, vi (b2 mi), .ref dg, vi ((nd : Nat) : Int), vi pl, vi ((zr : Nat) : Int), vi bh, .ref rw, vi ((mn : Nat) : Int), vi fr, vj fo, .ref bt, .ref wz, .ref lw, .ref hg, vi ((ls : Nat) : Int), vi lp, vi ((hs : Nat) : Int), vi hq], ai cI dg 800 d]) (by decide) rfl ?_
            refine qv_iload_n C rfl dq_Mod_digit_68 ?_
            refine qv_ifne C (by omega) (tgt := 84) (by decide) dq_Mod_digit_69 (fun h69 => ?_) (fun h69 => ?_)
            · skip
              obtain ⟨q, haq⟩ : ∃ q : Nat, a = (q : Int) := ⟨a.toNat, by omega⟩
              rw [show vi a = vi ((q : Nat) : Int) by rw [haq]]
              refine qv_aload_n C rfl dq_Mod_digit_84 ?_
              refine qv_get C fl_Mod_9 0 rfl rfl dq_Mod_digit_85 ?_
              refine qv_iconst C dq_Mod_digit_88 ?_
              refine qv_iload_n C rfl dq_Mod_digit_89 ?_
              refine qv_iast C (ws' := [oc y 4 [vi 0, vi (b2 mi), .ref dg, vi ((nd : Nat) : Int), vi pl, vi ((zr : Nat) : Int), vi bh, .ref rw, vi ((mn : Nat) : Int), vi fr, vj fo, .ref bt, .ref wz, .ref lw, .ref hg, vi ((ls : Nat) : Int), vi lp, vi ((hs : Nat) : Int), vi hq], ai cI dg 800 (un d 0 q)]) 1 0 q rfl (by omega) (by omega) (by omega) (by omega) rfl dq_Mod_digit_90 ?_
              refine qv_aload_n C rfl dq_Mod_digit_91 ?_
              refine qv_iconst C dq_Mod_digit_92 ?_
              refine qv_put C (ws' := [oc y 4 [vi 0, vi (b2 mi), .ref dg, vi 1, vi pl, vi ((zr : Nat) : Int), vi bh, .ref rw, vi ((mn : Nat) : Int), vi fr, vj fo, .ref bt, .ref wz, .ref lw, .ref hg, vi ((ls : Nat) : Int), vi lp, vi ((hs : Nat) : Int), vi hq], ai cI dg 800 (un d 0 q)]) fl_Mod_61 fs_4_3 0 rfl rfl rfl (Nat.le_of_ble_eq_true rfl) rfl dq_Mod_digit_93 ?_
              refine qv_aload_n C rfl dq_Mod_digit_96 ?_
              refine qv_aload_n C rfl dq_Mod_digit_97 ?_
              refine qv_get C fl_Mod_70 0 rfl rfl dq_Mod_digit_98 ?_
              refine qv_put C (ws' := [oc y 4 [vi 0, vi (b2 mi), .ref dg, vi 1, vi bh, vi ((zr : Nat) : Int), vi bh, .ref rw, vi ((mn : Nat) : Int), vi fr, vj fo, .ref bt, .ref wz, .ref lw, .ref hg, vi ((ls : Nat) : Int), vi lp, vi ((hs : Nat) : Int), vi hq], ai cI dg 800 (un d 0 q)]) fl_Mod_64 fs_4_4 0 rfl rfl rfl (Nat.le_of_ble_eq_true rfl) rfl dq_Mod_digit_101 ?_
              refine qv_aload_n C rfl dq_Mod_digit_104 ?_
              refine qv_iconst C dq_Mod_digit_105 ?_
              refine qv_put C (ws' := [oc y 4 [vi 0, vi (b2 mi), .ref dg, vi 1, vi bh, vi 0, vi bh, .ref rw, vi ((mn : Nat) : Int), vi fr, vj fo, .ref bt, .ref wz, .ref lw, .ref hg, vi ((ls : Nat) : Int), vi lp, vi ((hs : Nat) : Int), vi hq], ai cI dg 800 (un d 0 q)]) fl_Mod_67 fs_4_5 0 rfl rfl rfl (Nat.le_of_ble_eq_true rfl) rfl dq_Mod_digit_106 ?_
              refine qv_iconst C dq_Mod_digit_109 ?_
              refine qv_iret C hR ?_ dq_Mod_digit_110 (by decide) (by decide)
              refine Or.inr (Or.inr (Or.inr (Or.inl ⟨hin, by omega, by omega, rfl, ?_⟩)))
              have eq : a.toNat = q := by omega
              rw [eq] <;> rfl
            · skip
              refine qv_aload_n C rfl dq_Mod_digit_72 ?_
              refine qv_dup C rfl dq_Mod_digit_73 ?_
              refine qv_get C fl_Mod_70 0 rfl rfl dq_Mod_digit_74 ?_
              refine qv_iconst C dq_Mod_digit_77 ?_
              refine qv_isub C (r := (bh - 1)) rfl dq_Mod_digit_78 ?_
              refine qv_put C (ws' := [oc y 4 [vi 0, vi (b2 mi), .ref dg, vi ((nd : Nat) : Int), vi pl, vi ((zr : Nat) : Int), vi (bh - 1), .ref rw, vi ((mn : Nat) : Int), vi fr, vj fo, .ref bt, .ref wz, .ref lw, .ref hg, vi ((ls : Nat) : Int), vi lp, vi ((hs : Nat) : Int), vi hq], ai cI dg 800 d]) fl_Mod_70 fs_4_6 0 rfl rfl rfl (Nat.le_of_ble_eq_true rfl) rfl dq_Mod_digit_79 ?_
              refine qv_iconst C dq_Mod_digit_82 ?_
              refine qv_iret C hR ?_ dq_Mod_digit_83 (by decide) (by decide)
              exfalso; omega
          · exfalso; omega
        · skip
          refine qv_aload_n C rfl dq_Mod_digit_44 ?_
          refine qv_get C fl_Mod_70 0 rfl rfl dq_Mod_digit_45 ?_
          refine qv_sipush C (by decide) dq_Mod_digit_48 ?_
          refine qv_icge C (by omega) (by omega) (tgt := 58) (by decide) dq_Mod_digit_51 (fun h51 => ?_) (fun h51 => ?_)
          · skip
            refine qv_iconst C dq_Mod_digit_58 ?_
            refine qv_iconst C dq_Mod_digit_59 ?_
            refine qc_vI (wr := [ai cI dg 800 d]) (st := []) C cl_Mod_32 cd_Mod_fails (c_Mod_fails cI cJ y dg rw bt wz lw hg mi nd pl zr bh mn fr fo ls lp hs hq false 2 (by omega)) (Xok_t K) Xbl_t [0] [1] rfl rfl (by decide) (by decide) (by decide) 0 rfl rfl rfl rfl rfl (Nat.le_of_ble_eq_true rfl) (by decide) (by decide) dq_Mod_digit_60 (fun z u hu => ?_)
            obtain ⟨rfl, rfl⟩ := hu
            show V K 2 [ai cI dg 800 d, oc y 4 [vi 0, vi (b2 mi), .ref dg, vi ((nd : Nat) : Int), vi pl, vi ((zr : Nat) : Int), vi bh, .ref rw, vi ((mn : Nat) : Int), vi fr, vj fo, .ref bt, .ref wz, .ref lw, .ref hg, vi ((ls : Nat) : Int), vi lp, vi ((hs : Nat) : Int), vi hq]] 0 0 63 [(0, .ref y), (1, vi a)] [vi 0]
            refine qv_ifeq C (by omega) (tgt := 68) (by decide) dq_Mod_digit_63 (fun h63 => ?_) (fun h63 => ?_)
            · skip
              refine qv_ws [1, 0] (ws' := [oc y 4 [vi 0, vi (b2 mi), .ref dg, vi ((nd : Nat) : Int), vi pl, vi ((zr : Nat) : Int), vi bh, .ref rw, vi ((mn : Nat) : Int), vi fr, vj fo, .ref bt, .ref wz, .ref lw, .ref hg, vi ((ls : Nat) : Int), vi lp, vi ((hs : Nat) : Int), vi hq], ai cI dg 800 d]) (by decide) rfl ?_
              refine qv_iload_n C rfl dq_Mod_digit_68 ?_
              refine qv_ifne C (by omega) (tgt := 84) (by decide) dq_Mod_digit_69 (fun h69 => ?_) (fun h69 => ?_)
              · skip
                obtain ⟨q, haq⟩ : ∃ q : Nat, a = (q : Int) := ⟨a.toNat, by omega⟩
                rw [show vi a = vi ((q : Nat) : Int) by rw [haq]]
                refine qv_aload_n C rfl dq_Mod_digit_84 ?_
                refine qv_get C fl_Mod_9 0 rfl rfl dq_Mod_digit_85 ?_
                refine qv_iconst C dq_Mod_digit_88 ?_
                refine qv_iload_n C rfl dq_Mod_digit_89 ?_
                refine qv_iast C (ws' := [oc y 4 [vi 0, vi (b2 mi), .ref dg, vi ((nd : Nat) : Int), vi pl, vi ((zr : Nat) : Int), vi bh, .ref rw, vi ((mn : Nat) : Int), vi fr, vj fo, .ref bt, .ref wz, .ref lw, .ref hg, vi ((ls : Nat) : Int), vi lp, vi ((hs : Nat) : Int), vi hq], ai cI dg 800 (un d 0 q)]) 1 0 q rfl (by omega) (by omega) (by omega) (by omega) rfl dq_Mod_digit_90 ?_
                refine qv_aload_n C rfl dq_Mod_digit_91 ?_
                refine qv_iconst C dq_Mod_digit_92 ?_
                refine qv_put C (ws' := [oc y 4 [vi 0, vi (b2 mi), .ref dg, vi 1, vi pl, vi ((zr : Nat) : Int), vi bh, .ref rw, vi ((mn : Nat) : Int), vi fr, vj fo, .ref bt, .ref wz, .ref lw, .ref hg, vi ((ls : Nat) : Int), vi lp, vi ((hs : Nat) : Int), vi hq], ai cI dg 800 (un d 0 q)]) fl_Mod_61 fs_4_3 0 rfl rfl rfl (Nat.le_of_ble_eq_true rfl) rfl dq_Mod_digit_93 ?_
                refine qv_aload_n C rfl dq_Mod_digit_96 ?_
                refine qv_aload_n C rfl dq_Mod_digit_97 ?_
                refine qv_get C fl_Mod_70 0 rfl rfl dq_Mod_digit_98 ?_
                refine qv_put C (ws' := [oc y 4 [vi 0, vi (b2 mi), .ref dg, vi 1, vi bh, vi ((zr : Nat) : Int), vi bh, .ref rw, vi ((mn : Nat) : Int), vi fr, vj fo, .ref bt, .ref wz, .ref lw, .ref hg, vi ((ls : Nat) : Int), vi lp, vi ((hs : Nat) : Int), vi hq], ai cI dg 800 (un d 0 q)]) fl_Mod_64 fs_4_4 0 rfl rfl rfl (Nat.le_of_ble_eq_true rfl) rfl dq_Mod_digit_101 ?_
                refine qv_aload_n C rfl dq_Mod_digit_104 ?_
                refine qv_iconst C dq_Mod_digit_105 ?_
                refine qv_put C (ws' := [oc y 4 [vi 0, vi (b2 mi), .ref dg, vi 1, vi bh, vi 0, vi bh, .ref rw, vi ((mn : Nat) : Int), vi fr, vj fo, .ref bt, .ref wz, .ref lw, .ref hg, vi ((ls : Nat) : Int), vi lp, vi ((hs : Nat) : Int), vi hq], ai cI dg 800 (un d 0 q)]) fl_Mod_67 fs_4_5 0 rfl rfl rfl (Nat.le_of_ble_eq_true rfl) rfl dq_Mod_digit_106 ?_
                refine qv_iconst C dq_Mod_digit_109 ?_
                refine qv_iret C hR ?_ dq_Mod_digit_110 (by decide) (by decide)
                refine Or.inr (Or.inr (Or.inr (Or.inl ⟨hin, by omega, by omega, rfl, ?_⟩)))
                have eq : a.toNat = q := by omega
                rw [eq] <;> rfl
              · skip
                refine qv_aload_n C rfl dq_Mod_digit_72 ?_
                refine qv_dup C rfl dq_Mod_digit_73 ?_
                refine qv_get C fl_Mod_70 0 rfl rfl dq_Mod_digit_74 ?_
                refine qv_iconst C dq_Mod_digit_77 ?_
                refine qv_isub C (r := (bh - 1)) rfl dq_Mod_digit_78 ?_
                refine qv_put C (ws' := [oc y 4 [vi 0, vi (b2 mi), .ref dg, vi ((nd : Nat) : Int), vi pl, vi ((zr : Nat) : Int), vi (bh - 1), .ref rw, vi ((mn : Nat) : Int), vi fr, vj fo, .ref bt, .ref wz, .ref lw, .ref hg, vi ((ls : Nat) : Int), vi lp, vi ((hs : Nat) : Int), vi hq], ai cI dg 800 d]) fl_Mod_70 fs_4_6 0 rfl rfl rfl (Nat.le_of_ble_eq_true rfl) rfl dq_Mod_digit_79 ?_
                refine qv_iconst C dq_Mod_digit_82 ?_
                refine qv_iret C hR ?_ dq_Mod_digit_83 (by decide) (by decide)
                have end0 : nd = 0 := by omega
                subst end0
                exact Or.inr (Or.inr (Or.inl ⟨hin, rfl, by omega, by omega, rfl, rfl⟩))
            · exfalso; omega
          · skip
            refine qv_iconst C dq_Mod_digit_54 ?_
            refine qv_goto C (tgt := 59) (by decide) dq_Mod_digit_55 ?_
            refine qv_iconst C dq_Mod_digit_59 ?_
            refine qc_vI (wr := [ai cI dg 800 d]) (st := []) C cl_Mod_32 cd_Mod_fails (c_Mod_fails cI cJ y dg rw bt wz lw hg mi nd pl zr bh mn fr fo ls lp hs hq true 2 (by omega)) (Xok_t K) Xbl_t [0] [1] rfl rfl (by decide) (by decide) (by decide) 0 rfl rfl rfl rfl rfl (Nat.le_of_ble_eq_true rfl) (by decide) (by decide) dq_Mod_digit_60 (fun z u hu => ?_)
            obtain ⟨rfl, rfl⟩ := hu
            show V K 2 [ai cI dg 800 d, oc y 4 [vi 2, vi (b2 mi), .ref dg, vi ((nd : Nat) : Int), vi pl, vi ((zr : Nat) : Int), vi bh, .ref rw, vi ((mn : Nat) : Int), vi fr, vj fo, .ref bt, .ref wz, .ref lw, .ref hg, vi ((ls : Nat) : Int), vi lp, vi ((hs : Nat) : Int), vi hq]] 0 0 63 [(0, .ref y), (1, vi a)] [vi 1]
            refine qv_ifeq C (by omega) (tgt := 68) (by decide) dq_Mod_digit_63 (fun h63 => ?_) (fun h63 => ?_)
            · exfalso; omega
            · skip
              refine qv_iconst C dq_Mod_digit_66 ?_
              refine qv_ws [1, 0] (ws' := [oc y 4 [vi 2, vi (b2 mi), .ref dg, vi ((nd : Nat) : Int), vi pl, vi ((zr : Nat) : Int), vi bh, .ref rw, vi ((mn : Nat) : Int), vi fr, vj fo, .ref bt, .ref wz, .ref lw, .ref hg, vi ((ls : Nat) : Int), vi lp, vi ((hs : Nat) : Int), vi hq], ai cI dg 800 d]) (by decide) rfl ?_
              refine qv_iret C hR ?_ dq_Mod_digit_67 (by decide) (by decide)
              exact Or.inr (Or.inl ⟨hin, by omega, by omega, by omega, rfl, rfl⟩)
    · exfalso; omega
  · skip
    have hin := of_decide_eq_false (b2_f h15)
    refine qv_iconst C dq_Mod_digit_18 ?_
    refine qv_goto C (tgt := 23) (by decide) dq_Mod_digit_19 ?_
    refine qv_iconst C dq_Mod_digit_23 ?_
    refine qc_vI (wr := [ai cI dg 800 d]) (st := []) C cl_Mod_32 cd_Mod_fails (c_Mod_fails cI cJ y dg rw bt wz lw hg mi nd pl zr bh mn fr fo ls lp hs hq true 1 (by omega)) (Xok_t K) Xbl_t [0] [1] rfl rfl (by decide) (by decide) (by decide) 0 rfl rfl rfl rfl rfl (Nat.le_of_ble_eq_true rfl) (by decide) (by decide) dq_Mod_digit_24 (fun z u hu => ?_)
    obtain ⟨rfl, rfl⟩ := hu
    show V K 2 [ai cI dg 800 d, oc y 4 [vi 1, vi (b2 mi), .ref dg, vi ((nd : Nat) : Int), vi pl, vi ((zr : Nat) : Int), vi bh, .ref rw, vi ((mn : Nat) : Int), vi fr, vj fo, .ref bt, .ref wz, .ref lw, .ref hg, vi ((ls : Nat) : Int), vi lp, vi ((hs : Nat) : Int), vi hq]] 0 0 27 [(0, .ref y), (1, vi a)] [vi 1]
    refine qv_ifeq C (by omega) (tgt := 32) (by decide) dq_Mod_digit_27 (fun h27 => ?_) (fun h27 => ?_)
    · exfalso; omega
    · skip
      refine qv_iconst C dq_Mod_digit_30 ?_
      refine qv_ws [1, 0] (ws' := [oc y 4 [vi 1, vi (b2 mi), .ref dg, vi ((nd : Nat) : Int), vi pl, vi ((zr : Nat) : Int), vi bh, .ref rw, vi ((mn : Nat) : Int), vi fr, vj fo, .ref bt, .ref wz, .ref lw, .ref hg, vi ((ls : Nat) : Int), vi lp, vi ((hs : Nat) : Int), vi hq], ai cI dg 800 d]) (by decide) rfl ?_
      refine qv_iret C hR ?_ dq_Mod_digit_31 (by decide) (by decide)
      exact Or.inl ⟨hin, rfl, rfl⟩

