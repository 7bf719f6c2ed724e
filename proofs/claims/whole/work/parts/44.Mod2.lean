theorem c_Mod_keep (cI cJ : ClassId) (y dg rw bt wz lw hg : Nat) (er : Int) (mi : Bool) (nd : Nat) (pl : Int) (zr : Nat) (bh : Int) (mn : Nat) (fr fo : Int) (ls : Nat) (lp : Int) (hs : Nat) (hq : Int) (f d : Nat → Nat) (hf : ∀ i, f i ≤ 9) (hd : ∀ i, d i ≤ 9) (hm : mn ≤ 1200) (h0 : 0 < mn → f 0 ≠ 0) (hz8 : dz f mn ≤ 800) : MtV cI cJ ky_Mod_keep kb_Mod_keep 4 rm_Mod_keep Xt [.ref y] [oc y 4 [vi er, vi (b2 mi), .ref dg, vi ((nd : Nat) : Int), vi pl, vi ((zr : Nat) : Int), vi bh, .ref rw, vi ((mn : Nat) : Int), vi fr, vj fo, .ref bt, .ref wz, .ref lw, .ref hg, vi ((ls : Nat) : Int), vi lp, vi ((hs : Nat) : Int), vi hq], ai cI rw 1200 f, ai cI dg 800 d] (fun u => u = [mo y dg rw bt wz lw hg er mi (dz f mn) (if dz f mn = 0 then 0 else (mn : Int) - fr) 0 0 mn fr fo ls lp hs hq, ai cI rw 1200 f, ai cI dg 800 (cpd d f (dz f mn))]) := by
  refine MtV_in (by decide) (Nat.le_of_ble_eq_true rfl) (fun K C hR hX hN => ?_)
  show V K 4 [oc y 4 [vi er, vi (b2 mi), .ref dg, vi ((nd : Nat) : Int), vi pl, vi ((zr : Nat) : Int), vi bh, .ref rw, vi ((mn : Nat) : Int), vi fr, vj fo, .ref bt, .ref wz, .ref lw, .ref hg, vi ((ls : Nat) : Int), vi lp, vi ((hs : Nat) : Int), vi hq], ai cI rw 1200 f, ai cI dg 800 d] 0 0 0 [(0, .ref y)] []
  have hdl := dz_le f mn
  have hf0 := hf 0
  have loop3 : ∀ n k, k + n = dz f mn → V K 4 [oc y 4 [vi er, vi (b2 mi), .ref dg, vi ((dz f mn : Nat) : Int), vi (((mn : Nat) : Int) - fr), vi ((zr : Nat) : Int), vi bh, .ref rw, vi ((mn : Nat) : Int), vi fr, vj fo, .ref bt, .ref wz, .ref lw, .ref hg, vi ((ls : Nat) : Int), vi lp, vi ((hs : Nat) : Int), vi hq], ai cI rw 1200 f, ai cI dg 800 (cpd d f k)] 0 0 74 [(0, .ref y), (1, vi 0), (3, vi ((k : Nat) : Int))] [] := by
    intro n
    induction n with
    | zero =>
      intro k hk
      have ek : k = dz f mn := by omega
      refine qv_iload_n C rfl dq_Mod_keep_74 ?_
      refine qv_aload_n C rfl dq_Mod_keep_75 ?_
      refine qv_get C fl_Mod_61 0 rfl rfl dq_Mod_keep_76 ?_
      refine qv_icge C (by omega) (by omega) (tgt := 102) (by decide) dq_Mod_keep_79 (fun h79 => ?_) (fun h79 => ?_)
      · skip
        refine qv_aload_n C rfl dq_Mod_keep_102 ?_
        refine qv_aload_n C rfl dq_Mod_keep_103 ?_
        refine qv_get C fl_Mod_61 0 rfl rfl dq_Mod_keep_104 ?_
        refine qv_ifle C (by omega) (tgt := 119) (by decide) dq_Mod_keep_107 (fun h107 => ?_) (fun h107 => ?_)
        · skip
          refine qv_iconst C dq_Mod_keep_119 ?_
          refine qv_put C (ws' := [oc y 4 [vi er, vi (b2 mi), .ref dg, vi ((dz f mn : Nat) : Int), vi 0, vi ((zr : Nat) : Int), vi bh, .ref rw, vi ((mn : Nat) : Int), vi fr, vj fo, .ref bt, .ref wz, .ref lw, .ref hg, vi ((ls : Nat) : Int), vi lp, vi ((hs : Nat) : Int), vi hq], ai cI rw 1200 f, ai cI dg 800 (cpd d f k)]) fl_Mod_64 fs_4_4 0 rfl rfl rfl (Nat.le_of_ble_eq_true rfl) rfl dq_Mod_keep_120 ?_
          refine qv_aload_n C rfl dq_Mod_keep_123 ?_
          refine qv_iconst C dq_Mod_keep_124 ?_
          refine qv_put C (ws' := [oc y 4 [vi er, vi (b2 mi), .ref dg, vi ((dz f mn : Nat) : Int), vi 0, vi 0, vi bh, .ref rw, vi ((mn : Nat) : Int), vi fr, vj fo, .ref bt, .ref wz, .ref lw, .ref hg, vi ((ls : Nat) : Int), vi lp, vi ((hs : Nat) : Int), vi hq], ai cI rw 1200 f, ai cI dg 800 (cpd d f k)]) fl_Mod_67 fs_4_5 0 rfl rfl rfl (Nat.le_of_ble_eq_true rfl) rfl dq_Mod_keep_125 ?_
          refine qv_aload_n C rfl dq_Mod_keep_128 ?_
          refine qv_iconst C dq_Mod_keep_129 ?_
          refine qv_put C (ws' := [oc y 4 [vi er, vi (b2 mi), .ref dg, vi ((dz f mn : Nat) : Int), vi 0, vi 0, vi 0, .ref rw, vi ((mn : Nat) : Int), vi fr, vj fo, .ref bt, .ref wz, .ref lw, .ref hg, vi ((ls : Nat) : Int), vi lp, vi ((hs : Nat) : Int), vi hq], ai cI rw 1200 f, ai cI dg 800 (cpd d f k)]) fl_Mod_70 fs_4_6 0 rfl rfl rfl (Nat.le_of_ble_eq_true rfl) rfl dq_Mod_keep_130 ?_
          refine qv_vret C hR ?_ dq_Mod_keep_133 (by decide) (by decide)
          show _ = [mo _ _ _ _ _ _ _ _ _ _ _ _ _ _ _ _ _ _ _ _, _, _]
          rw [if_pos (by omega), ek]; rfl
        · skip
          refine qv_aload_n C rfl dq_Mod_keep_110 ?_
          refine qv_get C fl_Mod_64 0 rfl rfl dq_Mod_keep_111 ?_
          refine qv_iload_n C rfl dq_Mod_keep_114 ?_
          refine qv_isub C (r := (((mn : Nat) : Int) - fr)) (by omega) dq_Mod_keep_115 ?_
          refine qv_goto C (tgt := 120) (by decide) dq_Mod_keep_116 ?_
          refine qv_put C (ws' := [oc y 4 [vi er, vi (b2 mi), .ref dg, vi ((dz f mn : Nat) : Int), vi (((mn : Nat) : Int) - fr), vi ((zr : Nat) : Int), vi bh, .ref rw, vi ((mn : Nat) : Int), vi fr, vj fo, .ref bt, .ref wz, .ref lw, .ref hg, vi ((ls : Nat) : Int), vi lp, vi ((hs : Nat) : Int), vi hq], ai cI rw 1200 f, ai cI dg 800 (cpd d f k)]) fl_Mod_64 fs_4_4 0 rfl rfl rfl (Nat.le_of_ble_eq_true rfl) rfl dq_Mod_keep_120 ?_
          refine qv_aload_n C rfl dq_Mod_keep_123 ?_
          refine qv_iconst C dq_Mod_keep_124 ?_
          refine qv_put C (ws' := [oc y 4 [vi er, vi (b2 mi), .ref dg, vi ((dz f mn : Nat) : Int), vi (((mn : Nat) : Int) - fr), vi 0, vi bh, .ref rw, vi ((mn : Nat) : Int), vi fr, vj fo, .ref bt, .ref wz, .ref lw, .ref hg, vi ((ls : Nat) : Int), vi lp, vi ((hs : Nat) : Int), vi hq], ai cI rw 1200 f, ai cI dg 800 (cpd d f k)]) fl_Mod_67 fs_4_5 0 rfl rfl rfl (Nat.le_of_ble_eq_true rfl) rfl dq_Mod_keep_125 ?_
          refine qv_aload_n C rfl dq_Mod_keep_128 ?_
          refine qv_iconst C dq_Mod_keep_129 ?_
          refine qv_put C (ws' := [oc y 4 [vi er, vi (b2 mi), .ref dg, vi ((dz f mn : Nat) : Int), vi (((mn : Nat) : Int) - fr), vi 0, vi 0, .ref rw, vi ((mn : Nat) : Int), vi fr, vj fo, .ref bt, .ref wz, .ref lw, .ref hg, vi ((ls : Nat) : Int), vi lp, vi ((hs : Nat) : Int), vi hq], ai cI rw 1200 f, ai cI dg 800 (cpd d f k)]) fl_Mod_70 fs_4_6 0 rfl rfl rfl (Nat.le_of_ble_eq_true rfl) rfl dq_Mod_keep_130 ?_
          refine qv_vret C hR ?_ dq_Mod_keep_133 (by decide) (by decide)
          show _ = [mo _ _ _ _ _ _ _ _ _ _ _ _ _ _ _ _ _ _ _ _, _, _]
          rw [if_neg (by omega), ek]; rfl
      · exfalso; omega
    | succ n ih =>
      intro k hk
      refine qv_iload_n C rfl dq_Mod_keep_74 ?_
      refine qv_aload_n C rfl dq_Mod_keep_75 ?_
      refine qv_get C fl_Mod_61 0 rfl rfl dq_Mod_keep_76 ?_
      refine qv_icge C (by omega) (by omega) (tgt := 102) (by decide) dq_Mod_keep_79 (fun h79 => ?_) (fun h79 => ?_)
      · exfalso; omega
      · skip
        refine qv_aload_n C rfl dq_Mod_keep_82 ?_
        refine qv_get C fl_Mod_9 0 rfl rfl dq_Mod_keep_83 ?_
        refine qv_iload_n C rfl dq_Mod_keep_86 ?_
        refine qv_aload_n C rfl dq_Mod_keep_87 ?_
        refine qv_get C fl_Mod_13 0 rfl rfl dq_Mod_keep_88 ?_
        refine qv_iload_n C rfl dq_Mod_keep_91 ?_
        refine qv_iload_n C rfl dq_Mod_keep_92 ?_
        refine qv_iadd C (r := ((k : Nat) : Int)) (by omega) dq_Mod_keep_93 ?_
        refine qv_iald C 1 k rfl (by omega) (by omega) (by omega) dq_Mod_keep_94 ?_
        refine qv_iast C (ws' := [oc y 4 [vi er, vi (b2 mi), .ref dg, vi ((dz f mn : Nat) : Int), vi (((mn : Nat) : Int) - fr), vi ((zr : Nat) : Int), vi bh, .ref rw, vi ((mn : Nat) : Int), vi fr, vj fo, .ref bt, .ref wz, .ref lw, .ref hg, vi ((ls : Nat) : Int), vi lp, vi ((hs : Nat) : Int), vi hq], ai cI rw 1200 f, ai cI dg 800 (un (cpd d f k) k (f k))]) 2 k (f k) rfl (by omega) (by omega) (by omega) (by omega) rfl dq_Mod_keep_95 ?_
        refine qv_iinc C (j := 2) (lv' := [(3, vi (((k + 1) : Nat) : Int)), (0, .ref y), (1, vi 0)]) (by omega) rfl (by decide) rfl dq_Mod_keep_96 ?_
        refine qv_goto C (tgt := 74) (by decide) dq_Mod_keep_99 ?_
        refine qv_lv [1, 2, 0] (lv' := [(0, .ref y), (1, vi 0), (3, vi (((k + 1) : Nat) : Int))]) rfl ?_
        rw [cpd_s]
        exact ih (k + 1) (by omega)
  have loop2 : ∀ b, b ≤ mn → dz f b = dz f mn → V K 4 [oc y 4 [vi er, vi (b2 mi), .ref dg, vi ((nd : Nat) : Int), vi (((mn : Nat) : Int) - fr), vi ((zr : Nat) : Int), vi bh, .ref rw, vi ((mn : Nat) : Int), vi fr, vj fo, .ref bt, .ref wz, .ref lw, .ref hg, vi ((ls : Nat) : Int), vi lp, vi ((hs : Nat) : Int), vi hq], ai cI rw 1200 f, ai cI dg 800 d] 0 0 43 [(0, .ref y), (1, vi 0), (2, vi ((b : Nat) : Int))] [] := by
    intro b
    induction b with
    | zero =>
      intro hb he
      refine qv_iload_n C rfl dq_Mod_keep_43 ?_
      refine qv_iload_n C rfl dq_Mod_keep_44 ?_
      refine qv_icle C (by omega) (by omega) (tgt := 65) (by decide) dq_Mod_keep_45 (fun h45 => ?_) (fun h45 => ?_)
      · skip
        refine qv_aload_n C rfl dq_Mod_keep_65 ?_
        refine qv_iload_n C rfl dq_Mod_keep_66 ?_
        refine qv_iload_n C rfl dq_Mod_keep_67 ?_
        refine qv_isub C (r := ((dz f mn : Nat) : Int)) (by rw [← he]; rfl) dq_Mod_keep_68 ?_
        refine qv_put C (ws' := [oc y 4 [vi er, vi (b2 mi), .ref dg, vi ((dz f mn : Nat) : Int), vi (((mn : Nat) : Int) - fr), vi ((zr : Nat) : Int), vi bh, .ref rw, vi ((mn : Nat) : Int), vi fr, vj fo, .ref bt, .ref wz, .ref lw, .ref hg, vi ((ls : Nat) : Int), vi lp, vi ((hs : Nat) : Int), vi hq], ai cI rw 1200 f, ai cI dg 800 d]) fl_Mod_61 fs_4_3 0 rfl rfl rfl (Nat.le_of_ble_eq_true rfl) rfl dq_Mod_keep_69 ?_
        refine qv_iconst C dq_Mod_keep_72 ?_
        refine qv_istore_n C (lv' := [(3, vi 0), (0, .ref y), (1, vi 0), (2, vi ((0 : Nat) : Int))]) (by decide) rfl dq_Mod_keep_73 ?_
        refine qv_lv [1, 2, 0] (lv' := [(0, .ref y), (1, vi 0), (3, vi 0)]) rfl ?_
        have l0 := loop3 (dz f mn) 0 (by omega)
        rw [cpd_0] at l0
        exact l0
      · exfalso; omega
    | succ b ih =>
      intro hb he
      have h9 := hf b
      refine qv_iload_n C rfl dq_Mod_keep_43 ?_
      refine qv_iload_n C rfl dq_Mod_keep_44 ?_
      refine qv_icle C (by omega) (by omega) (tgt := 65) (by decide) dq_Mod_keep_45 (fun h45 => ?_) (fun h45 => ?_)
      · exfalso; omega
      · skip
        refine qv_aload_n C rfl dq_Mod_keep_48 ?_
        refine qv_get C fl_Mod_13 0 rfl rfl dq_Mod_keep_49 ?_
        refine qv_iload_n C rfl dq_Mod_keep_52 ?_
        refine qv_iconst C dq_Mod_keep_53 ?_
        refine qv_isub C (r := ((b : Nat) : Int)) (by omega) dq_Mod_keep_54 ?_
        refine qv_iald C 1 b rfl (by omega) (by omega) (by omega) dq_Mod_keep_55 ?_
        refine qv_ifne C (by omega) (tgt := 65) (by decide) dq_Mod_keep_56 (fun h56 => ?_) (fun h56 => ?_)
        · skip
          refine qv_aload_n C rfl dq_Mod_keep_65 ?_
          refine qv_iload_n C rfl dq_Mod_keep_66 ?_
          refine qv_iload_n C rfl dq_Mod_keep_67 ?_
          refine qv_isub C (r := ((dz f mn : Nat) : Int)) (by rw [← he, dz_s1 (by omega)]; omega) dq_Mod_keep_68 ?_
          refine qv_put C (ws' := [oc y 4 [vi er, vi (b2 mi), .ref dg, vi ((dz f mn : Nat) : Int), vi (((mn : Nat) : Int) - fr), vi ((zr : Nat) : Int), vi bh, .ref rw, vi ((mn : Nat) : Int), vi fr, vj fo, .ref bt, .ref wz, .ref lw, .ref hg, vi ((ls : Nat) : Int), vi lp, vi ((hs : Nat) : Int), vi hq], ai cI rw 1200 f, ai cI dg 800 d]) fl_Mod_61 fs_4_3 0 rfl rfl rfl (Nat.le_of_ble_eq_true rfl) rfl dq_Mod_keep_69 ?_
          refine qv_iconst C dq_Mod_keep_72 ?_
          refine qv_istore_n C (lv' := [(3, vi 0), (0, .ref y), (1, vi 0), (2, vi (((b + 1) : Nat) : Int))]) (by decide) rfl dq_Mod_keep_73 ?_
          refine qv_lv [1, 2, 0] (lv' := [(0, .ref y), (1, vi 0), (3, vi 0)]) rfl ?_
          have l0 := loop3 (dz f mn) 0 (by omega)
          rw [cpd_0] at l0
          exact l0
        · skip
          refine qv_iinc C (j := 2) (lv' := [(2, vi ((b : Nat) : Int)), (0, .ref y), (1, vi 0)]) (by omega) rfl (by decide) rfl dq_Mod_keep_59 ?_
          refine qv_goto C (tgt := 43) (by decide) dq_Mod_keep_62 ?_
          refine qv_lv [1, 2, 0] (lv' := [(0, .ref y), (1, vi 0), (2, vi ((b : Nat) : Int))]) rfl ?_
          exact ih (by omega) (by rw [← he, dz_s0 (by omega)])
  by_cases hm0 : mn = 0
  · subst hm0
    refine qv_aload_n C rfl dq_Mod_keep_0 ?_
    refine qv_aload_n C rfl dq_Mod_keep_1 ?_
    refine qv_get C fl_Mod_40 0 rfl rfl dq_Mod_keep_2 ?_
    refine qv_aload_n C rfl dq_Mod_keep_5 ?_
    refine qv_get C fl_Mod_43 0 rfl rfl dq_Mod_keep_6 ?_
    refine qv_isub C (r := (((0 : Nat) : Int) - fr)) rfl dq_Mod_keep_9 ?_
    refine qv_put C (ws' := [oc y 4 [vi er, vi (b2 mi), .ref dg, vi ((nd : Nat) : Int), vi (((0 : Nat) : Int) - fr), vi ((zr : Nat) : Int), vi bh, .ref rw, vi ((0 : Nat) : Int), vi fr, vj fo, .ref bt, .ref wz, .ref lw, .ref hg, vi ((ls : Nat) : Int), vi lp, vi ((hs : Nat) : Int), vi hq], ai cI rw 1200 f, ai cI dg 800 d]) fl_Mod_64 fs_4_4 0 rfl rfl rfl (Nat.le_of_ble_eq_true rfl) rfl dq_Mod_keep_10 ?_
    refine qv_iconst C dq_Mod_keep_13 ?_
    refine qv_istore_n C (lv' := [(1, vi 0), (0, .ref y)]) (by decide) rfl dq_Mod_keep_14 ?_
    refine qv_iload_n C rfl dq_Mod_keep_15 ?_
    refine qv_aload_n C rfl dq_Mod_keep_16 ?_
    refine qv_get C fl_Mod_40 0 rfl rfl dq_Mod_keep_17 ?_
    refine qv_icge C (by omega) (by omega) (tgt := 38) (by decide) dq_Mod_keep_20 (fun h20 => ?_) (fun h20 => ?_)
    · skip
      refine qv_aload_n C rfl dq_Mod_keep_38 ?_
      refine qv_get C fl_Mod_40 0 rfl rfl dq_Mod_keep_39 ?_
      refine qv_istore_n C (lv' := [(2, vi ((0 : Nat) : Int)), (1, vi 0), (0, .ref y)]) (by decide) rfl dq_Mod_keep_42 ?_
      refine qv_lv [2, 1, 0] (lv' := [(0, .ref y), (1, vi 0), (2, vi ((0 : Nat) : Int))]) rfl ?_
      exact loop2 0 (by omega) rfl
    · exfalso; omega
  · have h00 := h0 (by omega)
    refine qv_aload_n C rfl dq_Mod_keep_0 ?_
    refine qv_aload_n C rfl dq_Mod_keep_1 ?_
    refine qv_get C fl_Mod_40 0 rfl rfl dq_Mod_keep_2 ?_
    refine qv_aload_n C rfl dq_Mod_keep_5 ?_
    refine qv_get C fl_Mod_43 0 rfl rfl dq_Mod_keep_6 ?_
    refine qv_isub C (r := (((mn : Nat) : Int) - fr)) rfl dq_Mod_keep_9 ?_
    refine qv_put C (ws' := [oc y 4 [vi er, vi (b2 mi), .ref dg, vi ((nd : Nat) : Int), vi (((mn : Nat) : Int) - fr), vi ((zr : Nat) : Int), vi bh, .ref rw, vi ((mn : Nat) : Int), vi fr, vj fo, .ref bt, .ref wz, .ref lw, .ref hg, vi ((ls : Nat) : Int), vi lp, vi ((hs : Nat) : Int), vi hq], ai cI rw 1200 f, ai cI dg 800 d]) fl_Mod_64 fs_4_4 0 rfl rfl rfl (Nat.le_of_ble_eq_true rfl) rfl dq_Mod_keep_10 ?_
    refine qv_iconst C dq_Mod_keep_13 ?_
    refine qv_istore_n C (lv' := [(1, vi 0), (0, .ref y)]) (by decide) rfl dq_Mod_keep_14 ?_
    refine qv_iload_n C rfl dq_Mod_keep_15 ?_
    refine qv_aload_n C rfl dq_Mod_keep_16 ?_
    refine qv_get C fl_Mod_40 0 rfl rfl dq_Mod_keep_17 ?_
    refine qv_icge C (by omega) (by omega) (tgt := 38) (by decide) dq_Mod_keep_20 (fun h20 => ?_) (fun h20 => ?_)
    · exfalso; omega
    · skip
      refine qv_aload_n C rfl dq_Mod_keep_23 ?_
      refine qv_get C fl_Mod_13 0 rfl rfl dq_Mod_keep_24 ?_
      refine qv_iload_n C rfl dq_Mod_keep_27 ?_
      refine qv_iald C 1 0 rfl (by omega) (by omega) (by omega) dq_Mod_keep_28 ?_
      refine qv_ifne C (by omega) (tgt := 38) (by decide) dq_Mod_keep_29 (fun h29 => ?_) (fun h29 => ?_)
      · skip
        refine qv_aload_n C rfl dq_Mod_keep_38 ?_
        refine qv_get C fl_Mod_40 0 rfl rfl dq_Mod_keep_39 ?_
        refine qv_istore_n C (lv' := [(2, vi ((mn : Nat) : Int)), (1, vi 0), (0, .ref y)]) (by decide) rfl dq_Mod_keep_42 ?_
        refine qv_lv [2, 1, 0] (lv' := [(0, .ref y), (1, vi 0), (2, vi ((mn : Nat) : Int))]) rfl ?_
        exact loop2 mn (by omega) rfl
      · exfalso; omega

theorem c_Mod_cut (cI cJ : ClassId) (y dg rw bt wz lw hg : Nat) (er : Int) (mi : Bool) (nd : Nat) (pl : Int) (zr : Nat) (bh : Int) (mn : Nat) (fr fo : Int) (ls : Nat) (lp : Int) (hs : Nat) (hq : Int) (d : Nat → Nat) (z : Int) (hd : ∀ i, d i ≤ 9) (hnd : nd ≤ 800) (hz : rj z) : MtV cI cJ ky_Mod_cut kb_Mod_cut 5 rm_Mod_cut Xt [.ref y, vj z] [oc y 4 [vi er, vi (b2 mi), .ref dg, vi ((nd : Nat) : Int), vi pl, vi ((zr : Nat) : Int), vi bh, .ref rw, vi ((mn : Nat) : Int), vi fr, vj fo, .ref bt, .ref wz, .ref lw, .ref hg, vi ((ls : Nat) : Int), vi lp, vi ((hs : Nat) : Int), vi hq], ai cI dg 800 d] (fun u => u = [mo y dg rw bt wz lw hg er mi (cL d nd z) (cP d nd z pl) 0 0 mn fr fo ls lp hs hq, ai cI dg 800 (cF d nd z)]) := by
  refine MtV_in (by decide) (Nat.le_of_ble_eq_true rfl) (fun K C hR hX hN => ?_)
  show V K 5 [oc y 4 [vi er, vi (b2 mi), .ref dg, vi ((nd : Nat) : Int), vi pl, vi ((zr : Nat) : Int), vi bh, .ref rw, vi ((mn : Nat) : Int), vi fr, vj fo, .ref bt, .ref wz, .ref lw, .ref hg, vi ((ls : Nat) : Int), vi lp, vi ((hs : Nat) : Int), vi hq], ai cI dg 800 d] 0 0 0 [(0, .ref y), (1, vj z)] []
  have aft : ∀ (g : Nat → Nat) (l0 : Nat) (p : Int), (∀ i, g i ≤ 9) → l0 ≤ 800 → dz g l0 = cL d nd z → (if dz g l0 = 0 then 0 else p) = cP d nd z pl → g = cF d nd z → ∀ l, l ≤ l0 → dz g l = dz g l0 → V K 5 [oc y 4 [vi er, vi (b2 mi), .ref dg, vi ((l : Nat) : Int), vi p, vi 0, vi 0, .ref rw, vi ((mn : Nat) : Int), vi fr, vj fo, .ref bt, .ref wz, .ref lw, .ref hg, vi ((ls : Nat) : Int), vi lp, vi ((hs : Nat) : Int), vi hq], ai cI dg 800 g] 0 0 182 [(0, .ref y)] [] := by
    intro g l0 p hg9 hl0 h1 h2 h3 l
    induction l with
    | zero =>
      intro hl he
      refine qv_aload_n C rfl dq_Mod_cut_182 ?_
      refine qv_get C fl_Mod_61 0 rfl rfl dq_Mod_cut_183 ?_
      refine qv_ifle C (by omega) (tgt := 216) (by decide) dq_Mod_cut_186 (fun h186 => ?_) (fun h186 => ?_)
      · skip
        refine qv_aload_n C rfl dq_Mod_cut_216 ?_
        refine qv_get C fl_Mod_61 0 rfl rfl dq_Mod_cut_217 ?_
        refine qv_ifne C (by omega) (tgt := 227) (by decide) dq_Mod_cut_220 (fun h220 => ?_) (fun h220 => ?_)
        · exfalso; omega
        · skip
          refine qv_aload_n C rfl dq_Mod_cut_223 ?_
          refine qc_vV (wr := [ai cI dg 800 g]) (st := []) C cl_Mod_83 cd_Mod_nothing (c_Mod_nothing cI cJ y dg rw bt wz lw hg er mi 0 p 0 0 mn fr fo ls lp hs hq) (Xok_t K) Xbl_t [0] [1] rfl rfl (by decide) (by decide) (by decide) 0 rfl rfl rfl rfl rfl (Nat.le_of_ble_eq_true rfl) (by decide) (by decide) dq_Mod_cut_224 (fun u hu => ?_)
          obtain rfl := hu
          show V K 5 [ai cI dg 800 g, oc y 4 [vi er, vi (b2 mi), .ref dg, vi 0, vi 0, vi 0, vi 0, .ref rw, vi ((mn : Nat) : Int), vi fr, vj fo, .ref bt, .ref wz, .ref lw, .ref hg, vi ((ls : Nat) : Int), vi lp, vi ((hs : Nat) : Int), vi hq]] 0 0 227 [(0, .ref y)] []
          refine qv_ws [1, 0] (ws' := [oc y 4 [vi er, vi (b2 mi), .ref dg, vi 0, vi 0, vi 0, vi 0, .ref rw, vi ((mn : Nat) : Int), vi fr, vj fo, .ref bt, .ref wz, .ref lw, .ref hg, vi ((ls : Nat) : Int), vi lp, vi ((hs : Nat) : Int), vi hq], ai cI dg 800 g]) (by decide) rfl ?_
          refine qv_vret C hR ?_ dq_Mod_cut_227 (by decide) (by decide)
          show _ = [mo _ _ _ _ _ _ _ _ _ _ _ _ _ _ _ _ _ _ _ _, _]
          have e0 : dz g l0 = 0 := he.symm
          rw [if_pos e0] at h2
          rw [← h1, ← h2, ← h3, e0]; rfl
      · exfalso; omega
    | succ l ih =>
      intro hl he
      have h9 := hg9 l
      refine qv_aload_n C rfl dq_Mod_cut_182 ?_
      refine qv_get C fl_Mod_61 0 rfl rfl dq_Mod_cut_183 ?_
      refine qv_ifle C (by omega) (tgt := 216) (by decide) dq_Mod_cut_186 (fun h186 => ?_) (fun h186 => ?_)
      · exfalso; omega
      · skip
        refine qv_aload_n C rfl dq_Mod_cut_189 ?_
        refine qv_get C fl_Mod_9 0 rfl rfl dq_Mod_cut_190 ?_
        refine qv_aload_n C rfl dq_Mod_cut_193 ?_
        refine qv_get C fl_Mod_61 0 rfl rfl dq_Mod_cut_194 ?_
        refine qv_iconst C dq_Mod_cut_197 ?_
        refine qv_isub C (r := ((l : Nat) : Int)) (by omega) dq_Mod_cut_198 ?_
        refine qv_iald C 1 l rfl (by omega) (by omega) (by omega) dq_Mod_cut_199 ?_
        refine qv_ifne C (by omega) (tgt := 216) (by decide) dq_Mod_cut_200 (fun h200 => ?_) (fun h200 => ?_)
        · skip
          refine qv_aload_n C rfl dq_Mod_cut_216 ?_
          refine qv_get C fl_Mod_61 0 rfl rfl dq_Mod_cut_217 ?_
          refine qv_ifne C (by omega) (tgt := 227) (by decide) dq_Mod_cut_220 (fun h220 => ?_) (fun h220 => ?_)
          · skip
            refine qv_vret C hR ?_ dq_Mod_cut_227 (by decide) (by decide)
            show _ = [mo _ _ _ _ _ _ _ _ _ _ _ _ _ _ _ _ _ _ _ _, _]
            have e0 : dz g l0 = l + 1 := by rw [← he, dz_s1 (by omega)]
            rw [if_neg (by omega)] at h2
            rw [← h1, ← h2, ← h3, e0]; rfl
          · exfalso; omega
        · skip
          refine qv_aload_n C rfl dq_Mod_cut_203 ?_
          refine qv_dup C rfl dq_Mod_cut_204 ?_
          refine qv_get C fl_Mod_61 0 rfl rfl dq_Mod_cut_205 ?_
          refine qv_iconst C dq_Mod_cut_208 ?_
          refine qv_isub C (r := ((l : Nat) : Int)) (by omega) dq_Mod_cut_209 ?_
          refine qv_put C (ws' := [oc y 4 [vi er, vi (b2 mi), .ref dg, vi ((l : Nat) : Int), vi p, vi 0, vi 0, .ref rw, vi ((mn : Nat) : Int), vi fr, vj fo, .ref bt, .ref wz, .ref lw, .ref hg, vi ((ls : Nat) : Int), vi lp, vi ((hs : Nat) : Int), vi hq], ai cI dg 800 g]) fl_Mod_61 fs_4_3 0 rfl rfl rfl (Nat.le_of_ble_eq_true rfl) rfl dq_Mod_cut_210 ?_
          refine qv_goto C (tgt := 182) (by decide) dq_Mod_cut_213 ?_
          exact ih (by omega) (by rw [← he, dz_s0 (by omega)])
  have hup : ∀ n : Nat, z = (n : Int) → n < nd → gu d nd n = true → V K 5 [oc y 4 [vi er, vi (b2 mi), .ref dg, vi ((n : Nat) : Int), vi pl, vi 0, vi 0, .ref rw, vi ((mn : Nat) : Int), vi fr, vj fo, .ref bt, .ref wz, .ref lw, .ref hg, vi ((ls : Nat) : Int), vi lp, vi ((hs : Nat) : Int), vi hq], ai cI dg 800 d] 0 0 99 [(0, .ref y)] [] := by
    intro n hzn hn hgu
    have hle := dn_le d n
    have e1 : cL d nd z = upL d n := by rw [hzn, cL_n hn]; unfold ctL; exact if_pos hgu
    have e2 : cP d nd z pl = upP d n pl := by rw [hzn, cP_n hn]; unfold ctP; exact if_pos hgu
    have e3 : cF d nd z = upF d n := by rw [hzn, cF_n hn]; unfold ctF; exact if_pos hgu
    have hup0 := upL_pos d n
    have a1 : ∀ l, dn d n = l → V K 5 [oc y 4 [vi er, vi (b2 mi), .ref dg, vi ((l : Nat) : Int), vi pl, vi 0, vi 0, .ref rw, vi ((mn : Nat) : Int), vi fr, vj fo, .ref bt, .ref wz, .ref lw, .ref hg, vi ((ls : Nat) : Int), vi lp, vi ((hs : Nat) : Int), vi hq], ai cI dg 800 d] 0 0 135 [(0, .ref y)] [] := by
      intro l hl2
      refine qv_aload_n C rfl dq_Mod_cut_135 ?_
      refine qv_get C fl_Mod_61 0 rfl rfl dq_Mod_cut_136 ?_
      refine qv_ifne C (by omega) (tgt := 167) (by decide) dq_Mod_cut_139 (fun h139 => ?_) (fun h139 => ?_)
      · skip
        refine qv_aload_n C rfl dq_Mod_cut_167 ?_
        refine qv_get C fl_Mod_9 0 rfl rfl dq_Mod_cut_168 ?_
        refine qv_aload_n C rfl dq_Mod_cut_171 ?_
        refine qv_get C fl_Mod_61 0 rfl rfl dq_Mod_cut_172 ?_
        refine qv_iconst C dq_Mod_cut_175 ?_
        refine qv_isub C (r := (((l - 1) : Nat) : Int)) (by omega) dq_Mod_cut_176 ?_
        refine qv_dup2 C rfl rfl dq_Mod_cut_177 ?_
        refine qv_iald C 1 (l - 1) rfl (by omega) (by omega) (by omega) dq_Mod_cut_178 ?_
        refine qv_iconst C dq_Mod_cut_179 ?_
        refine qv_iadd C (r := (((d (l - 1) + 1) : Nat) : Int)) (by omega) dq_Mod_cut_180 ?_
        refine qv_iast C (ws' := [oc y 4 [vi er, vi (b2 mi), .ref dg, vi ((l : Nat) : Int), vi pl, vi 0, vi 0, .ref rw, vi ((mn : Nat) : Int), vi fr, vj fo, .ref bt, .ref wz, .ref lw, .ref hg, vi ((ls : Nat) : Int), vi lp, vi ((hs : Nat) : Int), vi hq], ai cI dg 800 (un d (l - 1) (d (l - 1) + 1))]) 1 (l - 1) (d (l - 1) + 1) rfl (by omega) (by omega) (by omega) (by omega) rfl dq_Mod_cut_181 ?_
        have a0 := aft (upF d n) (upL d n) (upP d n pl) (upF_9 hd) (by have := upL_le d n; omega) (by rw [e1]; exact upF_dz d n) (by rw [upF_dz, if_neg (by omega), e2]) e3.symm (upL d n) (Nat.le_refl _) rfl
        unfold upL upP upF at a0
        rw [if_neg (by omega), if_neg (by omega), if_neg (by omega), hl2] at a0
        exact a0
      · skip
        refine qv_aload_n C rfl dq_Mod_cut_142 ?_
        refine qv_get C fl_Mod_9 0 rfl rfl dq_Mod_cut_143 ?_
        refine qv_iconst C dq_Mod_cut_146 ?_
        refine qv_iconst C dq_Mod_cut_147 ?_
        refine qv_iast C (ws' := [oc y 4 [vi er, vi (b2 mi), .ref dg, vi ((l : Nat) : Int), vi pl, vi 0, vi 0, .ref rw, vi ((mn : Nat) : Int), vi fr, vj fo, .ref bt, .ref wz, .ref lw, .ref hg, vi ((ls : Nat) : Int), vi lp, vi ((hs : Nat) : Int), vi hq], ai cI dg 800 (un d 0 1)]) 1 0 1 rfl (by omega) (by omega) (by omega) (by omega) rfl dq_Mod_cut_148 ?_
        refine qv_aload_n C rfl dq_Mod_cut_149 ?_
        refine qv_iconst C dq_Mod_cut_150 ?_
        refine qv_put C (ws' := [oc y 4 [vi er, vi (b2 mi), .ref dg, vi 1, vi pl, vi 0, vi 0, .ref rw, vi ((mn : Nat) : Int), vi fr, vj fo, .ref bt, .ref wz, .ref lw, .ref hg, vi ((ls : Nat) : Int), vi lp, vi ((hs : Nat) : Int), vi hq], ai cI dg 800 (un d 0 1)]) fl_Mod_61 fs_4_3 0 rfl rfl rfl (Nat.le_of_ble_eq_true rfl) rfl dq_Mod_cut_151 ?_
        refine qv_aload_n C rfl dq_Mod_cut_154 ?_
        refine qv_dup C rfl dq_Mod_cut_155 ?_
        refine qv_get C fl_Mod_64 0 rfl rfl dq_Mod_cut_156 ?_
        refine qv_iconst C dq_Mod_cut_159 ?_
        refine qv_iadd C (r := (pl + 1)) rfl dq_Mod_cut_160 ?_
        refine qv_put C (ws' := [oc y 4 [vi er, vi (b2 mi), .ref dg, vi 1, vi (pl + 1), vi 0, vi 0, .ref rw, vi ((mn : Nat) : Int), vi fr, vj fo, .ref bt, .ref wz, .ref lw, .ref hg, vi ((ls : Nat) : Int), vi lp, vi ((hs : Nat) : Int), vi hq], ai cI dg 800 (un d 0 1)]) fl_Mod_64 fs_4_4 0 rfl rfl rfl (Nat.le_of_ble_eq_true rfl) rfl dq_Mod_cut_161 ?_
        refine qv_goto C (tgt := 182) (by decide) dq_Mod_cut_164 ?_
        have a0 := aft (upF d n) (upL d n) (upP d n pl) (upF_9 hd) (by have := upL_le d n; omega) (by rw [e1]; exact upF_dz d n) (by rw [upF_dz, if_neg (by omega), e2]) e3.symm (upL d n) (Nat.le_refl _) rfl
        unfold upL upP upF at a0
        rw [if_pos (by omega), if_pos (by omega), if_pos (by omega)] at a0
        exact a0
    have lp : ∀ l, l ≤ 800 → dn d l = dn d n → V K 5 [oc y 4 [vi er, vi (b2 mi), .ref dg, vi ((l : Nat) : Int), vi pl, vi 0, vi 0, .ref rw, vi ((mn : Nat) : Int), vi fr, vj fo, .ref bt, .ref wz, .ref lw, .ref hg, vi ((ls : Nat) : Int), vi lp, vi ((hs : Nat) : Int), vi hq], ai cI dg 800 d] 0 0 99 [(0, .ref y)] [] := by
      intro l
      induction l with
      | zero =>
        intro q1 q2
        refine qv_aload_n C rfl dq_Mod_cut_99 ?_
        refine qv_get C fl_Mod_61 0 rfl rfl dq_Mod_cut_100 ?_
        refine qv_ifle C (by omega) (tgt := 135) (by decide) dq_Mod_cut_103 (fun h103 => ?_) (fun h103 => ?_)
        · skip
          exact a1 _ q2.symm
        · exfalso; omega
      | succ l ih =>
        intro q1 q2
        have h9 := hd l
        refine qv_aload_n C rfl dq_Mod_cut_99 ?_
        refine qv_get C fl_Mod_61 0 rfl rfl dq_Mod_cut_100 ?_
        refine qv_ifle C (by omega) (tgt := 135) (by decide) dq_Mod_cut_103 (fun h103 => ?_) (fun h103 => ?_)
        · exfalso; omega
        · skip
          refine qv_aload_n C rfl dq_Mod_cut_106 ?_
          refine qv_get C fl_Mod_9 0 rfl rfl dq_Mod_cut_107 ?_
          refine qv_aload_n C rfl dq_Mod_cut_110 ?_
          refine qv_get C fl_Mod_61 0 rfl rfl dq_Mod_cut_111 ?_
          refine qv_iconst C dq_Mod_cut_114 ?_
          refine qv_isub C (r := ((l : Nat) : Int)) (by omega) dq_Mod_cut_115 ?_
          refine qv_iald C 1 l rfl (by omega) (by omega) (by omega) dq_Mod_cut_116 ?_
          refine qv_bipush C (by decide) dq_Mod_cut_117 ?_
          refine qv_icne C (by omega) (by omega) (tgt := 135) (by decide) dq_Mod_cut_119 (fun h119 => ?_) (fun h119 => ?_)
          · skip
            exact a1 _ (by rw [← q2, dn_s1 (by omega)])
          · skip
            refine qv_aload_n C rfl dq_Mod_cut_122 ?_
            refine qv_dup C rfl dq_Mod_cut_123 ?_
            refine qv_get C fl_Mod_61 0 rfl rfl dq_Mod_cut_124 ?_
            refine qv_iconst C dq_Mod_cut_127 ?_
            refine qv_isub C (r := ((l : Nat) : Int)) (by omega) dq_Mod_cut_128 ?_
            refine qv_put C (ws' := [oc y 4 [vi er, vi (b2 mi), .ref dg, vi ((l : Nat) : Int), vi pl, vi 0, vi 0, .ref rw, vi ((mn : Nat) : Int), vi fr, vj fo, .ref bt, .ref wz, .ref lw, .ref hg, vi ((ls : Nat) : Int), vi lp, vi ((hs : Nat) : Int), vi hq], ai cI dg 800 d]) fl_Mod_61 fs_4_3 0 rfl rfl rfl (Nat.le_of_ble_eq_true rfl) rfl dq_Mod_cut_129 ?_
            refine qv_goto C (tgt := 99) (by decide) dq_Mod_cut_132 ?_
            exact ih (by omega) (by rw [← q2, dn_s0 (by omega)])
    exact lp n (by omega) rfl
  have hdn : ∀ n : Nat, z = (n : Int) → n < nd → gu d nd n = false → V K 5 [oc y 4 [vi er, vi (b2 mi), .ref dg, vi ((n : Nat) : Int), vi pl, vi 0, vi 0, .ref rw, vi ((mn : Nat) : Int), vi fr, vj fo, .ref bt, .ref wz, .ref lw, .ref hg, vi ((ls : Nat) : Int), vi lp, vi ((hs : Nat) : Int), vi hq], ai cI dg 800 d] 0 0 182 [(0, .ref y)] [] := by
    intro n hzn hn hgu
    have hg2 : ¬ gu d nd n = true := by rw [hgu]; decide
    have e1 : cL d nd z = dz d n := by rw [hzn, cL_n hn]; unfold ctL; exact if_neg hg2
    have e2 : cP d nd z pl = dnP d n pl := by rw [hzn, cP_n hn]; unfold ctP; exact if_neg hg2
    have e3 : cF d nd z = d := by rw [hzn, cF_n hn]; unfold ctF; exact if_neg hg2
    exact aft d n pl hd (by omega) e1.symm e2.symm e3.symm n (Nat.le_refl _) rfl
  refine qv_aload_n C rfl dq_Mod_cut_0 ?_
  refine qv_iconst C dq_Mod_cut_1 ?_
  refine qv_put C (ws' := [oc y 4 [vi er, vi (b2 mi), .ref dg, vi ((nd : Nat) : Int), vi pl, vi 0, vi bh, .ref rw, vi ((mn : Nat) : Int), vi fr, vj fo, .ref bt, .ref wz, .ref lw, .ref hg, vi ((ls : Nat) : Int), vi lp, vi ((hs : Nat) : Int), vi hq], ai cI dg 800 d]) fl_Mod_67 fs_4_5 0 rfl rfl rfl (Nat.le_of_ble_eq_true rfl) rfl dq_Mod_cut_2 ?_
  refine qv_aload_n C rfl dq_Mod_cut_5 ?_
  refine qv_iconst C dq_Mod_cut_6 ?_
  refine qv_put C (ws' := [oc y 4 [vi er, vi (b2 mi), .ref dg, vi ((nd : Nat) : Int), vi pl, vi 0, vi 0, .ref rw, vi ((mn : Nat) : Int), vi fr, vj fo, .ref bt, .ref wz, .ref lw, .ref hg, vi ((ls : Nat) : Int), vi lp, vi ((hs : Nat) : Int), vi hq], ai cI dg 800 d]) fl_Mod_70 fs_4_6 0 rfl rfl rfl (Nat.le_of_ble_eq_true rfl) rfl dq_Mod_cut_7 ?_
  refine qv_lload_n C rfl dq_Mod_cut_10 ?_
  refine qv_aload_n C rfl dq_Mod_cut_11 ?_
  refine qv_get C fl_Mod_61 0 rfl rfl dq_Mod_cut_12 ?_
  refine qv_i2l C (by omega) dq_Mod_cut_15 ?_
  refine qv_lclt C (by omega) (by omega) dq_Mod_cut_16 (tgt := 21) (by decide) dq_Mod_cut_17 (fun h16 => ?_) (fun h16 => ?_)
  · skip
    refine qv_lload_n C rfl dq_Mod_cut_21 ?_
    refine qv_lconst C (z := 0) (by decide) dq_Mod_cut_22 ?_
    refine qv_lcge C (by omega) (by omega) dq_Mod_cut_23 (tgt := 32) (by decide) dq_Mod_cut_24 (fun h23 => ?_) (fun h23 => ?_)
    · skip
      obtain ⟨n, hzn⟩ : ∃ n : Nat, z = (n : Int) := ⟨z.toNat, by omega⟩
      rw [show vj z = vj ((n : Nat) : Int) by rw [hzn]]
      have h9 := hd n
      have h8 := hd (n - 1)
      refine qv_lload_n C rfl dq_Mod_cut_32 ?_
      refine qv_l2i C dq_Mod_cut_33 ?_
      refine qv_istore_n C (lv' := [(3, vi ((n : Nat) : Int)), (0, .ref y), (1, vj ((n : Nat) : Int))]) (by decide) rfl dq_Mod_cut_34 ?_
      refine qv_aload_n C rfl dq_Mod_cut_35 ?_
      refine qv_get C fl_Mod_9 0 rfl rfl dq_Mod_cut_36 ?_
      refine qv_iload_n C rfl dq_Mod_cut_39 ?_
      refine qv_iald C 1 n rfl (by omega) (by omega) (by omega) dq_Mod_cut_40 ?_
      refine qv_iconst C dq_Mod_cut_41 ?_
      refine qv_icgt C (by omega) (by omega) (tgt := 82) (by decide) dq_Mod_cut_42 (fun h42 => ?_) (fun h42 => ?_)
      · skip
        refine qv_iconst C dq_Mod_cut_82 ?_
        refine qv_goto C (tgt := 87) (by decide) dq_Mod_cut_83 ?_
        refine qv_istore C (lv' := [(4, vi 1), (3, vi ((n : Nat) : Int)), (0, .ref y), (1, vj ((n : Nat) : Int))]) (by decide) rfl dq_Mod_cut_87 ?_
        refine qv_aload_n C rfl dq_Mod_cut_89 ?_
        refine qv_iload_n C rfl dq_Mod_cut_90 ?_
        refine qv_put C (ws' := [oc y 4 [vi er, vi (b2 mi), .ref dg, vi ((n : Nat) : Int), vi pl, vi 0, vi 0, .ref rw, vi ((mn : Nat) : Int), vi fr, vj fo, .ref bt, .ref wz, .ref lw, .ref hg, vi ((ls : Nat) : Int), vi lp, vi ((hs : Nat) : Int), vi hq], ai cI dg 800 d]) fl_Mod_61 fs_4_3 0 rfl rfl rfl (Nat.le_of_ble_eq_true rfl) rfl dq_Mod_cut_91 ?_
        refine qv_iload C rfl dq_Mod_cut_94 ?_
        refine qv_ifeq C (by omega) (tgt := 182) (by decide) dq_Mod_cut_96 (fun h96 => ?_) (fun h96 => ?_)
        · exfalso; omega
        · skip
          refine qv_lv [2] (lv' := [(0, .ref y)]) rfl ?_
          exact hup n hzn (by omega) (by unfold gu; first | (rw [if_neg (by omega)]; simp <;> omega) | (rw [if_pos (by omega)]; simp <;> omega))
      · skip
        refine qv_aload_n C rfl dq_Mod_cut_45 ?_
        refine qv_get C fl_Mod_9 0 rfl rfl dq_Mod_cut_46 ?_
        refine qv_iload_n C rfl dq_Mod_cut_49 ?_
        refine qv_iald C 1 n rfl (by omega) (by omega) (by omega) dq_Mod_cut_50 ?_
        refine qv_iconst C dq_Mod_cut_51 ?_
        refine qv_icne C (by omega) (by omega) (tgt := 86) (by decide) dq_Mod_cut_52 (fun h52 => ?_) (fun h52 => ?_)
        · skip
          refine qv_iconst C dq_Mod_cut_86 ?_
          refine qv_istore C (lv' := [(4, vi 0), (3, vi ((n : Nat) : Int)), (0, .ref y), (1, vj ((n : Nat) : Int))]) (by decide) rfl dq_Mod_cut_87 ?_
          refine qv_aload_n C rfl dq_Mod_cut_89 ?_
          refine qv_iload_n C rfl dq_Mod_cut_90 ?_
          refine qv_put C (ws' := [oc y 4 [vi er, vi (b2 mi), .ref dg, vi ((n : Nat) : Int), vi pl, vi 0, vi 0, .ref rw, vi ((mn : Nat) : Int), vi fr, vj fo, .ref bt, .ref wz, .ref lw, .ref hg, vi ((ls : Nat) : Int), vi lp, vi ((hs : Nat) : Int), vi hq], ai cI dg 800 d]) fl_Mod_61 fs_4_3 0 rfl rfl rfl (Nat.le_of_ble_eq_true rfl) rfl dq_Mod_cut_91 ?_
          refine qv_iload C rfl dq_Mod_cut_94 ?_
          refine qv_ifeq C (by omega) (tgt := 182) (by decide) dq_Mod_cut_96 (fun h96 => ?_) (fun h96 => ?_)
          · skip
            refine qv_lv [2] (lv' := [(0, .ref y)]) rfl ?_
            exact hdn n hzn (by omega) (by unfold gu; first | (rw [if_neg (by omega)]; simp <;> omega) | (rw [if_pos (by omega)]; simp <;> omega))
          · exfalso; omega
        · skip
          refine qv_aload_n C rfl dq_Mod_cut_55 ?_
          refine qv_get C fl_Mod_61 0 rfl rfl dq_Mod_cut_56 ?_
          refine qv_iload_n C rfl dq_Mod_cut_59 ?_
          refine qv_iconst C dq_Mod_cut_60 ?_
          refine qv_iadd C (r := (((n + 1) : Nat) : Int)) (by omega) dq_Mod_cut_61 ?_
          refine qv_icgt C (by omega) (by omega) (tgt := 82) (by decide) dq_Mod_cut_62 (fun h62 => ?_) (fun h62 => ?_)
          · skip
            refine qv_iconst C dq_Mod_cut_82 ?_
            refine qv_goto C (tgt := 87) (by decide) dq_Mod_cut_83 ?_
            refine qv_istore C (lv' := [(4, vi 1), (3, vi ((n : Nat) : Int)), (0, .ref y), (1, vj ((n : Nat) : Int))]) (by decide) rfl dq_Mod_cut_87 ?_
            refine qv_aload_n C rfl dq_Mod_cut_89 ?_
            refine qv_iload_n C rfl dq_Mod_cut_90 ?_
            refine qv_put C (ws' := [oc y 4 [vi er, vi (b2 mi), .ref dg, vi ((n : Nat) : Int), vi pl, vi 0, vi 0, .ref rw, vi ((mn : Nat) : Int), vi fr, vj fo, .ref bt, .ref wz, .ref lw, .ref hg, vi ((ls : Nat) : Int), vi lp, vi ((hs : Nat) : Int), vi hq], ai cI dg 800 d]) fl_Mod_61 fs_4_3 0 rfl rfl rfl (Nat.le_of_ble_eq_true rfl) rfl dq_Mod_cut_91 ?_
            refine qv_iload C rfl dq_Mod_cut_94 ?_
            refine qv_ifeq C (by omega) (tgt := 182) (by decide) dq_Mod_cut_96 (fun h96 => ?_) (fun h96 => ?_)
            · exfalso; omega
            · skip
              refine qv_lv [2] (lv' := [(0, .ref y)]) rfl ?_
              exact hup n hzn (by omega) (by unfold gu; first | (rw [if_neg (by omega)]; simp <;> omega) | (rw [if_pos (by omega)]; simp <;> omega))
          · skip
            refine qv_iload_n C rfl dq_Mod_cut_65 ?_
            refine qv_ifle C (by omega) (tgt := 86) (by decide) dq_Mod_cut_66 (fun h66 => ?_) (fun h66 => ?_)
            · skip
              refine qv_iconst C dq_Mod_cut_86 ?_
              refine qv_istore C (lv' := [(4, vi 0), (3, vi ((n : Nat) : Int)), (0, .ref y), (1, vj ((n : Nat) : Int))]) (by decide) rfl dq_Mod_cut_87 ?_
              refine qv_aload_n C rfl dq_Mod_cut_89 ?_
              refine qv_iload_n C rfl dq_Mod_cut_90 ?_
              refine qv_put C (ws' := [oc y 4 [vi er, vi (b2 mi), .ref dg, vi ((n : Nat) : Int), vi pl, vi 0, vi 0, .ref rw, vi ((mn : Nat) : Int), vi fr, vj fo, .ref bt, .ref wz, .ref lw, .ref hg, vi ((ls : Nat) : Int), vi lp, vi ((hs : Nat) : Int), vi hq], ai cI dg 800 d]) fl_Mod_61 fs_4_3 0 rfl rfl rfl (Nat.le_of_ble_eq_true rfl) rfl dq_Mod_cut_91 ?_
              refine qv_iload C rfl dq_Mod_cut_94 ?_
              refine qv_ifeq C (by omega) (tgt := 182) (by decide) dq_Mod_cut_96 (fun h96 => ?_) (fun h96 => ?_)
              · skip
                refine qv_lv [2] (lv' := [(0, .ref y)]) rfl ?_
                exact hdn n hzn (by omega) (by unfold gu; first | (rw [if_neg (by omega)]; simp <;> omega) | (rw [if_pos (by omega)]; simp <;> omega))
              · exfalso; omega
            · skip
              refine qv_aload_n C rfl dq_Mod_cut_69 ?_
              refine qv_get C fl_Mod_9 0 rfl rfl dq_Mod_cut_70 ?_
              refine qv_iload_n C rfl dq_Mod_cut_73 ?_
              refine qv_iconst C dq_Mod_cut_74 ?_
              refine qv_isub C (r := (((n - 1) : Nat) : Int)) (by omega) dq_Mod_cut_75 ?_
              refine qv_iald C 1 (n - 1) rfl (by omega) (by omega) (by omega) dq_Mod_cut_76 ?_
              refine qv_iconst C dq_Mod_cut_77 ?_
              refine qv_irem C (r := (((d (n - 1) % 2) : Nat) : Int)) (by omega) (by omega) (by omega) (by omega) (by omega) dq_Mod_cut_78 ?_
              refine qv_ifeq C (by omega) (tgt := 86) (by decide) dq_Mod_cut_79 (fun h79 => ?_) (fun h79 => ?_)
              · skip
                refine qv_iconst C dq_Mod_cut_86 ?_
                refine qv_istore C (lv' := [(4, vi 0), (3, vi ((n : Nat) : Int)), (0, .ref y), (1, vj ((n : Nat) : Int))]) (by decide) rfl dq_Mod_cut_87 ?_
                refine qv_aload_n C rfl dq_Mod_cut_89 ?_
                refine qv_iload_n C rfl dq_Mod_cut_90 ?_
                refine qv_put C (ws' := [oc y 4 [vi er, vi (b2 mi), .ref dg, vi ((n : Nat) : Int), vi pl, vi 0, vi 0, .ref rw, vi ((mn : Nat) : Int), vi fr, vj fo, .ref bt, .ref wz, .ref lw, .ref hg, vi ((ls : Nat) : Int), vi lp, vi ((hs : Nat) : Int), vi hq], ai cI dg 800 d]) fl_Mod_61 fs_4_3 0 rfl rfl rfl (Nat.le_of_ble_eq_true rfl) rfl dq_Mod_cut_91 ?_
                refine qv_iload C rfl dq_Mod_cut_94 ?_
                refine qv_ifeq C (by omega) (tgt := 182) (by decide) dq_Mod_cut_96 (fun h96 => ?_) (fun h96 => ?_)
                · skip
                  refine qv_lv [2] (lv' := [(0, .ref y)]) rfl ?_
                  exact hdn n hzn (by omega) (by unfold gu; first | (rw [if_neg (by omega)]; simp <;> omega) | (rw [if_pos (by omega)]; simp <;> omega))
                · exfalso; omega
              · skip
                refine qv_iconst C dq_Mod_cut_82 ?_
                refine qv_goto C (tgt := 87) (by decide) dq_Mod_cut_83 ?_
                refine qv_istore C (lv' := [(4, vi 1), (3, vi ((n : Nat) : Int)), (0, .ref y), (1, vj ((n : Nat) : Int))]) (by decide) rfl dq_Mod_cut_87 ?_
                refine qv_aload_n C rfl dq_Mod_cut_89 ?_
                refine qv_iload_n C rfl dq_Mod_cut_90 ?_
                refine qv_put C (ws' := [oc y 4 [vi er, vi (b2 mi), .ref dg, vi ((n : Nat) : Int), vi pl, vi 0, vi 0, .ref rw, vi ((mn : Nat) : Int), vi fr, vj fo, .ref bt, .ref wz, .ref lw, .ref hg, vi ((ls : Nat) : Int), vi lp, vi ((hs : Nat) : Int), vi hq], ai cI dg 800 d]) fl_Mod_61 fs_4_3 0 rfl rfl rfl (Nat.le_of_ble_eq_true rfl) rfl dq_Mod_cut_91 ?_
                refine qv_iload C rfl dq_Mod_cut_94 ?_
                refine qv_ifeq C (by omega) (tgt := 182) (by decide) dq_Mod_cut_96 (fun h96 => ?_) (fun h96 => ?_)
                · exfalso; omega
                · skip
                  refine qv_lv [2] (lv' := [(0, .ref y)]) rfl ?_
                  exact hup n hzn (by omega) (by unfold gu; first | (rw [if_neg (by omega)]; simp <;> omega) | (rw [if_pos (by omega)]; simp <;> omega))
    · skip
      refine qv_aload_n C rfl dq_Mod_cut_27 ?_
      refine qc_vV (wr := [ai cI dg 800 d]) (st := []) C cl_Mod_83 cd_Mod_nothing (c_Mod_nothing cI cJ y dg rw bt wz lw hg er mi nd pl 0 0 mn fr fo ls lp hs hq) (Xok_t K) Xbl_t [0] [1] rfl rfl (by decide) (by decide) (by decide) 0 rfl rfl rfl rfl rfl (Nat.le_of_ble_eq_true rfl) (by decide) (by decide) dq_Mod_cut_28 (fun u hu => ?_)
      obtain rfl := hu
      show V K 5 [ai cI dg 800 d, oc y 4 [vi er, vi (b2 mi), .ref dg, vi 0, vi 0, vi 0, vi 0, .ref rw, vi ((mn : Nat) : Int), vi fr, vj fo, .ref bt, .ref wz, .ref lw, .ref hg, vi ((ls : Nat) : Int), vi lp, vi ((hs : Nat) : Int), vi hq]] 0 0 31 [(0, .ref y), (1, vj z)] []
      refine qv_ws [1, 0] (ws' := [oc y 4 [vi er, vi (b2 mi), .ref dg, vi 0, vi 0, vi 0, vi 0, .ref rw, vi ((mn : Nat) : Int), vi fr, vj fo, .ref bt, .ref wz, .ref lw, .ref hg, vi ((ls : Nat) : Int), vi lp, vi ((hs : Nat) : Int), vi hq], ai cI dg 800 d]) (by decide) rfl ?_
      refine qv_vret C hR ?_ dq_Mod_cut_31 (by decide) (by decide)
      show _ = [mo _ _ _ _ _ _ _ _ _ _ _ _ _ _ _ _ _ _ _ _, _]
      rw [cL_neg (by omega), cP_neg (by omega), cF_neg (by omega)]; rfl
  · skip
    refine qv_vret C hR ?_ dq_Mod_cut_20 (by decide) (by decide)
    show _ = [mo _ _ _ _ _ _ _ _ _ _ _ _ _ _ _ _ _ _ _ _, _]
    rw [cL_ge (by omega), cP_ge (by omega), cF_ge (by omega)]; rfl

