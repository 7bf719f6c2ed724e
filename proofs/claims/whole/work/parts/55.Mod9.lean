set_option maxHeartbeats 20000000 in
theorem c_Mod_enough (cI cJ : ClassId) (y dg rw bt wz lw hg : Nat) (er : Int) (mi : Bool) (nd : Nat) (pl : Int) (zr : Nat) (bh : Int) (mn : Nat) (fr fo : Int) (ls : Nat) (lp : Int) (hs : Nat) (hq : Int) (d f bb wa la ha : Nat → Nat) (hK : Kd d nd pl) (hpl : -10000 ≤ pl ∧ pl ≤ 10000) (hf : ∀ i, f i ≤ 9) (hbb : ∀ i, bb i < 2) (hwa : ∀ i, wa i ≤ 9) (hla : ∀ i, la i ≤ 9) (hha : ∀ i, ha i ≤ 9) : MtI cI cJ ky_Mod_enough kb_Mod_enough 12 .int rm_Mod_enough Xt [.ref y] [oc y 4 [vi er, vi (b2 mi), .ref dg, vi ((nd : Nat) : Int), vi pl, vi ((zr : Nat) : Int), vi bh, .ref rw, vi ((mn : Nat) : Int), vi fr, vj fo, .ref bt, .ref wz, .ref lw, .ref hg, vi ((ls : Nat) : Int), vi lp, vi ((hs : Nat) : Int), vi hq], ai cI dg 800 d, ai cI rw 1200 f, ai cI bt 1100 bb, ai cI wz 800 wa, ai cI lw 1200 la, ai cI hg 1200 ha] (fun z u => ∃ (r : Nat) (f2 bb2 wa2 la2 ha2 d2 : Nat → Nat) (mn2 : Nat) (fr2 : Int) (ls2 : Nat) (lp2 : Int) (hs2 : Nat) (hq2 : Int), Ne d nd pl r ∧ (∀ i, f2 i ≤ 9) ∧ (∀ i, bb2 i < 2) ∧ (∀ i, wa2 i ≤ 9) ∧ (∀ i, la2 i ≤ 9) ∧ (∀ i, ha2 i ≤ 9) ∧ ((r = INF ∧ z = 0 ∧ u = [mo y dg rw bt wz lw hg 1 mi nd pl zr bh mn2 fr 0 ls lp hs hq, ai cI dg 800 d, ai cI rw 1200 f2, ai cI bt 1100 bb2, ai cI wz 800 wa, ai cI lw 1200 la, ai cI hg 1200 ha]) ∨ (r < INF ∧ ∃ n : Nat, z = ((n : Nat) : Int) ∧ (r = 0 → n = 0) ∧ (r ≠ 0 → En d nd pl r n) ∧ (∀ i, i < nd → d2 i = d i) ∧ (∀ i, d2 i ≤ 9) ∧ u = [mo y dg rw bt wz lw hg 0 mi (cL d2 nd (rz n)) (cP d2 nd (rz n) pl) 0 0 mn2 fr2 ((r : Nat) : Int) ls2 lp2 hs2 hq2, ai cI dg 800 (cF d2 nd (rz n)), ai cI rw 1200 f2, ai cI bt 1100 bb2, ai cI wz 800 wa2, ai cI lw 1200 la2, ai cI hg 1200 ha2]))) := by
  refine MtI_in (by decide) (Nat.le_of_ble_eq_true rfl) (fun K C hR hX hN => ?_)
  show V K 12 [oc y 4 [vi er, vi (b2 mi), .ref dg, vi ((nd : Nat) : Int), vi pl, vi ((zr : Nat) : Int), vi bh, .ref rw, vi ((mn : Nat) : Int), vi fr, vj fo, .ref bt, .ref wz, .ref lw, .ref hg, vi ((ls : Nat) : Int), vi lp, vi ((hs : Nat) : Int), vi hq], ai cI dg 800 d, ai cI rw 1200 f, ai cI bt 1100 bb, ai cI wz 800 wa, ai cI lw 1200 la, ai cI hg 1200 ha] 0 0 0 [(0, .ref y)] []
  obtain ⟨hd, hnd, hnz, hn0⟩ := id hK
  have hI : INF = 9218868437227405312 := rfl
  refine qv_aload_n C rfl dq_Mod_enough_0 ?_
  refine qv_iconst C dq_Mod_enough_1 ?_
  refine qv_put C (ws' := [oc y 4 [vi 0, vi (b2 mi), .ref dg, vi ((nd : Nat) : Int), vi pl, vi ((zr : Nat) : Int), vi bh, .ref rw, vi ((mn : Nat) : Int), vi fr, vj fo, .ref bt, .ref wz, .ref lw, .ref hg, vi ((ls : Nat) : Int), vi lp, vi ((hs : Nat) : Int), vi hq], ai cI dg 800 d, ai cI rw 1200 f, ai cI bt 1100 bb, ai cI wz 800 wa, ai cI lw 1200 la, ai cI hg 1200 ha]) fl_Mod_28 fs_4_0 0 rfl rfl rfl (Nat.le_of_ble_eq_true rfl) rfl dq_Mod_enough_2 ?_
  refine qv_aload_n C rfl dq_Mod_enough_5 ?_
  refine qv_aload_n C rfl dq_Mod_enough_6 ?_
  refine qv_aload_n C rfl dq_Mod_enough_7 ?_
  refine qv_get C fl_Mod_61 0 rfl rfl dq_Mod_enough_8 ?_
  refine qc_vI (wr := [ai cI wz 800 wa, ai cI lw 1200 la, ai cI hg 1200 ha]) (st := [.ref y]) C cl_Mod_110 cd_Mod_finds (c_Mod_finds cI cJ y dg rw bt wz lw hg 0 mi nd pl zr bh mn fr fo ls lp hs hq d f bb hK hpl hf hbb) (Xok_t K) Xbl_t [0, 1, 2, 3] [4, 5, 6] rfl rfl (by decide) (by decide) (by decide) 0 rfl rfl rfl rfl rfl (Nat.le_of_ble_eq_true rfl) (by decide) (by decide) dq_Mod_enough_11 (fun z u hu => ?_)
  obtain ⟨r, f2, bb2, mn2, hNe, hf2, hbb2, hcase⟩ := hu
  rcases hcase with ⟨hlt, rfl, rfl⟩ | ⟨heq, rfl, rfl⟩
  · show V K 12 [ai cI wz 800 wa, ai cI lw 1200 la, ai cI hg 1200 ha, oc y 4 [vi 0, vi (b2 mi), .ref dg, vi ((nd : Nat) : Int), vi pl, vi ((zr : Nat) : Int), vi bh, .ref rw, vi ((mn2 : Nat) : Int), vi fr, vj ((r : Nat) : Int), .ref bt, .ref wz, .ref lw, .ref hg, vi ((ls : Nat) : Int), vi lp, vi ((hs : Nat) : Int), vi hq], ai cI dg 800 d, ai cI rw 1200 f2, ai cI bt 1100 bb2] 0 0 14 [(0, .ref y)] [vi 1, .ref y]
    refine qv_ifne C (by omega) (tgt := 21) (by decide) dq_Mod_enough_14 (fun h14 => ?_) (fun h14 => ?_)
    · skip
      refine qv_iconst C dq_Mod_enough_21 ?_
      refine qv_iconst C dq_Mod_enough_22 ?_
      refine qc_vI (wr := [ai cI wz 800 wa, ai cI lw 1200 la, ai cI hg 1200 ha, ai cI dg 800 d, ai cI rw 1200 f2, ai cI bt 1100 bb2]) (st := []) C cl_Mod_32 cd_Mod_fails (c_Mod_fails cI cJ y dg rw bt wz lw hg mi nd pl zr bh mn2 fr ((r : Nat) : Int) ls lp hs hq false 1 (by omega)) (Xok_t K) Xbl_t [3] [0, 1, 2, 4, 5, 6] rfl rfl (by decide) (by decide) (by decide) 0 rfl rfl rfl rfl rfl (Nat.le_of_ble_eq_true rfl) (by decide) (by decide) dq_Mod_enough_23 (fun z u hu => ?_)
      obtain ⟨rfl, rfl⟩ := hu
      show V K 12 [ai cI wz 800 wa, ai cI lw 1200 la, ai cI hg 1200 ha, ai cI dg 800 d, ai cI rw 1200 f2, ai cI bt 1100 bb2, oc y 4 [vi 0, vi (b2 mi), .ref dg, vi ((nd : Nat) : Int), vi pl, vi ((zr : Nat) : Int), vi bh, .ref rw, vi ((mn2 : Nat) : Int), vi fr, vj ((r : Nat) : Int), .ref bt, .ref wz, .ref lw, .ref hg, vi ((ls : Nat) : Int), vi lp, vi ((hs : Nat) : Int), vi hq]] 0 0 26 [(0, .ref y)] [vi 0]
      refine qv_ifeq C (by omega) (tgt := 31) (by decide) dq_Mod_enough_26 (fun h26 => ?_) (fun h26 => ?_)
      · skip
        refine qv_ws [6, 3, 4, 5, 0, 1, 2] (ws' := [oc y 4 [vi 0, vi (b2 mi), .ref dg, vi ((nd : Nat) : Int), vi pl, vi ((zr : Nat) : Int), vi bh, .ref rw, vi ((mn2 : Nat) : Int), vi fr, vj ((r : Nat) : Int), .ref bt, .ref wz, .ref lw, .ref hg, vi ((ls : Nat) : Int), vi lp, vi ((hs : Nat) : Int), vi hq], ai cI dg 800 d, ai cI rw 1200 f2, ai cI bt 1100 bb2, ai cI wz 800 wa, ai cI lw 1200 la, ai cI hg 1200 ha]) (by decide) rfl ?_
        have hfl := fc_lt r
        have hpl2 := pw_lt (show r < 9218868437227405312 by omega)
        have hpe : pw r = max (r / 4503599627370496) 1 - 1 := rfl
        have hrange : r ≠ 0 → 0 < nd ∧ -330 ≤ pl ∧ pl ≤ 310 := by
          intro q
          rcases hNe with h | h | h | ⟨h1, h2, h3, -⟩ <;> omega
        have hfcE : r / 4503599627370496 ≠ 0 → fc r = 1 * 2 ^ 52 + r % 4503599627370496 := by
          intro q; unfold fc; rw [if_neg (by omega)]; omega
        have hfcZ : r / 4503599627370496 = 0 → fc r = r % 4503599627370496 := by
          intro q; unfold fc; rw [if_pos (by omega)]; omega
        have hpar := fc_par r
        refine qv_aload_n C rfl dq_Mod_enough_31 ?_
        refine qv_get C fl_Mod_96 0 rfl rfl dq_Mod_enough_32 ?_
        refine qv_bipush C (by decide) dq_Mod_enough_35 ?_
        refine qv_lushr C r 52 (by omega) (by omega) (by omega) (by omega) dq_Mod_enough_37 ?_
        refine qv_l2i C dq_Mod_enough_38 ?_
        refine qv_ti (r := ((r / 4503599627370496 : Nat) : Int)) (by omega) ?_
        refine qv_istore_n C (lv' := [(1, vi (((r / 4503599627370496) : Nat) : Int)), (0, .ref y)]) (by decide) rfl dq_Mod_enough_39 ?_
        have sec : ∀ (f3 : Nat → Nat) (n3 fr3 : Nat), Rw f3 n3 fr3 (2 * fc r + 1) ((((pw r : Nat) : Int) - 1075) + 1076).toNat → n3 ≤ 1200 → fr3 ≤ 1075 → (2 * fc r + 1) * 2 ^ ((((pw r : Nat) : Int) - 1075) + 1076).toNat = md r * 2 → V K 12 [oc y 4 [vi 0, vi (b2 mi), .ref dg, vi ((nd : Nat) : Int), vi pl, vi ((zr : Nat) : Int), vi bh, .ref rw, vi ((dz f3 n3 : Nat) : Int), vi ((fr3 : Int) - ((n3 : Int) - ((dz f3 n3 : Nat) : Int))), vj ((r : Nat) : Int), .ref bt, .ref wz, .ref lw, .ref hg, vi ((ls : Nat) : Int), vi lp, vi ((dz f3 n3 : Nat) : Int), vi (((n3 : Nat) : Int) - ((fr3 : Nat) : Int))], ai cI dg 800 d, ai cI rw 1200 f3, ai cI bt 1100 bb2, ai cI wz 800 wa, ai cI lw 1200 la, ai cI hg 1200 ha] 0 0 128 [(0, .ref y), (1, vi (((r / 4503599627370496) : Nat) : Int)), (2, vi (((pw r : Nat) : Int) - 1074)), (3, vj ((fc r : Nat) : Int)), (5, vi (b2 (decide (r % 2 = 0)))), (6, vi 0)] [] := by
          intro f3 n3 fr3 hR3 hn3 hfr3 hv3
          have hMH := MidR_of (r := r) (g := cpd ha f3 (dz f3 n3)) hR3 hn3 hfr3 hv3 (cpd_9 hha hR3.1 _) (fun i hi => cpd_lt hi)
          obtain ⟨Hv, hHve⟩ : ∃ L, L = sv 1200 (cpd ha f3 (dz f3 n3)) (dz f3 n3) ((n3 : Int) - fr3) := ⟨_, rfl⟩
          have hHv : Hv * 2 ^ 1075 = md r * 10 ^ 1200 := by rw [hHve]; exact hMH.2.2.2.2.2.2.2
          have hha3 := hMH.2.2.2.2.2.2.1
          have hdl3 := dz_le f3 n3
          have ch3 : ∀ n2 k, k + n2 = dz f3 n3 → V K 12 [oc y 4 [vi 0, vi (b2 mi), .ref dg, vi ((nd : Nat) : Int), vi pl, vi ((zr : Nat) : Int), vi bh, .ref rw, vi ((dz f3 n3 : Nat) : Int), vi ((fr3 : Int) - ((n3 : Int) - ((dz f3 n3 : Nat) : Int))), vj ((r : Nat) : Int), .ref bt, .ref wz, .ref lw, .ref hg, vi ((ls : Nat) : Int), vi lp, vi ((dz f3 n3 : Nat) : Int), vi (((n3 : Nat) : Int) - ((fr3 : Nat) : Int))], ai cI dg 800 d, ai cI rw 1200 f3, ai cI bt 1100 bb2, ai cI wz 800 wa, ai cI lw 1200 la, ai cI hg 1200 (cpd ha f3 k)] 0 0 128 [(0, .ref y), (1, vi (((r / 4503599627370496) : Nat) : Int)), (2, vi (((pw r : Nat) : Int) - 1074)), (3, vj ((fc r : Nat) : Int)), (5, vi (b2 (decide (r % 2 = 0)))), (6, vi ((k : Nat) : Int))] [] := by
            intro n2
            induction n2 with
            | zero =>
              intro k hk
              have ek : k = dz f3 n3 := by omega
              rw [ek]
              by_cases hr0 : r = 0
              · have hfcz : fc r = 0 := by rw [hr0]; rfl
                have hf3' := hR3.1
                have hla3 := hla
                refine qv_iload C rfl dq_Mod_enough_128 ?_
                refine qv_aload_n C rfl dq_Mod_enough_130 ?_
                refine qv_get C fl_Mod_40 0 rfl rfl dq_Mod_enough_131 ?_
                refine qv_icge C (by omega) (by omega) (tgt := 157) (by decide) dq_Mod_enough_134 (fun h134 => ?_) (fun h134 => ?_)
                · skip
                  refine qv_lload_n C rfl dq_Mod_enough_157 ?_
                  refine qv_ldc2 C (z := 4503599627370496) wk_Mod_38 dq_Mod_enough_158 ?_
                  refine qv_lcne C (by omega) (by omega) dq_Mod_enough_161 (tgt := 174) (by decide) dq_Mod_enough_162 (fun h161 => ?_) (fun h161 => ?_)
                  · skip
                    refine qv_iconst C dq_Mod_enough_174 ?_
                    refine qv_istore C (lv' := [(6, vi 0), (0, .ref y), (1, vi (((r / 4503599627370496) : Nat) : Int)), (2, vi (((pw r : Nat) : Int) - 1074)), (3, vj ((fc r : Nat) : Int)), (5, vi (b2 (decide (r % 2 = 0))))]) (by decide) rfl dq_Mod_enough_175 ?_
                    refine qv_lload_n C rfl dq_Mod_enough_177 ?_
                    refine qv_lconst C (z := 0) (by decide) dq_Mod_enough_178 ?_
                    refine qv_lcle C (by omega) (by omega) dq_Mod_enough_179 (tgt := 223) (by decide) dq_Mod_enough_180 (fun h179 => ?_) (fun h179 => ?_)
                    · skip
                      refine qv_aload_n C rfl dq_Mod_enough_223 ?_
                      refine qv_lload_n C rfl dq_Mod_enough_224 ?_
                      refine qv_lconst C (z := 0) (by decide) dq_Mod_enough_225 ?_
                      refine qv_lcle C (by omega) (by omega) dq_Mod_enough_226 (tgt := 237) (by decide) dq_Mod_enough_227 (fun h226 => ?_) (fun h226 => ?_)
                      · skip
                        refine qv_iconst C dq_Mod_enough_237 ?_
                        refine qv_put C (ws' := [oc y 4 [vi 0, vi (b2 mi), .ref dg, vi ((nd : Nat) : Int), vi pl, vi ((zr : Nat) : Int), vi bh, .ref rw, vi ((dz f3 n3 : Nat) : Int), vi ((fr3 : Int) - ((n3 : Int) - ((dz f3 n3 : Nat) : Int))), vj ((r : Nat) : Int), .ref bt, .ref wz, .ref lw, .ref hg, vi 0, vi lp, vi ((dz f3 n3 : Nat) : Int), vi (((n3 : Nat) : Int) - ((fr3 : Nat) : Int))], ai cI dg 800 d, ai cI rw 1200 f3, ai cI bt 1100 bb2, ai cI wz 800 wa, ai cI lw 1200 la, ai cI hg 1200 (cpd ha f3 (dz f3 n3))]) fl_Mod_130 fs_4_15 0 rfl rfl rfl (Nat.le_of_ble_eq_true rfl) rfl dq_Mod_enough_238 ?_
                        refine qv_aload_n C rfl dq_Mod_enough_241 ?_
                        refine qv_aload_n C rfl dq_Mod_enough_242 ?_
                        refine qv_get C fl_Mod_40 0 rfl rfl dq_Mod_enough_243 ?_
                        refine qv_aload_n C rfl dq_Mod_enough_246 ?_
                        refine qv_get C fl_Mod_43 0 rfl rfl dq_Mod_enough_247 ?_
                        refine qv_isub C (r := (((n3 : Nat) : Int) - ((fr3 : Nat) : Int))) (by omega) dq_Mod_enough_250 ?_
                        refine qv_put C (ws' := [oc y 4 [vi 0, vi (b2 mi), .ref dg, vi ((nd : Nat) : Int), vi pl, vi ((zr : Nat) : Int), vi bh, .ref rw, vi ((dz f3 n3 : Nat) : Int), vi ((fr3 : Int) - ((n3 : Int) - ((dz f3 n3 : Nat) : Int))), vj ((r : Nat) : Int), .ref bt, .ref wz, .ref lw, .ref hg, vi 0, vi (((n3 : Nat) : Int) - ((fr3 : Nat) : Int)), vi ((dz f3 n3 : Nat) : Int), vi (((n3 : Nat) : Int) - ((fr3 : Nat) : Int))], ai cI dg 800 d, ai cI rw 1200 f3, ai cI bt 1100 bb2, ai cI wz 800 wa, ai cI lw 1200 la, ai cI hg 1200 (cpd ha f3 (dz f3 n3))]) fl_Mod_133 fs_4_16 0 rfl rfl rfl (Nat.le_of_ble_eq_true rfl) rfl dq_Mod_enough_251 ?_
                        refine qv_iconst C dq_Mod_enough_254 ?_
                        refine qv_istore C (lv' := [(7, vi 0), (6, vi 0), (0, .ref y), (1, vi (((r / 4503599627370496) : Nat) : Int)), (2, vi (((pw r : Nat) : Int) - 1074)), (3, vj ((fc r : Nat) : Int)), (5, vi (b2 (decide (r % 2 = 0))))]) (by decide) rfl dq_Mod_enough_255 ?_
                        refine qv_lv [2, 5, 6, 0] (lv' := [(0, .ref y), (3, vj ((fc r : Nat) : Int)), (5, vi (b2 (decide (r % 2 = 0)))), (7, vi 0)]) rfl ?_
                        refine qv_iload C rfl dq_Mod_enough_257 ?_
                        refine qv_aload_n C rfl dq_Mod_enough_259 ?_
                        refine qv_get C fl_Mod_130 0 rfl rfl dq_Mod_enough_260 ?_
                        refine qv_icge C (by omega) (by omega) (tgt := 286) (by decide) dq_Mod_enough_263 (fun h263 => ?_) (fun h263 => ?_)
                        · skip
                          refine qv_aload_n C rfl dq_Mod_enough_286 ?_
                          refine qv_get C fl_Mod_61 0 rfl rfl dq_Mod_enough_287 ?_
                          refine qv_istore C (lv' := [(7, vi ((nd : Nat) : Int)), (0, .ref y), (3, vj ((fc r : Nat) : Int)), (5, vi (b2 (decide (r % 2 = 0))))]) (by decide) rfl dq_Mod_enough_290 ?_
                          refine qv_aload_n C rfl dq_Mod_enough_292 ?_
                          refine qv_get C fl_Mod_64 0 rfl rfl dq_Mod_enough_293 ?_
                          refine qv_istore C (lv' := [(8, vi pl), (7, vi ((nd : Nat) : Int)), (0, .ref y), (3, vj ((fc r : Nat) : Int)), (5, vi (b2 (decide (r % 2 = 0))))]) (by decide) rfl dq_Mod_enough_296 ?_
                          refine qv_iconst C dq_Mod_enough_298 ?_
                          refine qv_istore C (lv' := [(9, vi 0), (8, vi pl), (7, vi ((nd : Nat) : Int)), (0, .ref y), (3, vj ((fc r : Nat) : Int)), (5, vi (b2 (decide (r % 2 = 0))))]) (by decide) rfl dq_Mod_enough_299 ?_
                          refine qv_lv [3, 4, 5, 2, 1, 0] (lv' := [(0, .ref y), (3, vj ((fc r : Nat) : Int)), (5, vi (b2 (decide (r % 2 = 0)))), (7, vi ((nd : Nat) : Int)), (8, vi pl), (9, vi 0)]) rfl ?_
                          have cw : ∀ n2 k, k + n2 = nd → V K 12 [oc y 4 [vi 0, vi (b2 mi), .ref dg, vi ((nd : Nat) : Int), vi pl, vi ((zr : Nat) : Int), vi bh, .ref rw, vi ((dz f3 n3 : Nat) : Int), vi ((fr3 : Int) - ((n3 : Int) - ((dz f3 n3 : Nat) : Int))), vj ((r : Nat) : Int), .ref bt, .ref wz, .ref lw, .ref hg, vi 0, vi (((n3 : Nat) : Int) - ((fr3 : Nat) : Int)), vi ((dz f3 n3 : Nat) : Int), vi (((n3 : Nat) : Int) - ((fr3 : Nat) : Int))], ai cI dg 800 d, ai cI rw 1200 f3, ai cI bt 1100 bb2, ai cI wz 800 (cpd wa d k), ai cI lw 1200 la, ai cI hg 1200 (cpd ha f3 (dz f3 n3))] 0 0 301 [(0, .ref y), (3, vj ((fc r : Nat) : Int)), (5, vi (b2 (decide (r % 2 = 0)))), (7, vi ((nd : Nat) : Int)), (8, vi pl), (9, vi ((k : Nat) : Int))] [] := by
                            intro n2
                            induction n2 with
                            | zero =>
                              intro k hk
                              have ek : k = nd := by omega
                              rw [ek]
                              refine qv_iload C rfl dq_Mod_enough_301 ?_
                              refine qv_iload C rfl dq_Mod_enough_303 ?_
                              refine qv_icge C (by omega) (by omega) (tgt := 328) (by decide) dq_Mod_enough_305 (fun h305 => ?_) (fun h305 => ?_)
                              · skip
                                refine qv_iconst C dq_Mod_enough_328 ?_
                                refine qv_istore C (lv' := [(9, vi 0), (0, .ref y), (3, vj ((fc r : Nat) : Int)), (5, vi (b2 (decide (r % 2 = 0)))), (7, vi ((nd : Nat) : Int)), (8, vi pl)]) (by decide) rfl dq_Mod_enough_329 ?_
                                refine qv_lv [1, 2, 3, 4, 5, 0] (lv' := [(0, .ref y), (3, vj ((fc r : Nat) : Int)), (5, vi (b2 (decide (r % 2 = 0)))), (7, vi ((nd : Nat) : Int)), (8, vi pl), (9, vi 0)]) rfl ?_
                                obtain ⟨d2, hd2⟩ : ∃ d2, d2 = cpd d (cpd wa d nd) nd := ⟨_, rfl⟩
                                have hd29 : ∀ i, d2 i ≤ 9 := by rw [hd2]; exact cpd_9 hd (cpd_9 hwa hd nd) nd
                                have hag0 : ∀ i, i < nd → d2 i = d i := fun i hi => by rw [hd2, cpd_lt hi, cpd_lt hi]
                                have hwa3 : ∀ i, cpd wa d nd i ≤ 9 := cpd_9 hwa hd nd
                                have hKz : Nrm d2 0 := ⟨fun i hi => by omega, fun q => by omega⟩
                                have bod0 : V K 12 [oc y 4 [vi 0, vi (b2 mi), .ref dg, vi ((nd : Nat) : Int), vi pl, vi ((zr : Nat) : Int), vi bh, .ref rw, vi ((dz f3 n3 : Nat) : Int), vi ((fr3 : Int) - ((n3 : Int) - ((dz f3 n3 : Nat) : Int))), vj ((r : Nat) : Int), .ref bt, .ref wz, .ref lw, .ref hg, vi 0, vi (((n3 : Nat) : Int) - ((fr3 : Nat) : Int)), vi ((dz f3 n3 : Nat) : Int), vi (((n3 : Nat) : Int) - ((fr3 : Nat) : Int))], ai cI dg 800 d2, ai cI rw 1200 f3, ai cI bt 1100 bb2, ai cI wz 800 (cpd wa d nd), ai cI lw 1200 la, ai cI hg 1200 (cpd ha f3 (dz f3 n3))] 0 0 380 [(0, .ref y), (3, vj ((fc r : Nat) : Int)), (5, vi (b2 (decide (r % 2 = 0)))), (7, vi ((nd : Nat) : Int)), (8, vi pl), (9, vi 0)] [] := by
                                  refine qv_aload_n C rfl dq_Mod_enough_380 ?_
                                  refine qv_iload C rfl dq_Mod_enough_381 ?_
                                  refine qv_ifle C (by omega) (tgt := 392) (by decide) dq_Mod_enough_383 (fun h383 => ?_) (fun h383 => ?_)
                                  · skip
                                    refine qv_ldc2 C (z := (-1)) wk_Mod_88 dq_Mod_enough_392 ?_
                                    refine qc_vV (wr := [ai cI rw 1200 f3, ai cI bt 1100 bb2, ai cI wz 800 (cpd wa d nd), ai cI lw 1200 la, ai cI hg 1200 (cpd ha f3 (dz f3 n3))]) (st := []) C cl_Mod_90 cd_Mod_cut (c_Mod_cut cI cJ y dg rw bt wz lw hg 0 mi nd pl zr bh (dz f3 n3) ((fr3 : Int) - ((n3 : Int) - ((dz f3 n3 : Nat) : Int))) ((r : Nat) : Int) 0 (((n3 : Nat) : Int) - ((fr3 : Nat) : Int)) (dz f3 n3) (((n3 : Nat) : Int) - ((fr3 : Nat) : Int)) d2 (-1) hd29 hnd (by omega)) (Xok_t K) Xbl_t [0, 1] [2, 3, 4, 5, 6] rfl rfl (by decide) (by decide) (by decide) 0 rfl rfl rfl rfl rfl (Nat.le_of_ble_eq_true rfl) (by decide) (by decide) dq_Mod_enough_395 (fun u hu => ?_)
                                    obtain rfl := hu
                                    rw [cL_neg (by omega), cP_neg (by omega), cF_neg (by omega)]
                                    show V K 12 [ai cI rw 1200 f3, ai cI bt 1100 bb2, ai cI wz 800 (cpd wa d nd), ai cI lw 1200 la, ai cI hg 1200 (cpd ha f3 (dz f3 n3)), oc y 4 [vi 0, vi (b2 mi), .ref dg, vi ((0 : Nat) : Int), vi 0, vi 0, vi 0, .ref rw, vi ((dz f3 n3 : Nat) : Int), vi ((fr3 : Int) - ((n3 : Int) - ((dz f3 n3 : Nat) : Int))), vj ((r : Nat) : Int), .ref bt, .ref wz, .ref lw, .ref hg, vi 0, vi (((n3 : Nat) : Int) - ((fr3 : Nat) : Int)), vi ((dz f3 n3 : Nat) : Int), vi (((n3 : Nat) : Int) - ((fr3 : Nat) : Int))], ai cI dg 800 d2] 0 0 398 [(0, .ref y), (3, vj ((fc r : Nat) : Int)), (5, vi (b2 (decide (r % 2 = 0)))), (7, vi ((nd : Nat) : Int)), (8, vi pl), (9, vi 0)] []
                                    refine qv_lload_n C rfl dq_Mod_enough_398 ?_
                                    refine qv_lconst C (z := 0) (by decide) dq_Mod_enough_399 ?_
                                    refine qv_lcle C (by omega) (by omega) dq_Mod_enough_400 (tgt := 423) (by decide) dq_Mod_enough_401 (fun h400 => ?_) (fun h400 => ?_)
                                    · skip
                                      refine qv_iconst C dq_Mod_enough_423 ?_
                                      refine qv_istore C (lv' := [(10, vi 1), (0, .ref y), (3, vj ((fc r : Nat) : Int)), (5, vi (b2 (decide (r % 2 = 0)))), (7, vi ((nd : Nat) : Int)), (8, vi pl), (9, vi 0)]) (by decide) rfl dq_Mod_enough_424 ?_
                                      refine qv_aload_n C rfl dq_Mod_enough_426 ?_
                                      refine qv_aload_n C rfl dq_Mod_enough_427 ?_
                                      refine qv_get C fl_Mod_25 5 rfl rfl dq_Mod_enough_428 ?_
                                      refine qv_aload_n C rfl dq_Mod_enough_431 ?_
                                      refine qv_get C fl_Mod_122 5 rfl rfl dq_Mod_enough_432 ?_
                                      refine qv_aload_n C rfl dq_Mod_enough_435 ?_
                                      refine qv_get C fl_Mod_125 5 rfl rfl dq_Mod_enough_436 ?_
                                      refine qc_vI (wr := [ai cI rw 1200 f3, ai cI bt 1100 bb2, ai cI wz 800 (cpd wa d nd), ai cI lw 1200 la]) (st := []) C cl_Mod_136 cd_Mod_compare (c_Mod_compare cI cJ y dg rw bt wz lw hg 0 mi 0 0 0 0 (dz f3 n3) ((fr3 : Int) - ((n3 : Int) - ((dz f3 n3 : Nat) : Int))) ((r : Nat) : Int) 0 (((n3 : Nat) : Int) - ((fr3 : Nat) : Int)) (dz f3 n3) (((n3 : Nat) : Int) - ((fr3 : Nat) : Int)) d2 (cpd ha f3 (dz f3 n3)) hg (dz f3 n3) (((n3 : Nat) : Int) - ((fr3 : Nat) : Int)) hKz hMH.1 hd29 hMH.2.2.2.2.2.2.1 (by omega) (by omega) (by omega) (by omega) (by omega) (by omega)) (Xok_t K) Xbl_t [5, 6, 4] [0, 1, 2, 3] rfl rfl (by decide) (by decide) (by decide) 0 rfl rfl rfl rfl rfl (Nat.le_of_ble_eq_true rfl) (by decide) (by decide) dq_Mod_enough_439 (fun z u hu => ?_)
                                      obtain ⟨hCb, hzhCb, rfl⟩ := hu
                                      rw [sv_n0] at hCb
                                      have hphCb := MidR_pos hMH
                                      show V K 12 [ai cI rw 1200 f3, ai cI bt 1100 bb2, ai cI wz 800 (cpd wa d nd), ai cI lw 1200 la, oc y 4 [vi 0, vi (b2 mi), .ref dg, vi ((0 : Nat) : Int), vi 0, vi 0, vi 0, .ref rw, vi ((dz f3 n3 : Nat) : Int), vi ((fr3 : Int) - ((n3 : Int) - ((dz f3 n3 : Nat) : Int))), vj ((r : Nat) : Int), .ref bt, .ref wz, .ref lw, .ref hg, vi 0, vi (((n3 : Nat) : Int) - ((fr3 : Nat) : Int)), vi ((dz f3 n3 : Nat) : Int), vi (((n3 : Nat) : Int) - ((fr3 : Nat) : Int))], ai cI dg 800 d2, ai cI hg 1200 (cpd ha f3 (dz f3 n3))] 0 0 442 [(10, vi 1), (0, .ref y), (3, vj ((fc r : Nat) : Int)), (5, vi (b2 (decide (r % 2 = 0)))), (7, vi ((nd : Nat) : Int)), (8, vi pl), (9, vi 0)] [vi z]
                                      refine qv_istore C (lv' := [(11, vi z), (10, vi 1), (0, .ref y), (3, vj ((fc r : Nat) : Int)), (5, vi (b2 (decide (r % 2 = 0)))), (7, vi ((nd : Nat) : Int)), (8, vi pl), (9, vi 0)]) (by decide) rfl dq_Mod_enough_442 ?_
                                      refine qv_iload C rfl dq_Mod_enough_444 ?_
                                      refine qv_ifgt C (by omega) (tgt := 459) (by decide) dq_Mod_enough_446 (fun h446 => ?_) (fun h446 => ?_)
                                      · skip
                                        refine qv_iload C rfl dq_Mod_enough_459 ?_
                                        refine qv_iflt C (by omega) (tgt := 474) (by decide) dq_Mod_enough_461 (fun h461 => ?_) (fun h461 => ?_)
                                        · skip
                                          refine qv_iload C rfl dq_Mod_enough_474 ?_
                                          refine qv_ws [4, 5, 0, 1, 2, 3, 6] (ws' := [oc y 4 [vi 0, vi (b2 mi), .ref dg, vi ((0 : Nat) : Int), vi 0, vi 0, vi 0, .ref rw, vi ((dz f3 n3 : Nat) : Int), vi ((fr3 : Int) - ((n3 : Int) - ((dz f3 n3 : Nat) : Int))), vj ((r : Nat) : Int), .ref bt, .ref wz, .ref lw, .ref hg, vi 0, vi (((n3 : Nat) : Int) - ((fr3 : Nat) : Int)), vi ((dz f3 n3 : Nat) : Int), vi (((n3 : Nat) : Int) - ((fr3 : Nat) : Int))], ai cI dg 800 d2, ai cI rw 1200 f3, ai cI bt 1100 bb2, ai cI wz 800 (cpd wa d nd), ai cI lw 1200 la, ai cI hg 1200 (cpd ha f3 (dz f3 n3))]) (by decide) rfl ?_
                                          refine qv_iret C hR ?_ dq_Mod_enough_476 (by decide) (by decide)
                                          exact ⟨r, f3, bb2, (cpd wa d nd), la, (cpd ha f3 (dz f3 n3)), d2, (dz f3 n3), ((fr3 : Int) - ((n3 : Int) - ((dz f3 n3 : Nat) : Int))), 0, (((n3 : Nat) : Int) - ((fr3 : Nat) : Int)), (dz f3 n3), (((n3 : Nat) : Int) - ((fr3 : Nat) : Int)), hNe, hf3', hbb2, hwa3, hla3, hha3, Or.inr ⟨hlt, 0, rfl, fun _ => rfl, fun q => absurd hr0 q, hag0, hd29, rfl⟩⟩
                                        · skip
                                          refine qv_iload C rfl dq_Mod_enough_464 ?_
                                          refine qv_ifne C (by omega) (tgt := 477) (by decide) dq_Mod_enough_466 (fun h466 => ?_) (fun h466 => ?_)
                                          · skip
                                            refine qv_iinc C (j := 7) (lv' := [(9, vi 1), (11, vi z), (10, vi 1), (0, .ref y), (3, vj ((fc r : Nat) : Int)), (5, vi (b2 (decide (r % 2 = 0)))), (7, vi ((nd : Nat) : Int)), (8, vi pl)]) (by omega) rfl (by decide) rfl dq_Mod_enough_477 ?_
                                            refine qv_goto C (tgt := 331) (by decide) dq_Mod_enough_480 ?_
                                            exfalso
                                            unfold Cs at hCb
                                            omega
                                          · skip
                                            refine qv_iload C rfl dq_Mod_enough_469 ?_
                                            refine qv_ifeq C (rb_b2 _) (tgt := 477) (by decide) dq_Mod_enough_471 (fun h471 => ?_) (fun h471 => ?_)
                                            · skip
                                              refine qv_iinc C (j := 7) (lv' := [(9, vi 1), (11, vi z), (10, vi 1), (0, .ref y), (3, vj ((fc r : Nat) : Int)), (5, vi (b2 (decide (r % 2 = 0)))), (7, vi ((nd : Nat) : Int)), (8, vi pl)]) (by omega) rfl (by decide) rfl dq_Mod_enough_477 ?_
                                              refine qv_goto C (tgt := 331) (by decide) dq_Mod_enough_480 ?_
                                              exfalso
                                              unfold Cs at hCb
                                              omega
                                            · skip
                                              refine qv_iload C rfl dq_Mod_enough_474 ?_
                                              refine qv_ws [4, 5, 0, 1, 2, 3, 6] (ws' := [oc y 4 [vi 0, vi (b2 mi), .ref dg, vi ((0 : Nat) : Int), vi 0, vi 0, vi 0, .ref rw, vi ((dz f3 n3 : Nat) : Int), vi ((fr3 : Int) - ((n3 : Int) - ((dz f3 n3 : Nat) : Int))), vj ((r : Nat) : Int), .ref bt, .ref wz, .ref lw, .ref hg, vi 0, vi (((n3 : Nat) : Int) - ((fr3 : Nat) : Int)), vi ((dz f3 n3 : Nat) : Int), vi (((n3 : Nat) : Int) - ((fr3 : Nat) : Int))], ai cI dg 800 d2, ai cI rw 1200 f3, ai cI bt 1100 bb2, ai cI wz 800 (cpd wa d nd), ai cI lw 1200 la, ai cI hg 1200 (cpd ha f3 (dz f3 n3))]) (by decide) rfl ?_
                                              refine qv_iret C hR ?_ dq_Mod_enough_476 (by decide) (by decide)
                                              exact ⟨r, f3, bb2, (cpd wa d nd), la, (cpd ha f3 (dz f3 n3)), d2, (dz f3 n3), ((fr3 : Int) - ((n3 : Int) - ((dz f3 n3 : Nat) : Int))), 0, (((n3 : Nat) : Int) - ((fr3 : Nat) : Int)), (dz f3 n3), (((n3 : Nat) : Int) - ((fr3 : Nat) : Int)), hNe, hf3', hbb2, hwa3, hla3, hha3, Or.inr ⟨hlt, 0, rfl, fun _ => rfl, fun q => absurd hr0 q, hag0, hd29, rfl⟩⟩
                                      · exfalso; omega
                                    · exfalso; omega
                                  · exfalso; omega
                                have rst0 : ∀ n2 k, k + n2 = nd → V K 12 [oc y 4 [vi 0, vi (b2 mi), .ref dg, vi ((nd : Nat) : Int), vi pl, vi ((zr : Nat) : Int), vi bh, .ref rw, vi ((dz f3 n3 : Nat) : Int), vi ((fr3 : Int) - ((n3 : Int) - ((dz f3 n3 : Nat) : Int))), vj ((r : Nat) : Int), .ref bt, .ref wz, .ref lw, .ref hg, vi 0, vi (((n3 : Nat) : Int) - ((fr3 : Nat) : Int)), vi ((dz f3 n3 : Nat) : Int), vi (((n3 : Nat) : Int) - ((fr3 : Nat) : Int))], ai cI dg 800 (cpd d (cpd wa d nd) k), ai cI rw 1200 f3, ai cI bt 1100 bb2, ai cI wz 800 (cpd wa d nd), ai cI lw 1200 la, ai cI hg 1200 (cpd ha f3 (dz f3 n3))] 0 0 353 [(0, .ref y), (3, vj ((fc r : Nat) : Int)), (5, vi (b2 (decide (r % 2 = 0)))), (7, vi ((nd : Nat) : Int)), (8, vi pl), (9, vi 0), (10, vi ((k : Nat) : Int))] [] := by
                                  intro n2
                                  induction n2 with
                                  | zero =>
                                    intro k hk
                                    have ek : k = nd := by omega
                                    rw [ek, ← hd2]
                                    refine qv_iload C rfl dq_Mod_enough_353 ?_
                                    refine qv_iload C rfl dq_Mod_enough_355 ?_
                                    refine qv_icge C (by omega) (by omega) (tgt := 380) (by decide) dq_Mod_enough_357 (fun h357 => ?_) (fun h357 => ?_)
                                    · skip
                                      refine qv_lv [0, 1, 2, 3, 4, 5] (lv' := [(0, .ref y), (3, vj ((fc r : Nat) : Int)), (5, vi (b2 (decide (r % 2 = 0)))), (7, vi ((nd : Nat) : Int)), (8, vi pl), (9, vi 0)]) rfl ?_
                                      exact bod0
                                    · exfalso; omega
                                  | succ n2 ih2 =>
                                    intro k hk
                                    refine qv_iload C rfl dq_Mod_enough_353 ?_
                                    refine qv_iload C rfl dq_Mod_enough_355 ?_
                                    refine qv_icge C (by omega) (by omega) (tgt := 380) (by decide) dq_Mod_enough_357 (fun h357 => ?_) (fun h357 => ?_)
                                    · exfalso; omega
                                    · skip
                                      refine qv_aload_n C rfl dq_Mod_enough_360 ?_
                                      refine qv_get C fl_Mod_9 0 rfl rfl dq_Mod_enough_361 ?_
                                      refine qv_iload C rfl dq_Mod_enough_364 ?_
                                      refine qv_aload_n C rfl dq_Mod_enough_366 ?_
                                      refine qv_get C fl_Mod_19 0 rfl rfl dq_Mod_enough_367 ?_
                                      refine qv_iload C rfl dq_Mod_enough_370 ?_
                                      refine qv_iald C 4 k rfl (by omega) (by omega) (by omega) dq_Mod_enough_372 ?_
                                      refine qv_iast C (ws' := [oc y 4 [vi 0, vi (b2 mi), .ref dg, vi ((nd : Nat) : Int), vi pl, vi ((zr : Nat) : Int), vi bh, .ref rw, vi ((dz f3 n3 : Nat) : Int), vi ((fr3 : Int) - ((n3 : Int) - ((dz f3 n3 : Nat) : Int))), vj ((r : Nat) : Int), .ref bt, .ref wz, .ref lw, .ref hg, vi 0, vi (((n3 : Nat) : Int) - ((fr3 : Nat) : Int)), vi ((dz f3 n3 : Nat) : Int), vi (((n3 : Nat) : Int) - ((fr3 : Nat) : Int))], ai cI dg 800 (un (cpd d (cpd wa d nd) k) k ((cpd wa d nd) k)), ai cI rw 1200 f3, ai cI bt 1100 bb2, ai cI wz 800 (cpd wa d nd), ai cI lw 1200 la, ai cI hg 1200 (cpd ha f3 (dz f3 n3))]) 1 k ((cpd wa d nd) k) rfl (by omega) (by omega) (by omega) (by omega) rfl dq_Mod_enough_373 ?_
                                      refine qv_iinc C (j := 6) (lv' := [(10, vi (((k + 1) : Nat) : Int)), (0, .ref y), (3, vj ((fc r : Nat) : Int)), (5, vi (b2 (decide (r % 2 = 0)))), (7, vi ((nd : Nat) : Int)), (8, vi pl), (9, vi 0)]) (by omega) rfl (by decide) rfl dq_Mod_enough_374 ?_
                                      refine qv_goto C (tgt := 353) (by decide) dq_Mod_enough_377 ?_
                                      refine qv_lv [1, 2, 3, 4, 5, 6, 0] (lv' := [(0, .ref y), (3, vj ((fc r : Nat) : Int)), (5, vi (b2 (decide (r % 2 = 0)))), (7, vi ((nd : Nat) : Int)), (8, vi pl), (9, vi 0), (10, vi (((k + 1) : Nat) : Int))]) rfl ?_
                                      rw [cpd_s d (cpd wa d nd) k]
                                      exact ih2 (k + 1) (by omega)
                                refine qv_iload C rfl dq_Mod_enough_331 ?_
                                refine qv_iload C rfl dq_Mod_enough_333 ?_
                                refine qv_icgt C (by omega) (by omega) (tgt := 483) (by decide) dq_Mod_enough_335 (fun h335 => ?_) (fun h335 => ?_)
                                · exfalso; omega
                                · skip
                                  refine qv_aload_n C rfl dq_Mod_enough_338 ?_
                                  refine qv_iload C rfl dq_Mod_enough_339 ?_
                                  refine qv_put C (ws' := [oc y 4 [vi 0, vi (b2 mi), .ref dg, vi ((nd : Nat) : Int), vi pl, vi ((zr : Nat) : Int), vi bh, .ref rw, vi ((dz f3 n3 : Nat) : Int), vi ((fr3 : Int) - ((n3 : Int) - ((dz f3 n3 : Nat) : Int))), vj ((r : Nat) : Int), .ref bt, .ref wz, .ref lw, .ref hg, vi 0, vi (((n3 : Nat) : Int) - ((fr3 : Nat) : Int)), vi ((dz f3 n3 : Nat) : Int), vi (((n3 : Nat) : Int) - ((fr3 : Nat) : Int))], ai cI dg 800 d, ai cI rw 1200 f3, ai cI bt 1100 bb2, ai cI wz 800 (cpd wa d nd), ai cI lw 1200 la, ai cI hg 1200 (cpd ha f3 (dz f3 n3))]) fl_Mod_61 fs_4_3 0 rfl rfl rfl (Nat.le_of_ble_eq_true rfl) rfl dq_Mod_enough_341 ?_
                                  refine qv_aload_n C rfl dq_Mod_enough_344 ?_
                                  refine qv_iload C rfl dq_Mod_enough_345 ?_
                                  refine qv_put C (ws' := [oc y 4 [vi 0, vi (b2 mi), .ref dg, vi ((nd : Nat) : Int), vi pl, vi ((zr : Nat) : Int), vi bh, .ref rw, vi ((dz f3 n3 : Nat) : Int), vi ((fr3 : Int) - ((n3 : Int) - ((dz f3 n3 : Nat) : Int))), vj ((r : Nat) : Int), .ref bt, .ref wz, .ref lw, .ref hg, vi 0, vi (((n3 : Nat) : Int) - ((fr3 : Nat) : Int)), vi ((dz f3 n3 : Nat) : Int), vi (((n3 : Nat) : Int) - ((fr3 : Nat) : Int))], ai cI dg 800 d, ai cI rw 1200 f3, ai cI bt 1100 bb2, ai cI wz 800 (cpd wa d nd), ai cI lw 1200 la, ai cI hg 1200 (cpd ha f3 (dz f3 n3))]) fl_Mod_64 fs_4_4 0 rfl rfl rfl (Nat.le_of_ble_eq_true rfl) rfl dq_Mod_enough_347 ?_
                                  refine qv_iconst C dq_Mod_enough_350 ?_
                                  refine qv_istore C (lv' := [(10, vi 0), (0, .ref y), (3, vj ((fc r : Nat) : Int)), (5, vi (b2 (decide (r % 2 = 0)))), (7, vi ((nd : Nat) : Int)), (8, vi pl), (9, vi 0)]) (by decide) rfl dq_Mod_enough_351 ?_
                                  refine qv_lv [1, 2, 3, 4, 5, 6, 0] (lv' := [(0, .ref y), (3, vj ((fc r : Nat) : Int)), (5, vi (b2 (decide (r % 2 = 0)))), (7, vi ((nd : Nat) : Int)), (8, vi pl), (9, vi 0), (10, vi 0)]) rfl ?_
                                  have r0 := rst0 nd 0 (by omega)
                                  rw [cpd_0] at r0
                                  exact r0
                              · exfalso; omega
                            | succ n2 ih2 =>
                              intro k hk
                              refine qv_iload C rfl dq_Mod_enough_301 ?_
                              refine qv_iload C rfl dq_Mod_enough_303 ?_
                              refine qv_icge C (by omega) (by omega) (tgt := 328) (by decide) dq_Mod_enough_305 (fun h305 => ?_) (fun h305 => ?_)
                              · exfalso; omega
                              · skip
                                refine qv_aload_n C rfl dq_Mod_enough_308 ?_
                                refine qv_get C fl_Mod_19 0 rfl rfl dq_Mod_enough_309 ?_
                                refine qv_iload C rfl dq_Mod_enough_312 ?_
                                refine qv_aload_n C rfl dq_Mod_enough_314 ?_
                                refine qv_get C fl_Mod_9 0 rfl rfl dq_Mod_enough_315 ?_
                                refine qv_iload C rfl dq_Mod_enough_318 ?_
                                refine qv_iald C 1 k rfl (by omega) (by omega) (by omega) dq_Mod_enough_320 ?_
                                refine qv_iast C (ws' := [oc y 4 [vi 0, vi (b2 mi), .ref dg, vi ((nd : Nat) : Int), vi pl, vi ((zr : Nat) : Int), vi bh, .ref rw, vi ((dz f3 n3 : Nat) : Int), vi ((fr3 : Int) - ((n3 : Int) - ((dz f3 n3 : Nat) : Int))), vj ((r : Nat) : Int), .ref bt, .ref wz, .ref lw, .ref hg, vi 0, vi (((n3 : Nat) : Int) - ((fr3 : Nat) : Int)), vi ((dz f3 n3 : Nat) : Int), vi (((n3 : Nat) : Int) - ((fr3 : Nat) : Int))], ai cI dg 800 d, ai cI rw 1200 f3, ai cI bt 1100 bb2, ai cI wz 800 (un (cpd wa d k) k (d k)), ai cI lw 1200 la, ai cI hg 1200 (cpd ha f3 (dz f3 n3))]) 4 k (d k) rfl (by omega) (by omega) (by omega) (by omega) rfl dq_Mod_enough_321 ?_
                                refine qv_iinc C (j := 5) (lv' := [(9, vi (((k + 1) : Nat) : Int)), (0, .ref y), (3, vj ((fc r : Nat) : Int)), (5, vi (b2 (decide (r % 2 = 0)))), (7, vi ((nd : Nat) : Int)), (8, vi pl)]) (by omega) rfl (by decide) rfl dq_Mod_enough_322 ?_
                                refine qv_goto C (tgt := 301) (by decide) dq_Mod_enough_325 ?_
                                refine qv_lv [1, 2, 3, 4, 5, 0] (lv' := [(0, .ref y), (3, vj ((fc r : Nat) : Int)), (5, vi (b2 (decide (r % 2 = 0)))), (7, vi ((nd : Nat) : Int)), (8, vi pl), (9, vi (((k + 1) : Nat) : Int))]) rfl ?_
                                rw [cpd_s wa d k]
                                exact ih2 (k + 1) (by omega)
                          have cw0 := cw (nd) 0 (by omega)
                          rw [cpd_0] at cw0
                          exact cw0
                        · exfalso; omega
                      · exfalso; omega
                    · exfalso; omega
                  · exfalso; omega
                · exfalso; omega
              · have hfc : 0 < fc r := by
                  unfold fc; split <;> omega
                have t331 : ∀ (f4 la4 : Nat → Nat) (mn4 : Nat) (fr4x : Int) (ls4 : Nat) (lp4 : Int), (∀ i, f4 i ≤ 9) → MidR (r - 1) la4 ls4 lp4 → V K 12 [oc y 4 [vi 0, vi (b2 mi), .ref dg, vi ((nd : Nat) : Int), vi pl, vi ((zr : Nat) : Int), vi bh, .ref rw, vi ((mn4 : Nat) : Int), vi fr4x, vj ((r : Nat) : Int), .ref bt, .ref wz, .ref lw, .ref hg, vi ((ls4 : Nat) : Int), vi lp4, vi ((dz f3 n3 : Nat) : Int), vi (((n3 : Nat) : Int) - ((fr3 : Nat) : Int))], ai cI dg 800 d, ai cI rw 1200 f4, ai cI bt 1100 bb2, ai cI wz 800 (cpd wa d nd), ai cI lw 1200 la4, ai cI hg 1200 (cpd ha f3 (dz f3 n3))] 0 0 331 [(0, .ref y), (3, vj ((fc r : Nat) : Int)), (5, vi (b2 (decide (r % 2 = 0)))), (7, vi ((nd : Nat) : Int)), (8, vi pl), (9, vi 0)] [] := by
                  intro f4 la4 mn4 fr4x ls4 lp4 hf3' hML
                  obtain ⟨Lv, hLve⟩ : ∃ L, L = sv 1200 la4 ls4 lp4 := ⟨_, rfl⟩
                  have hLv : Lv * 2 ^ 1075 = md (r - 1) * 10 ^ 1200 := by rw [hLve]; exact hML.2.2.2.2.2.2.2
                  have hla3 := hML.2.2.2.2.2.2.1
                  obtain ⟨hn1', hp1', hp2'⟩ := hrange hr0
                  obtain ⟨-, ml2, ml3, ml4, ml5, ml6, -, -⟩ := id hML
                  obtain ⟨-, mh2, mh3, mh4, mh5, mh6, -, -⟩ := id hMH
                  obtain ⟨d2, hd2⟩ : ∃ d2, d2 = cpd d (cpd wa d nd) nd := ⟨_, rfl⟩
                  have hd29 : ∀ i, d2 i ≤ 9 := by rw [hd2]; exact cpd_9 hd (cpd_9 hwa hd nd) nd
                  have hag0 : ∀ i, i < nd → d2 i = d i := fun i hi => by rw [hd2, cpd_lt hi, cpd_lt hi]
                  have hwa3 : ∀ i, cpd wa d nd i ≤ 9 := cpd_9 hwa hd nd
                  have hKz : Nrm d2 0 := ⟨fun i hi => by omega, fun q => by omega⟩
                  have bod0 : V K 12 [oc y 4 [vi 0, vi (b2 mi), .ref dg, vi ((nd : Nat) : Int), vi pl, vi ((zr : Nat) : Int), vi bh, .ref rw, vi ((mn4 : Nat) : Int), vi fr4x, vj ((r : Nat) : Int), .ref bt, .ref wz, .ref lw, .ref hg, vi ((ls4 : Nat) : Int), vi lp4, vi ((dz f3 n3 : Nat) : Int), vi (((n3 : Nat) : Int) - ((fr3 : Nat) : Int))], ai cI dg 800 d2, ai cI rw 1200 f4, ai cI bt 1100 bb2, ai cI wz 800 (cpd wa d nd), ai cI lw 1200 la4, ai cI hg 1200 (cpd ha f3 (dz f3 n3))] 0 0 380 [(0, .ref y), (3, vj ((fc r : Nat) : Int)), (5, vi (b2 (decide (r % 2 = 0)))), (7, vi ((nd : Nat) : Int)), (8, vi pl), (9, vi 0)] [] := by
                    refine qv_aload_n C rfl dq_Mod_enough_380 ?_
                    refine qv_iload C rfl dq_Mod_enough_381 ?_
                    refine qv_ifle C (by omega) (tgt := 392) (by decide) dq_Mod_enough_383 (fun h383 => ?_) (fun h383 => ?_)
                    · skip
                      refine qv_ldc2 C (z := (-1)) wk_Mod_88 dq_Mod_enough_392 ?_
                      refine qc_vV (wr := [ai cI rw 1200 f4, ai cI bt 1100 bb2, ai cI wz 800 (cpd wa d nd), ai cI lw 1200 la4, ai cI hg 1200 (cpd ha f3 (dz f3 n3))]) (st := []) C cl_Mod_90 cd_Mod_cut (c_Mod_cut cI cJ y dg rw bt wz lw hg 0 mi nd pl zr bh mn4 fr4x ((r : Nat) : Int) ls4 lp4 (dz f3 n3) (((n3 : Nat) : Int) - ((fr3 : Nat) : Int)) d2 (-1) hd29 hnd (by omega)) (Xok_t K) Xbl_t [0, 1] [2, 3, 4, 5, 6] rfl rfl (by decide) (by decide) (by decide) 0 rfl rfl rfl rfl rfl (Nat.le_of_ble_eq_true rfl) (by decide) (by decide) dq_Mod_enough_395 (fun u hu => ?_)
                      obtain rfl := hu
                      rw [cL_neg (by omega), cP_neg (by omega), cF_neg (by omega)]
                      show V K 12 [ai cI rw 1200 f4, ai cI bt 1100 bb2, ai cI wz 800 (cpd wa d nd), ai cI lw 1200 la4, ai cI hg 1200 (cpd ha f3 (dz f3 n3)), oc y 4 [vi 0, vi (b2 mi), .ref dg, vi ((0 : Nat) : Int), vi 0, vi 0, vi 0, .ref rw, vi ((mn4 : Nat) : Int), vi fr4x, vj ((r : Nat) : Int), .ref bt, .ref wz, .ref lw, .ref hg, vi ((ls4 : Nat) : Int), vi lp4, vi ((dz f3 n3 : Nat) : Int), vi (((n3 : Nat) : Int) - ((fr3 : Nat) : Int))], ai cI dg 800 d2] 0 0 398 [(0, .ref y), (3, vj ((fc r : Nat) : Int)), (5, vi (b2 (decide (r % 2 = 0)))), (7, vi ((nd : Nat) : Int)), (8, vi pl), (9, vi 0)] []
                      refine qv_lload_n C rfl dq_Mod_enough_398 ?_
                      refine qv_lconst C (z := 0) (by decide) dq_Mod_enough_399 ?_
                      refine qv_lcle C (by omega) (by omega) dq_Mod_enough_400 (tgt := 423) (by decide) dq_Mod_enough_401 (fun h400 => ?_) (fun h400 => ?_)
                      · exfalso; omega
                      · skip
                        refine qv_aload_n C rfl dq_Mod_enough_404 ?_
                        refine qv_aload_n C rfl dq_Mod_enough_405 ?_
                        refine qv_get C fl_Mod_22 5 rfl rfl dq_Mod_enough_406 ?_
                        refine qv_aload_n C rfl dq_Mod_enough_409 ?_
                        refine qv_get C fl_Mod_130 5 rfl rfl dq_Mod_enough_410 ?_
                        refine qv_aload_n C rfl dq_Mod_enough_413 ?_
                        refine qv_get C fl_Mod_133 5 rfl rfl dq_Mod_enough_414 ?_
                        refine qc_vI (wr := [ai cI rw 1200 f4, ai cI bt 1100 bb2, ai cI wz 800 (cpd wa d nd), ai cI hg 1200 (cpd ha f3 (dz f3 n3))]) (st := []) C cl_Mod_136 cd_Mod_compare (c_Mod_compare cI cJ y dg rw bt wz lw hg 0 mi 0 0 0 0 mn4 fr4x ((r : Nat) : Int) ls4 lp4 (dz f3 n3) (((n3 : Nat) : Int) - ((fr3 : Nat) : Int)) d2 la4 lw ls4 lp4 hKz hML.1 hd29 hML.2.2.2.2.2.2.1 (by omega) (by omega) (by omega) (by omega) (by omega) (by omega)) (Xok_t K) Xbl_t [5, 6, 3] [0, 1, 2, 4] rfl rfl (by decide) (by decide) (by decide) 0 rfl rfl rfl rfl rfl (Nat.le_of_ble_eq_true rfl) (by decide) (by decide) dq_Mod_enough_417 (fun z u hu => ?_)
                        obtain ⟨hCa, hzhCa, rfl⟩ := hu
                        rw [sv_n0] at hCa
                        have hphCa := MidR_pos hML
                        show V K 12 [ai cI rw 1200 f4, ai cI bt 1100 bb2, ai cI wz 800 (cpd wa d nd), ai cI hg 1200 (cpd ha f3 (dz f3 n3)), oc y 4 [vi 0, vi (b2 mi), .ref dg, vi ((0 : Nat) : Int), vi 0, vi 0, vi 0, .ref rw, vi ((mn4 : Nat) : Int), vi fr4x, vj ((r : Nat) : Int), .ref bt, .ref wz, .ref lw, .ref hg, vi ((ls4 : Nat) : Int), vi lp4, vi ((dz f3 n3 : Nat) : Int), vi (((n3 : Nat) : Int) - ((fr3 : Nat) : Int))], ai cI dg 800 d2, ai cI lw 1200 la4] 0 0 420 [(0, .ref y), (3, vj ((fc r : Nat) : Int)), (5, vi (b2 (decide (r % 2 = 0)))), (7, vi ((nd : Nat) : Int)), (8, vi pl), (9, vi 0)] [vi z]
                        refine qv_goto C (tgt := 424) (by decide) dq_Mod_enough_420 ?_
                        obtain ⟨za, hzae⟩ : ∃ za, za = z := ⟨_, rfl⟩
                        rw [← hzae] at hCa hzhCa ⊢
                        refine qv_istore C (lv' := [(10, vi za), (0, .ref y), (3, vj ((fc r : Nat) : Int)), (5, vi (b2 (decide (r % 2 = 0)))), (7, vi ((nd : Nat) : Int)), (8, vi pl), (9, vi 0)]) (by decide) rfl dq_Mod_enough_424 ?_
                        refine qv_aload_n C rfl dq_Mod_enough_426 ?_
                        refine qv_aload_n C rfl dq_Mod_enough_427 ?_
                        refine qv_get C fl_Mod_25 4 rfl rfl dq_Mod_enough_428 ?_
                        refine qv_aload_n C rfl dq_Mod_enough_431 ?_
                        refine qv_get C fl_Mod_122 4 rfl rfl dq_Mod_enough_432 ?_
                        refine qv_aload_n C rfl dq_Mod_enough_435 ?_
                        refine qv_get C fl_Mod_125 4 rfl rfl dq_Mod_enough_436 ?_
                        refine qc_vI (wr := [ai cI rw 1200 f4, ai cI bt 1100 bb2, ai cI wz 800 (cpd wa d nd), ai cI lw 1200 la4]) (st := []) C cl_Mod_136 cd_Mod_compare (c_Mod_compare cI cJ y dg rw bt wz lw hg 0 mi 0 0 0 0 mn4 fr4x ((r : Nat) : Int) ls4 lp4 (dz f3 n3) (((n3 : Nat) : Int) - ((fr3 : Nat) : Int)) d2 (cpd ha f3 (dz f3 n3)) hg (dz f3 n3) (((n3 : Nat) : Int) - ((fr3 : Nat) : Int)) hKz hMH.1 hd29 hMH.2.2.2.2.2.2.1 (by omega) (by omega) (by omega) (by omega) (by omega) (by omega)) (Xok_t K) Xbl_t [4, 5, 3] [0, 1, 2, 6] rfl rfl (by decide) (by decide) (by decide) 0 rfl rfl rfl rfl rfl (Nat.le_of_ble_eq_true rfl) (by decide) (by decide) dq_Mod_enough_439 (fun z u hu => ?_)
                        obtain ⟨hCb, hzhCb, rfl⟩ := hu
                        rw [sv_n0] at hCb
                        have hphCb := MidR_pos hMH
                        show V K 12 [ai cI rw 1200 f4, ai cI bt 1100 bb2, ai cI wz 800 (cpd wa d nd), ai cI lw 1200 la4, oc y 4 [vi 0, vi (b2 mi), .ref dg, vi ((0 : Nat) : Int), vi 0, vi 0, vi 0, .ref rw, vi ((mn4 : Nat) : Int), vi fr4x, vj ((r : Nat) : Int), .ref bt, .ref wz, .ref lw, .ref hg, vi ((ls4 : Nat) : Int), vi lp4, vi ((dz f3 n3 : Nat) : Int), vi (((n3 : Nat) : Int) - ((fr3 : Nat) : Int))], ai cI dg 800 d2, ai cI hg 1200 (cpd ha f3 (dz f3 n3))] 0 0 442 [(10, vi za), (0, .ref y), (3, vj ((fc r : Nat) : Int)), (5, vi (b2 (decide (r % 2 = 0)))), (7, vi ((nd : Nat) : Int)), (8, vi pl), (9, vi 0)] [vi z]
                        refine qv_istore C (lv' := [(11, vi z), (10, vi za), (0, .ref y), (3, vj ((fc r : Nat) : Int)), (5, vi (b2 (decide (r % 2 = 0)))), (7, vi ((nd : Nat) : Int)), (8, vi pl), (9, vi 0)]) (by decide) rfl dq_Mod_enough_442 ?_
                        refine qv_iload C rfl dq_Mod_enough_444 ?_
                        refine qv_ifgt C (by omega) (tgt := 459) (by decide) dq_Mod_enough_446 (fun h446 => ?_) (fun h446 => ?_)
                        · skip
                          refine qv_iload C rfl dq_Mod_enough_459 ?_
                          refine qv_iflt C (by omega) (tgt := 474) (by decide) dq_Mod_enough_461 (fun h461 => ?_) (fun h461 => ?_)
                          · skip
                            refine qv_iload C rfl dq_Mod_enough_474 ?_
                            refine qv_ws [4, 5, 0, 1, 2, 3, 6] (ws' := [oc y 4 [vi 0, vi (b2 mi), .ref dg, vi ((0 : Nat) : Int), vi 0, vi 0, vi 0, .ref rw, vi ((mn4 : Nat) : Int), vi fr4x, vj ((r : Nat) : Int), .ref bt, .ref wz, .ref lw, .ref hg, vi ((ls4 : Nat) : Int), vi lp4, vi ((dz f3 n3 : Nat) : Int), vi (((n3 : Nat) : Int) - ((fr3 : Nat) : Int))], ai cI dg 800 d2, ai cI rw 1200 f4, ai cI bt 1100 bb2, ai cI wz 800 (cpd wa d nd), ai cI lw 1200 la4, ai cI hg 1200 (cpd ha f3 (dz f3 n3))]) (by decide) rfl ?_
                            refine qv_iret C hR ?_ dq_Mod_enough_476 (by decide) (by decide)
                            exfalso
                            unfold Cs at hCa
                            omega
                          · skip
                            refine qv_iload C rfl dq_Mod_enough_464 ?_
                            refine qv_ifne C (by omega) (tgt := 477) (by decide) dq_Mod_enough_466 (fun h466 => ?_) (fun h466 => ?_)
                            · skip
                              refine qv_iinc C (j := 7) (lv' := [(9, vi 1), (11, vi z), (10, vi za), (0, .ref y), (3, vj ((fc r : Nat) : Int)), (5, vi (b2 (decide (r % 2 = 0)))), (7, vi ((nd : Nat) : Int)), (8, vi pl)]) (by omega) rfl (by decide) rfl dq_Mod_enough_477 ?_
                              refine qv_goto C (tgt := 331) (by decide) dq_Mod_enough_480 ?_
                              exfalso
                              unfold Cs at hCa
                              omega
                            · skip
                              refine qv_iload C rfl dq_Mod_enough_469 ?_
                              refine qv_ifeq C (rb_b2 _) (tgt := 477) (by decide) dq_Mod_enough_471 (fun h471 => ?_) (fun h471 => ?_)
                              · skip
                                refine qv_iinc C (j := 7) (lv' := [(9, vi 1), (11, vi z), (10, vi za), (0, .ref y), (3, vj ((fc r : Nat) : Int)), (5, vi (b2 (decide (r % 2 = 0)))), (7, vi ((nd : Nat) : Int)), (8, vi pl)]) (by omega) rfl (by decide) rfl dq_Mod_enough_477 ?_
                                refine qv_goto C (tgt := 331) (by decide) dq_Mod_enough_480 ?_
                                exfalso
                                unfold Cs at hCa
                                omega
                              · skip
                                refine qv_iload C rfl dq_Mod_enough_474 ?_
                                refine qv_ws [4, 5, 0, 1, 2, 3, 6] (ws' := [oc y 4 [vi 0, vi (b2 mi), .ref dg, vi ((0 : Nat) : Int), vi 0, vi 0, vi 0, .ref rw, vi ((mn4 : Nat) : Int), vi fr4x, vj ((r : Nat) : Int), .ref bt, .ref wz, .ref lw, .ref hg, vi ((ls4 : Nat) : Int), vi lp4, vi ((dz f3 n3 : Nat) : Int), vi (((n3 : Nat) : Int) - ((fr3 : Nat) : Int))], ai cI dg 800 d2, ai cI rw 1200 f4, ai cI bt 1100 bb2, ai cI wz 800 (cpd wa d nd), ai cI lw 1200 la4, ai cI hg 1200 (cpd ha f3 (dz f3 n3))]) (by decide) rfl ?_
                                refine qv_iret C hR ?_ dq_Mod_enough_476 (by decide) (by decide)
                                exfalso
                                unfold Cs at hCa
                                omega
                        · skip
                          refine qv_iload C rfl dq_Mod_enough_449 ?_
                          refine qv_ifne C (by omega) (tgt := 477) (by decide) dq_Mod_enough_451 (fun h451 => ?_) (fun h451 => ?_)
                          · skip
                            refine qv_iinc C (j := 7) (lv' := [(9, vi 1), (11, vi z), (10, vi za), (0, .ref y), (3, vj ((fc r : Nat) : Int)), (5, vi (b2 (decide (r % 2 = 0)))), (7, vi ((nd : Nat) : Int)), (8, vi pl)]) (by omega) rfl (by decide) rfl dq_Mod_enough_477 ?_
                            refine qv_goto C (tgt := 331) (by decide) dq_Mod_enough_480 ?_
                            have hzero9 : ∀ i, d2 i ≤ 9 := hd29
                            refine qv_lv [3, 4, 5, 6, 7, 0] (lv' := [(0, .ref y), (3, vj ((fc r : Nat) : Int)), (5, vi (b2 (decide (r % 2 = 0)))), (7, vi ((nd : Nat) : Int)), (8, vi pl), (9, vi 1)]) rfl ?_
                            refine qv_ws [4, 5, 0, 1, 2, 3, 6] (ws' := [oc y 4 [vi 0, vi (b2 mi), .ref dg, vi ((0 : Nat) : Int), vi 0, vi 0, vi 0, .ref rw, vi ((mn4 : Nat) : Int), vi fr4x, vj ((r : Nat) : Int), .ref bt, .ref wz, .ref lw, .ref hg, vi ((ls4 : Nat) : Int), vi lp4, vi ((dz f3 n3 : Nat) : Int), vi (((n3 : Nat) : Int) - ((fr3 : Nat) : Int))], ai cI dg 800 d2, ai cI rw 1200 f4, ai cI bt 1100 bb2, ai cI wz 800 (cpd wa d nd), ai cI lw 1200 la4, ai cI hg 1200 (cpd ha f3 (dz f3 n3))]) (by decide) rfl ?_
                            have lpn : ∀ c n (ndc : Nat) (plc : Int) (zrc : Nat) (bhc : Int) (dc : Nat → Nat), 0 < n → n + c = nd + 1 → (∀ m, 0 < m → m < n → m < nd → ¬ H2 d nd pl Lv Hv (decide (r % 2 = 0)) m) → (∀ i, dc i ≤ 9) → (n = nd + 1 → ndc = nd ∧ plc = pl ∧ zrc = 0 ∧ bhc = 0 ∧ ∀ i, i < nd → dc i = d i) → V K 12 [oc y 4 [vi 0, vi (b2 mi), .ref dg, vi ((ndc : Nat) : Int), vi plc, vi ((zrc : Nat) : Int), vi bhc, .ref rw, vi ((mn4 : Nat) : Int), vi fr4x, vj ((r : Nat) : Int), .ref bt, .ref wz, .ref lw, .ref hg, vi ((ls4 : Nat) : Int), vi lp4, vi ((dz f3 n3 : Nat) : Int), vi (((n3 : Nat) : Int) - ((fr3 : Nat) : Int))], ai cI dg 800 dc, ai cI rw 1200 f4, ai cI bt 1100 bb2, ai cI wz 800 (cpd wa d nd), ai cI lw 1200 la4, ai cI hg 1200 (cpd ha f3 (dz f3 n3))] 0 0 331 [(0, .ref y), (3, vj ((fc r : Nat) : Int)), (5, vi (b2 (decide (r % 2 = 0)))), (7, vi ((nd : Nat) : Int)), (8, vi pl), (9, vi ((n : Nat) : Int))] [] := by
                              intro c
                              induction c with
                              | zero =>
                                intro n ndc plc zrc bhc dc hn0' hnc hno hdc9 hst
                                obtain ⟨e1', e2', e3', e4', hag⟩ := hst (by omega)
                                rw [e1', e2', e3', e4']
                                refine qv_iload C rfl dq_Mod_enough_331 ?_
                                refine qv_iload C rfl dq_Mod_enough_333 ?_
                                refine qv_icgt C (by omega) (by omega) (tgt := 483) (by decide) dq_Mod_enough_335 (fun h335 => ?_) (fun h335 => ?_)
                                · skip
                                  refine qv_iload C rfl dq_Mod_enough_483 ?_
                                  refine qv_iret C hR ?_ dq_Mod_enough_485 (by decide) (by decide)
                                  refine ⟨r, f4, bb2, (cpd wa d nd), la4, (cpd ha f3 (dz f3 n3)), dc, mn4, fr4x, ls4, lp4, (dz f3 n3), (((n3 : Nat) : Int) - ((fr3 : Nat) : Int)), hNe, hf3', hbb2, hwa3, hla3, hha3, Or.inr ⟨hlt, nd, rfl, fun q => absurd q hr0, fun _ => ⟨by omega, by omega, Lv, Hv, hLv, hHv, fun m a b => hno m a (by omega) (by omega), fun q => by omega⟩, hag, hdc9, ?_⟩⟩
                                  rw [rz_s (by omega), cL_ge (by omega), cP_ge (by omega), cF_ge (by omega)] <;> rfl
                                · exfalso; omega
                              | succ c ih =>
                                intro n ndc plc zrc bhc dc hn0' hnc hno hdc9 hst
                                obtain ⟨d2, hd2⟩ : ∃ d2, d2 = cpd dc (cpd wa d nd) nd := ⟨_, rfl⟩
                                have hd29 : ∀ i, d2 i ≤ 9 := by rw [hd2]; exact cpd_9 hdc9 (cpd_9 hwa hd nd) nd
                                have hag : ∀ i, i < nd → d2 i = d i := fun i hi => by rw [hd2, cpd_lt hi, cpd_lt hi]
                                have hK2 : Kd d2 nd pl := ⟨hd29, hnd, fun q => by rw [hag 0 q, hag _ (by omega)]; exact hnz q, hn0⟩
                                have hKc := Kd_cut (z := (n : Int)) hK2
                                have hPc := cP_rng (f := d2) (len := nd) (z := (n : Int)) (p := pl) (lo := -330) (hi := 310) (by omega) (by omega) (by omega) (by omega)
                                have hLc := cL_le d2 nd (n : Int)
                                obtain ⟨nc, hnc'⟩ : ∃ x, x = cL d2 nd (n : Int) := ⟨_, rfl⟩
                                obtain ⟨pc, hpc'⟩ : ∃ x, x = cP d2 nd (n : Int) pl := ⟨_, rfl⟩
                                obtain ⟨gc, hgc'⟩ : ∃ x, x = cF d2 nd (n : Int) := ⟨_, rfl⟩
                                rw [← hnc', ← hpc', ← hgc'] at hKc
                                rw [← hpc'] at hPc
                                rw [← hnc'] at hLc
                                have hTv : n < nd → sv 1200 gc nc pc = Tv d nd pl n := by
                                  intro q
                                  rw [← Tv_cg q hag, hnc', hpc', hgc', cL_n q, cP_n q, cF_n q]; rfl
                                have bod : V K 12 [oc y 4 [vi 0, vi (b2 mi), .ref dg, vi ((nd : Nat) : Int), vi pl, vi ((zrc : Nat) : Int), vi bhc, .ref rw, vi ((mn4 : Nat) : Int), vi fr4x, vj ((r : Nat) : Int), .ref bt, .ref wz, .ref lw, .ref hg, vi ((ls4 : Nat) : Int), vi lp4, vi ((dz f3 n3 : Nat) : Int), vi (((n3 : Nat) : Int) - ((fr3 : Nat) : Int))], ai cI dg 800 d2, ai cI rw 1200 f4, ai cI bt 1100 bb2, ai cI wz 800 (cpd wa d nd), ai cI lw 1200 la4, ai cI hg 1200 (cpd ha f3 (dz f3 n3))] 0 0 380 [(0, .ref y), (3, vj ((fc r : Nat) : Int)), (5, vi (b2 (decide (r % 2 = 0)))), (7, vi ((nd : Nat) : Int)), (8, vi pl), (9, vi ((n : Nat) : Int))] [] := by
                                  have hfc0 : 0 < fc r := hfc
                                  refine qv_aload_n C rfl dq_Mod_enough_380 ?_
                                  refine qv_iload C rfl dq_Mod_enough_381 ?_
                                  refine qv_ifle C (by omega) (tgt := 392) (by decide) dq_Mod_enough_383 (fun h383 => ?_) (fun h383 => ?_)
                                  · exfalso; omega
                                  · skip
                                    refine qv_iload C rfl dq_Mod_enough_386 ?_
                                    refine qv_i2l C (by omega) dq_Mod_enough_388 ?_
                                    refine qv_goto C (tgt := 395) (by decide) dq_Mod_enough_389 ?_
                                    refine qc_vV (wr := [ai cI rw 1200 f4, ai cI bt 1100 bb2, ai cI wz 800 (cpd wa d nd), ai cI lw 1200 la4, ai cI hg 1200 (cpd ha f3 (dz f3 n3))]) (st := []) C cl_Mod_90 cd_Mod_cut (c_Mod_cut cI cJ y dg rw bt wz lw hg 0 mi nd pl zrc bhc mn4 fr4x ((r : Nat) : Int) ls4 lp4 (dz f3 n3) (((n3 : Nat) : Int) - ((fr3 : Nat) : Int)) d2 ((n : Nat) : Int) hd29 hnd (by omega)) (Xok_t K) Xbl_t [0, 1] [2, 3, 4, 5, 6] rfl rfl (by decide) (by decide) (by decide) 0 rfl rfl rfl rfl rfl (Nat.le_of_ble_eq_true rfl) (by decide) (by decide) dq_Mod_enough_395 (fun u hu => ?_)
                                    obtain rfl := hu
                                    rw [← hnc', ← hpc', ← hgc']
                                    show V K 12 [ai cI rw 1200 f4, ai cI bt 1100 bb2, ai cI wz 800 (cpd wa d nd), ai cI lw 1200 la4, ai cI hg 1200 (cpd ha f3 (dz f3 n3)), oc y 4 [vi 0, vi (b2 mi), .ref dg, vi ((nc : Nat) : Int), vi pc, vi 0, vi 0, .ref rw, vi ((mn4 : Nat) : Int), vi fr4x, vj ((r : Nat) : Int), .ref bt, .ref wz, .ref lw, .ref hg, vi ((ls4 : Nat) : Int), vi lp4, vi ((dz f3 n3 : Nat) : Int), vi (((n3 : Nat) : Int) - ((fr3 : Nat) : Int))], ai cI dg 800 gc] 0 0 398 [(0, .ref y), (3, vj ((fc r : Nat) : Int)), (5, vi (b2 (decide (r % 2 = 0)))), (7, vi ((nd : Nat) : Int)), (8, vi pl), (9, vi ((n : Nat) : Int))] []
                                    refine qv_lload_n C rfl dq_Mod_enough_398 ?_
                                    refine qv_lconst C (z := 0) (by decide) dq_Mod_enough_399 ?_
                                    refine qv_lcle C (by omega) (by omega) dq_Mod_enough_400 (tgt := 423) (by decide) dq_Mod_enough_401 (fun h400 => ?_) (fun h400 => ?_)
                                    · exfalso; omega
                                    · skip
                                      refine qv_aload_n C rfl dq_Mod_enough_404 ?_
                                      refine qv_aload_n C rfl dq_Mod_enough_405 ?_
                                      refine qv_get C fl_Mod_22 5 rfl rfl dq_Mod_enough_406 ?_
                                      refine qv_aload_n C rfl dq_Mod_enough_409 ?_
                                      refine qv_get C fl_Mod_130 5 rfl rfl dq_Mod_enough_410 ?_
                                      refine qv_aload_n C rfl dq_Mod_enough_413 ?_
                                      refine qv_get C fl_Mod_133 5 rfl rfl dq_Mod_enough_414 ?_
                                      refine qc_vI (wr := [ai cI rw 1200 f4, ai cI bt 1100 bb2, ai cI wz 800 (cpd wa d nd), ai cI hg 1200 (cpd ha f3 (dz f3 n3))]) (st := []) C cl_Mod_136 cd_Mod_compare (c_Mod_compare cI cJ y dg rw bt wz lw hg 0 mi nc pc 0 0 mn4 fr4x ((r : Nat) : Int) ls4 lp4 (dz f3 n3) (((n3 : Nat) : Int) - ((fr3 : Nat) : Int)) gc la4 lw ls4 lp4 (Kd_nrm hKc) hML.1 hKc.1 hML.2.2.2.2.2.2.1 (by omega) (by omega) (by omega) (by omega) (by omega) (by omega)) (Xok_t K) Xbl_t [5, 6, 3] [0, 1, 2, 4] rfl rfl (by decide) (by decide) (by decide) 0 rfl rfl rfl rfl rfl (Nat.le_of_ble_eq_true rfl) (by decide) (by decide) dq_Mod_enough_417 (fun z u hu => ?_)
                                      obtain ⟨hCa, hza, rfl⟩ := hu
                                      rw [← hLve] at hCa
                                      show V K 12 [ai cI rw 1200 f4, ai cI bt 1100 bb2, ai cI wz 800 (cpd wa d nd), ai cI hg 1200 (cpd ha f3 (dz f3 n3)), oc y 4 [vi 0, vi (b2 mi), .ref dg, vi ((nc : Nat) : Int), vi pc, vi 0, vi 0, .ref rw, vi ((mn4 : Nat) : Int), vi fr4x, vj ((r : Nat) : Int), .ref bt, .ref wz, .ref lw, .ref hg, vi ((ls4 : Nat) : Int), vi lp4, vi ((dz f3 n3 : Nat) : Int), vi (((n3 : Nat) : Int) - ((fr3 : Nat) : Int))], ai cI dg 800 gc, ai cI lw 1200 la4] 0 0 420 [(0, .ref y), (3, vj ((fc r : Nat) : Int)), (5, vi (b2 (decide (r % 2 = 0)))), (7, vi ((nd : Nat) : Int)), (8, vi pl), (9, vi ((n : Nat) : Int))] [vi z]
                                      refine qv_goto C (tgt := 424) (by decide) dq_Mod_enough_420 ?_
                                      obtain ⟨za, hzae⟩ : ∃ za, za = z := ⟨_, rfl⟩
                                      rw [← hzae] at hCa hza ⊢
                                      refine qv_istore C (lv' := [(10, vi za), (0, .ref y), (3, vj ((fc r : Nat) : Int)), (5, vi (b2 (decide (r % 2 = 0)))), (7, vi ((nd : Nat) : Int)), (8, vi pl), (9, vi ((n : Nat) : Int))]) (by decide) rfl dq_Mod_enough_424 ?_
                                      refine qv_aload_n C rfl dq_Mod_enough_426 ?_
                                      refine qv_aload_n C rfl dq_Mod_enough_427 ?_
                                      refine qv_get C fl_Mod_25 4 rfl rfl dq_Mod_enough_428 ?_
                                      refine qv_aload_n C rfl dq_Mod_enough_431 ?_
                                      refine qv_get C fl_Mod_122 4 rfl rfl dq_Mod_enough_432 ?_
                                      refine qv_aload_n C rfl dq_Mod_enough_435 ?_
                                      refine qv_get C fl_Mod_125 4 rfl rfl dq_Mod_enough_436 ?_
                                      refine qc_vI (wr := [ai cI rw 1200 f4, ai cI bt 1100 bb2, ai cI wz 800 (cpd wa d nd), ai cI lw 1200 la4]) (st := []) C cl_Mod_136 cd_Mod_compare (c_Mod_compare cI cJ y dg rw bt wz lw hg 0 mi nc pc 0 0 mn4 fr4x ((r : Nat) : Int) ls4 lp4 (dz f3 n3) (((n3 : Nat) : Int) - ((fr3 : Nat) : Int)) gc (cpd ha f3 (dz f3 n3)) hg (dz f3 n3) (((n3 : Nat) : Int) - ((fr3 : Nat) : Int)) (Kd_nrm hKc) hMH.1 hKc.1 hMH.2.2.2.2.2.2.1 (by omega) (by omega) (by omega) (by omega) (by omega) (by omega)) (Xok_t K) Xbl_t [4, 5, 3] [0, 1, 2, 6] rfl rfl (by decide) (by decide) (by decide) 0 rfl rfl rfl rfl rfl (Nat.le_of_ble_eq_true rfl) (by decide) (by decide) dq_Mod_enough_439 (fun z u hu => ?_)
                                      obtain ⟨hCb, hzb, rfl⟩ := hu
                                      rw [← hHve] at hCb
                                      show V K 12 [ai cI rw 1200 f4, ai cI bt 1100 bb2, ai cI wz 800 (cpd wa d nd), ai cI lw 1200 la4, oc y 4 [vi 0, vi (b2 mi), .ref dg, vi ((nc : Nat) : Int), vi pc, vi 0, vi 0, .ref rw, vi ((mn4 : Nat) : Int), vi fr4x, vj ((r : Nat) : Int), .ref bt, .ref wz, .ref lw, .ref hg, vi ((ls4 : Nat) : Int), vi lp4, vi ((dz f3 n3 : Nat) : Int), vi (((n3 : Nat) : Int) - ((fr3 : Nat) : Int))], ai cI dg 800 gc, ai cI hg 1200 (cpd ha f3 (dz f3 n3))] 0 0 442 [(10, vi za), (0, .ref y), (3, vj ((fc r : Nat) : Int)), (5, vi (b2 (decide (r % 2 = 0)))), (7, vi ((nd : Nat) : Int)), (8, vi pl), (9, vi ((n : Nat) : Int))] [vi z]
                                      refine qv_istore C (lv' := [(11, vi z), (10, vi za), (0, .ref y), (3, vj ((fc r : Nat) : Int)), (5, vi (b2 (decide (r % 2 = 0)))), (7, vi ((nd : Nat) : Int)), (8, vi pl), (9, vi ((n : Nat) : Int))]) (by decide) rfl dq_Mod_enough_442 ?_
                                      refine qv_iload C rfl dq_Mod_enough_444 ?_
                                      refine qv_ifgt C (by omega) (tgt := 459) (by decide) dq_Mod_enough_446 (fun h446 => ?_) (fun h446 => ?_)
                                      · skip
                                        refine qv_iload C rfl dq_Mod_enough_459 ?_
                                        refine qv_iflt C (by omega) (tgt := 474) (by decide) dq_Mod_enough_461 (fun h461 => ?_) (fun h461 => ?_)
                                        · skip
                                          refine qv_iload C rfl dq_Mod_enough_474 ?_
                                          refine qv_ws [4, 5, 0, 1, 2, 3, 6] (ws' := [oc y 4 [vi 0, vi (b2 mi), .ref dg, vi ((nc : Nat) : Int), vi pc, vi 0, vi 0, .ref rw, vi ((mn4 : Nat) : Int), vi fr4x, vj ((r : Nat) : Int), .ref bt, .ref wz, .ref lw, .ref hg, vi ((ls4 : Nat) : Int), vi lp4, vi ((dz f3 n3 : Nat) : Int), vi (((n3 : Nat) : Int) - ((fr3 : Nat) : Int))], ai cI dg 800 gc, ai cI rw 1200 f4, ai cI bt 1100 bb2, ai cI wz 800 (cpd wa d nd), ai cI lw 1200 la4, ai cI hg 1200 (cpd ha f3 (dz f3 n3))]) (by decide) rfl ?_
                                          refine qv_iret C hR ?_ dq_Mod_enough_476 (by decide) (by decide)
                                          refine ⟨r, f4, bb2, (cpd wa d nd), la4, (cpd ha f3 (dz f3 n3)), d2, mn4, fr4x, ls4, lp4, (dz f3 n3), (((n3 : Nat) : Int) - ((fr3 : Nat) : Int)), hNe, hf3', hbb2, hwa3, hla3, hha3, Or.inr ⟨hlt, n, rfl, fun q => absurd q hr0, fun _ => ⟨by omega, by omega, Lv, Hv, hLv, hHv, fun m a b => hno m a b (by omega), fun q => ?_⟩, hag, hd29, ?_⟩⟩
                                          · rw [hTv q] at hCa hCb
                                            exact (H2_t hCa hCb).mpr ⟨Or.inl (by omega), Or.inl (by omega)⟩
                                          · rw [rz_s (by omega), ← hnc', ← hpc', ← hgc'] <;> rfl
                                        · skip
                                          refine qv_iload C rfl dq_Mod_enough_464 ?_
                                          refine qv_ifne C (by omega) (tgt := 477) (by decide) dq_Mod_enough_466 (fun h466 => ?_) (fun h466 => ?_)
                                          · skip
                                            refine qv_iinc C (j := 7) (lv' := [(9, vi (((n + 1) : Nat) : Int)), (11, vi z), (10, vi za), (0, .ref y), (3, vj ((fc r : Nat) : Int)), (5, vi (b2 (decide (r % 2 = 0)))), (7, vi ((nd : Nat) : Int)), (8, vi pl)]) (by omega) rfl (by decide) rfl dq_Mod_enough_477 ?_
                                            refine qv_goto C (tgt := 331) (by decide) dq_Mod_enough_480 ?_
                                            refine qv_ws [4, 5, 0, 1, 2, 3, 6] (ws' := [oc y 4 [vi 0, vi (b2 mi), .ref dg, vi ((nc : Nat) : Int), vi pc, vi 0, vi 0, .ref rw, vi ((mn4 : Nat) : Int), vi fr4x, vj ((r : Nat) : Int), .ref bt, .ref wz, .ref lw, .ref hg, vi ((ls4 : Nat) : Int), vi lp4, vi ((dz f3 n3 : Nat) : Int), vi (((n3 : Nat) : Int) - ((fr3 : Nat) : Int))], ai cI dg 800 gc, ai cI rw 1200 f4, ai cI bt 1100 bb2, ai cI wz 800 (cpd wa d nd), ai cI lw 1200 la4, ai cI hg 1200 (cpd ha f3 (dz f3 n3))]) (by decide) rfl ?_
                                            refine qv_lv [3, 4, 5, 6, 7, 0] (lv' := [(0, .ref y), (3, vj ((fc r : Nat) : Int)), (5, vi (b2 (decide (r % 2 = 0)))), (7, vi ((nd : Nat) : Int)), (8, vi pl), (9, vi (((n + 1) : Nat) : Int))]) rfl ?_
                                            refine ih (n + 1) nc pc 0 0 gc (by omega) (by omega) (fun m a b c' => ?_) hKc.1 (fun q => ?_)
                                            · by_cases q : m = n
                                              · subst q
                                                rw [hTv c'] at hCa hCb
                                                intro q0
                                                have q := (H2_t hCa hCb).mp q0
                                                rcases q.2 with q1 | ⟨q1, q2⟩
                                                · omega
                                                · omega
                                              · exact hno m a (by omega) c'
                                            · have en : n = nd := by omega
                                              refine ⟨by rw [hnc', cL_ge (by omega)], by rw [hpc', cP_ge (by omega)], rfl, rfl, ?_⟩
                                              rw [hgc', cF_ge (by omega)]; exact hag
                                          · skip
                                            refine qv_iload C rfl dq_Mod_enough_469 ?_
                                            refine qv_ifeq C (rb_b2 _) (tgt := 477) (by decide) dq_Mod_enough_471 (fun h471 => ?_) (fun h471 => ?_)
                                            · skip
                                              refine qv_iinc C (j := 7) (lv' := [(9, vi (((n + 1) : Nat) : Int)), (11, vi z), (10, vi za), (0, .ref y), (3, vj ((fc r : Nat) : Int)), (5, vi (b2 (decide (r % 2 = 0)))), (7, vi ((nd : Nat) : Int)), (8, vi pl)]) (by omega) rfl (by decide) rfl dq_Mod_enough_477 ?_
                                              refine qv_goto C (tgt := 331) (by decide) dq_Mod_enough_480 ?_
                                              refine qv_ws [4, 5, 0, 1, 2, 3, 6] (ws' := [oc y 4 [vi 0, vi (b2 mi), .ref dg, vi ((nc : Nat) : Int), vi pc, vi 0, vi 0, .ref rw, vi ((mn4 : Nat) : Int), vi fr4x, vj ((r : Nat) : Int), .ref bt, .ref wz, .ref lw, .ref hg, vi ((ls4 : Nat) : Int), vi lp4, vi ((dz f3 n3 : Nat) : Int), vi (((n3 : Nat) : Int) - ((fr3 : Nat) : Int))], ai cI dg 800 gc, ai cI rw 1200 f4, ai cI bt 1100 bb2, ai cI wz 800 (cpd wa d nd), ai cI lw 1200 la4, ai cI hg 1200 (cpd ha f3 (dz f3 n3))]) (by decide) rfl ?_
                                              refine qv_lv [3, 4, 5, 6, 7, 0] (lv' := [(0, .ref y), (3, vj ((fc r : Nat) : Int)), (5, vi (b2 (decide (r % 2 = 0)))), (7, vi ((nd : Nat) : Int)), (8, vi pl), (9, vi (((n + 1) : Nat) : Int))]) rfl ?_
                                              refine ih (n + 1) nc pc 0 0 gc (by omega) (by omega) (fun m a b c' => ?_) hKc.1 (fun q => ?_)
                                              · by_cases q : m = n
                                                · subst q
                                                  rw [hTv c'] at hCa hCb
                                                  intro q0
                                                  have q := (H2_t hCa hCb).mp q0
                                                  rcases q.2 with q1 | ⟨q1, q2⟩
                                                  · omega
                                                  · rw [b2_f h471] at q2; cases q2
                                                · exact hno m a (by omega) c'
                                              · have en : n = nd := by omega
                                                refine ⟨by rw [hnc', cL_ge (by omega)], by rw [hpc', cP_ge (by omega)], rfl, rfl, ?_⟩
                                                rw [hgc', cF_ge (by omega)]; exact hag
                                            · skip
                                              refine qv_iload C rfl dq_Mod_enough_474 ?_
                                              refine qv_ws [4, 5, 0, 1, 2, 3, 6] (ws' := [oc y 4 [vi 0, vi (b2 mi), .ref dg, vi ((nc : Nat) : Int), vi pc, vi 0, vi 0, .ref rw, vi ((mn4 : Nat) : Int), vi fr4x, vj ((r : Nat) : Int), .ref bt, .ref wz, .ref lw, .ref hg, vi ((ls4 : Nat) : Int), vi lp4, vi ((dz f3 n3 : Nat) : Int), vi (((n3 : Nat) : Int) - ((fr3 : Nat) : Int))], ai cI dg 800 gc, ai cI rw 1200 f4, ai cI bt 1100 bb2, ai cI wz 800 (cpd wa d nd), ai cI lw 1200 la4, ai cI hg 1200 (cpd ha f3 (dz f3 n3))]) (by decide) rfl ?_
                                              refine qv_iret C hR ?_ dq_Mod_enough_476 (by decide) (by decide)
                                              refine ⟨r, f4, bb2, (cpd wa d nd), la4, (cpd ha f3 (dz f3 n3)), d2, mn4, fr4x, ls4, lp4, (dz f3 n3), (((n3 : Nat) : Int) - ((fr3 : Nat) : Int)), hNe, hf3', hbb2, hwa3, hla3, hha3, Or.inr ⟨hlt, n, rfl, fun q => absurd q hr0, fun _ => ⟨by omega, by omega, Lv, Hv, hLv, hHv, fun m a b => hno m a b (by omega), fun q => ?_⟩, hag, hd29, ?_⟩⟩
                                              · rw [hTv q] at hCa hCb
                                                exact (H2_t hCa hCb).mpr ⟨Or.inl (by omega), Or.inr ⟨by omega, b2_t h471⟩⟩
                                              · rw [rz_s (by omega), ← hnc', ← hpc', ← hgc'] <;> rfl
                                      · skip
                                        refine qv_iload C rfl dq_Mod_enough_449 ?_
                                        refine qv_ifne C (by omega) (tgt := 477) (by decide) dq_Mod_enough_451 (fun h451 => ?_) (fun h451 => ?_)
                                        · skip
                                          refine qv_iinc C (j := 7) (lv' := [(9, vi (((n + 1) : Nat) : Int)), (11, vi z), (10, vi za), (0, .ref y), (3, vj ((fc r : Nat) : Int)), (5, vi (b2 (decide (r % 2 = 0)))), (7, vi ((nd : Nat) : Int)), (8, vi pl)]) (by omega) rfl (by decide) rfl dq_Mod_enough_477 ?_
                                          refine qv_goto C (tgt := 331) (by decide) dq_Mod_enough_480 ?_
                                          refine qv_ws [4, 5, 0, 1, 2, 3, 6] (ws' := [oc y 4 [vi 0, vi (b2 mi), .ref dg, vi ((nc : Nat) : Int), vi pc, vi 0, vi 0, .ref rw, vi ((mn4 : Nat) : Int), vi fr4x, vj ((r : Nat) : Int), .ref bt, .ref wz, .ref lw, .ref hg, vi ((ls4 : Nat) : Int), vi lp4, vi ((dz f3 n3 : Nat) : Int), vi (((n3 : Nat) : Int) - ((fr3 : Nat) : Int))], ai cI dg 800 gc, ai cI rw 1200 f4, ai cI bt 1100 bb2, ai cI wz 800 (cpd wa d nd), ai cI lw 1200 la4, ai cI hg 1200 (cpd ha f3 (dz f3 n3))]) (by decide) rfl ?_
                                          refine qv_lv [3, 4, 5, 6, 7, 0] (lv' := [(0, .ref y), (3, vj ((fc r : Nat) : Int)), (5, vi (b2 (decide (r % 2 = 0)))), (7, vi ((nd : Nat) : Int)), (8, vi pl), (9, vi (((n + 1) : Nat) : Int))]) rfl ?_
                                          refine ih (n + 1) nc pc 0 0 gc (by omega) (by omega) (fun m a b c' => ?_) hKc.1 (fun q => ?_)
                                          · by_cases q : m = n
                                            · subst q
                                              rw [hTv c'] at hCa hCb
                                              intro q0
                                              have q := (H2_t hCa hCb).mp q0
                                              rcases q.1 with q1 | ⟨q1, q2⟩
                                              · omega
                                              · omega
                                            · exact hno m a (by omega) c'
                                          · have en : n = nd := by omega
                                            refine ⟨by rw [hnc', cL_ge (by omega)], by rw [hpc', cP_ge (by omega)], rfl, rfl, ?_⟩
                                            rw [hgc', cF_ge (by omega)]; exact hag
                                        · skip
                                          refine qv_iload C rfl dq_Mod_enough_454 ?_
                                          refine qv_ifeq C (rb_b2 _) (tgt := 477) (by decide) dq_Mod_enough_456 (fun h456 => ?_) (fun h456 => ?_)
                                          · skip
                                            refine qv_iinc C (j := 7) (lv' := [(9, vi (((n + 1) : Nat) : Int)), (11, vi z), (10, vi za), (0, .ref y), (3, vj ((fc r : Nat) : Int)), (5, vi (b2 (decide (r % 2 = 0)))), (7, vi ((nd : Nat) : Int)), (8, vi pl)]) (by omega) rfl (by decide) rfl dq_Mod_enough_477 ?_
                                            refine qv_goto C (tgt := 331) (by decide) dq_Mod_enough_480 ?_
                                            refine qv_ws [4, 5, 0, 1, 2, 3, 6] (ws' := [oc y 4 [vi 0, vi (b2 mi), .ref dg, vi ((nc : Nat) : Int), vi pc, vi 0, vi 0, .ref rw, vi ((mn4 : Nat) : Int), vi fr4x, vj ((r : Nat) : Int), .ref bt, .ref wz, .ref lw, .ref hg, vi ((ls4 : Nat) : Int), vi lp4, vi ((dz f3 n3 : Nat) : Int), vi (((n3 : Nat) : Int) - ((fr3 : Nat) : Int))], ai cI dg 800 gc, ai cI rw 1200 f4, ai cI bt 1100 bb2, ai cI wz 800 (cpd wa d nd), ai cI lw 1200 la4, ai cI hg 1200 (cpd ha f3 (dz f3 n3))]) (by decide) rfl ?_
                                            refine qv_lv [3, 4, 5, 6, 7, 0] (lv' := [(0, .ref y), (3, vj ((fc r : Nat) : Int)), (5, vi (b2 (decide (r % 2 = 0)))), (7, vi ((nd : Nat) : Int)), (8, vi pl), (9, vi (((n + 1) : Nat) : Int))]) rfl ?_
                                            refine ih (n + 1) nc pc 0 0 gc (by omega) (by omega) (fun m a b c' => ?_) hKc.1 (fun q => ?_)
                                            · by_cases q : m = n
                                              · subst q
                                                rw [hTv c'] at hCa hCb
                                                intro q0
                                                have q := (H2_t hCa hCb).mp q0
                                                rcases q.1 with q1 | ⟨q1, q2⟩
                                                · omega
                                                · rw [b2_f h456] at q2; cases q2
                                              · exact hno m a (by omega) c'
                                            · have en : n = nd := by omega
                                              refine ⟨by rw [hnc', cL_ge (by omega)], by rw [hpc', cP_ge (by omega)], rfl, rfl, ?_⟩
                                              rw [hgc', cF_ge (by omega)]; exact hag
                                          · skip
                                            refine qv_iload C rfl dq_Mod_enough_459 ?_
                                            refine qv_iflt C (by omega) (tgt := 474) (by decide) dq_Mod_enough_461 (fun h461 => ?_) (fun h461 => ?_)
                                            · skip
                                              refine qv_iload C rfl dq_Mod_enough_474 ?_
                                              refine qv_ws [4, 5, 0, 1, 2, 3, 6] (ws' := [oc y 4 [vi 0, vi (b2 mi), .ref dg, vi ((nc : Nat) : Int), vi pc, vi 0, vi 0, .ref rw, vi ((mn4 : Nat) : Int), vi fr4x, vj ((r : Nat) : Int), .ref bt, .ref wz, .ref lw, .ref hg, vi ((ls4 : Nat) : Int), vi lp4, vi ((dz f3 n3 : Nat) : Int), vi (((n3 : Nat) : Int) - ((fr3 : Nat) : Int))], ai cI dg 800 gc, ai cI rw 1200 f4, ai cI bt 1100 bb2, ai cI wz 800 (cpd wa d nd), ai cI lw 1200 la4, ai cI hg 1200 (cpd ha f3 (dz f3 n3))]) (by decide) rfl ?_
                                              refine qv_iret C hR ?_ dq_Mod_enough_476 (by decide) (by decide)
                                              refine ⟨r, f4, bb2, (cpd wa d nd), la4, (cpd ha f3 (dz f3 n3)), d2, mn4, fr4x, ls4, lp4, (dz f3 n3), (((n3 : Nat) : Int) - ((fr3 : Nat) : Int)), hNe, hf3', hbb2, hwa3, hla3, hha3, Or.inr ⟨hlt, n, rfl, fun q => absurd q hr0, fun _ => ⟨by omega, by omega, Lv, Hv, hLv, hHv, fun m a b => hno m a b (by omega), fun q => ?_⟩, hag, hd29, ?_⟩⟩
                                              · rw [hTv q] at hCa hCb
                                                exact (H2_t hCa hCb).mpr ⟨Or.inr ⟨by omega, b2_t h456⟩, Or.inl (by omega)⟩
                                              · rw [rz_s (by omega), ← hnc', ← hpc', ← hgc'] <;> rfl
                                            · skip
                                              refine qv_iload C rfl dq_Mod_enough_464 ?_
                                              refine qv_ifne C (by omega) (tgt := 477) (by decide) dq_Mod_enough_466 (fun h466 => ?_) (fun h466 => ?_)
                                              · skip
                                                refine qv_iinc C (j := 7) (lv' := [(9, vi (((n + 1) : Nat) : Int)), (11, vi z), (10, vi za), (0, .ref y), (3, vj ((fc r : Nat) : Int)), (5, vi (b2 (decide (r % 2 = 0)))), (7, vi ((nd : Nat) : Int)), (8, vi pl)]) (by omega) rfl (by decide) rfl dq_Mod_enough_477 ?_
                                                refine qv_goto C (tgt := 331) (by decide) dq_Mod_enough_480 ?_
                                                refine qv_ws [4, 5, 0, 1, 2, 3, 6] (ws' := [oc y 4 [vi 0, vi (b2 mi), .ref dg, vi ((nc : Nat) : Int), vi pc, vi 0, vi 0, .ref rw, vi ((mn4 : Nat) : Int), vi fr4x, vj ((r : Nat) : Int), .ref bt, .ref wz, .ref lw, .ref hg, vi ((ls4 : Nat) : Int), vi lp4, vi ((dz f3 n3 : Nat) : Int), vi (((n3 : Nat) : Int) - ((fr3 : Nat) : Int))], ai cI dg 800 gc, ai cI rw 1200 f4, ai cI bt 1100 bb2, ai cI wz 800 (cpd wa d nd), ai cI lw 1200 la4, ai cI hg 1200 (cpd ha f3 (dz f3 n3))]) (by decide) rfl ?_
                                                refine qv_lv [3, 4, 5, 6, 7, 0] (lv' := [(0, .ref y), (3, vj ((fc r : Nat) : Int)), (5, vi (b2 (decide (r % 2 = 0)))), (7, vi ((nd : Nat) : Int)), (8, vi pl), (9, vi (((n + 1) : Nat) : Int))]) rfl ?_
                                                refine ih (n + 1) nc pc 0 0 gc (by omega) (by omega) (fun m a b c' => ?_) hKc.1 (fun q => ?_)
                                                · by_cases q : m = n
                                                  · subst q
                                                    rw [hTv c'] at hCa hCb
                                                    intro q0
                                                    have q := (H2_t hCa hCb).mp q0
                                                    rcases q.2 with q1 | ⟨q1, q2⟩
                                                    · omega
                                                    · omega
                                                  · exact hno m a (by omega) c'
                                                · have en : n = nd := by omega
                                                  refine ⟨by rw [hnc', cL_ge (by omega)], by rw [hpc', cP_ge (by omega)], rfl, rfl, ?_⟩
                                                  rw [hgc', cF_ge (by omega)]; exact hag
                                              · skip
                                                refine qv_iload C rfl dq_Mod_enough_469 ?_
                                                refine qv_ifeq C (rb_b2 _) (tgt := 477) (by decide) dq_Mod_enough_471 (fun h471 => ?_) (fun h471 => ?_)
                                                · skip
                                                  refine qv_iinc C (j := 7) (lv' := [(9, vi (((n + 1) : Nat) : Int)), (11, vi z), (10, vi za), (0, .ref y), (3, vj ((fc r : Nat) : Int)), (5, vi (b2 (decide (r % 2 = 0)))), (7, vi ((nd : Nat) : Int)), (8, vi pl)]) (by omega) rfl (by decide) rfl dq_Mod_enough_477 ?_
                                                  refine qv_goto C (tgt := 331) (by decide) dq_Mod_enough_480 ?_
                                                  refine qv_ws [4, 5, 0, 1, 2, 3, 6] (ws' := [oc y 4 [vi 0, vi (b2 mi), .ref dg, vi ((nc : Nat) : Int), vi pc, vi 0, vi 0, .ref rw, vi ((mn4 : Nat) : Int), vi fr4x, vj ((r : Nat) : Int), .ref bt, .ref wz, .ref lw, .ref hg, vi ((ls4 : Nat) : Int), vi lp4, vi ((dz f3 n3 : Nat) : Int), vi (((n3 : Nat) : Int) - ((fr3 : Nat) : Int))], ai cI dg 800 gc, ai cI rw 1200 f4, ai cI bt 1100 bb2, ai cI wz 800 (cpd wa d nd), ai cI lw 1200 la4, ai cI hg 1200 (cpd ha f3 (dz f3 n3))]) (by decide) rfl ?_
                                                  refine qv_lv [3, 4, 5, 6, 7, 0] (lv' := [(0, .ref y), (3, vj ((fc r : Nat) : Int)), (5, vi (b2 (decide (r % 2 = 0)))), (7, vi ((nd : Nat) : Int)), (8, vi pl), (9, vi (((n + 1) : Nat) : Int))]) rfl ?_
                                                  refine ih (n + 1) nc pc 0 0 gc (by omega) (by omega) (fun m a b c' => ?_) hKc.1 (fun q => ?_)
                                                  · by_cases q : m = n
                                                    · subst q
                                                      rw [hTv c'] at hCa hCb
                                                      intro q0
                                                      have q := (H2_t hCa hCb).mp q0
                                                      rcases q.2 with q1 | ⟨q1, q2⟩
                                                      · omega
                                                      · rw [b2_f h471] at q2; cases q2
                                                    · exact hno m a (by omega) c'
                                                  · have en : n = nd := by omega
                                                    refine ⟨by rw [hnc', cL_ge (by omega)], by rw [hpc', cP_ge (by omega)], rfl, rfl, ?_⟩
                                                    rw [hgc', cF_ge (by omega)]; exact hag
                                                · skip
                                                  refine qv_iload C rfl dq_Mod_enough_474 ?_
                                                  refine qv_ws [4, 5, 0, 1, 2, 3, 6] (ws' := [oc y 4 [vi 0, vi (b2 mi), .ref dg, vi ((nc : Nat) : Int), vi pc, vi 0, vi 0, .ref rw, vi ((mn4 : Nat) : Int), vi fr4x, vj ((r : Nat) : Int), .ref bt, .ref wz, .ref lw, .ref hg, vi ((ls4 : Nat) : Int), vi lp4, vi ((dz f3 n3 : Nat) : Int), vi (((n3 : Nat) : Int) - ((fr3 : Nat) : Int))], ai cI dg 800 gc, ai cI rw 1200 f4, ai cI bt 1100 bb2, ai cI wz 800 (cpd wa d nd), ai cI lw 1200 la4, ai cI hg 1200 (cpd ha f3 (dz f3 n3))]) (by decide) rfl ?_
                                                  refine qv_iret C hR ?_ dq_Mod_enough_476 (by decide) (by decide)
                                                  refine ⟨r, f4, bb2, (cpd wa d nd), la4, (cpd ha f3 (dz f3 n3)), d2, mn4, fr4x, ls4, lp4, (dz f3 n3), (((n3 : Nat) : Int) - ((fr3 : Nat) : Int)), hNe, hf3', hbb2, hwa3, hla3, hha3, Or.inr ⟨hlt, n, rfl, fun q => absurd q hr0, fun _ => ⟨by omega, by omega, Lv, Hv, hLv, hHv, fun m a b => hno m a b (by omega), fun q => ?_⟩, hag, hd29, ?_⟩⟩
                                                  · rw [hTv q] at hCa hCb
                                                    exact (H2_t hCa hCb).mpr ⟨Or.inr ⟨by omega, b2_t h456⟩, Or.inr ⟨by omega, b2_t h471⟩⟩
                                                  · rw [rz_s (by omega), ← hnc', ← hpc', ← hgc'] <;> rfl
                                have rst : ∀ n2 k, k + n2 = nd → V K 12 [oc y 4 [vi 0, vi (b2 mi), .ref dg, vi ((nd : Nat) : Int), vi pl, vi ((zrc : Nat) : Int), vi bhc, .ref rw, vi ((mn4 : Nat) : Int), vi fr4x, vj ((r : Nat) : Int), .ref bt, .ref wz, .ref lw, .ref hg, vi ((ls4 : Nat) : Int), vi lp4, vi ((dz f3 n3 : Nat) : Int), vi (((n3 : Nat) : Int) - ((fr3 : Nat) : Int))], ai cI dg 800 (cpd dc (cpd wa d nd) k), ai cI rw 1200 f4, ai cI bt 1100 bb2, ai cI wz 800 (cpd wa d nd), ai cI lw 1200 la4, ai cI hg 1200 (cpd ha f3 (dz f3 n3))] 0 0 353 [(0, .ref y), (3, vj ((fc r : Nat) : Int)), (5, vi (b2 (decide (r % 2 = 0)))), (7, vi ((nd : Nat) : Int)), (8, vi pl), (9, vi ((n : Nat) : Int)), (10, vi ((k : Nat) : Int))] [] := by
                                  intro n2
                                  induction n2 with
                                  | zero =>
                                    intro k hk
                                    have ek : k = nd := by omega
                                    rw [ek, ← hd2]
                                    refine qv_iload C rfl dq_Mod_enough_353 ?_
                                    refine qv_iload C rfl dq_Mod_enough_355 ?_
                                    refine qv_icge C (by omega) (by omega) (tgt := 380) (by decide) dq_Mod_enough_357 (fun h357 => ?_) (fun h357 => ?_)
                                    · skip
                                      refine qv_lv [0, 1, 2, 3, 4, 5] (lv' := [(0, .ref y), (3, vj ((fc r : Nat) : Int)), (5, vi (b2 (decide (r % 2 = 0)))), (7, vi ((nd : Nat) : Int)), (8, vi pl), (9, vi ((n : Nat) : Int))]) rfl ?_
                                      exact bod
                                    · exfalso; omega
                                  | succ n2 ih2 =>
                                    intro k hk
                                    refine qv_iload C rfl dq_Mod_enough_353 ?_
                                    refine qv_iload C rfl dq_Mod_enough_355 ?_
                                    refine qv_icge C (by omega) (by omega) (tgt := 380) (by decide) dq_Mod_enough_357 (fun h357 => ?_) (fun h357 => ?_)
                                    · exfalso; omega
                                    · skip
                                      refine qv_aload_n C rfl dq_Mod_enough_360 ?_
                                      refine qv_get C fl_Mod_9 0 rfl rfl dq_Mod_enough_361 ?_
                                      refine qv_iload C rfl dq_Mod_enough_364 ?_
                                      refine qv_aload_n C rfl dq_Mod_enough_366 ?_
                                      refine qv_get C fl_Mod_19 0 rfl rfl dq_Mod_enough_367 ?_
                                      refine qv_iload C rfl dq_Mod_enough_370 ?_
                                      refine qv_iald C 4 k rfl (by omega) (by omega) (by omega) dq_Mod_enough_372 ?_
                                      refine qv_iast C (ws' := [oc y 4 [vi 0, vi (b2 mi), .ref dg, vi ((nd : Nat) : Int), vi pl, vi ((zrc : Nat) : Int), vi bhc, .ref rw, vi ((mn4 : Nat) : Int), vi fr4x, vj ((r : Nat) : Int), .ref bt, .ref wz, .ref lw, .ref hg, vi ((ls4 : Nat) : Int), vi lp4, vi ((dz f3 n3 : Nat) : Int), vi (((n3 : Nat) : Int) - ((fr3 : Nat) : Int))], ai cI dg 800 (un (cpd dc (cpd wa d nd) k) k ((cpd wa d nd) k)), ai cI rw 1200 f4, ai cI bt 1100 bb2, ai cI wz 800 (cpd wa d nd), ai cI lw 1200 la4, ai cI hg 1200 (cpd ha f3 (dz f3 n3))]) 1 k ((cpd wa d nd) k) rfl (by omega) (by omega) (by omega) (by omega) rfl dq_Mod_enough_373 ?_
                                      refine qv_iinc C (j := 6) (lv' := [(10, vi (((k + 1) : Nat) : Int)), (0, .ref y), (3, vj ((fc r : Nat) : Int)), (5, vi (b2 (decide (r % 2 = 0)))), (7, vi ((nd : Nat) : Int)), (8, vi pl), (9, vi ((n : Nat) : Int))]) (by omega) rfl (by decide) rfl dq_Mod_enough_374 ?_
                                      refine qv_goto C (tgt := 353) (by decide) dq_Mod_enough_377 ?_
                                      refine qv_lv [1, 2, 3, 4, 5, 6, 0] (lv' := [(0, .ref y), (3, vj ((fc r : Nat) : Int)), (5, vi (b2 (decide (r % 2 = 0)))), (7, vi ((nd : Nat) : Int)), (8, vi pl), (9, vi ((n : Nat) : Int)), (10, vi (((k + 1) : Nat) : Int))]) rfl ?_
                                      rw [cpd_s dc (cpd wa d nd) k]
                                      exact ih2 (k + 1) (by omega)
                                refine qv_iload C rfl dq_Mod_enough_331 ?_
                                refine qv_iload C rfl dq_Mod_enough_333 ?_
                                refine qv_icgt C (by omega) (by omega) (tgt := 483) (by decide) dq_Mod_enough_335 (fun h335 => ?_) (fun h335 => ?_)
                                · exfalso; omega
                                · skip
                                  refine qv_aload_n C rfl dq_Mod_enough_338 ?_
                                  refine qv_iload C rfl dq_Mod_enough_339 ?_
                                  refine qv_put C (ws' := [oc y 4 [vi 0, vi (b2 mi), .ref dg, vi ((nd : Nat) : Int), vi plc, vi ((zrc : Nat) : Int), vi bhc, .ref rw, vi ((mn4 : Nat) : Int), vi fr4x, vj ((r : Nat) : Int), .ref bt, .ref wz, .ref lw, .ref hg, vi ((ls4 : Nat) : Int), vi lp4, vi ((dz f3 n3 : Nat) : Int), vi (((n3 : Nat) : Int) - ((fr3 : Nat) : Int))], ai cI dg 800 dc, ai cI rw 1200 f4, ai cI bt 1100 bb2, ai cI wz 800 (cpd wa d nd), ai cI lw 1200 la4, ai cI hg 1200 (cpd ha f3 (dz f3 n3))]) fl_Mod_61 fs_4_3 0 rfl rfl rfl (Nat.le_of_ble_eq_true rfl) rfl dq_Mod_enough_341 ?_
                                  refine qv_aload_n C rfl dq_Mod_enough_344 ?_
                                  refine qv_iload C rfl dq_Mod_enough_345 ?_
                                  refine qv_put C (ws' := [oc y 4 [vi 0, vi (b2 mi), .ref dg, vi ((nd : Nat) : Int), vi pl, vi ((zrc : Nat) : Int), vi bhc, .ref rw, vi ((mn4 : Nat) : Int), vi fr4x, vj ((r : Nat) : Int), .ref bt, .ref wz, .ref lw, .ref hg, vi ((ls4 : Nat) : Int), vi lp4, vi ((dz f3 n3 : Nat) : Int), vi (((n3 : Nat) : Int) - ((fr3 : Nat) : Int))], ai cI dg 800 dc, ai cI rw 1200 f4, ai cI bt 1100 bb2, ai cI wz 800 (cpd wa d nd), ai cI lw 1200 la4, ai cI hg 1200 (cpd ha f3 (dz f3 n3))]) fl_Mod_64 fs_4_4 0 rfl rfl rfl (Nat.le_of_ble_eq_true rfl) rfl dq_Mod_enough_347 ?_
                                  refine qv_iconst C dq_Mod_enough_350 ?_
                                  refine qv_istore C (lv' := [(10, vi 0), (0, .ref y), (3, vj ((fc r : Nat) : Int)), (5, vi (b2 (decide (r % 2 = 0)))), (7, vi ((nd : Nat) : Int)), (8, vi pl), (9, vi ((n : Nat) : Int))]) (by decide) rfl dq_Mod_enough_351 ?_
                                  refine qv_lv [1, 2, 3, 4, 5, 6, 0] (lv' := [(0, .ref y), (3, vj ((fc r : Nat) : Int)), (5, vi (b2 (decide (r % 2 = 0)))), (7, vi ((nd : Nat) : Int)), (8, vi pl), (9, vi ((n : Nat) : Int)), (10, vi 0)]) rfl ?_
                                  have r0 := rst nd 0 (by omega)
                                  rw [cpd_0] at r0
                                  exact r0
                            exact lpn nd 1 _ _ _ _ _ (by omega) (by omega) (fun m a b => by omega) (hzero9) (fun q => by omega)
                          · skip
                            refine qv_iload C rfl dq_Mod_enough_454 ?_
                            refine qv_ifeq C (rb_b2 _) (tgt := 477) (by decide) dq_Mod_enough_456 (fun h456 => ?_) (fun h456 => ?_)
                            · skip
                              refine qv_iinc C (j := 7) (lv' := [(9, vi 1), (11, vi z), (10, vi za), (0, .ref y), (3, vj ((fc r : Nat) : Int)), (5, vi (b2 (decide (r % 2 = 0)))), (7, vi ((nd : Nat) : Int)), (8, vi pl)]) (by omega) rfl (by decide) rfl dq_Mod_enough_477 ?_
                              refine qv_goto C (tgt := 331) (by decide) dq_Mod_enough_480 ?_
                              exfalso
                              unfold Cs at hCa
                              omega
                            · skip
                              refine qv_iload C rfl dq_Mod_enough_459 ?_
                              refine qv_iflt C (by omega) (tgt := 474) (by decide) dq_Mod_enough_461 (fun h461 => ?_) (fun h461 => ?_)
                              · skip
                                refine qv_iload C rfl dq_Mod_enough_474 ?_
                                refine qv_ws [4, 5, 0, 1, 2, 3, 6] (ws' := [oc y 4 [vi 0, vi (b2 mi), .ref dg, vi ((0 : Nat) : Int), vi 0, vi 0, vi 0, .ref rw, vi ((mn4 : Nat) : Int), vi fr4x, vj ((r : Nat) : Int), .ref bt, .ref wz, .ref lw, .ref hg, vi ((ls4 : Nat) : Int), vi lp4, vi ((dz f3 n3 : Nat) : Int), vi (((n3 : Nat) : Int) - ((fr3 : Nat) : Int))], ai cI dg 800 d2, ai cI rw 1200 f4, ai cI bt 1100 bb2, ai cI wz 800 (cpd wa d nd), ai cI lw 1200 la4, ai cI hg 1200 (cpd ha f3 (dz f3 n3))]) (by decide) rfl ?_
                                refine qv_iret C hR ?_ dq_Mod_enough_476 (by decide) (by decide)
                                exfalso
                                unfold Cs at hCa
                                omega
                              · skip
                                refine qv_iload C rfl dq_Mod_enough_464 ?_
                                refine qv_ifne C (by omega) (tgt := 477) (by decide) dq_Mod_enough_466 (fun h466 => ?_) (fun h466 => ?_)
                                · skip
                                  refine qv_iinc C (j := 7) (lv' := [(9, vi 1), (11, vi z), (10, vi za), (0, .ref y), (3, vj ((fc r : Nat) : Int)), (5, vi (b2 (decide (r % 2 = 0)))), (7, vi ((nd : Nat) : Int)), (8, vi pl)]) (by omega) rfl (by decide) rfl dq_Mod_enough_477 ?_
                                  refine qv_goto C (tgt := 331) (by decide) dq_Mod_enough_480 ?_
                                  exfalso
                                  unfold Cs at hCa
                                  omega
                                · skip
                                  refine qv_iload C rfl dq_Mod_enough_469 ?_
                                  refine qv_ifeq C (rb_b2 _) (tgt := 477) (by decide) dq_Mod_enough_471 (fun h471 => ?_) (fun h471 => ?_)
                                  · skip
                                    refine qv_iinc C (j := 7) (lv' := [(9, vi 1), (11, vi z), (10, vi za), (0, .ref y), (3, vj ((fc r : Nat) : Int)), (5, vi (b2 (decide (r % 2 = 0)))), (7, vi ((nd : Nat) : Int)), (8, vi pl)]) (by omega) rfl (by decide) rfl dq_Mod_enough_477 ?_
                                    refine qv_goto C (tgt := 331) (by decide) dq_Mod_enough_480 ?_
                                    exfalso
                                    unfold Cs at hCa
                                    omega
                                  · skip
                                    refine qv_iload C rfl dq_Mod_enough_474 ?_
                                    refine qv_ws [4, 5, 0, 1, 2, 3, 6] (ws' := [oc y 4 [vi 0, vi (b2 mi), .ref dg, vi ((0 : Nat) : Int), vi 0, vi 0, vi 0, .ref rw, vi ((mn4 : Nat) : Int), vi fr4x, vj ((r : Nat) : Int), .ref bt, .ref wz, .ref lw, .ref hg, vi ((ls4 : Nat) : Int), vi lp4, vi ((dz f3 n3 : Nat) : Int), vi (((n3 : Nat) : Int) - ((fr3 : Nat) : Int))], ai cI dg 800 d2, ai cI rw 1200 f4, ai cI bt 1100 bb2, ai cI wz 800 (cpd wa d nd), ai cI lw 1200 la4, ai cI hg 1200 (cpd ha f3 (dz f3 n3))]) (by decide) rfl ?_
                                    refine qv_iret C hR ?_ dq_Mod_enough_476 (by decide) (by decide)
                                    exfalso
                                    unfold Cs at hCa
                                    omega
                    · exfalso; omega
                  have rst0 : ∀ n2 k, k + n2 = nd → V K 12 [oc y 4 [vi 0, vi (b2 mi), .ref dg, vi ((nd : Nat) : Int), vi pl, vi ((zr : Nat) : Int), vi bh, .ref rw, vi ((mn4 : Nat) : Int), vi fr4x, vj ((r : Nat) : Int), .ref bt, .ref wz, .ref lw, .ref hg, vi ((ls4 : Nat) : Int), vi lp4, vi ((dz f3 n3 : Nat) : Int), vi (((n3 : Nat) : Int) - ((fr3 : Nat) : Int))], ai cI dg 800 (cpd d (cpd wa d nd) k), ai cI rw 1200 f4, ai cI bt 1100 bb2, ai cI wz 800 (cpd wa d nd), ai cI lw 1200 la4, ai cI hg 1200 (cpd ha f3 (dz f3 n3))] 0 0 353 [(0, .ref y), (3, vj ((fc r : Nat) : Int)), (5, vi (b2 (decide (r % 2 = 0)))), (7, vi ((nd : Nat) : Int)), (8, vi pl), (9, vi 0), (10, vi ((k : Nat) : Int))] [] := by
                    intro n2
                    induction n2 with
                    | zero =>
                      intro k hk
                      have ek : k = nd := by omega
                      rw [ek, ← hd2]
                      refine qv_iload C rfl dq_Mod_enough_353 ?_
                      refine qv_iload C rfl dq_Mod_enough_355 ?_
                      refine qv_icge C (by omega) (by omega) (tgt := 380) (by decide) dq_Mod_enough_357 (fun h357 => ?_) (fun h357 => ?_)
                      · skip
                        refine qv_lv [0, 1, 2, 3, 4, 5] (lv' := [(0, .ref y), (3, vj ((fc r : Nat) : Int)), (5, vi (b2 (decide (r % 2 = 0)))), (7, vi ((nd : Nat) : Int)), (8, vi pl), (9, vi 0)]) rfl ?_
                        exact bod0
                      · exfalso; omega
                    | succ n2 ih2 =>
                      intro k hk
                      refine qv_iload C rfl dq_Mod_enough_353 ?_
                      refine qv_iload C rfl dq_Mod_enough_355 ?_
                      refine qv_icge C (by omega) (by omega) (tgt := 380) (by decide) dq_Mod_enough_357 (fun h357 => ?_) (fun h357 => ?_)
                      · exfalso; omega
                      · skip
                        refine qv_aload_n C rfl dq_Mod_enough_360 ?_
                        refine qv_get C fl_Mod_9 0 rfl rfl dq_Mod_enough_361 ?_
                        refine qv_iload C rfl dq_Mod_enough_364 ?_
                        refine qv_aload_n C rfl dq_Mod_enough_366 ?_
                        refine qv_get C fl_Mod_19 0 rfl rfl dq_Mod_enough_367 ?_
                        refine qv_iload C rfl dq_Mod_enough_370 ?_
                        refine qv_iald C 4 k rfl (by omega) (by omega) (by omega) dq_Mod_enough_372 ?_
                        refine qv_iast C (ws' := [oc y 4 [vi 0, vi (b2 mi), .ref dg, vi ((nd : Nat) : Int), vi pl, vi ((zr : Nat) : Int), vi bh, .ref rw, vi ((mn4 : Nat) : Int), vi fr4x, vj ((r : Nat) : Int), .ref bt, .ref wz, .ref lw, .ref hg, vi ((ls4 : Nat) : Int), vi lp4, vi ((dz f3 n3 : Nat) : Int), vi (((n3 : Nat) : Int) - ((fr3 : Nat) : Int))], ai cI dg 800 (un (cpd d (cpd wa d nd) k) k ((cpd wa d nd) k)), ai cI rw 1200 f4, ai cI bt 1100 bb2, ai cI wz 800 (cpd wa d nd), ai cI lw 1200 la4, ai cI hg 1200 (cpd ha f3 (dz f3 n3))]) 1 k ((cpd wa d nd) k) rfl (by omega) (by omega) (by omega) (by omega) rfl dq_Mod_enough_373 ?_
                        refine qv_iinc C (j := 6) (lv' := [(10, vi (((k + 1) : Nat) : Int)), (0, .ref y), (3, vj ((fc r : Nat) : Int)), (5, vi (b2 (decide (r % 2 = 0)))), (7, vi ((nd : Nat) : Int)), (8, vi pl), (9, vi 0)]) (by omega) rfl (by decide) rfl dq_Mod_enough_374 ?_
                        refine qv_goto C (tgt := 353) (by decide) dq_Mod_enough_377 ?_
                        refine qv_lv [1, 2, 3, 4, 5, 6, 0] (lv' := [(0, .ref y), (3, vj ((fc r : Nat) : Int)), (5, vi (b2 (decide (r % 2 = 0)))), (7, vi ((nd : Nat) : Int)), (8, vi pl), (9, vi 0), (10, vi (((k + 1) : Nat) : Int))]) rfl ?_
                        rw [cpd_s d (cpd wa d nd) k]
                        exact ih2 (k + 1) (by omega)
                  refine qv_iload C rfl dq_Mod_enough_331 ?_
                  refine qv_iload C rfl dq_Mod_enough_333 ?_
                  refine qv_icgt C (by omega) (by omega) (tgt := 483) (by decide) dq_Mod_enough_335 (fun h335 => ?_) (fun h335 => ?_)
                  · exfalso; omega
                  · skip
                    refine qv_aload_n C rfl dq_Mod_enough_338 ?_
                    refine qv_iload C rfl dq_Mod_enough_339 ?_
                    refine qv_put C (ws' := [oc y 4 [vi 0, vi (b2 mi), .ref dg, vi ((nd : Nat) : Int), vi pl, vi ((zr : Nat) : Int), vi bh, .ref rw, vi ((mn4 : Nat) : Int), vi fr4x, vj ((r : Nat) : Int), .ref bt, .ref wz, .ref lw, .ref hg, vi ((ls4 : Nat) : Int), vi lp4, vi ((dz f3 n3 : Nat) : Int), vi (((n3 : Nat) : Int) - ((fr3 : Nat) : Int))], ai cI dg 800 d, ai cI rw 1200 f4, ai cI bt 1100 bb2, ai cI wz 800 (cpd wa d nd), ai cI lw 1200 la4, ai cI hg 1200 (cpd ha f3 (dz f3 n3))]) fl_Mod_61 fs_4_3 0 rfl rfl rfl (Nat.le_of_ble_eq_true rfl) rfl dq_Mod_enough_341 ?_
                    refine qv_aload_n C rfl dq_Mod_enough_344 ?_
                    refine qv_iload C rfl dq_Mod_enough_345 ?_
                    refine qv_put C (ws' := [oc y 4 [vi 0, vi (b2 mi), .ref dg, vi ((nd : Nat) : Int), vi pl, vi ((zr : Nat) : Int), vi bh, .ref rw, vi ((mn4 : Nat) : Int), vi fr4x, vj ((r : Nat) : Int), .ref bt, .ref wz, .ref lw, .ref hg, vi ((ls4 : Nat) : Int), vi lp4, vi ((dz f3 n3 : Nat) : Int), vi (((n3 : Nat) : Int) - ((fr3 : Nat) : Int))], ai cI dg 800 d, ai cI rw 1200 f4, ai cI bt 1100 bb2, ai cI wz 800 (cpd wa d nd), ai cI lw 1200 la4, ai cI hg 1200 (cpd ha f3 (dz f3 n3))]) fl_Mod_64 fs_4_4 0 rfl rfl rfl (Nat.le_of_ble_eq_true rfl) rfl dq_Mod_enough_347 ?_
                    refine qv_iconst C dq_Mod_enough_350 ?_
                    refine qv_istore C (lv' := [(10, vi 0), (0, .ref y), (3, vj ((fc r : Nat) : Int)), (5, vi (b2 (decide (r % 2 = 0)))), (7, vi ((nd : Nat) : Int)), (8, vi pl), (9, vi 0)]) (by decide) rfl dq_Mod_enough_351 ?_
                    refine qv_lv [1, 2, 3, 4, 5, 6, 0] (lv' := [(0, .ref y), (3, vj ((fc r : Nat) : Int)), (5, vi (b2 (decide (r % 2 = 0)))), (7, vi ((nd : Nat) : Int)), (8, vi pl), (9, vi 0), (10, vi 0)]) rfl ?_
                    have r0 := rst0 nd 0 (by omega)
                    rw [cpd_0] at r0
                    exact r0
                refine qv_iload C rfl dq_Mod_enough_128 ?_
                refine qv_aload_n C rfl dq_Mod_enough_130 ?_
                refine qv_get C fl_Mod_40 0 rfl rfl dq_Mod_enough_131 ?_
                refine qv_icge C (by omega) (by omega) (tgt := 157) (by decide) dq_Mod_enough_134 (fun h134 => ?_) (fun h134 => ?_)
                · skip
                  refine qv_lload_n C rfl dq_Mod_enough_157 ?_
                  refine qv_ldc2 C (z := 4503599627370496) wk_Mod_38 dq_Mod_enough_158 ?_
                  refine qv_lcne C (by omega) (by omega) dq_Mod_enough_161 (tgt := 174) (by decide) dq_Mod_enough_162 (fun h161 => ?_) (fun h161 => ?_)
                  · skip
                    refine qv_iconst C dq_Mod_enough_174 ?_
                    refine qv_istore C (lv' := [(6, vi 0), (0, .ref y), (1, vi (((r / 4503599627370496) : Nat) : Int)), (2, vi (((pw r : Nat) : Int) - 1074)), (3, vj ((fc r : Nat) : Int)), (5, vi (b2 (decide (r % 2 = 0))))]) (by decide) rfl dq_Mod_enough_175 ?_
                    refine qv_lload_n C rfl dq_Mod_enough_177 ?_
                    refine qv_lconst C (z := 0) (by decide) dq_Mod_enough_178 ?_
                    refine qv_lcle C (by omega) (by omega) dq_Mod_enough_179 (tgt := 223) (by decide) dq_Mod_enough_180 (fun h179 => ?_) (fun h179 => ?_)
                    · exfalso; omega
                    · skip
                      refine qv_aload_n C rfl dq_Mod_enough_183 ?_
                      refine qv_iload C rfl dq_Mod_enough_184 ?_
                      refine qv_ifeq C (by omega) (tgt := 199) (by decide) dq_Mod_enough_186 (fun h186 => ?_) (fun h186 => ?_)
                      · skip
                        refine qv_ldc2 C (z := 2) wk_Mod_116 dq_Mod_enough_199 ?_
                        refine qv_lload_n C rfl dq_Mod_enough_202 ?_
                        refine qv_lmul C (r := (((2 * fc r) : Nat) : Int)) (by omega) dq_Mod_enough_203 ?_
                        refine qv_lconst C (z := 1) (by decide) dq_Mod_enough_204 ?_
                        refine qv_lsub C (r := (((2 * fc r - 1) : Nat) : Int)) (by omega) dq_Mod_enough_205 ?_
                        refine qv_iload C rfl dq_Mod_enough_206 ?_
                        refine qv_ifeq C (by omega) (tgt := 217) (by decide) dq_Mod_enough_208 (fun h208 => ?_) (fun h208 => ?_)
                        · skip
                          refine qv_iload_n C rfl dq_Mod_enough_217 ?_
                          refine qv_iconst C dq_Mod_enough_218 ?_
                          refine qv_isub C (r := (((pw r : Nat) : Int) - 1075)) (by omega) dq_Mod_enough_219 ?_
                          have hnar : ¬ (fc r = 4503599627370496 ∧ 1 < r / 4503599627370496) := by omega
                          refine qc_vV (wr := [ai cI dg 800 d, ai cI bt 1100 bb2, ai cI wz 800 wa, ai cI lw 1200 la, ai cI hg 1200 (cpd ha f3 (dz f3 n3))]) (st := []) C cl_Mod_118 cd_Mod_exactly (c_Mod_exactly cI cJ y dg rw bt wz lw hg 0 mi nd pl zr bh (dz f3 n3) ((fr3 : Int) - ((n3 : Int) - ((dz f3 n3 : Nat) : Int))) ((r : Nat) : Int) ls lp (dz f3 n3) (((n3 : Nat) : Int) - ((fr3 : Nat) : Int)) f3 (2 * fc r - 1) (((pw r : Nat) : Int) - 1075) hR3.1 (by omega) (by omega) (by omega) (by omega)) (Xok_t K) Xbl_t [0, 2] [1, 3, 4, 5, 6] rfl rfl (by decide) (by decide) (by decide) 0 rfl rfl rfl rfl rfl (Nat.le_of_ble_eq_true rfl) (by decide) (by decide) dq_Mod_enough_220 (fun u hu => ?_)
                          obtain ⟨f4, n4, fr4, rfl, hR4, hn4, hfr4⟩ := hu
                          have hv4 : (2 * fc r - 1) * 2 ^ ((((pw r : Nat) : Int) - 1075) + 1076).toNat = md (r - 1) * 2 := by
                            rw [show ((((pw r : Nat) : Int) - 1075) + 1076).toNat = pw r + 1 by omega]
                            exact md_lo1 hfc hnar
                          show V K 12 [ai cI dg 800 d, ai cI bt 1100 bb2, ai cI wz 800 wa, ai cI lw 1200 la, ai cI hg 1200 (cpd ha f3 (dz f3 n3)), oc y 4 [vi 0, vi (b2 mi), .ref dg, vi ((nd : Nat) : Int), vi pl, vi ((zr : Nat) : Int), vi bh, .ref rw, vi ((dz f4 n4 : Nat) : Int), vi ((fr4 : Int) - ((n4 : Int) - ((dz f4 n4 : Nat) : Int))), vj ((r : Nat) : Int), .ref bt, .ref wz, .ref lw, .ref hg, vi ((ls : Nat) : Int), vi lp, vi ((dz f3 n3 : Nat) : Int), vi (((n3 : Nat) : Int) - ((fr3 : Nat) : Int))], ai cI rw 1200 f4] 0 0 223 [(6, vi 0), (0, .ref y), (1, vi (((r / 4503599627370496) : Nat) : Int)), (2, vi (((pw r : Nat) : Int) - 1074)), (3, vj ((fc r : Nat) : Int)), (5, vi (b2 (decide (r % 2 = 0))))] []
                          refine qv_aload_n C rfl dq_Mod_enough_223 ?_
                          refine qv_lload_n C rfl dq_Mod_enough_224 ?_
                          refine qv_lconst C (z := 0) (by decide) dq_Mod_enough_225 ?_
                          refine qv_lcle C (by omega) (by omega) dq_Mod_enough_226 (tgt := 237) (by decide) dq_Mod_enough_227 (fun h226 => ?_) (fun h226 => ?_)
                          · exfalso; omega
                          · skip
                            refine qv_aload_n C rfl dq_Mod_enough_230 ?_
                            refine qv_get C fl_Mod_40 5 rfl rfl dq_Mod_enough_231 ?_
                            refine qv_goto C (tgt := 238) (by decide) dq_Mod_enough_234 ?_
                            refine qv_put C (ws' := [ai cI dg 800 d, ai cI bt 1100 bb2, ai cI wz 800 wa, ai cI lw 1200 la, ai cI hg 1200 (cpd ha f3 (dz f3 n3)), oc y 4 [vi 0, vi (b2 mi), .ref dg, vi ((nd : Nat) : Int), vi pl, vi ((zr : Nat) : Int), vi bh, .ref rw, vi ((dz f4 n4 : Nat) : Int), vi ((fr4 : Int) - ((n4 : Int) - ((dz f4 n4 : Nat) : Int))), vj ((r : Nat) : Int), .ref bt, .ref wz, .ref lw, .ref hg, vi ((dz f4 n4 : Nat) : Int), vi lp, vi ((dz f3 n3 : Nat) : Int), vi (((n3 : Nat) : Int) - ((fr3 : Nat) : Int))], ai cI rw 1200 f4]) fl_Mod_130 fs_4_15 5 rfl rfl rfl (Nat.le_of_ble_eq_true rfl) rfl dq_Mod_enough_238 ?_
                            refine qv_aload_n C rfl dq_Mod_enough_241 ?_
                            refine qv_aload_n C rfl dq_Mod_enough_242 ?_
                            refine qv_get C fl_Mod_40 5 rfl rfl dq_Mod_enough_243 ?_
                            refine qv_aload_n C rfl dq_Mod_enough_246 ?_
                            refine qv_get C fl_Mod_43 5 rfl rfl dq_Mod_enough_247 ?_
                            refine qv_isub C (r := (((n4 : Nat) : Int) - ((fr4 : Nat) : Int))) (by omega) dq_Mod_enough_250 ?_
                            refine qv_put C (ws' := [ai cI dg 800 d, ai cI bt 1100 bb2, ai cI wz 800 wa, ai cI lw 1200 la, ai cI hg 1200 (cpd ha f3 (dz f3 n3)), oc y 4 [vi 0, vi (b2 mi), .ref dg, vi ((nd : Nat) : Int), vi pl, vi ((zr : Nat) : Int), vi bh, .ref rw, vi ((dz f4 n4 : Nat) : Int), vi ((fr4 : Int) - ((n4 : Int) - ((dz f4 n4 : Nat) : Int))), vj ((r : Nat) : Int), .ref bt, .ref wz, .ref lw, .ref hg, vi ((dz f4 n4 : Nat) : Int), vi (((n4 : Nat) : Int) - ((fr4 : Nat) : Int)), vi ((dz f3 n3 : Nat) : Int), vi (((n3 : Nat) : Int) - ((fr3 : Nat) : Int))], ai cI rw 1200 f4]) fl_Mod_133 fs_4_16 5 rfl rfl rfl (Nat.le_of_ble_eq_true rfl) rfl dq_Mod_enough_251 ?_
                            refine qv_iconst C dq_Mod_enough_254 ?_
                            refine qv_istore C (lv' := [(7, vi 0), (6, vi 0), (0, .ref y), (1, vi (((r / 4503599627370496) : Nat) : Int)), (2, vi (((pw r : Nat) : Int) - 1074)), (3, vj ((fc r : Nat) : Int)), (5, vi (b2 (decide (r % 2 = 0))))]) (by decide) rfl dq_Mod_enough_255 ?_
                            have hML := MidR_of (r := r - 1) (g := cpd la f4 (dz f4 n4)) hR4 hn4 hfr4 hv4 (cpd_9 hla hR4.1 _) (fun i hi => cpd_lt hi)
                            have hdl4 := dz_le f4 n4
                            refine qv_lv [2, 5, 6, 0] (lv' := [(0, .ref y), (3, vj ((fc r : Nat) : Int)), (5, vi (b2 (decide (r % 2 = 0)))), (7, vi 0)]) rfl ?_
                            refine qv_ws [5, 0, 6, 1, 2, 3, 4] (ws' := [oc y 4 [vi 0, vi (b2 mi), .ref dg, vi ((nd : Nat) : Int), vi pl, vi ((zr : Nat) : Int), vi bh, .ref rw, vi ((dz f4 n4 : Nat) : Int), vi ((fr4 : Int) - ((n4 : Int) - ((dz f4 n4 : Nat) : Int))), vj ((r : Nat) : Int), .ref bt, .ref wz, .ref lw, .ref hg, vi ((dz f4 n4 : Nat) : Int), vi (((n4 : Nat) : Int) - ((fr4 : Nat) : Int)), vi ((dz f3 n3 : Nat) : Int), vi (((n3 : Nat) : Int) - ((fr3 : Nat) : Int))], ai cI dg 800 d, ai cI rw 1200 f4, ai cI bt 1100 bb2, ai cI wz 800 wa, ai cI lw 1200 la, ai cI hg 1200 (cpd ha f3 (dz f3 n3))]) (by decide) rfl ?_
                            have cl4 : ∀ n2 k, k + n2 = dz f4 n4 → V K 12 [oc y 4 [vi 0, vi (b2 mi), .ref dg, vi ((nd : Nat) : Int), vi pl, vi ((zr : Nat) : Int), vi bh, .ref rw, vi ((dz f4 n4 : Nat) : Int), vi ((fr4 : Int) - ((n4 : Int) - ((dz f4 n4 : Nat) : Int))), vj ((r : Nat) : Int), .ref bt, .ref wz, .ref lw, .ref hg, vi ((dz f4 n4 : Nat) : Int), vi (((n4 : Nat) : Int) - ((fr4 : Nat) : Int)), vi ((dz f3 n3 : Nat) : Int), vi (((n3 : Nat) : Int) - ((fr3 : Nat) : Int))], ai cI dg 800 d, ai cI rw 1200 f4, ai cI bt 1100 bb2, ai cI wz 800 wa, ai cI lw 1200 (cpd la f4 k), ai cI hg 1200 (cpd ha f3 (dz f3 n3))] 0 0 257 [(0, .ref y), (3, vj ((fc r : Nat) : Int)), (5, vi (b2 (decide (r % 2 = 0)))), (7, vi ((k : Nat) : Int))] [] := by
                              intro n2
                              induction n2 with
                              | zero =>
                                intro k hk
                                have ek : k = dz f4 n4 := by omega
                                rw [ek]
                                refine qv_iload C rfl dq_Mod_enough_257 ?_
                                refine qv_aload_n C rfl dq_Mod_enough_259 ?_
                                refine qv_get C fl_Mod_130 0 rfl rfl dq_Mod_enough_260 ?_
                                refine qv_icge C (by omega) (by omega) (tgt := 286) (by decide) dq_Mod_enough_263 (fun h263 => ?_) (fun h263 => ?_)
                                · skip
                                  refine qv_aload_n C rfl dq_Mod_enough_286 ?_
                                  refine qv_get C fl_Mod_61 0 rfl rfl dq_Mod_enough_287 ?_
                                  refine qv_istore C (lv' := [(7, vi ((nd : Nat) : Int)), (0, .ref y), (3, vj ((fc r : Nat) : Int)), (5, vi (b2 (decide (r % 2 = 0))))]) (by decide) rfl dq_Mod_enough_290 ?_
                                  refine qv_aload_n C rfl dq_Mod_enough_292 ?_
                                  refine qv_get C fl_Mod_64 0 rfl rfl dq_Mod_enough_293 ?_
                                  refine qv_istore C (lv' := [(8, vi pl), (7, vi ((nd : Nat) : Int)), (0, .ref y), (3, vj ((fc r : Nat) : Int)), (5, vi (b2 (decide (r % 2 = 0))))]) (by decide) rfl dq_Mod_enough_296 ?_
                                  refine qv_iconst C dq_Mod_enough_298 ?_
                                  refine qv_istore C (lv' := [(9, vi 0), (8, vi pl), (7, vi ((nd : Nat) : Int)), (0, .ref y), (3, vj ((fc r : Nat) : Int)), (5, vi (b2 (decide (r % 2 = 0))))]) (by decide) rfl dq_Mod_enough_299 ?_
                                  refine qv_lv [3, 4, 5, 2, 1, 0] (lv' := [(0, .ref y), (3, vj ((fc r : Nat) : Int)), (5, vi (b2 (decide (r % 2 = 0)))), (7, vi ((nd : Nat) : Int)), (8, vi pl), (9, vi 0)]) rfl ?_
                                  have cw : ∀ n2 k, k + n2 = nd → V K 12 [oc y 4 [vi 0, vi (b2 mi), .ref dg, vi ((nd : Nat) : Int), vi pl, vi ((zr : Nat) : Int), vi bh, .ref rw, vi ((dz f4 n4 : Nat) : Int), vi ((fr4 : Int) - ((n4 : Int) - ((dz f4 n4 : Nat) : Int))), vj ((r : Nat) : Int), .ref bt, .ref wz, .ref lw, .ref hg, vi ((dz f4 n4 : Nat) : Int), vi (((n4 : Nat) : Int) - ((fr4 : Nat) : Int)), vi ((dz f3 n3 : Nat) : Int), vi (((n3 : Nat) : Int) - ((fr3 : Nat) : Int))], ai cI dg 800 d, ai cI rw 1200 f4, ai cI bt 1100 bb2, ai cI wz 800 (cpd wa d k), ai cI lw 1200 (cpd la f4 (dz f4 n4)), ai cI hg 1200 (cpd ha f3 (dz f3 n3))] 0 0 301 [(0, .ref y), (3, vj ((fc r : Nat) : Int)), (5, vi (b2 (decide (r % 2 = 0)))), (7, vi ((nd : Nat) : Int)), (8, vi pl), (9, vi ((k : Nat) : Int))] [] := by
                                    intro n2
                                    induction n2 with
                                    | zero =>
                                      intro k hk
                                      have ek : k = nd := by omega
                                      rw [ek]
                                      refine qv_iload C rfl dq_Mod_enough_301 ?_
                                      refine qv_iload C rfl dq_Mod_enough_303 ?_
                                      refine qv_icge C (by omega) (by omega) (tgt := 328) (by decide) dq_Mod_enough_305 (fun h305 => ?_) (fun h305 => ?_)
                                      · skip
                                        refine qv_iconst C dq_Mod_enough_328 ?_
                                        refine qv_istore C (lv' := [(9, vi 0), (0, .ref y), (3, vj ((fc r : Nat) : Int)), (5, vi (b2 (decide (r % 2 = 0)))), (7, vi ((nd : Nat) : Int)), (8, vi pl)]) (by decide) rfl dq_Mod_enough_329 ?_
                                        refine qv_lv [1, 2, 3, 4, 5, 0] (lv' := [(0, .ref y), (3, vj ((fc r : Nat) : Int)), (5, vi (b2 (decide (r % 2 = 0)))), (7, vi ((nd : Nat) : Int)), (8, vi pl), (9, vi 0)]) rfl ?_
                                        exact t331 f4 _ _ _ _ _ hR4.1 hML
                                      · exfalso; omega
                                    | succ n2 ih2 =>
                                      intro k hk
                                      refine qv_iload C rfl dq_Mod_enough_301 ?_
                                      refine qv_iload C rfl dq_Mod_enough_303 ?_
                                      refine qv_icge C (by omega) (by omega) (tgt := 328) (by decide) dq_Mod_enough_305 (fun h305 => ?_) (fun h305 => ?_)
                                      · exfalso; omega
                                      · skip
                                        refine qv_aload_n C rfl dq_Mod_enough_308 ?_
                                        refine qv_get C fl_Mod_19 0 rfl rfl dq_Mod_enough_309 ?_
                                        refine qv_iload C rfl dq_Mod_enough_312 ?_
                                        refine qv_aload_n C rfl dq_Mod_enough_314 ?_
                                        refine qv_get C fl_Mod_9 0 rfl rfl dq_Mod_enough_315 ?_
                                        refine qv_iload C rfl dq_Mod_enough_318 ?_
                                        refine qv_iald C 1 k rfl (by omega) (by omega) (by omega) dq_Mod_enough_320 ?_
                                        refine qv_iast C (ws' := [oc y 4 [vi 0, vi (b2 mi), .ref dg, vi ((nd : Nat) : Int), vi pl, vi ((zr : Nat) : Int), vi bh, .ref rw, vi ((dz f4 n4 : Nat) : Int), vi ((fr4 : Int) - ((n4 : Int) - ((dz f4 n4 : Nat) : Int))), vj ((r : Nat) : Int), .ref bt, .ref wz, .ref lw, .ref hg, vi ((dz f4 n4 : Nat) : Int), vi (((n4 : Nat) : Int) - ((fr4 : Nat) : Int)), vi ((dz f3 n3 : Nat) : Int), vi (((n3 : Nat) : Int) - ((fr3 : Nat) : Int))], ai cI dg 800 d, ai cI rw 1200 f4, ai cI bt 1100 bb2, ai cI wz 800 (un (cpd wa d k) k (d k)), ai cI lw 1200 (cpd la f4 (dz f4 n4)), ai cI hg 1200 (cpd ha f3 (dz f3 n3))]) 4 k (d k) rfl (by omega) (by omega) (by omega) (by omega) rfl dq_Mod_enough_321 ?_
                                        refine qv_iinc C (j := 5) (lv' := [(9, vi (((k + 1) : Nat) : Int)), (0, .ref y), (3, vj ((fc r : Nat) : Int)), (5, vi (b2 (decide (r % 2 = 0)))), (7, vi ((nd : Nat) : Int)), (8, vi pl)]) (by omega) rfl (by decide) rfl dq_Mod_enough_322 ?_
                                        refine qv_goto C (tgt := 301) (by decide) dq_Mod_enough_325 ?_
                                        refine qv_lv [1, 2, 3, 4, 5, 0] (lv' := [(0, .ref y), (3, vj ((fc r : Nat) : Int)), (5, vi (b2 (decide (r % 2 = 0)))), (7, vi ((nd : Nat) : Int)), (8, vi pl), (9, vi (((k + 1) : Nat) : Int))]) rfl ?_
                                        rw [cpd_s wa d k]
                                        exact ih2 (k + 1) (by omega)
                                  have cw0 := cw (nd) 0 (by omega)
                                  rw [cpd_0] at cw0
                                  exact cw0
                                · exfalso; omega
                              | succ n2 ih2 =>
                                intro k hk
                                refine qv_iload C rfl dq_Mod_enough_257 ?_
                                refine qv_aload_n C rfl dq_Mod_enough_259 ?_
                                refine qv_get C fl_Mod_130 0 rfl rfl dq_Mod_enough_260 ?_
                                refine qv_icge C (by omega) (by omega) (tgt := 286) (by decide) dq_Mod_enough_263 (fun h263 => ?_) (fun h263 => ?_)
                                · exfalso; omega
                                · skip
                                  refine qv_aload_n C rfl dq_Mod_enough_266 ?_
                                  refine qv_get C fl_Mod_22 0 rfl rfl dq_Mod_enough_267 ?_
                                  refine qv_iload C rfl dq_Mod_enough_270 ?_
                                  refine qv_aload_n C rfl dq_Mod_enough_272 ?_
                                  refine qv_get C fl_Mod_13 0 rfl rfl dq_Mod_enough_273 ?_
                                  refine qv_iload C rfl dq_Mod_enough_276 ?_
                                  refine qv_iald C 2 k rfl (by omega) (by omega) (by omega) dq_Mod_enough_278 ?_
                                  refine qv_iast C (ws' := [oc y 4 [vi 0, vi (b2 mi), .ref dg, vi ((nd : Nat) : Int), vi pl, vi ((zr : Nat) : Int), vi bh, .ref rw, vi ((dz f4 n4 : Nat) : Int), vi ((fr4 : Int) - ((n4 : Int) - ((dz f4 n4 : Nat) : Int))), vj ((r : Nat) : Int), .ref bt, .ref wz, .ref lw, .ref hg, vi ((dz f4 n4 : Nat) : Int), vi (((n4 : Nat) : Int) - ((fr4 : Nat) : Int)), vi ((dz f3 n3 : Nat) : Int), vi (((n3 : Nat) : Int) - ((fr3 : Nat) : Int))], ai cI dg 800 d, ai cI rw 1200 f4, ai cI bt 1100 bb2, ai cI wz 800 wa, ai cI lw 1200 (un (cpd la f4 k) k (f4 k)), ai cI hg 1200 (cpd ha f3 (dz f3 n3))]) 5 k (f4 k) rfl (by omega) (by omega) (by omega) (by omega) rfl dq_Mod_enough_279 ?_
                                  refine qv_iinc C (j := 3) (lv' := [(7, vi (((k + 1) : Nat) : Int)), (0, .ref y), (3, vj ((fc r : Nat) : Int)), (5, vi (b2 (decide (r % 2 = 0))))]) (by omega) rfl (by decide) rfl dq_Mod_enough_280 ?_
                                  refine qv_goto C (tgt := 257) (by decide) dq_Mod_enough_283 ?_
                                  refine qv_lv [1, 2, 3, 0] (lv' := [(0, .ref y), (3, vj ((fc r : Nat) : Int)), (5, vi (b2 (decide (r % 2 = 0)))), (7, vi (((k + 1) : Nat) : Int))]) rfl ?_
                                  rw [cpd_s la f4 k]
                                  exact ih2 (k + 1) (by omega)
                            have cl40 := cl4 (dz f4 n4) 0 (by omega)
                            rw [cpd_0] at cl40
                            exact cl40
                        · exfalso; omega
                      · exfalso; omega
                  · skip
                    refine qv_iload_n C rfl dq_Mod_enough_165 ?_
                    refine qv_iconst C dq_Mod_enough_166 ?_
                    refine qv_icle C (by omega) (by omega) (tgt := 174) (by decide) dq_Mod_enough_167 (fun h167 => ?_) (fun h167 => ?_)
                    · skip
                      refine qv_iconst C dq_Mod_enough_174 ?_
                      refine qv_istore C (lv' := [(6, vi 0), (0, .ref y), (1, vi (((r / 4503599627370496) : Nat) : Int)), (2, vi (((pw r : Nat) : Int) - 1074)), (3, vj ((fc r : Nat) : Int)), (5, vi (b2 (decide (r % 2 = 0))))]) (by decide) rfl dq_Mod_enough_175 ?_
                      refine qv_lload_n C rfl dq_Mod_enough_177 ?_
                      refine qv_lconst C (z := 0) (by decide) dq_Mod_enough_178 ?_
                      refine qv_lcle C (by omega) (by omega) dq_Mod_enough_179 (tgt := 223) (by decide) dq_Mod_enough_180 (fun h179 => ?_) (fun h179 => ?_)
                      · exfalso; omega
                      · skip
                        refine qv_aload_n C rfl dq_Mod_enough_183 ?_
                        refine qv_iload C rfl dq_Mod_enough_184 ?_
                        refine qv_ifeq C (by omega) (tgt := 199) (by decide) dq_Mod_enough_186 (fun h186 => ?_) (fun h186 => ?_)
                        · skip
                          refine qv_ldc2 C (z := 2) wk_Mod_116 dq_Mod_enough_199 ?_
                          refine qv_lload_n C rfl dq_Mod_enough_202 ?_
                          refine qv_lmul C (r := (((2 * fc r) : Nat) : Int)) (by omega) dq_Mod_enough_203 ?_
                          refine qv_lconst C (z := 1) (by decide) dq_Mod_enough_204 ?_
                          refine qv_lsub C (r := (((2 * fc r - 1) : Nat) : Int)) (by omega) dq_Mod_enough_205 ?_
                          refine qv_iload C rfl dq_Mod_enough_206 ?_
                          refine qv_ifeq C (by omega) (tgt := 217) (by decide) dq_Mod_enough_208 (fun h208 => ?_) (fun h208 => ?_)
                          · skip
                            refine qv_iload_n C rfl dq_Mod_enough_217 ?_
                            refine qv_iconst C dq_Mod_enough_218 ?_
                            refine qv_isub C (r := (((pw r : Nat) : Int) - 1075)) (by omega) dq_Mod_enough_219 ?_
                            have hnar : ¬ (fc r = 4503599627370496 ∧ 1 < r / 4503599627370496) := by omega
                            refine qc_vV (wr := [ai cI dg 800 d, ai cI bt 1100 bb2, ai cI wz 800 wa, ai cI lw 1200 la, ai cI hg 1200 (cpd ha f3 (dz f3 n3))]) (st := []) C cl_Mod_118 cd_Mod_exactly (c_Mod_exactly cI cJ y dg rw bt wz lw hg 0 mi nd pl zr bh (dz f3 n3) ((fr3 : Int) - ((n3 : Int) - ((dz f3 n3 : Nat) : Int))) ((r : Nat) : Int) ls lp (dz f3 n3) (((n3 : Nat) : Int) - ((fr3 : Nat) : Int)) f3 (2 * fc r - 1) (((pw r : Nat) : Int) - 1075) hR3.1 (by omega) (by omega) (by omega) (by omega)) (Xok_t K) Xbl_t [0, 2] [1, 3, 4, 5, 6] rfl rfl (by decide) (by decide) (by decide) 0 rfl rfl rfl rfl rfl (Nat.le_of_ble_eq_true rfl) (by decide) (by decide) dq_Mod_enough_220 (fun u hu => ?_)
                            obtain ⟨f4, n4, fr4, rfl, hR4, hn4, hfr4⟩ := hu
                            have hv4 : (2 * fc r - 1) * 2 ^ ((((pw r : Nat) : Int) - 1075) + 1076).toNat = md (r - 1) * 2 := by
                              rw [show ((((pw r : Nat) : Int) - 1075) + 1076).toNat = pw r + 1 by omega]
                              exact md_lo1 hfc hnar
                            show V K 12 [ai cI dg 800 d, ai cI bt 1100 bb2, ai cI wz 800 wa, ai cI lw 1200 la, ai cI hg 1200 (cpd ha f3 (dz f3 n3)), oc y 4 [vi 0, vi (b2 mi), .ref dg, vi ((nd : Nat) : Int), vi pl, vi ((zr : Nat) : Int), vi bh, .ref rw, vi ((dz f4 n4 : Nat) : Int), vi ((fr4 : Int) - ((n4 : Int) - ((dz f4 n4 : Nat) : Int))), vj ((r : Nat) : Int), .ref bt, .ref wz, .ref lw, .ref hg, vi ((ls : Nat) : Int), vi lp, vi ((dz f3 n3 : Nat) : Int), vi (((n3 : Nat) : Int) - ((fr3 : Nat) : Int))], ai cI rw 1200 f4] 0 0 223 [(6, vi 0), (0, .ref y), (1, vi (((r / 4503599627370496) : Nat) : Int)), (2, vi (((pw r : Nat) : Int) - 1074)), (3, vj ((fc r : Nat) : Int)), (5, vi (b2 (decide (r % 2 = 0))))] []
                            refine qv_aload_n C rfl dq_Mod_enough_223 ?_
                            refine qv_lload_n C rfl dq_Mod_enough_224 ?_
                            refine qv_lconst C (z := 0) (by decide) dq_Mod_enough_225 ?_
                            refine qv_lcle C (by omega) (by omega) dq_Mod_enough_226 (tgt := 237) (by decide) dq_Mod_enough_227 (fun h226 => ?_) (fun h226 => ?_)
                            · exfalso; omega
                            · skip
                              refine qv_aload_n C rfl dq_Mod_enough_230 ?_
                              refine qv_get C fl_Mod_40 5 rfl rfl dq_Mod_enough_231 ?_
                              refine qv_goto C (tgt := 238) (by decide) dq_Mod_enough_234 ?_
                              refine qv_put C (ws' := [ai cI dg 800 d, ai cI bt 1100 bb2, ai cI wz 800 wa, ai cI lw 1200 la, ai cI hg 1200 (cpd ha f3 (dz f3 n3)), oc y 4 [vi 0, vi (b2 mi), .ref dg, vi ((nd : Nat) : Int), vi pl, vi ((zr : Nat) : Int), vi bh, .ref rw, vi ((dz f4 n4 : Nat) : Int), vi ((fr4 : Int) - ((n4 : Int) - ((dz f4 n4 : Nat) : Int))), vj ((r : Nat) : Int), .ref bt, .ref wz, .ref lw, .ref hg, vi ((dz f4 n4 : Nat) : Int), vi lp, vi ((dz f3 n3 : Nat) : Int), vi (((n3 : Nat) : Int) - ((fr3 : Nat) : Int))], ai cI rw 1200 f4]) fl_Mod_130 fs_4_15 5 rfl rfl rfl (Nat.le_of_ble_eq_true rfl) rfl dq_Mod_enough_238 ?_
                              refine qv_aload_n C rfl dq_Mod_enough_241 ?_
                              refine qv_aload_n C rfl dq_Mod_enough_242 ?_
                              refine qv_get C fl_Mod_40 5 rfl rfl dq_Mod_enough_243 ?_
                              refine qv_aload_n C rfl dq_Mod_enough_246 ?_
                              refine qv_get C fl_Mod_43 5 rfl rfl dq_Mod_enough_247 ?_
                              refine qv_isub C (r := (((n4 : Nat) : Int) - ((fr4 : Nat) : Int))) (by omega) dq_Mod_enough_250 ?_
                              refine qv_put C (ws' := [ai cI dg 800 d, ai cI bt 1100 bb2, ai cI wz 800 wa, ai cI lw 1200 la, ai cI hg 1200 (cpd ha f3 (dz f3 n3)), oc y 4 [vi 0, vi (b2 mi), .ref dg, vi ((nd : Nat) : Int), vi pl, vi ((zr : Nat) : Int), vi bh, .ref rw, vi ((dz f4 n4 : Nat) : Int), vi ((fr4 : Int) - ((n4 : Int) - ((dz f4 n4 : Nat) : Int))), vj ((r : Nat) : Int), .ref bt, .ref wz, .ref lw, .ref hg, vi ((dz f4 n4 : Nat) : Int), vi (((n4 : Nat) : Int) - ((fr4 : Nat) : Int)), vi ((dz f3 n3 : Nat) : Int), vi (((n3 : Nat) : Int) - ((fr3 : Nat) : Int))], ai cI rw 1200 f4]) fl_Mod_133 fs_4_16 5 rfl rfl rfl (Nat.le_of_ble_eq_true rfl) rfl dq_Mod_enough_251 ?_
                              refine qv_iconst C dq_Mod_enough_254 ?_
                              refine qv_istore C (lv' := [(7, vi 0), (6, vi 0), (0, .ref y), (1, vi (((r / 4503599627370496) : Nat) : Int)), (2, vi (((pw r : Nat) : Int) - 1074)), (3, vj ((fc r : Nat) : Int)), (5, vi (b2 (decide (r % 2 = 0))))]) (by decide) rfl dq_Mod_enough_255 ?_
                              have hML := MidR_of (r := r - 1) (g := cpd la f4 (dz f4 n4)) hR4 hn4 hfr4 hv4 (cpd_9 hla hR4.1 _) (fun i hi => cpd_lt hi)
                              have hdl4 := dz_le f4 n4
                              refine qv_lv [2, 5, 6, 0] (lv' := [(0, .ref y), (3, vj ((fc r : Nat) : Int)), (5, vi (b2 (decide (r % 2 = 0)))), (7, vi 0)]) rfl ?_
                              refine qv_ws [5, 0, 6, 1, 2, 3, 4] (ws' := [oc y 4 [vi 0, vi (b2 mi), .ref dg, vi ((nd : Nat) : Int), vi pl, vi ((zr : Nat) : Int), vi bh, .ref rw, vi ((dz f4 n4 : Nat) : Int), vi ((fr4 : Int) - ((n4 : Int) - ((dz f4 n4 : Nat) : Int))), vj ((r : Nat) : Int), .ref bt, .ref wz, .ref lw, .ref hg, vi ((dz f4 n4 : Nat) : Int), vi (((n4 : Nat) : Int) - ((fr4 : Nat) : Int)), vi ((dz f3 n3 : Nat) : Int), vi (((n3 : Nat) : Int) - ((fr3 : Nat) : Int))], ai cI dg 800 d, ai cI rw 1200 f4, ai cI bt 1100 bb2, ai cI wz 800 wa, ai cI lw 1200 la, ai cI hg 1200 (cpd ha f3 (dz f3 n3))]) (by decide) rfl ?_
                              have cl4 : ∀ n2 k, k + n2 = dz f4 n4 → V K 12 [oc y 4 [vi 0, vi (b2 mi), .ref dg, vi ((nd : Nat) : Int), vi pl, vi ((zr : Nat) : Int), vi bh, .ref rw, vi ((dz f4 n4 : Nat) : Int), vi ((fr4 : Int) - ((n4 : Int) - ((dz f4 n4 : Nat) : Int))), vj ((r : Nat) : Int), .ref bt, .ref wz, .ref lw, .ref hg, vi ((dz f4 n4 : Nat) : Int), vi (((n4 : Nat) : Int) - ((fr4 : Nat) : Int)), vi ((dz f3 n3 : Nat) : Int), vi (((n3 : Nat) : Int) - ((fr3 : Nat) : Int))], ai cI dg 800 d, ai cI rw 1200 f4, ai cI bt 1100 bb2, ai cI wz 800 wa, ai cI lw 1200 (cpd la f4 k), ai cI hg 1200 (cpd ha f3 (dz f3 n3))] 0 0 257 [(0, .ref y), (3, vj ((fc r : Nat) : Int)), (5, vi (b2 (decide (r % 2 = 0)))), (7, vi ((k : Nat) : Int))] [] := by
                                intro n2
                                induction n2 with
                                | zero =>
                                  intro k hk
                                  have ek : k = dz f4 n4 := by omega
                                  rw [ek]
                                  refine qv_iload C rfl dq_Mod_enough_257 ?_
                                  refine qv_aload_n C rfl dq_Mod_enough_259 ?_
                                  refine qv_get C fl_Mod_130 0 rfl rfl dq_Mod_enough_260 ?_
                                  refine qv_icge C (by omega) (by omega) (tgt := 286) (by decide) dq_Mod_enough_263 (fun h263 => ?_) (fun h263 => ?_)
                                  · skip
                                    refine qv_aload_n C rfl dq_Mod_enough_286 ?_
                                    refine qv_get C fl_Mod_61 0 rfl rfl dq_Mod_enough_287 ?_
                                    refine qv_istore C (lv' := [(7, vi ((nd : Nat) : Int)), (0, .ref y), (3, vj ((fc r : Nat) : Int)), (5, vi (b2 (decide (r % 2 = 0))))]) (by decide) rfl dq_Mod_enough_290 ?_
                                    refine qv_aload_n C rfl dq_Mod_enough_292 ?_
                                    refine qv_get C fl_Mod_64 0 rfl rfl dq_Mod_enough_293 ?_
                                    refine qv_istore C (lv' := [(8, vi pl), (7, vi ((nd : Nat) : Int)), (0, .ref y), (3, vj ((fc r : Nat) : Int)), (5, vi (b2 (decide (r % 2 = 0))))]) (by decide) rfl dq_Mod_enough_296 ?_
                                    refine qv_iconst C dq_Mod_enough_298 ?_
                                    refine qv_istore C (lv' := [(9, vi 0), (8, vi pl), (7, vi ((nd : Nat) : Int)), (0, .ref y), (3, vj ((fc r : Nat) : Int)), (5, vi (b2 (decide (r % 2 = 0))))]) (by decide) rfl dq_Mod_enough_299 ?_
                                    refine qv_lv [3, 4, 5, 2, 1, 0] (lv' := [(0, .ref y), (3, vj ((fc r : Nat) : Int)), (5, vi (b2 (decide (r % 2 = 0)))), (7, vi ((nd : Nat) : Int)), (8, vi pl), (9, vi 0)]) rfl ?_
                                    have cw : ∀ n2 k, k + n2 = nd → V K 12 [oc y 4 [vi 0, vi (b2 mi), .ref dg, vi ((nd : Nat) : Int), vi pl, vi ((zr : Nat) : Int), vi bh, .ref rw, vi ((dz f4 n4 : Nat) : Int), vi ((fr4 : Int) - ((n4 : Int) - ((dz f4 n4 : Nat) : Int))), vj ((r : Nat) : Int), .ref bt, .ref wz, .ref lw, .ref hg, vi ((dz f4 n4 : Nat) : Int), vi (((n4 : Nat) : Int) - ((fr4 : Nat) : Int)), vi ((dz f3 n3 : Nat) : Int), vi (((n3 : Nat) : Int) - ((fr3 : Nat) : Int))], ai cI dg 800 d, ai cI rw 1200 f4, ai cI bt 1100 bb2, ai cI wz 800 (cpd wa d k), ai cI lw 1200 (cpd la f4 (dz f4 n4)), ai cI hg 1200 (cpd ha f3 (dz f3 n3))] 0 0 301 [(0, .ref y), (3, vj ((fc r : Nat) : Int)), (5, vi (b2 (decide (r % 2 = 0)))), (7, vi ((nd : Nat) : Int)), (8, vi pl), (9, vi ((k : Nat) : Int))] [] := by
                                      intro n2
                                      induction n2 with
                                      | zero =>
                                        intro k hk
                                        have ek : k = nd := by omega
                                        rw [ek]
                                        refine qv_iload C rfl dq_Mod_enough_301 ?_
                                        refine qv_iload C rfl dq_Mod_enough_303 ?_
                                        refine qv_icge C (by omega) (by omega) (tgt := 328) (by decide) dq_Mod_enough_305 (fun h305 => ?_) (fun h305 => ?_)
                                        · skip
                                          refine qv_iconst C dq_Mod_enough_328 ?_
                                          refine qv_istore C (lv' := [(9, vi 0), (0, .ref y), (3, vj ((fc r : Nat) : Int)), (5, vi (b2 (decide (r % 2 = 0)))), (7, vi ((nd : Nat) : Int)), (8, vi pl)]) (by decide) rfl dq_Mod_enough_329 ?_
                                          refine qv_lv [1, 2, 3, 4, 5, 0] (lv' := [(0, .ref y), (3, vj ((fc r : Nat) : Int)), (5, vi (b2 (decide (r % 2 = 0)))), (7, vi ((nd : Nat) : Int)), (8, vi pl), (9, vi 0)]) rfl ?_
                                          exact t331 f4 _ _ _ _ _ hR4.1 hML
                                        · exfalso; omega
                                      | succ n2 ih2 =>
                                        intro k hk
                                        refine qv_iload C rfl dq_Mod_enough_301 ?_
                                        refine qv_iload C rfl dq_Mod_enough_303 ?_
                                        refine qv_icge C (by omega) (by omega) (tgt := 328) (by decide) dq_Mod_enough_305 (fun h305 => ?_) (fun h305 => ?_)
                                        · exfalso; omega
                                        · skip
                                          refine qv_aload_n C rfl dq_Mod_enough_308 ?_
                                          refine qv_get C fl_Mod_19 0 rfl rfl dq_Mod_enough_309 ?_
                                          refine qv_iload C rfl dq_Mod_enough_312 ?_
                                          refine qv_aload_n C rfl dq_Mod_enough_314 ?_
                                          refine qv_get C fl_Mod_9 0 rfl rfl dq_Mod_enough_315 ?_
                                          refine qv_iload C rfl dq_Mod_enough_318 ?_
                                          refine qv_iald C 1 k rfl (by omega) (by omega) (by omega) dq_Mod_enough_320 ?_
                                          refine qv_iast C (ws' := [oc y 4 [vi 0, vi (b2 mi), .ref dg, vi ((nd : Nat) : Int), vi pl, vi ((zr : Nat) : Int), vi bh, .ref rw, vi ((dz f4 n4 : Nat) : Int), vi ((fr4 : Int) - ((n4 : Int) - ((dz f4 n4 : Nat) : Int))), vj ((r : Nat) : Int), .ref bt, .ref wz, .ref lw, .ref hg, vi ((dz f4 n4 : Nat) : Int), vi (((n4 : Nat) : Int) - ((fr4 : Nat) : Int)), vi ((dz f3 n3 : Nat) : Int), vi (((n3 : Nat) : Int) - ((fr3 : Nat) : Int))], ai cI dg 800 d, ai cI rw 1200 f4, ai cI bt 1100 bb2, ai cI wz 800 (un (cpd wa d k) k (d k)), ai cI lw 1200 (cpd la f4 (dz f4 n4)), ai cI hg 1200 (cpd ha f3 (dz f3 n3))]) 4 k (d k) rfl (by omega) (by omega) (by omega) (by omega) rfl dq_Mod_enough_321 ?_
                                          refine qv_iinc C (j := 5) (lv' := [(9, vi (((k + 1) : Nat) : Int)), (0, .ref y), (3, vj ((fc r : Nat) : Int)), (5, vi (b2 (decide (r % 2 = 0)))), (7, vi ((nd : Nat) : Int)), (8, vi pl)]) (by omega) rfl (by decide) rfl dq_Mod_enough_322 ?_
                                          refine qv_goto C (tgt := 301) (by decide) dq_Mod_enough_325 ?_
                                          refine qv_lv [1, 2, 3, 4, 5, 0] (lv' := [(0, .ref y), (3, vj ((fc r : Nat) : Int)), (5, vi (b2 (decide (r % 2 = 0)))), (7, vi ((nd : Nat) : Int)), (8, vi pl), (9, vi (((k + 1) : Nat) : Int))]) rfl ?_
                                          rw [cpd_s wa d k]
                                          exact ih2 (k + 1) (by omega)
                                    have cw0 := cw (nd) 0 (by omega)
                                    rw [cpd_0] at cw0
                                    exact cw0
                                  · exfalso; omega
                                | succ n2 ih2 =>
                                  intro k hk
                                  refine qv_iload C rfl dq_Mod_enough_257 ?_
                                  refine qv_aload_n C rfl dq_Mod_enough_259 ?_
                                  refine qv_get C fl_Mod_130 0 rfl rfl dq_Mod_enough_260 ?_
                                  refine qv_icge C (by omega) (by omega) (tgt := 286) (by decide) dq_Mod_enough_263 (fun h263 => ?_) (fun h263 => ?_)
                                  · exfalso; omega
                                  · skip
                                    refine qv_aload_n C rfl dq_Mod_enough_266 ?_
                                    refine qv_get C fl_Mod_22 0 rfl rfl dq_Mod_enough_267 ?_
                                    refine qv_iload C rfl dq_Mod_enough_270 ?_
                                    refine qv_aload_n C rfl dq_Mod_enough_272 ?_
                                    refine qv_get C fl_Mod_13 0 rfl rfl dq_Mod_enough_273 ?_
                                    refine qv_iload C rfl dq_Mod_enough_276 ?_
                                    refine qv_iald C 2 k rfl (by omega) (by omega) (by omega) dq_Mod_enough_278 ?_
                                    refine qv_iast C (ws' := [oc y 4 [vi 0, vi (b2 mi), .ref dg, vi ((nd : Nat) : Int), vi pl, vi ((zr : Nat) : Int), vi bh, .ref rw, vi ((dz f4 n4 : Nat) : Int), vi ((fr4 : Int) - ((n4 : Int) - ((dz f4 n4 : Nat) : Int))), vj ((r : Nat) : Int), .ref bt, .ref wz, .ref lw, .ref hg, vi ((dz f4 n4 : Nat) : Int), vi (((n4 : Nat) : Int) - ((fr4 : Nat) : Int)), vi ((dz f3 n3 : Nat) : Int), vi (((n3 : Nat) : Int) - ((fr3 : Nat) : Int))], ai cI dg 800 d, ai cI rw 1200 f4, ai cI bt 1100 bb2, ai cI wz 800 wa, ai cI lw 1200 (un (cpd la f4 k) k (f4 k)), ai cI hg 1200 (cpd ha f3 (dz f3 n3))]) 5 k (f4 k) rfl (by omega) (by omega) (by omega) (by omega) rfl dq_Mod_enough_279 ?_
                                    refine qv_iinc C (j := 3) (lv' := [(7, vi (((k + 1) : Nat) : Int)), (0, .ref y), (3, vj ((fc r : Nat) : Int)), (5, vi (b2 (decide (r % 2 = 0))))]) (by omega) rfl (by decide) rfl dq_Mod_enough_280 ?_
                                    refine qv_goto C (tgt := 257) (by decide) dq_Mod_enough_283 ?_
                                    refine qv_lv [1, 2, 3, 0] (lv' := [(0, .ref y), (3, vj ((fc r : Nat) : Int)), (5, vi (b2 (decide (r % 2 = 0)))), (7, vi (((k + 1) : Nat) : Int))]) rfl ?_
                                    rw [cpd_s la f4 k]
                                    exact ih2 (k + 1) (by omega)
                              have cl40 := cl4 (dz f4 n4) 0 (by omega)
                              rw [cpd_0] at cl40
                              exact cl40
                          · exfalso; omega
                        · exfalso; omega
                    · skip
                      refine qv_iconst C dq_Mod_enough_170 ?_
                      refine qv_goto C (tgt := 175) (by decide) dq_Mod_enough_171 ?_
                      refine qv_istore C (lv' := [(6, vi 1), (0, .ref y), (1, vi (((r / 4503599627370496) : Nat) : Int)), (2, vi (((pw r : Nat) : Int) - 1074)), (3, vj ((fc r : Nat) : Int)), (5, vi (b2 (decide (r % 2 = 0))))]) (by decide) rfl dq_Mod_enough_175 ?_
                      refine qv_lload_n C rfl dq_Mod_enough_177 ?_
                      refine qv_lconst C (z := 0) (by decide) dq_Mod_enough_178 ?_
                      refine qv_lcle C (by omega) (by omega) dq_Mod_enough_179 (tgt := 223) (by decide) dq_Mod_enough_180 (fun h179 => ?_) (fun h179 => ?_)
                      · exfalso; omega
                      · skip
                        refine qv_aload_n C rfl dq_Mod_enough_183 ?_
                        refine qv_iload C rfl dq_Mod_enough_184 ?_
                        refine qv_ifeq C (by omega) (tgt := 199) (by decide) dq_Mod_enough_186 (fun h186 => ?_) (fun h186 => ?_)
                        · exfalso; omega
                        · skip
                          refine qv_ldc2 C (z := 4) wk_Mod_128 dq_Mod_enough_189 ?_
                          refine qv_lload_n C rfl dq_Mod_enough_192 ?_
                          refine qv_lmul C (r := (((4 * fc r) : Nat) : Int)) (by omega) dq_Mod_enough_193 ?_
                          refine qv_lconst C (z := 1) (by decide) dq_Mod_enough_194 ?_
                          refine qv_lsub C (r := (((4 * fc r - 1) : Nat) : Int)) (by omega) dq_Mod_enough_195 ?_
                          refine qv_goto C (tgt := 206) (by decide) dq_Mod_enough_196 ?_
                          refine qv_iload C rfl dq_Mod_enough_206 ?_
                          refine qv_ifeq C (by omega) (tgt := 217) (by decide) dq_Mod_enough_208 (fun h208 => ?_) (fun h208 => ?_)
                          · exfalso; omega
                          · skip
                            refine qv_iload_n C rfl dq_Mod_enough_211 ?_
                            refine qv_iconst C dq_Mod_enough_212 ?_
                            refine qv_isub C (r := (((pw r : Nat) : Int) - 1076)) (by omega) dq_Mod_enough_213 ?_
                            refine qv_goto C (tgt := 220) (by decide) dq_Mod_enough_214 ?_
                            have hnar : fc r = 4503599627370496 ∧ 1 < r / 4503599627370496 := by omega
                            have hpw1 : 1 ≤ pw r := by unfold pw; omega
                            refine qc_vV (wr := [ai cI dg 800 d, ai cI bt 1100 bb2, ai cI wz 800 wa, ai cI lw 1200 la, ai cI hg 1200 (cpd ha f3 (dz f3 n3))]) (st := []) C cl_Mod_118 cd_Mod_exactly (c_Mod_exactly cI cJ y dg rw bt wz lw hg 0 mi nd pl zr bh (dz f3 n3) ((fr3 : Int) - ((n3 : Int) - ((dz f3 n3 : Nat) : Int))) ((r : Nat) : Int) ls lp (dz f3 n3) (((n3 : Nat) : Int) - ((fr3 : Nat) : Int)) f3 (4 * fc r - 1) (((pw r : Nat) : Int) - 1076) hR3.1 (by omega) (by omega) (by omega) (by omega)) (Xok_t K) Xbl_t [0, 2] [1, 3, 4, 5, 6] rfl rfl (by decide) (by decide) (by decide) 0 rfl rfl rfl rfl rfl (Nat.le_of_ble_eq_true rfl) (by decide) (by decide) dq_Mod_enough_220 (fun u hu => ?_)
                            obtain ⟨f4, n4, fr4, rfl, hR4, hn4, hfr4⟩ := hu
                            have hv4 : (4 * fc r - 1) * 2 ^ ((((pw r : Nat) : Int) - 1076) + 1076).toNat = md (r - 1) * 2 := by
                              rw [show ((((pw r : Nat) : Int) - 1076) + 1076).toNat = pw r by omega]
                              exact md_lo2 hnar
                            show V K 12 [ai cI dg 800 d, ai cI bt 1100 bb2, ai cI wz 800 wa, ai cI lw 1200 la, ai cI hg 1200 (cpd ha f3 (dz f3 n3)), oc y 4 [vi 0, vi (b2 mi), .ref dg, vi ((nd : Nat) : Int), vi pl, vi ((zr : Nat) : Int), vi bh, .ref rw, vi ((dz f4 n4 : Nat) : Int), vi ((fr4 : Int) - ((n4 : Int) - ((dz f4 n4 : Nat) : Int))), vj ((r : Nat) : Int), .ref bt, .ref wz, .ref lw, .ref hg, vi ((ls : Nat) : Int), vi lp, vi ((dz f3 n3 : Nat) : Int), vi (((n3 : Nat) : Int) - ((fr3 : Nat) : Int))], ai cI rw 1200 f4] 0 0 223 [(6, vi 1), (0, .ref y), (1, vi (((r / 4503599627370496) : Nat) : Int)), (2, vi (((pw r : Nat) : Int) - 1074)), (3, vj ((fc r : Nat) : Int)), (5, vi (b2 (decide (r % 2 = 0))))] []
                            refine qv_aload_n C rfl dq_Mod_enough_223 ?_
                            refine qv_lload_n C rfl dq_Mod_enough_224 ?_
                            refine qv_lconst C (z := 0) (by decide) dq_Mod_enough_225 ?_
                            refine qv_lcle C (by omega) (by omega) dq_Mod_enough_226 (tgt := 237) (by decide) dq_Mod_enough_227 (fun h226 => ?_) (fun h226 => ?_)
                            · exfalso; omega
                            · skip
                              refine qv_aload_n C rfl dq_Mod_enough_230 ?_
                              refine qv_get C fl_Mod_40 5 rfl rfl dq_Mod_enough_231 ?_
                              refine qv_goto C (tgt := 238) (by decide) dq_Mod_enough_234 ?_
                              refine qv_put C (ws' := [ai cI dg 800 d, ai cI bt 1100 bb2, ai cI wz 800 wa, ai cI lw 1200 la, ai cI hg 1200 (cpd ha f3 (dz f3 n3)), oc y 4 [vi 0, vi (b2 mi), .ref dg, vi ((nd : Nat) : Int), vi pl, vi ((zr : Nat) : Int), vi bh, .ref rw, vi ((dz f4 n4 : Nat) : Int), vi ((fr4 : Int) - ((n4 : Int) - ((dz f4 n4 : Nat) : Int))), vj ((r : Nat) : Int), .ref bt, .ref wz, .ref lw, .ref hg, vi ((dz f4 n4 : Nat) : Int), vi lp, vi ((dz f3 n3 : Nat) : Int), vi (((n3 : Nat) : Int) - ((fr3 : Nat) : Int))], ai cI rw 1200 f4]) fl_Mod_130 fs_4_15 5 rfl rfl rfl (Nat.le_of_ble_eq_true rfl) rfl dq_Mod_enough_238 ?_
                              refine qv_aload_n C rfl dq_Mod_enough_241 ?_
                              refine qv_aload_n C rfl dq_Mod_enough_242 ?_
                              refine qv_get C fl_Mod_40 5 rfl rfl dq_Mod_enough_243 ?_
                              refine qv_aload_n C rfl dq_Mod_enough_246 ?_
                              refine qv_get C fl_Mod_43 5 rfl rfl dq_Mod_enough_247 ?_
                              refine qv_isub C (r := (((n4 : Nat) : Int) - ((fr4 : Nat) : Int))) (by omega) dq_Mod_enough_250 ?_
                              refine qv_put C (ws' := [ai cI dg 800 d, ai cI bt 1100 bb2, ai cI wz 800 wa, ai cI lw 1200 la, ai cI hg 1200 (cpd ha f3 (dz f3 n3)), oc y 4 [vi 0, vi (b2 mi), .ref dg, vi ((nd : Nat) : Int), vi pl, vi ((zr : Nat) : Int), vi bh, .ref rw, vi ((dz f4 n4 : Nat) : Int), vi ((fr4 : Int) - ((n4 : Int) - ((dz f4 n4 : Nat) : Int))), vj ((r : Nat) : Int), .ref bt, .ref wz, .ref lw, .ref hg, vi ((dz f4 n4 : Nat) : Int), vi (((n4 : Nat) : Int) - ((fr4 : Nat) : Int)), vi ((dz f3 n3 : Nat) : Int), vi (((n3 : Nat) : Int) - ((fr3 : Nat) : Int))], ai cI rw 1200 f4]) fl_Mod_133 fs_4_16 5 rfl rfl rfl (Nat.le_of_ble_eq_true rfl) rfl dq_Mod_enough_251 ?_
                              refine qv_iconst C dq_Mod_enough_254 ?_
                              refine qv_istore C (lv' := [(7, vi 0), (6, vi 1), (0, .ref y), (1, vi (((r / 4503599627370496) : Nat) : Int)), (2, vi (((pw r : Nat) : Int) - 1074)), (3, vj ((fc r : Nat) : Int)), (5, vi (b2 (decide (r % 2 = 0))))]) (by decide) rfl dq_Mod_enough_255 ?_
                              have hML := MidR_of (r := r - 1) (g := cpd la f4 (dz f4 n4)) hR4 hn4 hfr4 hv4 (cpd_9 hla hR4.1 _) (fun i hi => cpd_lt hi)
                              have hdl4 := dz_le f4 n4
                              refine qv_lv [2, 5, 6, 0] (lv' := [(0, .ref y), (3, vj ((fc r : Nat) : Int)), (5, vi (b2 (decide (r % 2 = 0)))), (7, vi 0)]) rfl ?_
                              refine qv_ws [5, 0, 6, 1, 2, 3, 4] (ws' := [oc y 4 [vi 0, vi (b2 mi), .ref dg, vi ((nd : Nat) : Int), vi pl, vi ((zr : Nat) : Int), vi bh, .ref rw, vi ((dz f4 n4 : Nat) : Int), vi ((fr4 : Int) - ((n4 : Int) - ((dz f4 n4 : Nat) : Int))), vj ((r : Nat) : Int), .ref bt, .ref wz, .ref lw, .ref hg, vi ((dz f4 n4 : Nat) : Int), vi (((n4 : Nat) : Int) - ((fr4 : Nat) : Int)), vi ((dz f3 n3 : Nat) : Int), vi (((n3 : Nat) : Int) - ((fr3 : Nat) : Int))], ai cI dg 800 d, ai cI rw 1200 f4, ai cI bt 1100 bb2, ai cI wz 800 wa, ai cI lw 1200 la, ai cI hg 1200 (cpd ha f3 (dz f3 n3))]) (by decide) rfl ?_
                              have cl4 : ∀ n2 k, k + n2 = dz f4 n4 → V K 12 [oc y 4 [vi 0, vi (b2 mi), .ref dg, vi ((nd : Nat) : Int), vi pl, vi ((zr : Nat) : Int), vi bh, .ref rw, vi ((dz f4 n4 : Nat) : Int), vi ((fr4 : Int) - ((n4 : Int) - ((dz f4 n4 : Nat) : Int))), vj ((r : Nat) : Int), .ref bt, .ref wz, .ref lw, .ref hg, vi ((dz f4 n4 : Nat) : Int), vi (((n4 : Nat) : Int) - ((fr4 : Nat) : Int)), vi ((dz f3 n3 : Nat) : Int), vi (((n3 : Nat) : Int) - ((fr3 : Nat) : Int))], ai cI dg 800 d, ai cI rw 1200 f4, ai cI bt 1100 bb2, ai cI wz 800 wa, ai cI lw 1200 (cpd la f4 k), ai cI hg 1200 (cpd ha f3 (dz f3 n3))] 0 0 257 [(0, .ref y), (3, vj ((fc r : Nat) : Int)), (5, vi (b2 (decide (r % 2 = 0)))), (7, vi ((k : Nat) : Int))] [] := by
                                intro n2
                                induction n2 with
                                | zero =>
                                  intro k hk
                                  have ek : k = dz f4 n4 := by omega
                                  rw [ek]
                                  refine qv_iload C rfl dq_Mod_enough_257 ?_
                                  refine qv_aload_n C rfl dq_Mod_enough_259 ?_
                                  refine qv_get C fl_Mod_130 0 rfl rfl dq_Mod_enough_260 ?_
                                  refine qv_icge C (by omega) (by omega) (tgt := 286) (by decide) dq_Mod_enough_263 (fun h263 => ?_) (fun h263 => ?_)
                                  · skip
                                    refine qv_aload_n C rfl dq_Mod_enough_286 ?_
                                    refine qv_get C fl_Mod_61 0 rfl rfl dq_Mod_enough_287 ?_
                                    refine qv_istore C (lv' := [(7, vi ((nd : Nat) : Int)), (0, .ref y), (3, vj ((fc r : Nat) : Int)), (5, vi (b2 (decide (r % 2 = 0))))]) (by decide) rfl dq_Mod_enough_290 ?_
                                    refine qv_aload_n C rfl dq_Mod_enough_292 ?_
                                    refine qv_get C fl_Mod_64 0 rfl rfl dq_Mod_enough_293 ?_
                                    refine qv_istore C (lv' := [(8, vi pl), (7, vi ((nd : Nat) : Int)), (0, .ref y), (3, vj ((fc r : Nat) : Int)), (5, vi (b2 (decide (r % 2 = 0))))]) (by decide) rfl dq_Mod_enough_296 ?_
                                    refine qv_iconst C dq_Mod_enough_298 ?_
                                    refine qv_istore C (lv' := [(9, vi 0), (8, vi pl), (7, vi ((nd : Nat) : Int)), (0, .ref y), (3, vj ((fc r : Nat) : Int)), (5, vi (b2 (decide (r % 2 = 0))))]) (by decide) rfl dq_Mod_enough_299 ?_
                                    refine qv_lv [3, 4, 5, 2, 1, 0] (lv' := [(0, .ref y), (3, vj ((fc r : Nat) : Int)), (5, vi (b2 (decide (r % 2 = 0)))), (7, vi ((nd : Nat) : Int)), (8, vi pl), (9, vi 0)]) rfl ?_
                                    have cw : ∀ n2 k, k + n2 = nd → V K 12 [oc y 4 [vi 0, vi (b2 mi), .ref dg, vi ((nd : Nat) : Int), vi pl, vi ((zr : Nat) : Int), vi bh, .ref rw, vi ((dz f4 n4 : Nat) : Int), vi ((fr4 : Int) - ((n4 : Int) - ((dz f4 n4 : Nat) : Int))), vj ((r : Nat) : Int), .ref bt, .ref wz, .ref lw, .ref hg, vi ((dz f4 n4 : Nat) : Int), vi (((n4 : Nat) : Int) - ((fr4 : Nat) : Int)), vi ((dz f3 n3 : Nat) : Int), vi (((n3 : Nat) : Int) - ((fr3 : Nat) : Int))], ai cI dg 800 d, ai cI rw 1200 f4, ai cI bt 1100 bb2, ai cI wz 800 (cpd wa d k), ai cI lw 1200 (cpd la f4 (dz f4 n4)), ai cI hg 1200 (cpd ha f3 (dz f3 n3))] 0 0 301 [(0, .ref y), (3, vj ((fc r : Nat) : Int)), (5, vi (b2 (decide (r % 2 = 0)))), (7, vi ((nd : Nat) : Int)), (8, vi pl), (9, vi ((k : Nat) : Int))] [] := by
                                      intro n2
                                      induction n2 with
                                      | zero =>
                                        intro k hk
                                        have ek : k = nd := by omega
                                        rw [ek]
                                        refine qv_iload C rfl dq_Mod_enough_301 ?_
                                        refine qv_iload C rfl dq_Mod_enough_303 ?_
                                        refine qv_icge C (by omega) (by omega) (tgt := 328) (by decide) dq_Mod_enough_305 (fun h305 => ?_) (fun h305 => ?_)
                                        · skip
                                          refine qv_iconst C dq_Mod_enough_328 ?_
                                          refine qv_istore C (lv' := [(9, vi 0), (0, .ref y), (3, vj ((fc r : Nat) : Int)), (5, vi (b2 (decide (r % 2 = 0)))), (7, vi ((nd : Nat) : Int)), (8, vi pl)]) (by decide) rfl dq_Mod_enough_329 ?_
                                          refine qv_lv [1, 2, 3, 4, 5, 0] (lv' := [(0, .ref y), (3, vj ((fc r : Nat) : Int)), (5, vi (b2 (decide (r % 2 = 0)))), (7, vi ((nd : Nat) : Int)), (8, vi pl), (9, vi 0)]) rfl ?_
                                          exact t331 f4 _ _ _ _ _ hR4.1 hML
                                        · exfalso; omega
                                      | succ n2 ih2 =>
                                        intro k hk
                                        refine qv_iload C rfl dq_Mod_enough_301 ?_
                                        refine qv_iload C rfl dq_Mod_enough_303 ?_
                                        refine qv_icge C (by omega) (by omega) (tgt := 328) (by decide) dq_Mod_enough_305 (fun h305 => ?_) (fun h305 => ?_)
                                        · exfalso; omega
                                        · skip
                                          refine qv_aload_n C rfl dq_Mod_enough_308 ?_
                                          refine qv_get C fl_Mod_19 0 rfl rfl dq_Mod_enough_309 ?_
                                          refine qv_iload C rfl dq_Mod_enough_312 ?_
                                          refine qv_aload_n C rfl dq_Mod_enough_314 ?_
                                          refine qv_get C fl_Mod_9 0 rfl rfl dq_Mod_enough_315 ?_
                                          refine qv_iload C rfl dq_Mod_enough_318 ?_
                                          refine qv_iald C 1 k rfl (by omega) (by omega) (by omega) dq_Mod_enough_320 ?_
                                          refine qv_iast C (ws' := [oc y 4 [vi 0, vi (b2 mi), .ref dg, vi ((nd : Nat) : Int), vi pl, vi ((zr : Nat) : Int), vi bh, .ref rw, vi ((dz f4 n4 : Nat) : Int), vi ((fr4 : Int) - ((n4 : Int) - ((dz f4 n4 : Nat) : Int))), vj ((r : Nat) : Int), .ref bt, .ref wz, .ref lw, .ref hg, vi ((dz f4 n4 : Nat) : Int), vi (((n4 : Nat) : Int) - ((fr4 : Nat) : Int)), vi ((dz f3 n3 : Nat) : Int), vi (((n3 : Nat) : Int) - ((fr3 : Nat) : Int))], ai cI dg 800 d, ai cI rw 1200 f4, ai cI bt 1100 bb2, ai cI wz 800 (un (cpd wa d k) k (d k)), ai cI lw 1200 (cpd la f4 (dz f4 n4)), ai cI hg 1200 (cpd ha f3 (dz f3 n3))]) 4 k (d k) rfl (by omega) (by omega) (by omega) (by omega) rfl dq_Mod_enough_321 ?_
                                          refine qv_iinc C (j := 5) (lv' := [(9, vi (((k + 1) : Nat) : Int)), (0, .ref y), (3, vj ((fc r : Nat) : Int)), (5, vi (b2 (decide (r % 2 = 0)))), (7, vi ((nd : Nat) : Int)), (8, vi pl)]) (by omega) rfl (by decide) rfl dq_Mod_enough_322 ?_
                                          refine qv_goto C (tgt := 301) (by decide) dq_Mod_enough_325 ?_
                                          refine qv_lv [1, 2, 3, 4, 5, 0] (lv' := [(0, .ref y), (3, vj ((fc r : Nat) : Int)), (5, vi (b2 (decide (r % 2 = 0)))), (7, vi ((nd : Nat) : Int)), (8, vi pl), (9, vi (((k + 1) : Nat) : Int))]) rfl ?_
                                          rw [cpd_s wa d k]
                                          exact ih2 (k + 1) (by omega)
                                    have cw0 := cw (nd) 0 (by omega)
                                    rw [cpd_0] at cw0
                                    exact cw0
                                  · exfalso; omega
                                | succ n2 ih2 =>
                                  intro k hk
                                  refine qv_iload C rfl dq_Mod_enough_257 ?_
                                  refine qv_aload_n C rfl dq_Mod_enough_259 ?_
                                  refine qv_get C fl_Mod_130 0 rfl rfl dq_Mod_enough_260 ?_
                                  refine qv_icge C (by omega) (by omega) (tgt := 286) (by decide) dq_Mod_enough_263 (fun h263 => ?_) (fun h263 => ?_)
                                  · exfalso; omega
                                  · skip
                                    refine qv_aload_n C rfl dq_Mod_enough_266 ?_
                                    refine qv_get C fl_Mod_22 0 rfl rfl dq_Mod_enough_267 ?_
                                    refine qv_iload C rfl dq_Mod_enough_270 ?_
                                    refine qv_aload_n C rfl dq_Mod_enough_272 ?_
                                    refine qv_get C fl_Mod_13 0 rfl rfl dq_Mod_enough_273 ?_
                                    refine qv_iload C rfl dq_Mod_enough_276 ?_
                                    refine qv_iald C 2 k rfl (by omega) (by omega) (by omega) dq_Mod_enough_278 ?_
                                    refine qv_iast C (ws' := [oc y 4 [vi 0, vi (b2 mi), .ref dg, vi ((nd : Nat) : Int), vi pl, vi ((zr : Nat) : Int), vi bh, .ref rw, vi ((dz f4 n4 : Nat) : Int), vi ((fr4 : Int) - ((n4 : Int) - ((dz f4 n4 : Nat) : Int))), vj ((r : Nat) : Int), .ref bt, .ref wz, .ref lw, .ref hg, vi ((dz f4 n4 : Nat) : Int), vi (((n4 : Nat) : Int) - ((fr4 : Nat) : Int)), vi ((dz f3 n3 : Nat) : Int), vi (((n3 : Nat) : Int) - ((fr3 : Nat) : Int))], ai cI dg 800 d, ai cI rw 1200 f4, ai cI bt 1100 bb2, ai cI wz 800 wa, ai cI lw 1200 (un (cpd la f4 k) k (f4 k)), ai cI hg 1200 (cpd ha f3 (dz f3 n3))]) 5 k (f4 k) rfl (by omega) (by omega) (by omega) (by omega) rfl dq_Mod_enough_279 ?_
                                    refine qv_iinc C (j := 3) (lv' := [(7, vi (((k + 1) : Nat) : Int)), (0, .ref y), (3, vj ((fc r : Nat) : Int)), (5, vi (b2 (decide (r % 2 = 0))))]) (by omega) rfl (by decide) rfl dq_Mod_enough_280 ?_
                                    refine qv_goto C (tgt := 257) (by decide) dq_Mod_enough_283 ?_
                                    refine qv_lv [1, 2, 3, 0] (lv' := [(0, .ref y), (3, vj ((fc r : Nat) : Int)), (5, vi (b2 (decide (r % 2 = 0)))), (7, vi (((k + 1) : Nat) : Int))]) rfl ?_
                                    rw [cpd_s la f4 k]
                                    exact ih2 (k + 1) (by omega)
                              have cl40 := cl4 (dz f4 n4) 0 (by omega)
                              rw [cpd_0] at cl40
                              exact cl40
                · exfalso; omega
            | succ n2 ih2 =>
              intro k hk
              refine qv_iload C rfl dq_Mod_enough_128 ?_
              refine qv_aload_n C rfl dq_Mod_enough_130 ?_
              refine qv_get C fl_Mod_40 0 rfl rfl dq_Mod_enough_131 ?_
              refine qv_icge C (by omega) (by omega) (tgt := 157) (by decide) dq_Mod_enough_134 (fun h134 => ?_) (fun h134 => ?_)
              · exfalso; omega
              · skip
                refine qv_aload_n C rfl dq_Mod_enough_137 ?_
                refine qv_get C fl_Mod_25 0 rfl rfl dq_Mod_enough_138 ?_
                refine qv_iload C rfl dq_Mod_enough_141 ?_
                refine qv_aload_n C rfl dq_Mod_enough_143 ?_
                refine qv_get C fl_Mod_13 0 rfl rfl dq_Mod_enough_144 ?_
                refine qv_iload C rfl dq_Mod_enough_147 ?_
                refine qv_iald C 2 k rfl (by omega) (by omega) (by omega) dq_Mod_enough_149 ?_
                refine qv_iast C (ws' := [oc y 4 [vi 0, vi (b2 mi), .ref dg, vi ((nd : Nat) : Int), vi pl, vi ((zr : Nat) : Int), vi bh, .ref rw, vi ((dz f3 n3 : Nat) : Int), vi ((fr3 : Int) - ((n3 : Int) - ((dz f3 n3 : Nat) : Int))), vj ((r : Nat) : Int), .ref bt, .ref wz, .ref lw, .ref hg, vi ((ls : Nat) : Int), vi lp, vi ((dz f3 n3 : Nat) : Int), vi (((n3 : Nat) : Int) - ((fr3 : Nat) : Int))], ai cI dg 800 d, ai cI rw 1200 f3, ai cI bt 1100 bb2, ai cI wz 800 wa, ai cI lw 1200 la, ai cI hg 1200 (un (cpd ha f3 k) k (f3 k))]) 6 k (f3 k) rfl (by omega) (by omega) (by omega) (by omega) rfl dq_Mod_enough_150 ?_
                refine qv_iinc C (j := 5) (lv' := [(6, vi (((k + 1) : Nat) : Int)), (0, .ref y), (1, vi (((r / 4503599627370496) : Nat) : Int)), (2, vi (((pw r : Nat) : Int) - 1074)), (3, vj ((fc r : Nat) : Int)), (5, vi (b2 (decide (r % 2 = 0))))]) (by omega) rfl (by decide) rfl dq_Mod_enough_151 ?_
                refine qv_goto C (tgt := 128) (by decide) dq_Mod_enough_154 ?_
                refine qv_lv [1, 2, 3, 4, 5, 0] (lv' := [(0, .ref y), (1, vi (((r / 4503599627370496) : Nat) : Int)), (2, vi (((pw r : Nat) : Int) - 1074)), (3, vj ((fc r : Nat) : Int)), (5, vi (b2 (decide (r % 2 = 0)))), (6, vi (((k + 1) : Nat) : Int))]) rfl ?_
                rw [cpd_s ha f3 k]
                exact ih2 (k + 1) (by omega)
          have ch30 := ch3 (dz f3 n3) 0 (by omega)
          rw [cpd_0] at ch30
          exact ch30
        refine qv_iload_n C rfl dq_Mod_enough_40 ?_
        refine qv_ifle C (by omega) (tgt := 48) (by decide) dq_Mod_enough_41 (fun h41 => ?_) (fun h41 => ?_)
        · skip
          refine qv_iconst C dq_Mod_enough_48 ?_
          refine qv_sipush C (by decide) dq_Mod_enough_49 ?_
          refine qv_isub C (r := (((pw r : Nat) : Int) - 1074)) (by omega) dq_Mod_enough_52 ?_
          refine qv_istore_n C (lv' := [(2, vi (((pw r : Nat) : Int) - 1074)), (1, vi (((r / 4503599627370496) : Nat) : Int)), (0, .ref y)]) (by decide) rfl dq_Mod_enough_53 ?_
          refine qv_aload_n C rfl dq_Mod_enough_54 ?_
          refine qv_get C fl_Mod_96 0 rfl rfl dq_Mod_enough_55 ?_
          refine qv_ldc2 C (z := 4503599627370495) wk_Mod_36 dq_Mod_enough_58 ?_
          refine qv_land C (r := (((r % 4503599627370496) : Nat) : Int)) (zj_and (a := r) (b := 52) (by omega)) dq_Mod_enough_61 ?_
          refine qv_iload_n C rfl dq_Mod_enough_62 ?_
          refine qv_ifle C (by omega) (tgt := 72) (by decide) dq_Mod_enough_63 (fun h63 => ?_) (fun h63 => ?_)
          · skip
            refine qv_lconst C (z := 0) (by decide) dq_Mod_enough_72 ?_
            refine qv_lor C (r := ((fc r : Nat) : Int)) (by rw [zj_0, Int64.or_zero, hfcZ (by omega)]) dq_Mod_enough_73 ?_
            refine qv_lstore_n C (lv' := [(3, vj ((fc r : Nat) : Int)), (2, vi (((pw r : Nat) : Int) - 1074)), (1, vi (((r / 4503599627370496) : Nat) : Int)), (0, .ref y)]) (by decide) rfl dq_Mod_enough_74 ?_
            refine qv_lload_n C rfl dq_Mod_enough_75 ?_
            refine qv_lconst C (z := 1) (by decide) dq_Mod_enough_76 ?_
            refine qv_land C (r := (((fc r % 2) : Nat) : Int)) (zj_and (a := fc r) (b := 1) (by omega)) dq_Mod_enough_77 ?_
            refine qv_lconst C (z := 0) (by decide) dq_Mod_enough_78 ?_
            refine qv_lcne C (by omega) (by omega) dq_Mod_enough_79 (tgt := 87) (by decide) dq_Mod_enough_80 (fun h79 => ?_) (fun h79 => ?_)
            · skip
              refine qv_iconst C dq_Mod_enough_87 ?_
              refine qv_ti (r := b2 (decide (r % 2 = 0))) (by rw [decide_eq_false (by omega)]; rfl) ?_
              refine qv_istore C (lv' := [(5, vi (b2 (decide (r % 2 = 0)))), (3, vj ((fc r : Nat) : Int)), (2, vi (((pw r : Nat) : Int) - 1074)), (1, vi (((r / 4503599627370496) : Nat) : Int)), (0, .ref y)]) (by decide) rfl dq_Mod_enough_88 ?_
              refine qv_aload_n C rfl dq_Mod_enough_90 ?_
              refine qv_ldc2 C (z := 2) wk_Mod_116 dq_Mod_enough_91 ?_
              refine qv_lload_n C rfl dq_Mod_enough_94 ?_
              refine qv_lmul C (r := (((2 * fc r) : Nat) : Int)) (by omega) dq_Mod_enough_95 ?_
              refine qv_lconst C (z := 1) (by decide) dq_Mod_enough_96 ?_
              refine qv_ladd C (r := ((((2 * fc r) + 1) : Nat) : Int)) (by omega) dq_Mod_enough_97 ?_
              refine qv_iload_n C rfl dq_Mod_enough_98 ?_
              refine qv_iconst C dq_Mod_enough_99 ?_
              refine qv_isub C (r := (((pw r : Nat) : Int) - 1075)) (by omega) dq_Mod_enough_100 ?_
              refine qc_vV (wr := [ai cI dg 800 d, ai cI bt 1100 bb2, ai cI wz 800 wa, ai cI lw 1200 la, ai cI hg 1200 ha]) (st := []) C cl_Mod_118 cd_Mod_exactly (c_Mod_exactly cI cJ y dg rw bt wz lw hg 0 mi nd pl zr bh mn2 fr ((r : Nat) : Int) ls lp hs hq f2 (2 * fc r + 1) (((pw r : Nat) : Int) - 1075) hf2 (by omega) (by omega) (by omega) (by omega)) (Xok_t K) Xbl_t [0, 2] [1, 3, 4, 5, 6] rfl rfl (by decide) (by decide) (by decide) 0 rfl rfl rfl rfl rfl (Nat.le_of_ble_eq_true rfl) (by decide) (by decide) dq_Mod_enough_101 (fun u hu => ?_)
              obtain ⟨f3, n3, fr3, rfl, hR3, hn3, hfr3⟩ := hu
              have hv3 : (2 * fc r + 1) * 2 ^ ((((pw r : Nat) : Int) - 1075) + 1076).toNat = md r * 2 := by
                rw [show ((((pw r : Nat) : Int) - 1075) + 1076).toNat = pw r + 1 by omega]
                exact md_hi r
              show V K 12 [ai cI dg 800 d, ai cI bt 1100 bb2, ai cI wz 800 wa, ai cI lw 1200 la, ai cI hg 1200 ha, oc y 4 [vi 0, vi (b2 mi), .ref dg, vi ((nd : Nat) : Int), vi pl, vi ((zr : Nat) : Int), vi bh, .ref rw, vi ((dz f3 n3 : Nat) : Int), vi ((fr3 : Int) - ((n3 : Int) - ((dz f3 n3 : Nat) : Int))), vj ((r : Nat) : Int), .ref bt, .ref wz, .ref lw, .ref hg, vi ((ls : Nat) : Int), vi lp, vi ((hs : Nat) : Int), vi hq], ai cI rw 1200 f3] 0 0 104 [(5, vi (b2 (decide (r % 2 = 0)))), (3, vj ((fc r : Nat) : Int)), (2, vi (((pw r : Nat) : Int) - 1074)), (1, vi (((r / 4503599627370496) : Nat) : Int)), (0, .ref y)] []
              refine qv_aload_n C rfl dq_Mod_enough_104 ?_
              refine qv_aload_n C rfl dq_Mod_enough_105 ?_
              refine qv_get C fl_Mod_40 5 rfl rfl dq_Mod_enough_106 ?_
              refine qv_put C (ws' := [ai cI dg 800 d, ai cI bt 1100 bb2, ai cI wz 800 wa, ai cI lw 1200 la, ai cI hg 1200 ha, oc y 4 [vi 0, vi (b2 mi), .ref dg, vi ((nd : Nat) : Int), vi pl, vi ((zr : Nat) : Int), vi bh, .ref rw, vi ((dz f3 n3 : Nat) : Int), vi ((fr3 : Int) - ((n3 : Int) - ((dz f3 n3 : Nat) : Int))), vj ((r : Nat) : Int), .ref bt, .ref wz, .ref lw, .ref hg, vi ((ls : Nat) : Int), vi lp, vi ((dz f3 n3 : Nat) : Int), vi hq], ai cI rw 1200 f3]) fl_Mod_122 fs_4_17 5 rfl rfl rfl (Nat.le_of_ble_eq_true rfl) rfl dq_Mod_enough_109 ?_
              refine qv_aload_n C rfl dq_Mod_enough_112 ?_
              refine qv_aload_n C rfl dq_Mod_enough_113 ?_
              refine qv_get C fl_Mod_40 5 rfl rfl dq_Mod_enough_114 ?_
              refine qv_aload_n C rfl dq_Mod_enough_117 ?_
              refine qv_get C fl_Mod_43 5 rfl rfl dq_Mod_enough_118 ?_
              refine qv_isub C (r := (((n3 : Nat) : Int) - ((fr3 : Nat) : Int))) (by omega) dq_Mod_enough_121 ?_
              refine qv_put C (ws' := [ai cI dg 800 d, ai cI bt 1100 bb2, ai cI wz 800 wa, ai cI lw 1200 la, ai cI hg 1200 ha, oc y 4 [vi 0, vi (b2 mi), .ref dg, vi ((nd : Nat) : Int), vi pl, vi ((zr : Nat) : Int), vi bh, .ref rw, vi ((dz f3 n3 : Nat) : Int), vi ((fr3 : Int) - ((n3 : Int) - ((dz f3 n3 : Nat) : Int))), vj ((r : Nat) : Int), .ref bt, .ref wz, .ref lw, .ref hg, vi ((ls : Nat) : Int), vi lp, vi ((dz f3 n3 : Nat) : Int), vi (((n3 : Nat) : Int) - ((fr3 : Nat) : Int))], ai cI rw 1200 f3]) fl_Mod_125 fs_4_18 5 rfl rfl rfl (Nat.le_of_ble_eq_true rfl) rfl dq_Mod_enough_122 ?_
              refine qv_iconst C dq_Mod_enough_125 ?_
              refine qv_istore C (lv' := [(6, vi 0), (5, vi (b2 (decide (r % 2 = 0)))), (3, vj ((fc r : Nat) : Int)), (2, vi (((pw r : Nat) : Int) - 1074)), (1, vi (((r / 4503599627370496) : Nat) : Int)), (0, .ref y)]) (by decide) rfl dq_Mod_enough_126 ?_
              refine qv_lv [5, 4, 3, 2, 1, 0] (lv' := [(0, .ref y), (1, vi (((r / 4503599627370496) : Nat) : Int)), (2, vi (((pw r : Nat) : Int) - 1074)), (3, vj ((fc r : Nat) : Int)), (5, vi (b2 (decide (r % 2 = 0)))), (6, vi 0)]) rfl ?_
              refine qv_ws [5, 0, 6, 1, 2, 3, 4] (ws' := [oc y 4 [vi 0, vi (b2 mi), .ref dg, vi ((nd : Nat) : Int), vi pl, vi ((zr : Nat) : Int), vi bh, .ref rw, vi ((dz f3 n3 : Nat) : Int), vi ((fr3 : Int) - ((n3 : Int) - ((dz f3 n3 : Nat) : Int))), vj ((r : Nat) : Int), .ref bt, .ref wz, .ref lw, .ref hg, vi ((ls : Nat) : Int), vi lp, vi ((dz f3 n3 : Nat) : Int), vi (((n3 : Nat) : Int) - ((fr3 : Nat) : Int))], ai cI dg 800 d, ai cI rw 1200 f3, ai cI bt 1100 bb2, ai cI wz 800 wa, ai cI lw 1200 la, ai cI hg 1200 ha]) (by decide) rfl ?_
              exact sec f3 n3 fr3 hR3 hn3 hfr3 hv3
            · skip
              refine qv_iconst C dq_Mod_enough_83 ?_
              refine qv_goto C (tgt := 88) (by decide) dq_Mod_enough_84 ?_
              refine qv_ti (r := b2 (decide (r % 2 = 0))) (by rw [decide_eq_true (by omega)]; rfl) ?_
              refine qv_istore C (lv' := [(5, vi (b2 (decide (r % 2 = 0)))), (3, vj ((fc r : Nat) : Int)), (2, vi (((pw r : Nat) : Int) - 1074)), (1, vi (((r / 4503599627370496) : Nat) : Int)), (0, .ref y)]) (by decide) rfl dq_Mod_enough_88 ?_
              refine qv_aload_n C rfl dq_Mod_enough_90 ?_
              refine qv_ldc2 C (z := 2) wk_Mod_116 dq_Mod_enough_91 ?_
              refine qv_lload_n C rfl dq_Mod_enough_94 ?_
              refine qv_lmul C (r := (((2 * fc r) : Nat) : Int)) (by omega) dq_Mod_enough_95 ?_
              refine qv_lconst C (z := 1) (by decide) dq_Mod_enough_96 ?_
              refine qv_ladd C (r := ((((2 * fc r) + 1) : Nat) : Int)) (by omega) dq_Mod_enough_97 ?_
              refine qv_iload_n C rfl dq_Mod_enough_98 ?_
              refine qv_iconst C dq_Mod_enough_99 ?_
              refine qv_isub C (r := (((pw r : Nat) : Int) - 1075)) (by omega) dq_Mod_enough_100 ?_
              refine qc_vV (wr := [ai cI dg 800 d, ai cI bt 1100 bb2, ai cI wz 800 wa, ai cI lw 1200 la, ai cI hg 1200 ha]) (st := []) C cl_Mod_118 cd_Mod_exactly (c_Mod_exactly cI cJ y dg rw bt wz lw hg 0 mi nd pl zr bh mn2 fr ((r : Nat) : Int) ls lp hs hq f2 (2 * fc r + 1) (((pw r : Nat) : Int) - 1075) hf2 (by omega) (by omega) (by omega) (by omega)) (Xok_t K) Xbl_t [0, 2] [1, 3, 4, 5, 6] rfl rfl (by decide) (by decide) (by decide) 0 rfl rfl rfl rfl rfl (Nat.le_of_ble_eq_true rfl) (by decide) (by decide) dq_Mod_enough_101 (fun u hu => ?_)
              obtain ⟨f3, n3, fr3, rfl, hR3, hn3, hfr3⟩ := hu
              have hv3 : (2 * fc r + 1) * 2 ^ ((((pw r : Nat) : Int) - 1075) + 1076).toNat = md r * 2 := by
                rw [show ((((pw r : Nat) : Int) - 1075) + 1076).toNat = pw r + 1 by omega]
                exact md_hi r
              show V K 12 [ai cI dg 800 d, ai cI bt 1100 bb2, ai cI wz 800 wa, ai cI lw 1200 la, ai cI hg 1200 ha, oc y 4 [vi 0, vi (b2 mi), .ref dg, vi ((nd : Nat) : Int), vi pl, vi ((zr : Nat) : Int), vi bh, .ref rw, vi ((dz f3 n3 : Nat) : Int), vi ((fr3 : Int) - ((n3 : Int) - ((dz f3 n3 : Nat) : Int))), vj ((r : Nat) : Int), .ref bt, .ref wz, .ref lw, .ref hg, vi ((ls : Nat) : Int), vi lp, vi ((hs : Nat) : Int), vi hq], ai cI rw 1200 f3] 0 0 104 [(5, vi (b2 (decide (r % 2 = 0)))), (3, vj ((fc r : Nat) : Int)), (2, vi (((pw r : Nat) : Int) - 1074)), (1, vi (((r / 4503599627370496) : Nat) : Int)), (0, .ref y)] []
              refine qv_aload_n C rfl dq_Mod_enough_104 ?_
              refine qv_aload_n C rfl dq_Mod_enough_105 ?_
              refine qv_get C fl_Mod_40 5 rfl rfl dq_Mod_enough_106 ?_
              refine qv_put C (ws' := [ai cI dg 800 d, ai cI bt 1100 bb2, ai cI wz 800 wa, ai cI lw 1200 la, ai cI hg 1200 ha, oc y 4 [vi 0, vi (b2 mi), .ref dg, vi ((nd : Nat) : Int), vi pl, vi ((zr : Nat) : Int), vi bh, .ref rw, vi ((dz f3 n3 : Nat) : Int), vi ((fr3 : Int) - ((n3 : Int) - ((dz f3 n3 : Nat) : Int))), vj ((r : Nat) : Int), .ref bt, .ref wz, .ref lw, .ref hg, vi ((ls : Nat) : Int), vi lp, vi ((dz f3 n3 : Nat) : Int), vi hq], ai cI rw 1200 f3]) fl_Mod_122 fs_4_17 5 rfl rfl rfl (Nat.le_of_ble_eq_true rfl) rfl dq_Mod_enough_109 ?_
              refine qv_aload_n C rfl dq_Mod_enough_112 ?_
              refine qv_aload_n C rfl dq_Mod_enough_113 ?_
              refine qv_get C fl_Mod_40 5 rfl rfl dq_Mod_enough_114 ?_
              refine qv_aload_n C rfl dq_Mod_enough_117 ?_
              refine qv_get C fl_Mod_43 5 rfl rfl dq_Mod_enough_118 ?_
              refine qv_isub C (r := (((n3 : Nat) : Int) - ((fr3 : Nat) : Int))) (by omega) dq_Mod_enough_121 ?_
              refine qv_put C (ws' := [ai cI dg 800 d, ai cI bt 1100 bb2, ai cI wz 800 wa, ai cI lw 1200 la, ai cI hg 1200 ha, oc y 4 [vi 0, vi (b2 mi), .ref dg, vi ((nd : Nat) : Int), vi pl, vi ((zr : Nat) : Int), vi bh, .ref rw, vi ((dz f3 n3 : Nat) : Int), vi ((fr3 : Int) - ((n3 : Int) - ((dz f3 n3 : Nat) : Int))), vj ((r : Nat) : Int), .ref bt, .ref wz, .ref lw, .ref hg, vi ((ls : Nat) : Int), vi lp, vi ((dz f3 n3 : Nat) : Int), vi (((n3 : Nat) : Int) - ((fr3 : Nat) : Int))], ai cI rw 1200 f3]) fl_Mod_125 fs_4_18 5 rfl rfl rfl (Nat.le_of_ble_eq_true rfl) rfl dq_Mod_enough_122 ?_
              refine qv_iconst C dq_Mod_enough_125 ?_
              refine qv_istore C (lv' := [(6, vi 0), (5, vi (b2 (decide (r % 2 = 0)))), (3, vj ((fc r : Nat) : Int)), (2, vi (((pw r : Nat) : Int) - 1074)), (1, vi (((r / 4503599627370496) : Nat) : Int)), (0, .ref y)]) (by decide) rfl dq_Mod_enough_126 ?_
              refine qv_lv [5, 4, 3, 2, 1, 0] (lv' := [(0, .ref y), (1, vi (((r / 4503599627370496) : Nat) : Int)), (2, vi (((pw r : Nat) : Int) - 1074)), (3, vj ((fc r : Nat) : Int)), (5, vi (b2 (decide (r % 2 = 0)))), (6, vi 0)]) rfl ?_
              refine qv_ws [5, 0, 6, 1, 2, 3, 4] (ws' := [oc y 4 [vi 0, vi (b2 mi), .ref dg, vi ((nd : Nat) : Int), vi pl, vi ((zr : Nat) : Int), vi bh, .ref rw, vi ((dz f3 n3 : Nat) : Int), vi ((fr3 : Int) - ((n3 : Int) - ((dz f3 n3 : Nat) : Int))), vj ((r : Nat) : Int), .ref bt, .ref wz, .ref lw, .ref hg, vi ((ls : Nat) : Int), vi lp, vi ((dz f3 n3 : Nat) : Int), vi (((n3 : Nat) : Int) - ((fr3 : Nat) : Int))], ai cI dg 800 d, ai cI rw 1200 f3, ai cI bt 1100 bb2, ai cI wz 800 wa, ai cI lw 1200 la, ai cI hg 1200 ha]) (by decide) rfl ?_
              exact sec f3 n3 fr3 hR3 hn3 hfr3 hv3
          · exfalso; omega
        · skip
          refine qv_iload_n C rfl dq_Mod_enough_44 ?_
          refine qv_goto C (tgt := 49) (by decide) dq_Mod_enough_45 ?_
          refine qv_sipush C (by decide) dq_Mod_enough_49 ?_
          refine qv_isub C (r := (((pw r : Nat) : Int) - 1074)) (by omega) dq_Mod_enough_52 ?_
          refine qv_istore_n C (lv' := [(2, vi (((pw r : Nat) : Int) - 1074)), (1, vi (((r / 4503599627370496) : Nat) : Int)), (0, .ref y)]) (by decide) rfl dq_Mod_enough_53 ?_
          refine qv_aload_n C rfl dq_Mod_enough_54 ?_
          refine qv_get C fl_Mod_96 0 rfl rfl dq_Mod_enough_55 ?_
          refine qv_ldc2 C (z := 4503599627370495) wk_Mod_36 dq_Mod_enough_58 ?_
          refine qv_land C (r := (((r % 4503599627370496) : Nat) : Int)) (zj_and (a := r) (b := 52) (by omega)) dq_Mod_enough_61 ?_
          refine qv_iload_n C rfl dq_Mod_enough_62 ?_
          refine qv_ifle C (by omega) (tgt := 72) (by decide) dq_Mod_enough_63 (fun h63 => ?_) (fun h63 => ?_)
          · exfalso; omega
          · skip
            refine qv_ldc2 C (z := 4503599627370496) wk_Mod_38 dq_Mod_enough_66 ?_
            refine qv_goto C (tgt := 73) (by decide) dq_Mod_enough_69 ?_
            refine qv_lor C (r := ((fc r : Nat) : Int)) (by rw [hfcE (by omega)]; exact zj_or' (a := 1) (k := 52) (by omega) (by omega)) dq_Mod_enough_73 ?_
            refine qv_lstore_n C (lv' := [(3, vj ((fc r : Nat) : Int)), (2, vi (((pw r : Nat) : Int) - 1074)), (1, vi (((r / 4503599627370496) : Nat) : Int)), (0, .ref y)]) (by decide) rfl dq_Mod_enough_74 ?_
            refine qv_lload_n C rfl dq_Mod_enough_75 ?_
            refine qv_lconst C (z := 1) (by decide) dq_Mod_enough_76 ?_
            refine qv_land C (r := (((fc r % 2) : Nat) : Int)) (zj_and (a := fc r) (b := 1) (by omega)) dq_Mod_enough_77 ?_
            refine qv_lconst C (z := 0) (by decide) dq_Mod_enough_78 ?_
            refine qv_lcne C (by omega) (by omega) dq_Mod_enough_79 (tgt := 87) (by decide) dq_Mod_enough_80 (fun h79 => ?_) (fun h79 => ?_)
            · skip
              refine qv_iconst C dq_Mod_enough_87 ?_
              refine qv_ti (r := b2 (decide (r % 2 = 0))) (by rw [decide_eq_false (by omega)]; rfl) ?_
              refine qv_istore C (lv' := [(5, vi (b2 (decide (r % 2 = 0)))), (3, vj ((fc r : Nat) : Int)), (2, vi (((pw r : Nat) : Int) - 1074)), (1, vi (((r / 4503599627370496) : Nat) : Int)), (0, .ref y)]) (by decide) rfl dq_Mod_enough_88 ?_
              refine qv_aload_n C rfl dq_Mod_enough_90 ?_
              refine qv_ldc2 C (z := 2) wk_Mod_116 dq_Mod_enough_91 ?_
              refine qv_lload_n C rfl dq_Mod_enough_94 ?_
              refine qv_lmul C (r := (((2 * fc r) : Nat) : Int)) (by omega) dq_Mod_enough_95 ?_
              refine qv_lconst C (z := 1) (by decide) dq_Mod_enough_96 ?_
              refine qv_ladd C (r := ((((2 * fc r) + 1) : Nat) : Int)) (by omega) dq_Mod_enough_97 ?_
              refine qv_iload_n C rfl dq_Mod_enough_98 ?_
              refine qv_iconst C dq_Mod_enough_99 ?_
              refine qv_isub C (r := (((pw r : Nat) : Int) - 1075)) (by omega) dq_Mod_enough_100 ?_
              refine qc_vV (wr := [ai cI dg 800 d, ai cI bt 1100 bb2, ai cI wz 800 wa, ai cI lw 1200 la, ai cI hg 1200 ha]) (st := []) C cl_Mod_118 cd_Mod_exactly (c_Mod_exactly cI cJ y dg rw bt wz lw hg 0 mi nd pl zr bh mn2 fr ((r : Nat) : Int) ls lp hs hq f2 (2 * fc r + 1) (((pw r : Nat) : Int) - 1075) hf2 (by omega) (by omega) (by omega) (by omega)) (Xok_t K) Xbl_t [0, 2] [1, 3, 4, 5, 6] rfl rfl (by decide) (by decide) (by decide) 0 rfl rfl rfl rfl rfl (Nat.le_of_ble_eq_true rfl) (by decide) (by decide) dq_Mod_enough_101 (fun u hu => ?_)
              obtain ⟨f3, n3, fr3, rfl, hR3, hn3, hfr3⟩ := hu
              have hv3 : (2 * fc r + 1) * 2 ^ ((((pw r : Nat) : Int) - 1075) + 1076).toNat = md r * 2 := by
                rw [show ((((pw r : Nat) : Int) - 1075) + 1076).toNat = pw r + 1 by omega]
                exact md_hi r
              show V K 12 [ai cI dg 800 d, ai cI bt 1100 bb2, ai cI wz 800 wa, ai cI lw 1200 la, ai cI hg 1200 ha, oc y 4 [vi 0, vi (b2 mi), .ref dg, vi ((nd : Nat) : Int), vi pl, vi ((zr : Nat) : Int), vi bh, .ref rw, vi ((dz f3 n3 : Nat) : Int), vi ((fr3 : Int) - ((n3 : Int) - ((dz f3 n3 : Nat) : Int))), vj ((r : Nat) : Int), .ref bt, .ref wz, .ref lw, .ref hg, vi ((ls : Nat) : Int), vi lp, vi ((hs : Nat) : Int), vi hq], ai cI rw 1200 f3] 0 0 104 [(5, vi (b2 (decide (r % 2 = 0)))), (3, vj ((fc r : Nat) : Int)), (2, vi (((pw r : Nat) : Int) - 1074)), (1, vi (((r / 4503599627370496) : Nat) : Int)), (0, .ref y)] []
              refine qv_aload_n C rfl dq_Mod_enough_104 ?_
              refine qv_aload_n C rfl dq_Mod_enough_105 ?_
              refine qv_get C fl_Mod_40 5 rfl rfl dq_Mod_enough_106 ?_
              refine qv_put C (ws' := [ai cI dg 800 d, ai cI bt 1100 bb2, ai cI wz 800 wa, ai cI lw 1200 la, ai cI hg 1200 ha, oc y 4 [vi 0, vi (b2 mi), .ref dg, vi ((nd : Nat) : Int), vi pl, vi ((zr : Nat) : Int), vi bh, .ref rw, vi ((dz f3 n3 : Nat) : Int), vi ((fr3 : Int) - ((n3 : Int) - ((dz f3 n3 : Nat) : Int))), vj ((r : Nat) : Int), .ref bt, .ref wz, .ref lw, .ref hg, vi ((ls : Nat) : Int), vi lp, vi ((dz f3 n3 : Nat) : Int), vi hq], ai cI rw 1200 f3]) fl_Mod_122 fs_4_17 5 rfl rfl rfl (Nat.le_of_ble_eq_true rfl) rfl dq_Mod_enough_109 ?_
              refine qv_aload_n C rfl dq_Mod_enough_112 ?_
              refine qv_aload_n C rfl dq_Mod_enough_113 ?_
              refine qv_get C fl_Mod_40 5 rfl rfl dq_Mod_enough_114 ?_
              refine qv_aload_n C rfl dq_Mod_enough_117 ?_
              refine qv_get C fl_Mod_43 5 rfl rfl dq_Mod_enough_118 ?_
              refine qv_isub C (r := (((n3 : Nat) : Int) - ((fr3 : Nat) : Int))) (by omega) dq_Mod_enough_121 ?_
              refine qv_put C (ws' := [ai cI dg 800 d, ai cI bt 1100 bb2, ai cI wz 800 wa, ai cI lw 1200 la, ai cI hg 1200 ha, oc y 4 [vi 0, vi (b2 mi), .ref dg, vi ((nd : Nat) : Int), vi pl, vi ((zr : Nat) : Int), vi bh, .ref rw, vi ((dz f3 n3 : Nat) : Int), vi ((fr3 : Int) - ((n3 : Int) - ((dz f3 n3 : Nat) : Int))), vj ((r : Nat) : Int), .ref bt, .ref wz, .ref lw, .ref hg, vi ((ls : Nat) : Int), vi lp, vi ((dz f3 n3 : Nat) : Int), vi (((n3 : Nat) : Int) - ((fr3 : Nat) : Int))], ai cI rw 1200 f3]) fl_Mod_125 fs_4_18 5 rfl rfl rfl (Nat.le_of_ble_eq_true rfl) rfl dq_Mod_enough_122 ?_
              refine qv_iconst C dq_Mod_enough_125 ?_
              refine qv_istore C (lv' := [(6, vi 0), (5, vi (b2 (decide (r % 2 = 0)))), (3, vj ((fc r : Nat) : Int)), (2, vi (((pw r : Nat) : Int) - 1074)), (1, vi (((r / 4503599627370496) : Nat) : Int)), (0, .ref y)]) (by decide) rfl dq_Mod_enough_126 ?_
              refine qv_lv [5, 4, 3, 2, 1, 0] (lv' := [(0, .ref y), (1, vi (((r / 4503599627370496) : Nat) : Int)), (2, vi (((pw r : Nat) : Int) - 1074)), (3, vj ((fc r : Nat) : Int)), (5, vi (b2 (decide (r % 2 = 0)))), (6, vi 0)]) rfl ?_
              refine qv_ws [5, 0, 6, 1, 2, 3, 4] (ws' := [oc y 4 [vi 0, vi (b2 mi), .ref dg, vi ((nd : Nat) : Int), vi pl, vi ((zr : Nat) : Int), vi bh, .ref rw, vi ((dz f3 n3 : Nat) : Int), vi ((fr3 : Int) - ((n3 : Int) - ((dz f3 n3 : Nat) : Int))), vj ((r : Nat) : Int), .ref bt, .ref wz, .ref lw, .ref hg, vi ((ls : Nat) : Int), vi lp, vi ((dz f3 n3 : Nat) : Int), vi (((n3 : Nat) : Int) - ((fr3 : Nat) : Int))], ai cI dg 800 d, ai cI rw 1200 f3, ai cI bt 1100 bb2, ai cI wz 800 wa, ai cI lw 1200 la, ai cI hg 1200 ha]) (by decide) rfl ?_
              exact sec f3 n3 fr3 hR3 hn3 hfr3 hv3
            · skip
              refine qv_iconst C dq_Mod_enough_83 ?_
              refine qv_goto C (tgt := 88) (by decide) dq_Mod_enough_84 ?_
              refine qv_ti (r := b2 (decide (r % 2 = 0))) (by rw [decide_eq_true (by omega)]; rfl) ?_
              refine qv_istore C (lv' := [(5, vi (b2 (decide (r % 2 = 0)))), (3, vj ((fc r : Nat) : Int)), (2, vi (((pw r : Nat) : Int) - 1074)), (1, vi (((r / 4503599627370496) : Nat) : Int)), (0, .ref y)]) (by decide) rfl dq_Mod_enough_88 ?_
              refine qv_aload_n C rfl dq_Mod_enough_90 ?_
              refine qv_ldc2 C (z := 2) wk_Mod_116 dq_Mod_enough_91 ?_
              refine qv_lload_n C rfl dq_Mod_enough_94 ?_
              refine qv_lmul C (r := (((2 * fc r) : Nat) : Int)) (by omega) dq_Mod_enough_95 ?_
              refine qv_lconst C (z := 1) (by decide) dq_Mod_enough_96 ?_
              refine qv_ladd C (r := ((((2 * fc r) + 1) : Nat) : Int)) (by omega) dq_Mod_enough_97 ?_
              refine qv_iload_n C rfl dq_Mod_enough_98 ?_
              refine qv_iconst C dq_Mod_enough_99 ?_
              refine qv_isub C (r := (((pw r : Nat) : Int) - 1075)) (by omega) dq_Mod_enough_100 ?_
              refine qc_vV (wr := [ai cI dg 800 d, ai cI bt 1100 bb2, ai cI wz 800 wa, ai cI lw 1200 la, ai cI hg 1200 ha]) (st := []) C cl_Mod_118 cd_Mod_exactly (c_Mod_exactly cI cJ y dg rw bt wz lw hg 0 mi nd pl zr bh mn2 fr ((r : Nat) : Int) ls lp hs hq f2 (2 * fc r + 1) (((pw r : Nat) : Int) - 1075) hf2 (by omega) (by omega) (by omega) (by omega)) (Xok_t K) Xbl_t [0, 2] [1, 3, 4, 5, 6] rfl rfl (by decide) (by decide) (by decide) 0 rfl rfl rfl rfl rfl (Nat.le_of_ble_eq_true rfl) (by decide) (by decide) dq_Mod_enough_101 (fun u hu => ?_)
              obtain ⟨f3, n3, fr3, rfl, hR3, hn3, hfr3⟩ := hu
              have hv3 : (2 * fc r + 1) * 2 ^ ((((pw r : Nat) : Int) - 1075) + 1076).toNat = md r * 2 := by
                rw [show ((((pw r : Nat) : Int) - 1075) + 1076).toNat = pw r + 1 by omega]
                exact md_hi r
              show V K 12 [ai cI dg 800 d, ai cI bt 1100 bb2, ai cI wz 800 wa, ai cI lw 1200 la, ai cI hg 1200 ha, oc y 4 [vi 0, vi (b2 mi), .ref dg, vi ((nd : Nat) : Int), vi pl, vi ((zr : Nat) : Int), vi bh, .ref rw, vi ((dz f3 n3 : Nat) : Int), vi ((fr3 : Int) - ((n3 : Int) - ((dz f3 n3 : Nat) : Int))), vj ((r : Nat) : Int), .ref bt, .ref wz, .ref lw, .ref hg, vi ((ls : Nat) : Int), vi lp, vi ((hs : Nat) : Int), vi hq], ai cI rw 1200 f3] 0 0 104 [(5, vi (b2 (decide (r % 2 = 0)))), (3, vj ((fc r : Nat) : Int)), (2, vi (((pw r : Nat) : Int) - 1074)), (1, vi (((r / 4503599627370496) : Nat) : Int)), (0, .ref y)] []
              refine qv_aload_n C rfl dq_Mod_enough_104 ?_
              refine qv_aload_n C rfl dq_Mod_enough_105 ?_
              refine qv_get C fl_Mod_40 5 rfl rfl dq_Mod_enough_106 ?_
              refine qv_put C (ws' := [ai cI dg 800 d, ai cI bt 1100 bb2, ai cI wz 800 wa, ai cI lw 1200 la, ai cI hg 1200 ha, oc y 4 [vi 0, vi (b2 mi), .ref dg, vi ((nd : Nat) : Int), vi pl, vi ((zr : Nat) : Int), vi bh, .ref rw, vi ((dz f3 n3 : Nat) : Int), vi ((fr3 : Int) - ((n3 : Int) - ((dz f3 n3 : Nat) : Int))), vj ((r : Nat) : Int), .ref bt, .ref wz, .ref lw, .ref hg, vi ((ls : Nat) : Int), vi lp, vi ((dz f3 n3 : Nat) : Int), vi hq], ai cI rw 1200 f3]) fl_Mod_122 fs_4_17 5 rfl rfl rfl (Nat.le_of_ble_eq_true rfl) rfl dq_Mod_enough_109 ?_
              refine qv_aload_n C rfl dq_Mod_enough_112 ?_
              refine qv_aload_n C rfl dq_Mod_enough_113 ?_
              refine qv_get C fl_Mod_40 5 rfl rfl dq_Mod_enough_114 ?_
              refine qv_aload_n C rfl dq_Mod_enough_117 ?_
              refine qv_get C fl_Mod_43 5 rfl rfl dq_Mod_enough_118 ?_
              refine qv_isub C (r := (((n3 : Nat) : Int) - ((fr3 : Nat) : Int))) (by omega) dq_Mod_enough_121 ?_
              refine qv_put C (ws' := [ai cI dg 800 d, ai cI bt 1100 bb2, ai cI wz 800 wa, ai cI lw 1200 la, ai cI hg 1200 ha, oc y 4 [vi 0, vi (b2 mi), .ref dg, vi ((nd : Nat) : Int), vi pl, vi ((zr : Nat) : Int), vi bh, .ref rw, vi ((dz f3 n3 : Nat) : Int), vi ((fr3 : Int) - ((n3 : Int) - ((dz f3 n3 : Nat) : Int))), vj ((r : Nat) : Int), .ref bt, .ref wz, .ref lw, .ref hg, vi ((ls : Nat) : Int), vi lp, vi ((dz f3 n3 : Nat) : Int), vi (((n3 : Nat) : Int) - ((fr3 : Nat) : Int))], ai cI rw 1200 f3]) fl_Mod_125 fs_4_18 5 rfl rfl rfl (Nat.le_of_ble_eq_true rfl) rfl dq_Mod_enough_122 ?_
              refine qv_iconst C dq_Mod_enough_125 ?_
              refine qv_istore C (lv' := [(6, vi 0), (5, vi (b2 (decide (r % 2 = 0)))), (3, vj ((fc r : Nat) : Int)), (2, vi (((pw r : Nat) : Int) - 1074)), (1, vi (((r / 4503599627370496) : Nat) : Int)), (0, .ref y)]) (by decide) rfl dq_Mod_enough_126 ?_
              refine qv_lv [5, 4, 3, 2, 1, 0] (lv' := [(0, .ref y), (1, vi (((r / 4503599627370496) : Nat) : Int)), (2, vi (((pw r : Nat) : Int) - 1074)), (3, vj ((fc r : Nat) : Int)), (5, vi (b2 (decide (r % 2 = 0)))), (6, vi 0)]) rfl ?_
              refine qv_ws [5, 0, 6, 1, 2, 3, 4] (ws' := [oc y 4 [vi 0, vi (b2 mi), .ref dg, vi ((nd : Nat) : Int), vi pl, vi ((zr : Nat) : Int), vi bh, .ref rw, vi ((dz f3 n3 : Nat) : Int), vi ((fr3 : Int) - ((n3 : Int) - ((dz f3 n3 : Nat) : Int))), vj ((r : Nat) : Int), .ref bt, .ref wz, .ref lw, .ref hg, vi ((ls : Nat) : Int), vi lp, vi ((dz f3 n3 : Nat) : Int), vi (((n3 : Nat) : Int) - ((fr3 : Nat) : Int))], ai cI dg 800 d, ai cI rw 1200 f3, ai cI bt 1100 bb2, ai cI wz 800 wa, ai cI lw 1200 la, ai cI hg 1200 ha]) (by decide) rfl ?_
              exact sec f3 n3 fr3 hR3 hn3 hfr3 hv3
      · exfalso; omega
    · exfalso; omega
  · show V K 12 [ai cI wz 800 wa, ai cI lw 1200 la, ai cI hg 1200 ha, oc y 4 [vi 0, vi (b2 mi), .ref dg, vi ((nd : Nat) : Int), vi pl, vi ((zr : Nat) : Int), vi bh, .ref rw, vi ((mn2 : Nat) : Int), vi fr, vj 0, .ref bt, .ref wz, .ref lw, .ref hg, vi ((ls : Nat) : Int), vi lp, vi ((hs : Nat) : Int), vi hq], ai cI dg 800 d, ai cI rw 1200 f2, ai cI bt 1100 bb2] 0 0 14 [(0, .ref y)] [vi 0, .ref y]
    refine qv_ifne C (by omega) (tgt := 21) (by decide) dq_Mod_enough_14 (fun h14 => ?_) (fun h14 => ?_)
    · exfalso; omega
    · skip
      refine qv_iconst C dq_Mod_enough_17 ?_
      refine qv_goto C (tgt := 22) (by decide) dq_Mod_enough_18 ?_
      refine qv_iconst C dq_Mod_enough_22 ?_
      refine qc_vI (wr := [ai cI wz 800 wa, ai cI lw 1200 la, ai cI hg 1200 ha, ai cI dg 800 d, ai cI rw 1200 f2, ai cI bt 1100 bb2]) (st := []) C cl_Mod_32 cd_Mod_fails (c_Mod_fails cI cJ y dg rw bt wz lw hg mi nd pl zr bh mn2 fr 0 ls lp hs hq true 1 (by omega)) (Xok_t K) Xbl_t [3] [0, 1, 2, 4, 5, 6] rfl rfl (by decide) (by decide) (by decide) 0 rfl rfl rfl rfl rfl (Nat.le_of_ble_eq_true rfl) (by decide) (by decide) dq_Mod_enough_23 (fun z u hu => ?_)
      obtain ⟨rfl, rfl⟩ := hu
      show V K 12 [ai cI wz 800 wa, ai cI lw 1200 la, ai cI hg 1200 ha, ai cI dg 800 d, ai cI rw 1200 f2, ai cI bt 1100 bb2, oc y 4 [vi 1, vi (b2 mi), .ref dg, vi ((nd : Nat) : Int), vi pl, vi ((zr : Nat) : Int), vi bh, .ref rw, vi ((mn2 : Nat) : Int), vi fr, vj 0, .ref bt, .ref wz, .ref lw, .ref hg, vi ((ls : Nat) : Int), vi lp, vi ((hs : Nat) : Int), vi hq]] 0 0 26 [(0, .ref y)] [vi 1]
      refine qv_ifeq C (by omega) (tgt := 31) (by decide) dq_Mod_enough_26 (fun h26 => ?_) (fun h26 => ?_)
      · exfalso; omega
      · skip
        refine qv_iconst C dq_Mod_enough_29 ?_
        refine qv_ws [6, 3, 4, 5, 0, 1, 2] (ws' := [oc y 4 [vi 1, vi (b2 mi), .ref dg, vi ((nd : Nat) : Int), vi pl, vi ((zr : Nat) : Int), vi bh, .ref rw, vi ((mn2 : Nat) : Int), vi fr, vj 0, .ref bt, .ref wz, .ref lw, .ref hg, vi ((ls : Nat) : Int), vi lp, vi ((hs : Nat) : Int), vi hq], ai cI dg 800 d, ai cI rw 1200 f2, ai cI bt 1100 bb2, ai cI wz 800 wa, ai cI lw 1200 la, ai cI hg 1200 ha]) (by decide) rfl ?_
        refine qv_iret C hR ?_ dq_Mod_enough_30 (by decide) (by decide)
        exact ⟨r, f2, bb2, wa, la, ha, d, mn2, fr, ls, lp, hs, hq, hNe, hf2, hbb2, hwa, hla, hha, Or.inl ⟨heq, rfl, rfl⟩⟩

