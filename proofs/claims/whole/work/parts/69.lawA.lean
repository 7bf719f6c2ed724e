theorem law_set {K : Kx} {cI cJ : ClassId} (C : Cx K cI cJ code 8 RL room_1) (hX : Xk K XT) {sc L : Nat} {xs : Nat → Int32} (hS : Sx K sc L xs) (hL : L ≤ 1536) {x k g w t l hi ka b wa ta la ha y dg rw bt wz lw hg o c : Nat} (hc : 3 * c + 3 ≤ L) (hn : LG K cI cJ sc x k g w t l hi ka b wa ta la ha y dg rw bt wz lw hg o (c + 1) (3 * c) (21 + (c + 1)) (9776 + 6 * (c + 1)) 607) : LG K cI cJ sc x k g w t l hi ka b wa ta la ha y dg rw bt wz lw hg o c (3 * c) (21 + c) (9776 + 6 * c) 88 := by
  intro mi zr pt len pl f fi en R hm W lt pt2 ft ll pll fl1 lh ph fh er mj lem pm zs pu d mn fr fo ls lp hs hq rf bb wf lf hf oo hT hB
  have hc5 : c < 512 := by omega
  have hT0 := hT
  obtain ⟨rfl, rfl, rfl, rfl, rfl, hK, hKd, hfd, hz8, hz0, hpt, hpl⟩ := hT
  obtain ⟨hft, hfl, hfh, hrf, hbb, hwf, hlf, hhf⟩ := hB
  have hl8 := hK.2.1
  show V K 8 [oc x 3 [.ref k, vi (b2 mi), vi ((zr : Nat) : Int), vi pt, .ref g, .ref w, .ref t, .ref l, .ref hi], oc k 0 [.ref ka, vi ((len : Nat) : Int), vi pl], ai cI ka 800 f, oc g 1 [.ref b, vi ((fi : Nat) : Int), vi ((en : Nat) : Int)], aj cJ b 160 R, oc w 2 [.ref wa, vi (b2 hm)], aj cJ wa 70 W, oc t 0 [.ref ta, vi ((lt : Nat) : Int), vi pt2], ai cI ta 800 ft, oc l 0 [.ref la, vi ((ll : Nat) : Int), vi pll], ai cI la 800 fl1, oc hi 0 [.ref ha, vi ((lh : Nat) : Int), vi ph], ai cI ha 800 fh, oc y 4 [vi er, vi (b2 mi), .ref dg, vi ((len : Nat) : Int), vi pl, vi ((zr : Nat) : Int), vi pt, .ref rw, vi ((mn : Nat) : Int), vi fr, vj fo, .ref bt, .ref wz, .ref lw, .ref hg, vi ((ls : Nat) : Int), vi lp, vi ((hs : Nat) : Int), vi hq], ai cI dg 800 d, ai cI rw 1200 rf, ai cI bt 1100 bb, ai cI wz 800 wf, ai cI lw 1200 lf, ai cI hg 1200 hf, aj cJ o 1 oo] (21 + c) (9776 + 6 * c) 88 [(0, .ref sc), (1, .ref x), (2, .ref y), (3, .ref o), (4, vi (((3 * c) : Nat) : Int))] []
  refine qv_aload_n C rfl dq_Law_law_88 ?_
  refine qv_aload_n C rfl dq_Law_law_89 ?_
  refine qv_iload C rfl dq_Law_law_90 ?_
  refine qv_iconst C dq_Law_law_92 ?_
  refine qv_iadd C (r := ((((3 * c) + 1) : Nat) : Int)) (by omega) dq_Law_law_93 ?_
  refine qs_ld C hS ((3 * c) + 1) rfl (by omega) (by omega) dq_Law_law_94 ?_
  refine qv_i2l C (zi_ri _) dq_Law_law_95 ?_
  refine qv_tjw (r := ((lj ((xs ((3 * c) + 1)).toInt) : Nat) : Int)) (lj_zj _).symm ?_
  refine qv_bipush C (by decide) dq_Law_law_96 ?_
  refine qv_lshl C (lj ((xs ((3 * c) + 1)).toInt)) 32 (by omega) (by omega) (by omega) dq_Law_law_98 ?_
  refine qv_tjw (r := ((lj ((xs ((3 * c) + 1)).toInt) % 4294967296 * 2 ^ 32 : Nat) : Int)) (lB_hi _) ?_
  refine qv_aload_n C rfl dq_Law_law_99 ?_
  refine qv_iload C rfl dq_Law_law_100 ?_
  refine qv_iconst C dq_Law_law_102 ?_
  refine qv_iadd C (r := ((((3 * c) + 2) : Nat) : Int)) (by omega) dq_Law_law_103 ?_
  refine qs_ld C hS ((3 * c) + 2) rfl (by omega) (by omega) dq_Law_law_104 ?_
  refine qv_i2l C (zi_ri _) dq_Law_law_105 ?_
  refine qv_tjw (r := ((lj ((xs ((3 * c) + 2)).toInt) : Nat) : Int)) (lj_zj _).symm ?_
  refine qv_ldc2 C (z := 4294967295) wk_Law_51 dq_Law_law_106 ?_
  refine qv_land C (r := ((lj ((xs ((3 * c) + 2)).toInt) % 4294967296 : Nat) : Int)) (lB_lo _) dq_Law_law_109 ?_
  refine qv_lor C (r := ((lB ((xs ((3 * c) + 1)).toInt) ((xs ((3 * c) + 2)).toInt) : Nat) : Int)) (lB_or _ _) dq_Law_law_110 ?_
  refine qv_aload_n C rfl dq_Law_law_111 ?_
  refine qh_sI (wr := [oc w 2 [.ref wa, vi (b2 hm)], aj cJ wa 70 W, oc t 0 [.ref ta, vi ((lt : Nat) : Int), vi pt2], ai cI ta 800 ft, oc l 0 [.ref la, vi ((ll : Nat) : Int), vi pll], ai cI la 800 fl1, oc hi 0 [.ref ha, vi ((lh : Nat) : Int), vi ph], ai cI ha 800 fh, oc y 4 [vi er, vi (b2 mi), .ref dg, vi ((len : Nat) : Int), vi pl, vi ((zr : Nat) : Int), vi pt, .ref rw, vi ((mn : Nat) : Int), vi fr, vj fo, .ref bt, .ref wz, .ref lw, .ref hg, vi ((ls : Nat) : Int), vi lp, vi ((hs : Nat) : Int), vi hq], ai cI dg 800 d, ai cI rw 1200 rf, ai cI bt 1100 bb, ai cI wz 800 wf, ai cI lw 1200 lf, ai cI hg 1200 hf]) (st := []) C hS lk_Law_53 cl_Law_53 cdw_Law_set (c_Law_set cI cJ (c_Tru_set cI cJ x k g w t l hi mi zr pt b fi en R ka len pl f hK.1 (lB ((xs ((3 * c) + 1)).toInt) ((xs ((3 * c) + 2)).toInt)) (lB_lt _ _)) (fun z u q => by obtain ⟨-, R2, fi2, en2, len2, pl2, f2, rfl, -, h9⟩ := q; have h8 := h9.1.2.1; omega) (fun E u q => q.2.1) o oo) (XT_ok hX) XT_bl [20, 0, 3, 4, 1, 2] [5, 6, 7, 8, 9, 10, 11, 12, 13, 14, 15, 16, 17, 18, 19] rfl rfl (by decide) (by decide) (by decide) rfl rfl (Nat.le_of_ble_eq_true rfl) (by decide) (rl_a hc5) dq_Law_law_112 (fun cz u hu => ?_)
  rcases hu with ⟨rfl, z, u0, hq1, rfl⟩ | ⟨rfl, u0, hq1, rfl⟩
  · skip
    obtain ⟨hlt, R2, fi2, en2, len2, pl2, f2, rfl, rfl, hSp⟩ := hq1
    show V K 8 [oc w 2 [.ref wa, vi (b2 hm)], aj cJ wa 70 W, oc t 0 [.ref ta, vi ((lt : Nat) : Int), vi pt2], ai cI ta 800 ft, oc l 0 [.ref la, vi ((ll : Nat) : Int), vi pll], ai cI la 800 fl1, oc hi 0 [.ref ha, vi ((lh : Nat) : Int), vi ph], ai cI ha 800 fh, oc y 4 [vi er, vi (b2 mi), .ref dg, vi ((len : Nat) : Int), vi pl, vi ((zr : Nat) : Int), vi pt, .ref rw, vi ((mn : Nat) : Int), vi fr, vj fo, .ref bt, .ref wz, .ref lw, .ref hg, vi ((ls : Nat) : Int), vi lp, vi ((hs : Nat) : Int), vi hq], ai cI dg 800 d, ai cI rw 1200 rf, ai cI bt 1100 bb, ai cI wz 800 wf, ai cI lw 1200 lf, ai cI hg 1200 hf, aj cJ o 1 (un oo 0 (lj ((len2 : Nat) : Int))), oc x 3 [.ref k, vi (b2 (decide (9223372036854775808 ≤ (lB ((xs ((3 * c) + 1)).toInt) ((xs ((3 * c) + 2)).toInt))))), vi 0, vi 0, .ref g, .ref w, .ref t, .ref l, .ref hi], oc g 1 [.ref b, vi ((fi2 : Nat) : Int), vi ((en2 : Nat) : Int)], aj cJ b 160 R2, oc k 0 [.ref ka, vi ((len2 : Nat) : Int), vi pl2], ai cI ka 800 f2] (21 + c + 1) (9776 + 6 * c + 6) 115 [(0, .ref sc), (1, .ref x), (2, .ref y), (3, .ref o), (4, vi (((3 * c) : Nat) : Int))] [vi 0]
    refine qv_istore C (lv' := [(5, vi 0), (0, .ref sc), (1, .ref x), (2, .ref y), (3, .ref o), (4, vi (((3 * c) : Nat) : Int))]) (by decide) rfl dq_Law_law_115 ?_
    refine qv_aload_n C rfl dq_Law_law_117 ?_
    refine qv_aload_n C rfl dq_Law_law_118 ?_
    refine qv_iload C rfl dq_Law_law_119 ?_
    refine qv_iconst C dq_Law_law_121 ?_
    refine qv_iadd C (r := ((((3 * c) + 1) : Nat) : Int)) (by omega) dq_Law_law_122 ?_
    refine qs_ld C hS ((3 * c) + 1) rfl (by omega) (by omega) dq_Law_law_123 ?_
    refine qv_i2l C (zi_ri _) dq_Law_law_124 ?_
    refine qv_tjw (r := ((lj ((xs ((3 * c) + 1)).toInt) : Nat) : Int)) (lj_zj _).symm ?_
    refine qv_bipush C (by decide) dq_Law_law_125 ?_
    refine qv_lshl C (lj ((xs ((3 * c) + 1)).toInt)) 32 (by omega) (by omega) (by omega) dq_Law_law_127 ?_
    refine qv_tjw (r := ((lj ((xs ((3 * c) + 1)).toInt) % 4294967296 * 2 ^ 32 : Nat) : Int)) (lB_hi _) ?_
    refine qv_aload_n C rfl dq_Law_law_128 ?_
    refine qv_iload C rfl dq_Law_law_129 ?_
    refine qv_iconst C dq_Law_law_131 ?_
    refine qv_iadd C (r := ((((3 * c) + 2) : Nat) : Int)) (by omega) dq_Law_law_132 ?_
    refine qs_ld C hS ((3 * c) + 2) rfl (by omega) (by omega) dq_Law_law_133 ?_
    refine qv_i2l C (zi_ri _) dq_Law_law_134 ?_
    refine qv_tjw (r := ((lj ((xs ((3 * c) + 2)).toInt) : Nat) : Int)) (lj_zj _).symm ?_
    refine qv_ldc2 C (z := 4294967295) wk_Law_51 dq_Law_law_135 ?_
    refine qv_land C (r := ((lj ((xs ((3 * c) + 2)).toInt) % 4294967296 : Nat) : Int)) (lB_lo _) dq_Law_law_138 ?_
    refine qv_lor C (r := ((lB ((xs ((3 * c) + 1)).toInt) ((xs ((3 * c) + 2)).toInt) : Nat) : Int)) (lB_or _ _) dq_Law_law_139 ?_
    refine qc_vI (wr := [oc w 2 [.ref wa, vi (b2 hm)], aj cJ wa 70 W, oc t 0 [.ref ta, vi ((lt : Nat) : Int), vi pt2], ai cI ta 800 ft, oc l 0 [.ref la, vi ((ll : Nat) : Int), vi pll], ai cI la 800 fl1, oc hi 0 [.ref ha, vi ((lh : Nat) : Int), vi ph], ai cI ha 800 fh, ai cI bt 1100 bb, ai cI wz 800 wf, ai cI lw 1200 lf, ai cI hg 1200 hf, aj cJ o 1 (un oo 0 (lj ((len2 : Nat) : Int))), oc x 3 [.ref k, vi (b2 (decide (9223372036854775808 ≤ (lB ((xs ((3 * c) + 1)).toInt) ((xs ((3 * c) + 2)).toInt))))), vi 0, vi 0, .ref g, .ref w, .ref t, .ref l, .ref hi], oc g 1 [.ref b, vi ((fi2 : Nat) : Int), vi ((en2 : Nat) : Int)], aj cJ b 160 R2, oc k 0 [.ref ka, vi ((len2 : Nat) : Int), vi pl2], ai cI ka 800 f2]) (st := []) C cl_Law_58 cd_Mod_set (c_Mod_set cI cJ y dg rw bt wz lw hg er mi len pl zr pt mn fr fo ls lp hs hq rf d (lB ((xs ((3 * c) + 1)).toInt) ((xs ((3 * c) + 2)).toInt)) (lB_lt _ _) hrf hKd.1) (Xok_t K) Xbl_t [8, 10, 9] [0, 1, 2, 3, 4, 5, 6, 7, 11, 12, 13, 14, 15, 16, 17, 18, 19, 20] rfl rfl (by decide) (by decide) (by decide) 0 rfl rfl rfl rfl rfl (Nat.le_of_ble_eq_true rfl) (by decide) (rl_b hc5) dq_Law_law_140 (fun z u hu => ?_)
    rcases hu with ⟨hge2, rfl, rfl⟩ | ⟨hlt2, nd2, pm2, d2, rf2, mn2, fr2, rfl, rfl, hSp2, hrf2⟩
    · exfalso; omega
    · skip
      show V K 8 [oc w 2 [.ref wa, vi (b2 hm)], aj cJ wa 70 W, oc t 0 [.ref ta, vi ((lt : Nat) : Int), vi pt2], ai cI ta 800 ft, oc l 0 [.ref la, vi ((ll : Nat) : Int), vi pll], ai cI la 800 fl1, oc hi 0 [.ref ha, vi ((lh : Nat) : Int), vi ph], ai cI ha 800 fh, ai cI bt 1100 bb, ai cI wz 800 wf, ai cI lw 1200 lf, ai cI hg 1200 hf, aj cJ o 1 (un oo 0 (lj ((len2 : Nat) : Int))), oc x 3 [.ref k, vi (b2 (decide (9223372036854775808 ≤ (lB ((xs ((3 * c) + 1)).toInt) ((xs ((3 * c) + 2)).toInt))))), vi 0, vi 0, .ref g, .ref w, .ref t, .ref l, .ref hi], oc g 1 [.ref b, vi ((fi2 : Nat) : Int), vi ((en2 : Nat) : Int)], aj cJ b 160 R2, oc k 0 [.ref ka, vi ((len2 : Nat) : Int), vi pl2], ai cI ka 800 f2, oc y 4 [vi 0, vi (b2 (decide (9223372036854775808 ≤ (lB ((xs ((3 * c) + 1)).toInt) ((xs ((3 * c) + 2)).toInt))))), .ref dg, vi ((nd2 : Nat) : Int), vi pm2, vi 0, vi 0, .ref rw, vi ((mn2 : Nat) : Int), vi fr2, vj fo, .ref bt, .ref wz, .ref lw, .ref hg, vi ((ls : Nat) : Int), vi lp, vi ((hs : Nat) : Int), vi hq], ai cI rw 1200 rf2, ai cI dg 800 d2] (21 + c + 1) (9776 + 6 * c + 6) 143 [(5, vi 0), (0, .ref sc), (1, .ref x), (2, .ref y), (3, .ref o), (4, vi (((3 * c) : Nat) : Int))] [vi ((nd2 : Nat) : Int)]
      refine qv_istore C (lv' := [(6, vi ((nd2 : Nat) : Int)), (5, vi 0), (0, .ref sc), (1, .ref x), (2, .ref y), (3, .ref o), (4, vi (((3 * c) : Nat) : Int))]) (by decide) rfl dq_Law_law_143 ?_
      refine qv_aload_n C rfl dq_Law_law_145 ?_
      refine qc_vI (wr := [oc w 2 [.ref wa, vi (b2 hm)], aj cJ wa 70 W, oc t 0 [.ref ta, vi ((lt : Nat) : Int), vi pt2], ai cI ta 800 ft, oc l 0 [.ref la, vi ((ll : Nat) : Int), vi pll], ai cI la 800 fl1, oc hi 0 [.ref ha, vi ((lh : Nat) : Int), vi ph], ai cI ha 800 fh, ai cI bt 1100 bb, ai cI wz 800 wf, ai cI lw 1200 lf, ai cI hg 1200 hf, aj cJ o 1 (un oo 0 (lj ((len2 : Nat) : Int))), oc x 3 [.ref k, vi (b2 (decide (9223372036854775808 ≤ (lB ((xs ((3 * c) + 1)).toInt) ((xs ((3 * c) + 2)).toInt))))), vi 0, vi 0, .ref g, .ref w, .ref t, .ref l, .ref hi], oc g 1 [.ref b, vi ((fi2 : Nat) : Int), vi ((en2 : Nat) : Int)], aj cJ b 160 R2, oc k 0 [.ref ka, vi ((len2 : Nat) : Int), vi pl2], ai cI ka 800 f2, ai cI rw 1200 rf2, ai cI dg 800 d2]) (st := []) C cl_Law_59 cd_Mod_thrown (c_Mod_thrown cI cJ y dg rw bt wz lw hg 0 (decide (9223372036854775808 ≤ (lB ((xs ((3 * c) + 1)).toInt) ((xs ((3 * c) + 2)).toInt)))) nd2 pm2 0 0 mn2 fr2 fo ls lp hs hq) (Xok_t K) Xbl_t [18] [0, 1, 2, 3, 4, 5, 6, 7, 8, 9, 10, 11, 12, 13, 14, 15, 16, 17, 19, 20] rfl rfl (by decide) (by decide) (by decide) 0 rfl rfl rfl rfl rfl (Nat.le_of_ble_eq_true rfl) (by decide) (rl_b hc5) dq_Law_law_146 (fun z u hu => ?_)
      obtain ⟨rfl, rfl⟩ := hu
      show V K 8 [oc w 2 [.ref wa, vi (b2 hm)], aj cJ wa 70 W, oc t 0 [.ref ta, vi ((lt : Nat) : Int), vi pt2], ai cI ta 800 ft, oc l 0 [.ref la, vi ((ll : Nat) : Int), vi pll], ai cI la 800 fl1, oc hi 0 [.ref ha, vi ((lh : Nat) : Int), vi ph], ai cI ha 800 fh, ai cI bt 1100 bb, ai cI wz 800 wf, ai cI lw 1200 lf, ai cI hg 1200 hf, aj cJ o 1 (un oo 0 (lj ((len2 : Nat) : Int))), oc x 3 [.ref k, vi (b2 (decide (9223372036854775808 ≤ (lB ((xs ((3 * c) + 1)).toInt) ((xs ((3 * c) + 2)).toInt))))), vi 0, vi 0, .ref g, .ref w, .ref t, .ref l, .ref hi], oc g 1 [.ref b, vi ((fi2 : Nat) : Int), vi ((en2 : Nat) : Int)], aj cJ b 160 R2, oc k 0 [.ref ka, vi ((len2 : Nat) : Int), vi pl2], ai cI ka 800 f2, ai cI rw 1200 rf2, ai cI dg 800 d2, oc y 4 [vi 0, vi (b2 (decide (9223372036854775808 ≤ (lB ((xs ((3 * c) + 1)).toInt) ((xs ((3 * c) + 2)).toInt))))), .ref dg, vi ((nd2 : Nat) : Int), vi pm2, vi 0, vi 0, .ref rw, vi ((mn2 : Nat) : Int), vi fr2, vj fo, .ref bt, .ref wz, .ref lw, .ref hg, vi ((ls : Nat) : Int), vi lp, vi ((hs : Nat) : Int), vi hq]] (21 + c + 1) (9776 + 6 * c + 6) 149 [(6, vi ((nd2 : Nat) : Int)), (5, vi 0), (0, .ref sc), (1, .ref x), (2, .ref y), (3, .ref o), (4, vi (((3 * c) : Nat) : Int))] [vi 0]
      refine qv_iload C rfl dq_Law_law_149 ?_
      refine qv_iceq C (by omega) (by omega) (tgt := 156) (by decide) dq_Law_law_151 (fun h151 => ?_) (fun h151 => ?_)
      · skip
        refine qv_iload C rfl dq_Law_law_156 ?_
        refine qv_ifne C (by omega) (tgt := 173) (by decide) dq_Law_law_158 (fun h158 => ?_) (fun h158 => ?_)
        · exfalso; omega
        · skip
          refine qv_aload_n C rfl dq_Law_law_161 ?_
          refine qv_iconst C dq_Law_law_162 ?_
          refine qv_lald C 12 0 rfl (by omega) (by omega) (by omega) dq_Law_law_163 ?_
          refine qv_iload C rfl dq_Law_law_164 ?_
          refine qv_i2l C (by have := hSp2.1.2.1; omega) dq_Law_law_166 ?_
          refine qv_lcsame C (out_same (congrArg (fun q : Nat => (q : Int)) (Sp_one hSp hSp2).1)) dq_Law_law_167 (tgt := 173) (by decide) dq_Law_law_168 ?_
          refine qv_goto C (tgt := 607) (by decide) dq_Law_law_173 ?_
          refine qv_lv [2, 3, 4, 5, 6] (lv' := [(0, .ref sc), (1, .ref x), (2, .ref y), (3, .ref o), (4, vi (((3 * c) : Nat) : Int))]) rfl ?_
          refine qv_ws [13, 16, 17, 14, 15, 0, 1, 2, 3, 4, 5, 6, 7, 20, 19, 18, 8, 9, 10, 11, 12] (ws' := [oc x 3 [.ref k, vi (b2 (decide (9223372036854775808 ≤ (lB ((xs ((3 * c) + 1)).toInt) ((xs ((3 * c) + 2)).toInt))))), vi 0, vi 0, .ref g, .ref w, .ref t, .ref l, .ref hi], oc k 0 [.ref ka, vi ((len2 : Nat) : Int), vi pl2], ai cI ka 800 f2, oc g 1 [.ref b, vi ((fi2 : Nat) : Int), vi ((en2 : Nat) : Int)], aj cJ b 160 R2, oc w 2 [.ref wa, vi (b2 hm)], aj cJ wa 70 W, oc t 0 [.ref ta, vi ((lt : Nat) : Int), vi pt2], ai cI ta 800 ft, oc l 0 [.ref la, vi ((ll : Nat) : Int), vi pll], ai cI la 800 fl1, oc hi 0 [.ref ha, vi ((lh : Nat) : Int), vi ph], ai cI ha 800 fh, oc y 4 [vi 0, vi (b2 (decide (9223372036854775808 ≤ (lB ((xs ((3 * c) + 1)).toInt) ((xs ((3 * c) + 2)).toInt))))), .ref dg, vi ((nd2 : Nat) : Int), vi pm2, vi 0, vi 0, .ref rw, vi ((mn2 : Nat) : Int), vi fr2, vj fo, .ref bt, .ref wz, .ref lw, .ref hg, vi ((ls : Nat) : Int), vi lp, vi ((hs : Nat) : Int), vi hq], ai cI dg 800 d2, ai cI rw 1200 rf2, ai cI bt 1100 bb, ai cI wz 800 wf, ai cI lw 1200 lf, ai cI hg 1200 hf, aj cJ o 1 (un oo 0 (lj ((len2 : Nat) : Int)))]) (by decide) rfl ?_
          refine qv_wide (k' := 21 + (c + 1)) (n' := 9776 + 6 * (c + 1)) (by omega) (by omega) ?_
          exact hn (decide (9223372036854775808 ≤ (lB ((xs ((3 * c) + 1)).toInt) ((xs ((3 * c) + 2)).toInt)))) 0 0 len2 pl2 f2 fi2 en2 R2 hm W lt pt2 ft ll pll fl1 lh ph fh 0 (decide (9223372036854775808 ≤ (lB ((xs ((3 * c) + 1)).toInt) ((xs ((3 * c) + 2)).toInt)))) nd2 pm2 0 0 d2 mn2 fr2 fo ls lp hs hq rf2 bb wf lf hf (un oo 0 (lj ((len2 : Nat) : Int))) (Tie_set _ hSp hSp2) ⟨hft, hfl, hfh, hrf2, hbb, hwf, hlf, hhf⟩
      · exfalso; omega
  · skip
    obtain ⟨hge, -, rfl⟩ := hq1
    show V K 8 [oc w 2 [.ref wa, vi (b2 hm)], aj cJ wa 70 W, oc t 0 [.ref ta, vi ((lt : Nat) : Int), vi pt2], ai cI ta 800 ft, oc l 0 [.ref la, vi ((ll : Nat) : Int), vi pll], ai cI la 800 fl1, oc hi 0 [.ref ha, vi ((lh : Nat) : Int), vi ph], ai cI ha 800 fh, oc y 4 [vi er, vi (b2 mi), .ref dg, vi ((len : Nat) : Int), vi pl, vi ((zr : Nat) : Int), vi pt, .ref rw, vi ((mn : Nat) : Int), vi fr, vj fo, .ref bt, .ref wz, .ref lw, .ref hg, vi ((ls : Nat) : Int), vi lp, vi ((hs : Nat) : Int), vi hq], ai cI dg 800 d, ai cI rw 1200 rf, ai cI bt 1100 bb, ai cI wz 800 wf, ai cI lw 1200 lf, ai cI hg 1200 hf, aj cJ o 1 oo, oc x 3 [.ref k, vi (b2 mi), vi ((zr : Nat) : Int), vi pt, .ref g, .ref w, .ref t, .ref l, .ref hi], oc g 1 [.ref b, vi ((fi : Nat) : Int), vi ((en : Nat) : Int)], aj cJ b 160 R, oc k 0 [.ref ka, vi ((len : Nat) : Int), vi pl], ai cI ka 800 f] (21 + c + 1) (9776 + 6 * c + 6) 115 [(0, .ref sc), (1, .ref x), (2, .ref y), (3, .ref o), (4, vi (((3 * c) : Nat) : Int))] [vi 1]
    refine qv_istore C (lv' := [(5, vi 1), (0, .ref sc), (1, .ref x), (2, .ref y), (3, .ref o), (4, vi (((3 * c) : Nat) : Int))]) (by decide) rfl dq_Law_law_115 ?_
    refine qv_aload_n C rfl dq_Law_law_117 ?_
    refine qv_aload_n C rfl dq_Law_law_118 ?_
    refine qv_iload C rfl dq_Law_law_119 ?_
    refine qv_iconst C dq_Law_law_121 ?_
    refine qv_iadd C (r := ((((3 * c) + 1) : Nat) : Int)) (by omega) dq_Law_law_122 ?_
    refine qs_ld C hS ((3 * c) + 1) rfl (by omega) (by omega) dq_Law_law_123 ?_
    refine qv_i2l C (zi_ri _) dq_Law_law_124 ?_
    refine qv_tjw (r := ((lj ((xs ((3 * c) + 1)).toInt) : Nat) : Int)) (lj_zj _).symm ?_
    refine qv_bipush C (by decide) dq_Law_law_125 ?_
    refine qv_lshl C (lj ((xs ((3 * c) + 1)).toInt)) 32 (by omega) (by omega) (by omega) dq_Law_law_127 ?_
    refine qv_tjw (r := ((lj ((xs ((3 * c) + 1)).toInt) % 4294967296 * 2 ^ 32 : Nat) : Int)) (lB_hi _) ?_
    refine qv_aload_n C rfl dq_Law_law_128 ?_
    refine qv_iload C rfl dq_Law_law_129 ?_
    refine qv_iconst C dq_Law_law_131 ?_
    refine qv_iadd C (r := ((((3 * c) + 2) : Nat) : Int)) (by omega) dq_Law_law_132 ?_
    refine qs_ld C hS ((3 * c) + 2) rfl (by omega) (by omega) dq_Law_law_133 ?_
    refine qv_i2l C (zi_ri _) dq_Law_law_134 ?_
    refine qv_tjw (r := ((lj ((xs ((3 * c) + 2)).toInt) : Nat) : Int)) (lj_zj _).symm ?_
    refine qv_ldc2 C (z := 4294967295) wk_Law_51 dq_Law_law_135 ?_
    refine qv_land C (r := ((lj ((xs ((3 * c) + 2)).toInt) % 4294967296 : Nat) : Int)) (lB_lo _) dq_Law_law_138 ?_
    refine qv_lor C (r := ((lB ((xs ((3 * c) + 1)).toInt) ((xs ((3 * c) + 2)).toInt) : Nat) : Int)) (lB_or _ _) dq_Law_law_139 ?_
    refine qc_vI (wr := [oc w 2 [.ref wa, vi (b2 hm)], aj cJ wa 70 W, oc t 0 [.ref ta, vi ((lt : Nat) : Int), vi pt2], ai cI ta 800 ft, oc l 0 [.ref la, vi ((ll : Nat) : Int), vi pll], ai cI la 800 fl1, oc hi 0 [.ref ha, vi ((lh : Nat) : Int), vi ph], ai cI ha 800 fh, ai cI bt 1100 bb, ai cI wz 800 wf, ai cI lw 1200 lf, ai cI hg 1200 hf, aj cJ o 1 oo, oc x 3 [.ref k, vi (b2 mi), vi ((zr : Nat) : Int), vi pt, .ref g, .ref w, .ref t, .ref l, .ref hi], oc g 1 [.ref b, vi ((fi : Nat) : Int), vi ((en : Nat) : Int)], aj cJ b 160 R, oc k 0 [.ref ka, vi ((len : Nat) : Int), vi pl], ai cI ka 800 f]) (st := []) C cl_Law_58 cd_Mod_set (c_Mod_set cI cJ y dg rw bt wz lw hg er mi len pl zr pt mn fr fo ls lp hs hq rf d (lB ((xs ((3 * c) + 1)).toInt) ((xs ((3 * c) + 2)).toInt)) (lB_lt _ _) hrf hKd.1) (Xok_t K) Xbl_t [8, 10, 9] [0, 1, 2, 3, 4, 5, 6, 7, 11, 12, 13, 14, 15, 16, 17, 18, 19, 20] rfl rfl (by decide) (by decide) (by decide) 0 rfl rfl rfl rfl rfl (Nat.le_of_ble_eq_true rfl) (by decide) (rl_b hc5) dq_Law_law_140 (fun z u hu => ?_)
    rcases hu with ⟨hge2, rfl, rfl⟩ | ⟨hlt2, nd2, pm2, d2, rf2, mn2, fr2, rfl, rfl, hSp2, hrf2⟩
    · skip
      show V K 8 [oc w 2 [.ref wa, vi (b2 hm)], aj cJ wa 70 W, oc t 0 [.ref ta, vi ((lt : Nat) : Int), vi pt2], ai cI ta 800 ft, oc l 0 [.ref la, vi ((ll : Nat) : Int), vi pll], ai cI la 800 fl1, oc hi 0 [.ref ha, vi ((lh : Nat) : Int), vi ph], ai cI ha 800 fh, ai cI bt 1100 bb, ai cI wz 800 wf, ai cI lw 1200 lf, ai cI hg 1200 hf, aj cJ o 1 oo, oc x 3 [.ref k, vi (b2 mi), vi ((zr : Nat) : Int), vi pt, .ref g, .ref w, .ref t, .ref l, .ref hi], oc g 1 [.ref b, vi ((fi : Nat) : Int), vi ((en : Nat) : Int)], aj cJ b 160 R, oc k 0 [.ref ka, vi ((len : Nat) : Int), vi pl], ai cI ka 800 f, oc y 4 [vi 1, vi (b2 mi), .ref dg, vi ((len : Nat) : Int), vi pl, vi ((zr : Nat) : Int), vi pt, .ref rw, vi ((mn : Nat) : Int), vi fr, vj fo, .ref bt, .ref wz, .ref lw, .ref hg, vi ((ls : Nat) : Int), vi lp, vi ((hs : Nat) : Int), vi hq], ai cI rw 1200 rf, ai cI dg 800 d] (21 + c + 1) (9776 + 6 * c + 6) 143 [(5, vi 1), (0, .ref sc), (1, .ref x), (2, .ref y), (3, .ref o), (4, vi (((3 * c) : Nat) : Int))] [vi 0]
      refine qv_istore C (lv' := [(6, vi 0), (5, vi 1), (0, .ref sc), (1, .ref x), (2, .ref y), (3, .ref o), (4, vi (((3 * c) : Nat) : Int))]) (by decide) rfl dq_Law_law_143 ?_
      refine qv_aload_n C rfl dq_Law_law_145 ?_
      refine qc_vI (wr := [oc w 2 [.ref wa, vi (b2 hm)], aj cJ wa 70 W, oc t 0 [.ref ta, vi ((lt : Nat) : Int), vi pt2], ai cI ta 800 ft, oc l 0 [.ref la, vi ((ll : Nat) : Int), vi pll], ai cI la 800 fl1, oc hi 0 [.ref ha, vi ((lh : Nat) : Int), vi ph], ai cI ha 800 fh, ai cI bt 1100 bb, ai cI wz 800 wf, ai cI lw 1200 lf, ai cI hg 1200 hf, aj cJ o 1 oo, oc x 3 [.ref k, vi (b2 mi), vi ((zr : Nat) : Int), vi pt, .ref g, .ref w, .ref t, .ref l, .ref hi], oc g 1 [.ref b, vi ((fi : Nat) : Int), vi ((en : Nat) : Int)], aj cJ b 160 R, oc k 0 [.ref ka, vi ((len : Nat) : Int), vi pl], ai cI ka 800 f, ai cI rw 1200 rf, ai cI dg 800 d]) (st := []) C cl_Law_59 cd_Mod_thrown (c_Mod_thrown cI cJ y dg rw bt wz lw hg 1 mi len pl zr pt mn fr fo ls lp hs hq) (Xok_t K) Xbl_t [18] [0, 1, 2, 3, 4, 5, 6, 7, 8, 9, 10, 11, 12, 13, 14, 15, 16, 17, 19, 20] rfl rfl (by decide) (by decide) (by decide) 0 rfl rfl rfl rfl rfl (Nat.le_of_ble_eq_true rfl) (by decide) (rl_b hc5) dq_Law_law_146 (fun z u hu => ?_)
      obtain ⟨rfl, rfl⟩ := hu
      show V K 8 [oc w 2 [.ref wa, vi (b2 hm)], aj cJ wa 70 W, oc t 0 [.ref ta, vi ((lt : Nat) : Int), vi pt2], ai cI ta 800 ft, oc l 0 [.ref la, vi ((ll : Nat) : Int), vi pll], ai cI la 800 fl1, oc hi 0 [.ref ha, vi ((lh : Nat) : Int), vi ph], ai cI ha 800 fh, ai cI bt 1100 bb, ai cI wz 800 wf, ai cI lw 1200 lf, ai cI hg 1200 hf, aj cJ o 1 oo, oc x 3 [.ref k, vi (b2 mi), vi ((zr : Nat) : Int), vi pt, .ref g, .ref w, .ref t, .ref l, .ref hi], oc g 1 [.ref b, vi ((fi : Nat) : Int), vi ((en : Nat) : Int)], aj cJ b 160 R, oc k 0 [.ref ka, vi ((len : Nat) : Int), vi pl], ai cI ka 800 f, ai cI rw 1200 rf, ai cI dg 800 d, oc y 4 [vi 1, vi (b2 mi), .ref dg, vi ((len : Nat) : Int), vi pl, vi ((zr : Nat) : Int), vi pt, .ref rw, vi ((mn : Nat) : Int), vi fr, vj fo, .ref bt, .ref wz, .ref lw, .ref hg, vi ((ls : Nat) : Int), vi lp, vi ((hs : Nat) : Int), vi hq]] (21 + c + 1) (9776 + 6 * c + 6) 149 [(6, vi 0), (5, vi 1), (0, .ref sc), (1, .ref x), (2, .ref y), (3, .ref o), (4, vi (((3 * c) : Nat) : Int))] [vi 1]
      refine qv_iload C rfl dq_Law_law_149 ?_
      refine qv_iceq C (by omega) (by omega) (tgt := 156) (by decide) dq_Law_law_151 (fun h151 => ?_) (fun h151 => ?_)
      · skip
        refine qv_iload C rfl dq_Law_law_156 ?_
        refine qv_ifne C (by omega) (tgt := 173) (by decide) dq_Law_law_158 (fun h158 => ?_) (fun h158 => ?_)
        · skip
          refine qv_goto C (tgt := 607) (by decide) dq_Law_law_173 ?_
          refine qv_lv [2, 3, 4, 5, 6] (lv' := [(0, .ref sc), (1, .ref x), (2, .ref y), (3, .ref o), (4, vi (((3 * c) : Nat) : Int))]) rfl ?_
          refine qv_ws [13, 16, 17, 14, 15, 0, 1, 2, 3, 4, 5, 6, 7, 20, 19, 18, 8, 9, 10, 11, 12] (ws' := [oc x 3 [.ref k, vi (b2 mi), vi ((zr : Nat) : Int), vi pt, .ref g, .ref w, .ref t, .ref l, .ref hi], oc k 0 [.ref ka, vi ((len : Nat) : Int), vi pl], ai cI ka 800 f, oc g 1 [.ref b, vi ((fi : Nat) : Int), vi ((en : Nat) : Int)], aj cJ b 160 R, oc w 2 [.ref wa, vi (b2 hm)], aj cJ wa 70 W, oc t 0 [.ref ta, vi ((lt : Nat) : Int), vi pt2], ai cI ta 800 ft, oc l 0 [.ref la, vi ((ll : Nat) : Int), vi pll], ai cI la 800 fl1, oc hi 0 [.ref ha, vi ((lh : Nat) : Int), vi ph], ai cI ha 800 fh, oc y 4 [vi 1, vi (b2 mi), .ref dg, vi ((len : Nat) : Int), vi pl, vi ((zr : Nat) : Int), vi pt, .ref rw, vi ((mn : Nat) : Int), vi fr, vj fo, .ref bt, .ref wz, .ref lw, .ref hg, vi ((ls : Nat) : Int), vi lp, vi ((hs : Nat) : Int), vi hq], ai cI dg 800 d, ai cI rw 1200 rf, ai cI bt 1100 bb, ai cI wz 800 wf, ai cI lw 1200 lf, ai cI hg 1200 hf, aj cJ o 1 oo]) (by decide) rfl ?_
          refine qv_wide (k' := 21 + (c + 1)) (n' := 9776 + 6 * (c + 1)) (by omega) (by omega) ?_
          exact hn mi zr pt len pl f fi en R hm W lt pt2 ft ll pll fl1 lh ph fh 1 mi len pl zr pt d mn fr fo ls lp hs hq rf bb wf lf hf oo (Tie_s hT0) ⟨hft, hfl, hfh, hrf, hbb, hwf, hlf, hhf⟩
        · exfalso; omega
      · exfalso; omega
    · exfalso; omega
theorem law_clear {K : Kx} {cI cJ : ClassId} (C : Cx K cI cJ code 8 RL room_1) (hX : Xk K XT) {sc L : Nat} {xs : Nat → Int32} (hS : Sx K sc L xs) (hL : L ≤ 1536) {x k g w t l hi ka b wa ta la ha y dg rw bt wz lw hg o c : Nat} (hc : 3 * c + 3 ≤ L) (hn : LG K cI cJ sc x k g w t l hi ka b wa ta la ha y dg rw bt wz lw hg o (c + 1) (3 * c) (21 + (c + 1)) (9776 + 6 * (c + 1)) 607) : LG K cI cJ sc x k g w t l hi ka b wa ta la ha y dg rw bt wz lw hg o c (3 * c) (21 + c) (9776 + 6 * c) 232 := by
  intro mi zr pt len pl f fi en R hm W lt pt2 ft ll pll fl1 lh ph fh er mj lem pm zs pu d mn fr fo ls lp hs hq rf bb wf lf hf oo hT hB
  have hc5 : c < 512 := by omega
  have hT0 := hT
  obtain ⟨rfl, rfl, rfl, rfl, rfl, hK, hKd, hfd, hz8, hz0, hpt, hpl⟩ := hT
  obtain ⟨hft, hfl, hfh, hrf, hbb, hwf, hlf, hhf⟩ := hB
  have hl8 := hK.2.1
  show V K 8 [oc x 3 [.ref k, vi (b2 mi), vi ((zr : Nat) : Int), vi pt, .ref g, .ref w, .ref t, .ref l, .ref hi], oc k 0 [.ref ka, vi ((len : Nat) : Int), vi pl], ai cI ka 800 f, oc g 1 [.ref b, vi ((fi : Nat) : Int), vi ((en : Nat) : Int)], aj cJ b 160 R, oc w 2 [.ref wa, vi (b2 hm)], aj cJ wa 70 W, oc t 0 [.ref ta, vi ((lt : Nat) : Int), vi pt2], ai cI ta 800 ft, oc l 0 [.ref la, vi ((ll : Nat) : Int), vi pll], ai cI la 800 fl1, oc hi 0 [.ref ha, vi ((lh : Nat) : Int), vi ph], ai cI ha 800 fh, oc y 4 [vi er, vi (b2 mi), .ref dg, vi ((len : Nat) : Int), vi pl, vi ((zr : Nat) : Int), vi pt, .ref rw, vi ((mn : Nat) : Int), vi fr, vj fo, .ref bt, .ref wz, .ref lw, .ref hg, vi ((ls : Nat) : Int), vi lp, vi ((hs : Nat) : Int), vi hq], ai cI dg 800 d, ai cI rw 1200 rf, ai cI bt 1100 bb, ai cI wz 800 wf, ai cI lw 1200 lf, ai cI hg 1200 hf, aj cJ o 1 oo] (21 + c) (9776 + 6 * c) 232 [(0, .ref sc), (1, .ref x), (2, .ref y), (3, .ref o), (4, vi (((3 * c) : Nat) : Int))] []
  refine qv_aload_n C rfl dq_Law_law_232 ?_
  refine qv_aload_n C rfl dq_Law_law_233 ?_
  refine qv_iload C rfl dq_Law_law_234 ?_
  refine qv_iconst C dq_Law_law_236 ?_
  refine qv_iadd C (r := ((((3 * c) + 1) : Nat) : Int)) (by omega) dq_Law_law_237 ?_
  refine qs_ld C hS ((3 * c) + 1) rfl (by omega) (by omega) dq_Law_law_238 ?_
  refine qv_ifeq C (zi_ri _) (tgt := 246) (by decide) dq_Law_law_239 (fun h239 => ?_) (fun h239 => ?_)
  · skip
    refine qv_iconst C dq_Law_law_246 ?_
    refine qv_ti (r := b2 false) rfl ?_
    refine qv_aload_n C rfl dq_Law_law_247 ?_
    refine qv_iload C rfl dq_Law_law_248 ?_
    refine qv_iconst C dq_Law_law_250 ?_
    refine qv_iadd C (r := ((((3 * c) + 2) : Nat) : Int)) (by omega) dq_Law_law_251 ?_
    refine qs_ld C hS ((3 * c) + 2) rfl (by omega) (by omega) dq_Law_law_252 ?_
    refine qh_sI (wr := [oc g 1 [.ref b, vi ((fi : Nat) : Int), vi ((en : Nat) : Int)], aj cJ b 160 R, oc w 2 [.ref wa, vi (b2 hm)], aj cJ wa 70 W, oc t 0 [.ref ta, vi ((lt : Nat) : Int), vi pt2], ai cI ta 800 ft, oc l 0 [.ref la, vi ((ll : Nat) : Int), vi pll], ai cI la 800 fl1, oc hi 0 [.ref ha, vi ((lh : Nat) : Int), vi ph], ai cI ha 800 fh, oc y 4 [vi er, vi (b2 mi), .ref dg, vi ((len : Nat) : Int), vi pl, vi ((zr : Nat) : Int), vi pt, .ref rw, vi ((mn : Nat) : Int), vi fr, vj fo, .ref bt, .ref wz, .ref lw, .ref hg, vi ((ls : Nat) : Int), vi lp, vi ((hs : Nat) : Int), vi hq], ai cI dg 800 d, ai cI rw 1200 rf, ai cI bt 1100 bb, ai cI wz 800 wf, ai cI lw 1200 lf, ai cI hg 1200 hf, aj cJ o 1 oo]) (st := []) C hS lk_Law_66 cl_Law_66 cdw_Law_clear (c_Law_clear cI cJ (c_Tru_clear cI cJ x k g w t l hi mi zr pt ka len pl f ((xs ((3 * c) + 2)).toInt) (zi_ri _) false) (fun E u q => q.2.1)) (XT_ok hX) XT_bl [0, 1, 2] [3, 4, 5, 6, 7, 8, 9, 10, 11, 12, 13, 14, 15, 16, 17, 18, 19, 20] rfl rfl (by decide) (by decide) (by decide) rfl rfl (Nat.le_of_ble_eq_true rfl) (by decide) (rl_a hc5) dq_Law_law_253 (fun cz u hu => ?_)
    rcases hu with ⟨rfl, hin, rfl⟩ | ⟨rfl, hout, -, rfl⟩
    · skip
      show V K 8 [oc g 1 [.ref b, vi ((fi : Nat) : Int), vi ((en : Nat) : Int)], aj cJ b 160 R, oc w 2 [.ref wa, vi (b2 hm)], aj cJ wa 70 W, oc t 0 [.ref ta, vi ((lt : Nat) : Int), vi pt2], ai cI ta 800 ft, oc l 0 [.ref la, vi ((ll : Nat) : Int), vi pll], ai cI la 800 fl1, oc hi 0 [.ref ha, vi ((lh : Nat) : Int), vi ph], ai cI ha 800 fh, oc y 4 [vi er, vi (b2 mi), .ref dg, vi ((len : Nat) : Int), vi pl, vi ((zr : Nat) : Int), vi pt, .ref rw, vi ((mn : Nat) : Int), vi fr, vj fo, .ref bt, .ref wz, .ref lw, .ref hg, vi ((ls : Nat) : Int), vi lp, vi ((hs : Nat) : Int), vi hq], ai cI dg 800 d, ai cI rw 1200 rf, ai cI bt 1100 bb, ai cI wz 800 wf, ai cI lw 1200 lf, ai cI hg 1200 hf, aj cJ o 1 oo, oc x 3 [.ref k, vi (b2 false), vi 0, vi ((xs ((3 * c) + 2)).toInt), .ref g, .ref w, .ref t, .ref l, .ref hi], oc k 0 [.ref ka, vi 0, vi 0], ai cI ka 800 f] (21 + c + 1) (9776 + 6 * c + 6) 256 [(0, .ref sc), (1, .ref x), (2, .ref y), (3, .ref o), (4, vi (((3 * c) : Nat) : Int))] [vi 0]
      refine qv_istore C (lv' := [(5, vi 0), (0, .ref sc), (1, .ref x), (2, .ref y), (3, .ref o), (4, vi (((3 * c) : Nat) : Int))]) (by decide) rfl dq_Law_law_256 ?_
      refine qv_aload_n C rfl dq_Law_law_258 ?_
      refine qv_aload_n C rfl dq_Law_law_259 ?_
      refine qv_iload C rfl dq_Law_law_260 ?_
      refine qv_iconst C dq_Law_law_262 ?_
      refine qv_iadd C (r := ((((3 * c) + 1) : Nat) : Int)) (by omega) dq_Law_law_263 ?_
      refine qs_ld C hS ((3 * c) + 1) rfl (by omega) (by omega) dq_Law_law_264 ?_
      refine qv_ifeq C (zi_ri _) (tgt := 272) (by decide) dq_Law_law_265 (fun h265 => ?_) (fun h265 => ?_)
      · skip
        refine qv_iconst C dq_Law_law_272 ?_
        refine qv_ti (r := b2 false) rfl ?_
        refine qv_aload_n C rfl dq_Law_law_273 ?_
        refine qv_iload C rfl dq_Law_law_274 ?_
        refine qv_iconst C dq_Law_law_276 ?_
        refine qv_iadd C (r := ((((3 * c) + 2) : Nat) : Int)) (by omega) dq_Law_law_277 ?_
        refine qs_ld C hS ((3 * c) + 2) rfl (by omega) (by omega) dq_Law_law_278 ?_
        refine qc_vV (wr := [oc g 1 [.ref b, vi ((fi : Nat) : Int), vi ((en : Nat) : Int)], aj cJ b 160 R, oc w 2 [.ref wa, vi (b2 hm)], aj cJ wa 70 W, oc t 0 [.ref ta, vi ((lt : Nat) : Int), vi pt2], ai cI ta 800 ft, oc l 0 [.ref la, vi ((ll : Nat) : Int), vi pll], ai cI la 800 fl1, oc hi 0 [.ref ha, vi ((lh : Nat) : Int), vi ph], ai cI ha 800 fh, ai cI dg 800 d, ai cI rw 1200 rf, ai cI bt 1100 bb, ai cI wz 800 wf, ai cI lw 1200 lf, ai cI hg 1200 hf, aj cJ o 1 oo, oc x 3 [.ref k, vi (b2 false), vi 0, vi ((xs ((3 * c) + 2)).toInt), .ref g, .ref w, .ref t, .ref l, .ref hi], oc k 0 [.ref ka, vi 0, vi 0], ai cI ka 800 f]) (st := []) C cl_Law_69 cd_Mod_clear (c_Mod_clear cI cJ y dg rw bt wz lw hg er mi len pl zr pt mn fr fo ls lp hs hq false ((xs ((3 * c) + 2)).toInt) (zi_ri _)) (Xok_t K) Xbl_t [10] [0, 1, 2, 3, 4, 5, 6, 7, 8, 9, 11, 12, 13, 14, 15, 16, 17, 18, 19, 20] rfl rfl (by decide) (by decide) (by decide) 0 rfl rfl rfl rfl rfl (Nat.le_of_ble_eq_true rfl) (by decide) (rl_b hc5) dq_Law_law_279 (fun u hu => ?_)
        rcases hu with ⟨w1, rfl⟩ | ⟨w1, rfl⟩
        · exfalso; omega
        · skip
          show V K 8 [oc g 1 [.ref b, vi ((fi : Nat) : Int), vi ((en : Nat) : Int)], aj cJ b 160 R, oc w 2 [.ref wa, vi (b2 hm)], aj cJ wa 70 W, oc t 0 [.ref ta, vi ((lt : Nat) : Int), vi pt2], ai cI ta 800 ft, oc l 0 [.ref la, vi ((ll : Nat) : Int), vi pll], ai cI la 800 fl1, oc hi 0 [.ref ha, vi ((lh : Nat) : Int), vi ph], ai cI ha 800 fh, ai cI dg 800 d, ai cI rw 1200 rf, ai cI bt 1100 bb, ai cI wz 800 wf, ai cI lw 1200 lf, ai cI hg 1200 hf, aj cJ o 1 oo, oc x 3 [.ref k, vi (b2 false), vi 0, vi ((xs ((3 * c) + 2)).toInt), .ref g, .ref w, .ref t, .ref l, .ref hi], oc k 0 [.ref ka, vi 0, vi 0], ai cI ka 800 f, oc y 4 [vi 0, vi (b2 false), .ref dg, vi 0, vi 0, vi 0, vi ((xs ((3 * c) + 2)).toInt), .ref rw, vi ((mn : Nat) : Int), vi fr, vj fo, .ref bt, .ref wz, .ref lw, .ref hg, vi ((ls : Nat) : Int), vi lp, vi ((hs : Nat) : Int), vi hq]] (21 + c + 1) (9776 + 6 * c + 6) 282 [(5, vi 0), (0, .ref sc), (1, .ref x), (2, .ref y), (3, .ref o), (4, vi (((3 * c) : Nat) : Int))] []
          refine qv_aload_n C rfl dq_Law_law_282 ?_
          refine qc_vI (wr := [oc g 1 [.ref b, vi ((fi : Nat) : Int), vi ((en : Nat) : Int)], aj cJ b 160 R, oc w 2 [.ref wa, vi (b2 hm)], aj cJ wa 70 W, oc t 0 [.ref ta, vi ((lt : Nat) : Int), vi pt2], ai cI ta 800 ft, oc l 0 [.ref la, vi ((ll : Nat) : Int), vi pll], ai cI la 800 fl1, oc hi 0 [.ref ha, vi ((lh : Nat) : Int), vi ph], ai cI ha 800 fh, ai cI dg 800 d, ai cI rw 1200 rf, ai cI bt 1100 bb, ai cI wz 800 wf, ai cI lw 1200 lf, ai cI hg 1200 hf, aj cJ o 1 oo, oc x 3 [.ref k, vi (b2 false), vi 0, vi ((xs ((3 * c) + 2)).toInt), .ref g, .ref w, .ref t, .ref l, .ref hi], oc k 0 [.ref ka, vi 0, vi 0], ai cI ka 800 f]) (st := []) C cl_Law_59 cd_Mod_thrown (c_Mod_thrown cI cJ y dg rw bt wz lw hg 0 false 0 0 0 ((xs ((3 * c) + 2)).toInt) mn fr fo ls lp hs hq) (Xok_t K) Xbl_t [20] [0, 1, 2, 3, 4, 5, 6, 7, 8, 9, 10, 11, 12, 13, 14, 15, 16, 17, 18, 19] rfl rfl (by decide) (by decide) (by decide) 0 rfl rfl rfl rfl rfl (Nat.le_of_ble_eq_true rfl) (by decide) (rl_b hc5) dq_Law_law_283 (fun z u hu => ?_)
          obtain ⟨rfl, rfl⟩ := hu
          show V K 8 [oc g 1 [.ref b, vi ((fi : Nat) : Int), vi ((en : Nat) : Int)], aj cJ b 160 R, oc w 2 [.ref wa, vi (b2 hm)], aj cJ wa 70 W, oc t 0 [.ref ta, vi ((lt : Nat) : Int), vi pt2], ai cI ta 800 ft, oc l 0 [.ref la, vi ((ll : Nat) : Int), vi pll], ai cI la 800 fl1, oc hi 0 [.ref ha, vi ((lh : Nat) : Int), vi ph], ai cI ha 800 fh, ai cI dg 800 d, ai cI rw 1200 rf, ai cI bt 1100 bb, ai cI wz 800 wf, ai cI lw 1200 lf, ai cI hg 1200 hf, aj cJ o 1 oo, oc x 3 [.ref k, vi (b2 false), vi 0, vi ((xs ((3 * c) + 2)).toInt), .ref g, .ref w, .ref t, .ref l, .ref hi], oc k 0 [.ref ka, vi 0, vi 0], ai cI ka 800 f, oc y 4 [vi 0, vi (b2 false), .ref dg, vi 0, vi 0, vi 0, vi ((xs ((3 * c) + 2)).toInt), .ref rw, vi ((mn : Nat) : Int), vi fr, vj fo, .ref bt, .ref wz, .ref lw, .ref hg, vi ((ls : Nat) : Int), vi lp, vi ((hs : Nat) : Int), vi hq]] (21 + c + 1) (9776 + 6 * c + 6) 286 [(5, vi 0), (0, .ref sc), (1, .ref x), (2, .ref y), (3, .ref o), (4, vi (((3 * c) : Nat) : Int))] [vi 0]
          refine qv_iload C rfl dq_Law_law_286 ?_
          refine qv_iceq C (by omega) (by omega) (tgt := 293) (by decide) dq_Law_law_288 (fun h288 => ?_) (fun h288 => ?_)
          · skip
            refine qv_goto C (tgt := 607) (by decide) dq_Law_law_293 ?_
            refine qv_lv [1, 2, 3, 4, 5] (lv' := [(0, .ref sc), (1, .ref x), (2, .ref y), (3, .ref o), (4, vi (((3 * c) : Nat) : Int))]) rfl ?_
            refine qv_ws [17, 18, 19, 0, 1, 2, 3, 4, 5, 6, 7, 8, 9, 20, 10, 11, 12, 13, 14, 15, 16] (ws' := [oc x 3 [.ref k, vi (b2 false), vi 0, vi ((xs ((3 * c) + 2)).toInt), .ref g, .ref w, .ref t, .ref l, .ref hi], oc k 0 [.ref ka, vi 0, vi 0], ai cI ka 800 f, oc g 1 [.ref b, vi ((fi : Nat) : Int), vi ((en : Nat) : Int)], aj cJ b 160 R, oc w 2 [.ref wa, vi (b2 hm)], aj cJ wa 70 W, oc t 0 [.ref ta, vi ((lt : Nat) : Int), vi pt2], ai cI ta 800 ft, oc l 0 [.ref la, vi ((ll : Nat) : Int), vi pll], ai cI la 800 fl1, oc hi 0 [.ref ha, vi ((lh : Nat) : Int), vi ph], ai cI ha 800 fh, oc y 4 [vi 0, vi (b2 false), .ref dg, vi 0, vi 0, vi 0, vi ((xs ((3 * c) + 2)).toInt), .ref rw, vi ((mn : Nat) : Int), vi fr, vj fo, .ref bt, .ref wz, .ref lw, .ref hg, vi ((ls : Nat) : Int), vi lp, vi ((hs : Nat) : Int), vi hq], ai cI dg 800 d, ai cI rw 1200 rf, ai cI bt 1100 bb, ai cI wz 800 wf, ai cI lw 1200 lf, ai cI hg 1200 hf, aj cJ o 1 oo]) (by decide) rfl ?_
            refine qv_wide (k' := 21 + (c + 1)) (n' := 9776 + 6 * (c + 1)) (by omega) (by omega) ?_
            exact hn false 0 ((xs ((3 * c) + 2)).toInt) 0 0 f fi en R hm W lt pt2 ft ll pll fl1 lh ph fh 0 false 0 0 0 ((xs ((3 * c) + 2)).toInt) d mn fr fo ls lp hs hq rf bb wf lf hf oo (Tie_clear hT0 false hin) ⟨hft, hfl, hfh, hrf, hbb, hwf, hlf, hhf⟩
          · exfalso; omega
      · exfalso; omega
    · skip
      show V K 8 [oc g 1 [.ref b, vi ((fi : Nat) : Int), vi ((en : Nat) : Int)], aj cJ b 160 R, oc w 2 [.ref wa, vi (b2 hm)], aj cJ wa 70 W, oc t 0 [.ref ta, vi ((lt : Nat) : Int), vi pt2], ai cI ta 800 ft, oc l 0 [.ref la, vi ((ll : Nat) : Int), vi pll], ai cI la 800 fl1, oc hi 0 [.ref ha, vi ((lh : Nat) : Int), vi ph], ai cI ha 800 fh, oc y 4 [vi er, vi (b2 mi), .ref dg, vi ((len : Nat) : Int), vi pl, vi ((zr : Nat) : Int), vi pt, .ref rw, vi ((mn : Nat) : Int), vi fr, vj fo, .ref bt, .ref wz, .ref lw, .ref hg, vi ((ls : Nat) : Int), vi lp, vi ((hs : Nat) : Int), vi hq], ai cI dg 800 d, ai cI rw 1200 rf, ai cI bt 1100 bb, ai cI wz 800 wf, ai cI lw 1200 lf, ai cI hg 1200 hf, aj cJ o 1 oo, oc x 3 [.ref k, vi (b2 mi), vi ((zr : Nat) : Int), vi pt, .ref g, .ref w, .ref t, .ref l, .ref hi], oc k 0 [.ref ka, vi ((len : Nat) : Int), vi pl], ai cI ka 800 f] (21 + c + 1) (9776 + 6 * c + 6) 256 [(0, .ref sc), (1, .ref x), (2, .ref y), (3, .ref o), (4, vi (((3 * c) : Nat) : Int))] [vi 1]
      refine qv_istore C (lv' := [(5, vi 1), (0, .ref sc), (1, .ref x), (2, .ref y), (3, .ref o), (4, vi (((3 * c) : Nat) : Int))]) (by decide) rfl dq_Law_law_256 ?_
      refine qv_aload_n C rfl dq_Law_law_258 ?_
      refine qv_aload_n C rfl dq_Law_law_259 ?_
      refine qv_iload C rfl dq_Law_law_260 ?_
      refine qv_iconst C dq_Law_law_262 ?_
      refine qv_iadd C (r := ((((3 * c) + 1) : Nat) : Int)) (by omega) dq_Law_law_263 ?_
      refine qs_ld C hS ((3 * c) + 1) rfl (by omega) (by omega) dq_Law_law_264 ?_
      refine qv_ifeq C (zi_ri _) (tgt := 272) (by decide) dq_Law_law_265 (fun h265 => ?_) (fun h265 => ?_)
      · skip
        refine qv_iconst C dq_Law_law_272 ?_
        refine qv_ti (r := b2 false) rfl ?_
        refine qv_aload_n C rfl dq_Law_law_273 ?_
        refine qv_iload C rfl dq_Law_law_274 ?_
        refine qv_iconst C dq_Law_law_276 ?_
        refine qv_iadd C (r := ((((3 * c) + 2) : Nat) : Int)) (by omega) dq_Law_law_277 ?_
        refine qs_ld C hS ((3 * c) + 2) rfl (by omega) (by omega) dq_Law_law_278 ?_
        refine qc_vV (wr := [oc g 1 [.ref b, vi ((fi : Nat) : Int), vi ((en : Nat) : Int)], aj cJ b 160 R, oc w 2 [.ref wa, vi (b2 hm)], aj cJ wa 70 W, oc t 0 [.ref ta, vi ((lt : Nat) : Int), vi pt2], ai cI ta 800 ft, oc l 0 [.ref la, vi ((ll : Nat) : Int), vi pll], ai cI la 800 fl1, oc hi 0 [.ref ha, vi ((lh : Nat) : Int), vi ph], ai cI ha 800 fh, ai cI dg 800 d, ai cI rw 1200 rf, ai cI bt 1100 bb, ai cI wz 800 wf, ai cI lw 1200 lf, ai cI hg 1200 hf, aj cJ o 1 oo, oc x 3 [.ref k, vi (b2 mi), vi ((zr : Nat) : Int), vi pt, .ref g, .ref w, .ref t, .ref l, .ref hi], oc k 0 [.ref ka, vi ((len : Nat) : Int), vi pl], ai cI ka 800 f]) (st := []) C cl_Law_69 cd_Mod_clear (c_Mod_clear cI cJ y dg rw bt wz lw hg er mi len pl zr pt mn fr fo ls lp hs hq false ((xs ((3 * c) + 2)).toInt) (zi_ri _)) (Xok_t K) Xbl_t [10] [0, 1, 2, 3, 4, 5, 6, 7, 8, 9, 11, 12, 13, 14, 15, 16, 17, 18, 19, 20] rfl rfl (by decide) (by decide) (by decide) 0 rfl rfl rfl rfl rfl (Nat.le_of_ble_eq_true rfl) (by decide) (rl_b hc5) dq_Law_law_279 (fun u hu => ?_)
        rcases hu with ⟨w1, rfl⟩ | ⟨w1, rfl⟩
        · skip
          show V K 8 [oc g 1 [.ref b, vi ((fi : Nat) : Int), vi ((en : Nat) : Int)], aj cJ b 160 R, oc w 2 [.ref wa, vi (b2 hm)], aj cJ wa 70 W, oc t 0 [.ref ta, vi ((lt : Nat) : Int), vi pt2], ai cI ta 800 ft, oc l 0 [.ref la, vi ((ll : Nat) : Int), vi pll], ai cI la 800 fl1, oc hi 0 [.ref ha, vi ((lh : Nat) : Int), vi ph], ai cI ha 800 fh, ai cI dg 800 d, ai cI rw 1200 rf, ai cI bt 1100 bb, ai cI wz 800 wf, ai cI lw 1200 lf, ai cI hg 1200 hf, aj cJ o 1 oo, oc x 3 [.ref k, vi (b2 mi), vi ((zr : Nat) : Int), vi pt, .ref g, .ref w, .ref t, .ref l, .ref hi], oc k 0 [.ref ka, vi ((len : Nat) : Int), vi pl], ai cI ka 800 f, oc y 4 [vi 1, vi (b2 mi), .ref dg, vi ((len : Nat) : Int), vi pl, vi ((zr : Nat) : Int), vi pt, .ref rw, vi ((mn : Nat) : Int), vi fr, vj fo, .ref bt, .ref wz, .ref lw, .ref hg, vi ((ls : Nat) : Int), vi lp, vi ((hs : Nat) : Int), vi hq]] (21 + c + 1) (9776 + 6 * c + 6) 282 [(5, vi 1), (0, .ref sc), (1, .ref x), (2, .ref y), (3, .ref o), (4, vi (((3 * c) : Nat) : Int))] []
          refine qv_aload_n C rfl dq_Law_law_282 ?_
          refine qc_vI (wr := [oc g 1 [.ref b, vi ((fi : Nat) : Int), vi ((en : Nat) : Int)], aj cJ b 160 R, oc w 2 [.ref wa, vi (b2 hm)], aj cJ wa 70 W, oc t 0 [.ref ta, vi ((lt : Nat) : Int), vi pt2], ai cI ta 800 ft, oc l 0 [.ref la, vi ((ll : Nat) : Int), vi pll], ai cI la 800 fl1, oc hi 0 [.ref ha, vi ((lh : Nat) : Int), vi ph], ai cI ha 800 fh, ai cI dg 800 d, ai cI rw 1200 rf, ai cI bt 1100 bb, ai cI wz 800 wf, ai cI lw 1200 lf, ai cI hg 1200 hf, aj cJ o 1 oo, oc x 3 [.ref k, vi (b2 mi), vi ((zr : Nat) : Int), vi pt, .ref g, .ref w, .ref t, .ref l, .ref hi], oc k 0 [.ref ka, vi ((len : Nat) : Int), vi pl], ai cI ka 800 f]) (st := []) C cl_Law_59 cd_Mod_thrown (c_Mod_thrown cI cJ y dg rw bt wz lw hg 1 mi len pl zr pt mn fr fo ls lp hs hq) (Xok_t K) Xbl_t [20] [0, 1, 2, 3, 4, 5, 6, 7, 8, 9, 10, 11, 12, 13, 14, 15, 16, 17, 18, 19] rfl rfl (by decide) (by decide) (by decide) 0 rfl rfl rfl rfl rfl (Nat.le_of_ble_eq_true rfl) (by decide) (rl_b hc5) dq_Law_law_283 (fun z u hu => ?_)
          obtain ⟨rfl, rfl⟩ := hu
          show V K 8 [oc g 1 [.ref b, vi ((fi : Nat) : Int), vi ((en : Nat) : Int)], aj cJ b 160 R, oc w 2 [.ref wa, vi (b2 hm)], aj cJ wa 70 W, oc t 0 [.ref ta, vi ((lt : Nat) : Int), vi pt2], ai cI ta 800 ft, oc l 0 [.ref la, vi ((ll : Nat) : Int), vi pll], ai cI la 800 fl1, oc hi 0 [.ref ha, vi ((lh : Nat) : Int), vi ph], ai cI ha 800 fh, ai cI dg 800 d, ai cI rw 1200 rf, ai cI bt 1100 bb, ai cI wz 800 wf, ai cI lw 1200 lf, ai cI hg 1200 hf, aj cJ o 1 oo, oc x 3 [.ref k, vi (b2 mi), vi ((zr : Nat) : Int), vi pt, .ref g, .ref w, .ref t, .ref l, .ref hi], oc k 0 [.ref ka, vi ((len : Nat) : Int), vi pl], ai cI ka 800 f, oc y 4 [vi 1, vi (b2 mi), .ref dg, vi ((len : Nat) : Int), vi pl, vi ((zr : Nat) : Int), vi pt, .ref rw, vi ((mn : Nat) : Int), vi fr, vj fo, .ref bt, .ref wz, .ref lw, .ref hg, vi ((ls : Nat) : Int), vi lp, vi ((hs : Nat) : Int), vi hq]] (21 + c + 1) (9776 + 6 * c + 6) 286 [(5, vi 1), (0, .ref sc), (1, .ref x), (2, .ref y), (3, .ref o), (4, vi (((3 * c) : Nat) : Int))] [vi 1]
          refine qv_iload C rfl dq_Law_law_286 ?_
          refine qv_iceq C (by omega) (by omega) (tgt := 293) (by decide) dq_Law_law_288 (fun h288 => ?_) (fun h288 => ?_)
          · skip
            refine qv_goto C (tgt := 607) (by decide) dq_Law_law_293 ?_
            refine qv_lv [1, 2, 3, 4, 5] (lv' := [(0, .ref sc), (1, .ref x), (2, .ref y), (3, .ref o), (4, vi (((3 * c) : Nat) : Int))]) rfl ?_
            refine qv_ws [17, 18, 19, 0, 1, 2, 3, 4, 5, 6, 7, 8, 9, 20, 10, 11, 12, 13, 14, 15, 16] (ws' := [oc x 3 [.ref k, vi (b2 mi), vi ((zr : Nat) : Int), vi pt, .ref g, .ref w, .ref t, .ref l, .ref hi], oc k 0 [.ref ka, vi ((len : Nat) : Int), vi pl], ai cI ka 800 f, oc g 1 [.ref b, vi ((fi : Nat) : Int), vi ((en : Nat) : Int)], aj cJ b 160 R, oc w 2 [.ref wa, vi (b2 hm)], aj cJ wa 70 W, oc t 0 [.ref ta, vi ((lt : Nat) : Int), vi pt2], ai cI ta 800 ft, oc l 0 [.ref la, vi ((ll : Nat) : Int), vi pll], ai cI la 800 fl1, oc hi 0 [.ref ha, vi ((lh : Nat) : Int), vi ph], ai cI ha 800 fh, oc y 4 [vi 1, vi (b2 mi), .ref dg, vi ((len : Nat) : Int), vi pl, vi ((zr : Nat) : Int), vi pt, .ref rw, vi ((mn : Nat) : Int), vi fr, vj fo, .ref bt, .ref wz, .ref lw, .ref hg, vi ((ls : Nat) : Int), vi lp, vi ((hs : Nat) : Int), vi hq], ai cI dg 800 d, ai cI rw 1200 rf, ai cI bt 1100 bb, ai cI wz 800 wf, ai cI lw 1200 lf, ai cI hg 1200 hf, aj cJ o 1 oo]) (by decide) rfl ?_
            refine qv_wide (k' := 21 + (c + 1)) (n' := 9776 + 6 * (c + 1)) (by omega) (by omega) ?_
            exact hn mi zr pt len pl f fi en R hm W lt pt2 ft ll pll fl1 lh ph fh 1 mi len pl zr pt d mn fr fo ls lp hs hq rf bb wf lf hf oo (Tie_s hT0) ⟨hft, hfl, hfh, hrf, hbb, hwf, hlf, hhf⟩
          · exfalso; omega
        · exfalso; omega
      · exfalso; omega
  · skip
    refine qv_iconst C dq_Law_law_242 ?_
    refine qv_goto C (tgt := 247) (by decide) dq_Law_law_243 ?_
    refine qv_ti (r := b2 true) rfl ?_
    refine qv_aload_n C rfl dq_Law_law_247 ?_
    refine qv_iload C rfl dq_Law_law_248 ?_
    refine qv_iconst C dq_Law_law_250 ?_
    refine qv_iadd C (r := ((((3 * c) + 2) : Nat) : Int)) (by omega) dq_Law_law_251 ?_
    refine qs_ld C hS ((3 * c) + 2) rfl (by omega) (by omega) dq_Law_law_252 ?_
    refine qh_sI (wr := [oc g 1 [.ref b, vi ((fi : Nat) : Int), vi ((en : Nat) : Int)], aj cJ b 160 R, oc w 2 [.ref wa, vi (b2 hm)], aj cJ wa 70 W, oc t 0 [.ref ta, vi ((lt : Nat) : Int), vi pt2], ai cI ta 800 ft, oc l 0 [.ref la, vi ((ll : Nat) : Int), vi pll], ai cI la 800 fl1, oc hi 0 [.ref ha, vi ((lh : Nat) : Int), vi ph], ai cI ha 800 fh, oc y 4 [vi er, vi (b2 mi), .ref dg, vi ((len : Nat) : Int), vi pl, vi ((zr : Nat) : Int), vi pt, .ref rw, vi ((mn : Nat) : Int), vi fr, vj fo, .ref bt, .ref wz, .ref lw, .ref hg, vi ((ls : Nat) : Int), vi lp, vi ((hs : Nat) : Int), vi hq], ai cI dg 800 d, ai cI rw 1200 rf, ai cI bt 1100 bb, ai cI wz 800 wf, ai cI lw 1200 lf, ai cI hg 1200 hf, aj cJ o 1 oo]) (st := []) C hS lk_Law_66 cl_Law_66 cdw_Law_clear (c_Law_clear cI cJ (c_Tru_clear cI cJ x k g w t l hi mi zr pt ka len pl f ((xs ((3 * c) + 2)).toInt) (zi_ri _) true) (fun E u q => q.2.1)) (XT_ok hX) XT_bl [0, 1, 2] [3, 4, 5, 6, 7, 8, 9, 10, 11, 12, 13, 14, 15, 16, 17, 18, 19, 20] rfl rfl (by decide) (by decide) (by decide) rfl rfl (Nat.le_of_ble_eq_true rfl) (by decide) (rl_a hc5) dq_Law_law_253 (fun cz u hu => ?_)
    rcases hu with ⟨rfl, hin, rfl⟩ | ⟨rfl, hout, -, rfl⟩
    · skip
      show V K 8 [oc g 1 [.ref b, vi ((fi : Nat) : Int), vi ((en : Nat) : Int)], aj cJ b 160 R, oc w 2 [.ref wa, vi (b2 hm)], aj cJ wa 70 W, oc t 0 [.ref ta, vi ((lt : Nat) : Int), vi pt2], ai cI ta 800 ft, oc l 0 [.ref la, vi ((ll : Nat) : Int), vi pll], ai cI la 800 fl1, oc hi 0 [.ref ha, vi ((lh : Nat) : Int), vi ph], ai cI ha 800 fh, oc y 4 [vi er, vi (b2 mi), .ref dg, vi ((len : Nat) : Int), vi pl, vi ((zr : Nat) : Int), vi pt, .ref rw, vi ((mn : Nat) : Int), vi fr, vj fo, .ref bt, .ref wz, .ref lw, .ref hg, vi ((ls : Nat) : Int), vi lp, vi ((hs : Nat) : Int), vi hq], ai cI dg 800 d, ai cI rw 1200 rf, ai cI bt 1100 bb, ai cI wz 800 wf, ai cI lw 1200 lf, ai cI hg 1200 hf, aj cJ o 1 oo, oc x 3 [.ref k, vi (b2 true), vi 0, vi ((xs ((3 * c) + 2)).toInt), .ref g, .ref w, .ref t, .ref l, .ref hi], oc k 0 [.ref ka, vi 0, vi 0], ai cI ka 800 f] (21 + c + 1) (9776 + 6 * c + 6) 256 [(0, .ref sc), (1, .ref x), (2, .ref y), (3, .ref o), (4, vi (((3 * c) : Nat) : Int))] [vi 0]
      refine qv_istore C (lv' := [(5, vi 0), (0, .ref sc), (1, .ref x), (2, .ref y), (3, .ref o), (4, vi (((3 * c) : Nat) : Int))]) (by decide) rfl dq_Law_law_256 ?_
      refine qv_aload_n C rfl dq_Law_law_258 ?_
      refine qv_aload_n C rfl dq_Law_law_259 ?_
      refine qv_iload C rfl dq_Law_law_260 ?_
      refine qv_iconst C dq_Law_law_262 ?_
      refine qv_iadd C (r := ((((3 * c) + 1) : Nat) : Int)) (by omega) dq_Law_law_263 ?_
      refine qs_ld C hS ((3 * c) + 1) rfl (by omega) (by omega) dq_Law_law_264 ?_
      refine qv_ifeq C (zi_ri _) (tgt := 272) (by decide) dq_Law_law_265 (fun h265 => ?_) (fun h265 => ?_)
      · exfalso; omega
      · skip
        refine qv_iconst C dq_Law_law_268 ?_
        refine qv_goto C (tgt := 273) (by decide) dq_Law_law_269 ?_
        refine qv_ti (r := b2 true) rfl ?_
        refine qv_aload_n C rfl dq_Law_law_273 ?_
        refine qv_iload C rfl dq_Law_law_274 ?_
        refine qv_iconst C dq_Law_law_276 ?_
        refine qv_iadd C (r := ((((3 * c) + 2) : Nat) : Int)) (by omega) dq_Law_law_277 ?_
        refine qs_ld C hS ((3 * c) + 2) rfl (by omega) (by omega) dq_Law_law_278 ?_
        refine qc_vV (wr := [oc g 1 [.ref b, vi ((fi : Nat) : Int), vi ((en : Nat) : Int)], aj cJ b 160 R, oc w 2 [.ref wa, vi (b2 hm)], aj cJ wa 70 W, oc t 0 [.ref ta, vi ((lt : Nat) : Int), vi pt2], ai cI ta 800 ft, oc l 0 [.ref la, vi ((ll : Nat) : Int), vi pll], ai cI la 800 fl1, oc hi 0 [.ref ha, vi ((lh : Nat) : Int), vi ph], ai cI ha 800 fh, ai cI dg 800 d, ai cI rw 1200 rf, ai cI bt 1100 bb, ai cI wz 800 wf, ai cI lw 1200 lf, ai cI hg 1200 hf, aj cJ o 1 oo, oc x 3 [.ref k, vi (b2 true), vi 0, vi ((xs ((3 * c) + 2)).toInt), .ref g, .ref w, .ref t, .ref l, .ref hi], oc k 0 [.ref ka, vi 0, vi 0], ai cI ka 800 f]) (st := []) C cl_Law_69 cd_Mod_clear (c_Mod_clear cI cJ y dg rw bt wz lw hg er mi len pl zr pt mn fr fo ls lp hs hq true ((xs ((3 * c) + 2)).toInt) (zi_ri _)) (Xok_t K) Xbl_t [10] [0, 1, 2, 3, 4, 5, 6, 7, 8, 9, 11, 12, 13, 14, 15, 16, 17, 18, 19, 20] rfl rfl (by decide) (by decide) (by decide) 0 rfl rfl rfl rfl rfl (Nat.le_of_ble_eq_true rfl) (by decide) (rl_b hc5) dq_Law_law_279 (fun u hu => ?_)
        rcases hu with ⟨w1, rfl⟩ | ⟨w1, rfl⟩
        · exfalso; omega
        · skip
          show V K 8 [oc g 1 [.ref b, vi ((fi : Nat) : Int), vi ((en : Nat) : Int)], aj cJ b 160 R, oc w 2 [.ref wa, vi (b2 hm)], aj cJ wa 70 W, oc t 0 [.ref ta, vi ((lt : Nat) : Int), vi pt2], ai cI ta 800 ft, oc l 0 [.ref la, vi ((ll : Nat) : Int), vi pll], ai cI la 800 fl1, oc hi 0 [.ref ha, vi ((lh : Nat) : Int), vi ph], ai cI ha 800 fh, ai cI dg 800 d, ai cI rw 1200 rf, ai cI bt 1100 bb, ai cI wz 800 wf, ai cI lw 1200 lf, ai cI hg 1200 hf, aj cJ o 1 oo, oc x 3 [.ref k, vi (b2 true), vi 0, vi ((xs ((3 * c) + 2)).toInt), .ref g, .ref w, .ref t, .ref l, .ref hi], oc k 0 [.ref ka, vi 0, vi 0], ai cI ka 800 f, oc y 4 [vi 0, vi (b2 true), .ref dg, vi 0, vi 0, vi 0, vi ((xs ((3 * c) + 2)).toInt), .ref rw, vi ((mn : Nat) : Int), vi fr, vj fo, .ref bt, .ref wz, .ref lw, .ref hg, vi ((ls : Nat) : Int), vi lp, vi ((hs : Nat) : Int), vi hq]] (21 + c + 1) (9776 + 6 * c + 6) 282 [(5, vi 0), (0, .ref sc), (1, .ref x), (2, .ref y), (3, .ref o), (4, vi (((3 * c) : Nat) : Int))] []
          refine qv_aload_n C rfl dq_Law_law_282 ?_
          refine qc_vI (wr := [oc g 1 [.ref b, vi ((fi : Nat) : Int), vi ((en : Nat) : Int)], aj cJ b 160 R, oc w 2 [.ref wa, vi (b2 hm)], aj cJ wa 70 W, oc t 0 [.ref ta, vi ((lt : Nat) : Int), vi pt2], ai cI ta 800 ft, oc l 0 [.ref la, vi ((ll : Nat) : Int), vi pll], ai cI la 800 fl1, oc hi 0 [.ref ha, vi ((lh : Nat) : Int), vi ph], ai cI ha 800 fh, ai cI dg 800 d, ai cI rw 1200 rf, ai cI bt 1100 bb, ai cI wz 800 wf, ai cI lw 1200 lf, ai cI hg 1200 hf, aj cJ o 1 oo, oc x 3 [.ref k, vi (b2 true), vi 0, vi ((xs ((3 * c) + 2)).toInt), .ref g, .ref w, .ref t, .ref l, .ref hi], oc k 0 [.ref ka, vi 0, vi 0], ai cI ka 800 f]) (st := []) C cl_Law_59 cd_Mod_thrown (c_Mod_thrown cI cJ y dg rw bt wz lw hg 0 true 0 0 0 ((xs ((3 * c) + 2)).toInt) mn fr fo ls lp hs hq) (Xok_t K) Xbl_t [20] [0, 1, 2, 3, 4, 5, 6, 7, 8, 9, 10, 11, 12, 13, 14, 15, 16, 17, 18, 19] rfl rfl (by decide) (by decide) (by decide) 0 rfl rfl rfl rfl rfl (Nat.le_of_ble_eq_true rfl) (by decide) (rl_b hc5) dq_Law_law_283 (fun z u hu => ?_)
          obtain ⟨rfl, rfl⟩ := hu
          show V K 8 [oc g 1 [.ref b, vi ((fi : Nat) : Int), vi ((en : Nat) : Int)], aj cJ b 160 R, oc w 2 [.ref wa, vi (b2 hm)], aj cJ wa 70 W, oc t 0 [.ref ta, vi ((lt : Nat) : Int), vi pt2], ai cI ta 800 ft, oc l 0 [.ref la, vi ((ll : Nat) : Int), vi pll], ai cI la 800 fl1, oc hi 0 [.ref ha, vi ((lh : Nat) : Int), vi ph], ai cI ha 800 fh, ai cI dg 800 d, ai cI rw 1200 rf, ai cI bt 1100 bb, ai cI wz 800 wf, ai cI lw 1200 lf, ai cI hg 1200 hf, aj cJ o 1 oo, oc x 3 [.ref k, vi (b2 true), vi 0, vi ((xs ((3 * c) + 2)).toInt), .ref g, .ref w, .ref t, .ref l, .ref hi], oc k 0 [.ref ka, vi 0, vi 0], ai cI ka 800 f, oc y 4 [vi 0, vi (b2 true), .ref dg, vi 0, vi 0, vi 0, vi ((xs ((3 * c) + 2)).toInt), .ref rw, vi ((mn : Nat) : Int), vi fr, vj fo, .ref bt, .ref wz, .ref lw, .ref hg, vi ((ls : Nat) : Int), vi lp, vi ((hs : Nat) : Int), vi hq]] (21 + c + 1) (9776 + 6 * c + 6) 286 [(5, vi 0), (0, .ref sc), (1, .ref x), (2, .ref y), (3, .ref o), (4, vi (((3 * c) : Nat) : Int))] [vi 0]
          refine qv_iload C rfl dq_Law_law_286 ?_
          refine qv_iceq C (by omega) (by omega) (tgt := 293) (by decide) dq_Law_law_288 (fun h288 => ?_) (fun h288 => ?_)
          · skip
            refine qv_goto C (tgt := 607) (by decide) dq_Law_law_293 ?_
            refine qv_lv [1, 2, 3, 4, 5] (lv' := [(0, .ref sc), (1, .ref x), (2, .ref y), (3, .ref o), (4, vi (((3 * c) : Nat) : Int))]) rfl ?_
            refine qv_ws [17, 18, 19, 0, 1, 2, 3, 4, 5, 6, 7, 8, 9, 20, 10, 11, 12, 13, 14, 15, 16] (ws' := [oc x 3 [.ref k, vi (b2 true), vi 0, vi ((xs ((3 * c) + 2)).toInt), .ref g, .ref w, .ref t, .ref l, .ref hi], oc k 0 [.ref ka, vi 0, vi 0], ai cI ka 800 f, oc g 1 [.ref b, vi ((fi : Nat) : Int), vi ((en : Nat) : Int)], aj cJ b 160 R, oc w 2 [.ref wa, vi (b2 hm)], aj cJ wa 70 W, oc t 0 [.ref ta, vi ((lt : Nat) : Int), vi pt2], ai cI ta 800 ft, oc l 0 [.ref la, vi ((ll : Nat) : Int), vi pll], ai cI la 800 fl1, oc hi 0 [.ref ha, vi ((lh : Nat) : Int), vi ph], ai cI ha 800 fh, oc y 4 [vi 0, vi (b2 true), .ref dg, vi 0, vi 0, vi 0, vi ((xs ((3 * c) + 2)).toInt), .ref rw, vi ((mn : Nat) : Int), vi fr, vj fo, .ref bt, .ref wz, .ref lw, .ref hg, vi ((ls : Nat) : Int), vi lp, vi ((hs : Nat) : Int), vi hq], ai cI dg 800 d, ai cI rw 1200 rf, ai cI bt 1100 bb, ai cI wz 800 wf, ai cI lw 1200 lf, ai cI hg 1200 hf, aj cJ o 1 oo]) (by decide) rfl ?_
            refine qv_wide (k' := 21 + (c + 1)) (n' := 9776 + 6 * (c + 1)) (by omega) (by omega) ?_
            exact hn true 0 ((xs ((3 * c) + 2)).toInt) 0 0 f fi en R hm W lt pt2 ft ll pll fl1 lh ph fh 0 true 0 0 0 ((xs ((3 * c) + 2)).toInt) d mn fr fo ls lp hs hq rf bb wf lf hf oo (Tie_clear hT0 true hin) ⟨hft, hfl, hfh, hrf, hbb, hwf, hlf, hhf⟩
          · exfalso; omega
    · skip
      show V K 8 [oc g 1 [.ref b, vi ((fi : Nat) : Int), vi ((en : Nat) : Int)], aj cJ b 160 R, oc w 2 [.ref wa, vi (b2 hm)], aj cJ wa 70 W, oc t 0 [.ref ta, vi ((lt : Nat) : Int), vi pt2], ai cI ta 800 ft, oc l 0 [.ref la, vi ((ll : Nat) : Int), vi pll], ai cI la 800 fl1, oc hi 0 [.ref ha, vi ((lh : Nat) : Int), vi ph], ai cI ha 800 fh, oc y 4 [vi er, vi (b2 mi), .ref dg, vi ((len : Nat) : Int), vi pl, vi ((zr : Nat) : Int), vi pt, .ref rw, vi ((mn : Nat) : Int), vi fr, vj fo, .ref bt, .ref wz, .ref lw, .ref hg, vi ((ls : Nat) : Int), vi lp, vi ((hs : Nat) : Int), vi hq], ai cI dg 800 d, ai cI rw 1200 rf, ai cI bt 1100 bb, ai cI wz 800 wf, ai cI lw 1200 lf, ai cI hg 1200 hf, aj cJ o 1 oo, oc x 3 [.ref k, vi (b2 mi), vi ((zr : Nat) : Int), vi pt, .ref g, .ref w, .ref t, .ref l, .ref hi], oc k 0 [.ref ka, vi ((len : Nat) : Int), vi pl], ai cI ka 800 f] (21 + c + 1) (9776 + 6 * c + 6) 256 [(0, .ref sc), (1, .ref x), (2, .ref y), (3, .ref o), (4, vi (((3 * c) : Nat) : Int))] [vi 1]
      refine qv_istore C (lv' := [(5, vi 1), (0, .ref sc), (1, .ref x), (2, .ref y), (3, .ref o), (4, vi (((3 * c) : Nat) : Int))]) (by decide) rfl dq_Law_law_256 ?_
      refine qv_aload_n C rfl dq_Law_law_258 ?_
      refine qv_aload_n C rfl dq_Law_law_259 ?_
      refine qv_iload C rfl dq_Law_law_260 ?_
      refine qv_iconst C dq_Law_law_262 ?_
      refine qv_iadd C (r := ((((3 * c) + 1) : Nat) : Int)) (by omega) dq_Law_law_263 ?_
      refine qs_ld C hS ((3 * c) + 1) rfl (by omega) (by omega) dq_Law_law_264 ?_
      refine qv_ifeq C (zi_ri _) (tgt := 272) (by decide) dq_Law_law_265 (fun h265 => ?_) (fun h265 => ?_)
      · exfalso; omega
      · skip
        refine qv_iconst C dq_Law_law_268 ?_
        refine qv_goto C (tgt := 273) (by decide) dq_Law_law_269 ?_
        refine qv_ti (r := b2 true) rfl ?_
        refine qv_aload_n C rfl dq_Law_law_273 ?_
        refine qv_iload C rfl dq_Law_law_274 ?_
        refine qv_iconst C dq_Law_law_276 ?_
        refine qv_iadd C (r := ((((3 * c) + 2) : Nat) : Int)) (by omega) dq_Law_law_277 ?_
        refine qs_ld C hS ((3 * c) + 2) rfl (by omega) (by omega) dq_Law_law_278 ?_
        refine qc_vV (wr := [oc g 1 [.ref b, vi ((fi : Nat) : Int), vi ((en : Nat) : Int)], aj cJ b 160 R, oc w 2 [.ref wa, vi (b2 hm)], aj cJ wa 70 W, oc t 0 [.ref ta, vi ((lt : Nat) : Int), vi pt2], ai cI ta 800 ft, oc l 0 [.ref la, vi ((ll : Nat) : Int), vi pll], ai cI la 800 fl1, oc hi 0 [.ref ha, vi ((lh : Nat) : Int), vi ph], ai cI ha 800 fh, ai cI dg 800 d, ai cI rw 1200 rf, ai cI bt 1100 bb, ai cI wz 800 wf, ai cI lw 1200 lf, ai cI hg 1200 hf, aj cJ o 1 oo, oc x 3 [.ref k, vi (b2 mi), vi ((zr : Nat) : Int), vi pt, .ref g, .ref w, .ref t, .ref l, .ref hi], oc k 0 [.ref ka, vi ((len : Nat) : Int), vi pl], ai cI ka 800 f]) (st := []) C cl_Law_69 cd_Mod_clear (c_Mod_clear cI cJ y dg rw bt wz lw hg er mi len pl zr pt mn fr fo ls lp hs hq true ((xs ((3 * c) + 2)).toInt) (zi_ri _)) (Xok_t K) Xbl_t [10] [0, 1, 2, 3, 4, 5, 6, 7, 8, 9, 11, 12, 13, 14, 15, 16, 17, 18, 19, 20] rfl rfl (by decide) (by decide) (by decide) 0 rfl rfl rfl rfl rfl (Nat.le_of_ble_eq_true rfl) (by decide) (rl_b hc5) dq_Law_law_279 (fun u hu => ?_)
        rcases hu with ⟨w1, rfl⟩ | ⟨w1, rfl⟩
        · skip
          show V K 8 [oc g 1 [.ref b, vi ((fi : Nat) : Int), vi ((en : Nat) : Int)], aj cJ b 160 R, oc w 2 [.ref wa, vi (b2 hm)], aj cJ wa 70 W, oc t 0 [.ref ta, vi ((lt : Nat) : Int), vi pt2], ai cI ta 800 ft, oc l 0 [.ref la, vi ((ll : Nat) : Int), vi pll], ai cI la 800 fl1, oc hi 0 [.ref ha, vi ((lh : Nat) : Int), vi ph], ai cI ha 800 fh, ai cI dg 800 d, ai cI rw 1200 rf, ai cI bt 1100 bb, ai cI wz 800 wf, ai cI lw 1200 lf, ai cI hg 1200 hf, aj cJ o 1 oo, oc x 3 [.ref k, vi (b2 mi), vi ((zr : Nat) : Int), vi pt, .ref g, .ref w, .ref t, .ref l, .ref hi], oc k 0 [.ref ka, vi ((len : Nat) : Int), vi pl], ai cI ka 800 f, oc y 4 [vi 1, vi (b2 mi), .ref dg, vi ((len : Nat) : Int), vi pl, vi ((zr : Nat) : Int), vi pt, .ref rw, vi ((mn : Nat) : Int), vi fr, vj fo, .ref bt, .ref wz, .ref lw, .ref hg, vi ((ls : Nat) : Int), vi lp, vi ((hs : Nat) : Int), vi hq]] (21 + c + 1) (9776 + 6 * c + 6) 282 [(5, vi 1), (0, .ref sc), (1, .ref x), (2, .ref y), (3, .ref o), (4, vi (((3 * c) : Nat) : Int))] []
          refine qv_aload_n C rfl dq_Law_law_282 ?_
          refine qc_vI (wr := [oc g 1 [.ref b, vi ((fi : Nat) : Int), vi ((en : Nat) : Int)], aj cJ b 160 R, oc w 2 [.ref wa, vi (b2 hm)], aj cJ wa 70 W, oc t 0 [.ref ta, vi ((lt : Nat) : Int), vi pt2], ai cI ta 800 ft, oc l 0 [.ref la, vi ((ll : Nat) : Int), vi pll], ai cI la 800 fl1, oc hi 0 [.ref ha, vi ((lh : Nat) : Int), vi ph], ai cI ha 800 fh, ai cI dg 800 d, ai cI rw 1200 rf, ai cI bt 1100 bb, ai cI wz 800 wf, ai cI lw 1200 lf, ai cI hg 1200 hf, aj cJ o 1 oo, oc x 3 [.ref k, vi (b2 mi), vi ((zr : Nat) : Int), vi pt, .ref g, .ref w, .ref t, .ref l, .ref hi], oc k 0 [.ref ka, vi ((len : Nat) : Int), vi pl], ai cI ka 800 f]) (st := []) C cl_Law_59 cd_Mod_thrown (c_Mod_thrown cI cJ y dg rw bt wz lw hg 1 mi len pl zr pt mn fr fo ls lp hs hq) (Xok_t K) Xbl_t [20] [0, 1, 2, 3, 4, 5, 6, 7, 8, 9, 10, 11, 12, 13, 14, 15, 16, 17, 18, 19] rfl rfl (by decide) (by decide) (by decide) 0 rfl rfl rfl rfl rfl (Nat.le_of_ble_eq_true rfl) (by decide) (rl_b hc5) dq_Law_law_283 (fun z u hu => ?_)
          obtain ⟨rfl, rfl⟩ := hu
          show V K 8 [oc g 1 [.ref b, vi ((fi : Nat) : Int), vi ((en : Nat) : Int)], aj cJ b 160 R, oc w 2 [.ref wa, vi (b2 hm)], aj cJ wa 70 W, oc t 0 [.ref ta, vi ((lt : Nat) : Int), vi pt2], ai cI ta 800 ft, oc l 0 [.ref la, vi ((ll : Nat) : Int), vi pll], ai cI la 800 fl1, oc hi 0 [.ref ha, vi ((lh : Nat) : Int), vi ph], ai cI ha 800 fh, ai cI dg 800 d, ai cI rw 1200 rf, ai cI bt 1100 bb, ai cI wz 800 wf, ai cI lw 1200 lf, ai cI hg 1200 hf, aj cJ o 1 oo, oc x 3 [.ref k, vi (b2 mi), vi ((zr : Nat) : Int), vi pt, .ref g, .ref w, .ref t, .ref l, .ref hi], oc k 0 [.ref ka, vi ((len : Nat) : Int), vi pl], ai cI ka 800 f, oc y 4 [vi 1, vi (b2 mi), .ref dg, vi ((len : Nat) : Int), vi pl, vi ((zr : Nat) : Int), vi pt, .ref rw, vi ((mn : Nat) : Int), vi fr, vj fo, .ref bt, .ref wz, .ref lw, .ref hg, vi ((ls : Nat) : Int), vi lp, vi ((hs : Nat) : Int), vi hq]] (21 + c + 1) (9776 + 6 * c + 6) 286 [(5, vi 1), (0, .ref sc), (1, .ref x), (2, .ref y), (3, .ref o), (4, vi (((3 * c) : Nat) : Int))] [vi 1]
          refine qv_iload C rfl dq_Law_law_286 ?_
          refine qv_iceq C (by omega) (by omega) (tgt := 293) (by decide) dq_Law_law_288 (fun h288 => ?_) (fun h288 => ?_)
          · skip
            refine qv_goto C (tgt := 607) (by decide) dq_Law_law_293 ?_
            refine qv_lv [1, 2, 3, 4, 5] (lv' := [(0, .ref sc), (1, .ref x), (2, .ref y), (3, .ref o), (4, vi (((3 * c) : Nat) : Int))]) rfl ?_
            refine qv_ws [17, 18, 19, 0, 1, 2, 3, 4, 5, 6, 7, 8, 9, 20, 10, 11, 12, 13, 14, 15, 16] (ws' := [oc x 3 [.ref k, vi (b2 mi), vi ((zr : Nat) : Int), vi pt, .ref g, .ref w, .ref t, .ref l, .ref hi], oc k 0 [.ref ka, vi ((len : Nat) : Int), vi pl], ai cI ka 800 f, oc g 1 [.ref b, vi ((fi : Nat) : Int), vi ((en : Nat) : Int)], aj cJ b 160 R, oc w 2 [.ref wa, vi (b2 hm)], aj cJ wa 70 W, oc t 0 [.ref ta, vi ((lt : Nat) : Int), vi pt2], ai cI ta 800 ft, oc l 0 [.ref la, vi ((ll : Nat) : Int), vi pll], ai cI la 800 fl1, oc hi 0 [.ref ha, vi ((lh : Nat) : Int), vi ph], ai cI ha 800 fh, oc y 4 [vi 1, vi (b2 mi), .ref dg, vi ((len : Nat) : Int), vi pl, vi ((zr : Nat) : Int), vi pt, .ref rw, vi ((mn : Nat) : Int), vi fr, vj fo, .ref bt, .ref wz, .ref lw, .ref hg, vi ((ls : Nat) : Int), vi lp, vi ((hs : Nat) : Int), vi hq], ai cI dg 800 d, ai cI rw 1200 rf, ai cI bt 1100 bb, ai cI wz 800 wf, ai cI lw 1200 lf, ai cI hg 1200 hf, aj cJ o 1 oo]) (by decide) rfl ?_
            refine qv_wide (k' := 21 + (c + 1)) (n' := 9776 + 6 * (c + 1)) (by omega) (by omega) ?_
            exact hn mi zr pt len pl f fi en R hm W lt pt2 ft ll pll fl1 lh ph fh 1 mi len pl zr pt d mn fr fo ls lp hs hq rf bb wf lf hf oo (Tie_s hT0) ⟨hft, hfl, hfh, hrf, hbb, hwf, hlf, hhf⟩
          · exfalso; omega
        · exfalso; omega
