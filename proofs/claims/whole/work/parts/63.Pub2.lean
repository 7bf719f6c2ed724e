theorem c_Tru_count (cI cJ : ClassId) (x k g w t l hi : Nat) (mi : Bool) (zr : Nat) (pt : Int) (ka len : Nat) (pl : Int) (f : Nat → Nat) (a : Int) (ha : ri a) : MxI cI cJ ky_Tru_count kb_Tru_count 2 rX XT [.ref x, vi a] [oc x 3 [.ref k, vi (b2 mi), vi ((zr : Nat) : Int), vi pt, .ref g, .ref w, .ref t, .ref l, .ref hi], oc k 0 [.ref ka, vi ((len : Nat) : Int), vi pl], ai cI ka 800 f] (fun z u => (0 ≤ a ∧ a ≤ 2) ∧ z = (if a = 0 then ((len : Nat) : Int) else if a = 1 then pl else b2 mi) ∧ u = xo x k g w t l hi mi zr pt :: dw cI k ka len pl f) (fun E u => ¬ (0 ≤ a ∧ a ≤ 2) ∧ E = nIAE ∧ u = xo x k g w t l hi mi zr pt :: dw cI k ka len pl f) := by
  refine MxI_in (by decide) (Nat.le_of_ble_eq_true rfl) (fun K C hR hX => ?_)
  show V K 2 [oc x 3 [.ref k, vi (b2 mi), vi ((zr : Nat) : Int), vi pt, .ref g, .ref w, .ref t, .ref l, .ref hi], oc k 0 [.ref ka, vi ((len : Nat) : Int), vi pl], ai cI ka 800 f] 0 0 0 [(0, .ref x), (1, vi a)] []
  refine qv_iload_n C rfl dq_Tru_count_0 ?_
  rcases (show a = 0 ∨ a = 1 ∨ a = 2 ∨ (a < 0 ∨ 2 < a) by omega) with rfl | rfl | rfl | ho
  · refine qv_tIn C (z := 0) (tgt := 28) (by decide) (by decide) rfl (by decide) dq_Tru_count_1 ?_
    refine qv_aload_n C rfl dq_Tru_count_28 ?_
    refine qv_get C fl_Tru_12 0 rfl rfl dq_Tru_count_29 ?_
    refine qv_get C fl_Tru_69 1 rfl rfl dq_Tru_count_32 ?_
    refine qx_iret C hR ?_ dq_Tru_count_35 (by decide) (by decide)
    refine ⟨by decide, ?_, rfl⟩
    rw [if_pos rfl]
  · refine qv_tIn C (z := 1) (tgt := 36) (by decide) (by decide) rfl (by decide) dq_Tru_count_1 ?_
    refine qv_aload_n C rfl dq_Tru_count_36 ?_
    refine qv_get C fl_Tru_12 0 rfl rfl dq_Tru_count_37 ?_
    refine qv_get C fl_Tru_106 1 rfl rfl dq_Tru_count_40 ?_
    refine qx_iret C hR ?_ dq_Tru_count_43 (by decide) (by decide)
    refine ⟨by decide, ?_, rfl⟩
    rw [if_neg (by decide), if_pos rfl]
  · refine qv_tIn C (z := 2) (tgt := 44) (by decide) (by decide) rfl (by decide) dq_Tru_count_1 ?_
    refine qv_aload_n C rfl dq_Tru_count_44 ?_
    refine qv_get C fl_Tru_50 0 rfl rfl dq_Tru_count_45 ?_
    refine qv_ifeq C (rb_b2 mi) (tgt := 55) (by decide) dq_Tru_count_48 (fun h48 => ?_) (fun h48 => ?_)
    · skip
      refine qv_iconst C dq_Tru_count_55 ?_
      refine qx_iret C hR ?_ dq_Tru_count_56 (by decide) (by decide)
      refine ⟨by decide, ?_, rfl⟩
      rw [if_neg (by decide), if_neg (by decide), b2_f h48]; rfl
    · skip
      refine qv_iconst C dq_Tru_count_51 ?_
      refine qv_goto C (tgt := 56) (by decide) dq_Tru_count_52 ?_
      refine qx_iret C hR ?_ dq_Tru_count_56 (by decide) (by decide)
      refine ⟨by decide, ?_, rfl⟩
      rw [if_neg (by decide), if_neg (by decide), b2_t h48]; rfl
  · refine qv_tOut C (tgt := 57) (by omega) ho (by decide) dq_Tru_count_1 ?_
    refine qx_throw C hR.x hX (by decide) ak_I ai_I (is := 132) (text := "what is not 0..2") (by decide) ax_I ?_ dq_Tru_count_57 dq_Tru_count_60 dq_Tru_count_61 dq_Tru_count_63 dq_Tru_count_66 (by decide) (by decide) (by decide) (by decide)
    exact ⟨by omega, rfl, rfl⟩

theorem c_Tru_enough (cI cJ : ClassId) (x k g w t l hi : Nat) (mi : Bool) (zr : Nat) (pt : Int) (ka len : Nat) (pl : Int) (f : Nat → Nat) (b fi en : Nat) (R : Nat → Nat) (wa : Nat) (hm : Bool) (W : Nat → Nat) (ta lt : Nat) (pt2 : Int) (ft : Nat → Nat) (la ll : Nat) (pll : Int) (fl1 : Nat → Nat) (ha lh : Nat) (ph : Int) (fh : Nat → Nat) (hK : Kd f len pl) (hp : -10000 ≤ pl ∧ pl ≤ 10000) (hft : ∀ i, ft i ≤ 9) (hfl : ∀ i, fl1 i ≤ 9) (hfh : ∀ i, fh i ≤ 9) : MxI cI cJ ky_Tru_enough kb_Tru_enough 4 rX XT [.ref x] [oc x 3 [.ref k, vi (b2 mi), vi ((zr : Nat) : Int), vi pt, .ref g, .ref w, .ref t, .ref l, .ref hi], oc k 0 [.ref ka, vi ((len : Nat) : Int), vi pl], ai cI ka 800 f, oc g 1 [.ref b, vi ((fi : Nat) : Int), vi ((en : Nat) : Int)], aj cJ b 160 R, oc w 2 [.ref wa, vi (b2 hm)], aj cJ wa 70 W, oc t 0 [.ref ta, vi ((lt : Nat) : Int), vi pt2], ai cI ta 800 ft, oc l 0 [.ref la, vi ((ll : Nat) : Int), vi pll], ai cI la 800 fl1, oc hi 0 [.ref ha, vi ((lh : Nat) : Int), vi ph], ai cI ha 800 fh] (fun z u => ∃ (r : Nat) (R2 : Nat → Nat) (fi2 en2 : Nat) (hm2 : Bool) (W2 : Nat → Nat) (lt2 : Nat) (pt3 : Int) (ft2 : Nat → Nat) (ll2 : Nat) (pll2 : Int) (fl2 : Nat → Nat) (lh2 : Nat) (ph2 : Int) (fh2 : Nat → Nat) (n : Nat), z = ((n : Nat) : Int) ∧ Ne f len pl r ∧ r < INF ∧ (∀ i, ft2 i ≤ 9) ∧ (∀ i, fl2 i ≤ 9) ∧ (∀ i, fh2 i ≤ 9) ∧ (r = 0 → n = 0) ∧ (r ≠ 0 → 0 < n ∧ n ≤ len ∧ ∃ L H : Nat, L * 2 ^ 1075 = md (r - 1) * 10 ^ 1200 ∧ H * 2 ^ 1075 = md r * 10 ^ 1200 ∧ (∀ m, 0 < m → m < n → ¬ H1 f len pl L H (decide (r % 2 = 0)) m) ∧ (n < len → H1 f len pl L H (decide (r % 2 = 0)) n)) ∧ u = xo x k g w t l hi mi 0 0 :: (dw cI k ka (cL f len (rz n)) (cP f len (rz n) pl) (cF f len (rz n)) ++ gw cJ g b fi2 en2 R2 ++ ww cJ w wa hm2 W2 ++ dw cI t ta lt2 pt3 ft2 ++ dw cI l la ll2 pll2 fl2 ++ dw cI hi ha lh2 ph2 fh2)) (fun E u => E = nARI ∧ ∃ (r : Nat) (R2 : Nat → Nat) (fi2 en2 : Nat) (hm2 : Bool) (W2 : Nat → Nat), Ne f len pl r ∧ r = INF ∧ u = xo x k g w t l hi mi zr pt :: (dw cI k ka len pl f ++ gw cJ g b fi2 en2 R2 ++ ww cJ w wa hm2 W2 ++ dw cI t ta lt pt2 ft ++ dw cI l la ll pll fl1 ++ dw cI hi ha lh ph fh)) := by
  refine MxI_in (by decide) (Nat.le_of_ble_eq_true rfl) (fun K C hR hX => ?_)
  show V K 4 [oc x 3 [.ref k, vi (b2 mi), vi ((zr : Nat) : Int), vi pt, .ref g, .ref w, .ref t, .ref l, .ref hi], oc k 0 [.ref ka, vi ((len : Nat) : Int), vi pl], ai cI ka 800 f, oc g 1 [.ref b, vi ((fi : Nat) : Int), vi ((en : Nat) : Int)], aj cJ b 160 R, oc w 2 [.ref wa, vi (b2 hm)], aj cJ wa 70 W, oc t 0 [.ref ta, vi ((lt : Nat) : Int), vi pt2], ai cI ta 800 ft, oc l 0 [.ref la, vi ((ll : Nat) : Int), vi pll], ai cI la 800 fl1, oc hi 0 [.ref ha, vi ((lh : Nat) : Int), vi ph], ai cI ha 800 fh] 0 0 0 [(0, .ref x)] []
  have hI : INF = 9218868437227405312 := rfl
  have hl8 := hK.2.1
  refine qv_aload_n C rfl dq_Tru_enough_0 ?_
  refine qc_vJ (wr := [oc t 0 [.ref ta, vi ((lt : Nat) : Int), vi pt2], ai cI ta 800 ft, oc l 0 [.ref la, vi ((ll : Nat) : Int), vi pll], ai cI la 800 fl1, oc hi 0 [.ref ha, vi ((lh : Nat) : Int), vi ph], ai cI ha 800 fh]) (st := []) C cl_Tru_112 cd_Tru_nearestSize (c_Tru_nearestSize cI cJ x k g w t l hi mi zr pt ka len pl f b fi en R wa hm W hK hp) (XU_ok (XT_U hX)) XU_bl [0, 1, 2, 3, 4, 5, 6] [7, 8, 9, 10, 11, 12] rfl rfl (by decide) (by decide) (by decide) 0 rfl rfl rfl rfl rfl (Nat.le_of_ble_eq_true rfl) (by decide) (by decide) dq_Tru_enough_1 (fun z u hu => ?_)
  obtain ⟨r, R2, fi2, en2, hm2, W2, rfl, hNe, rfl⟩ := hu
  have hrI := Ne_le hNe
  show V K 4 [oc t 0 [.ref ta, vi ((lt : Nat) : Int), vi pt2], ai cI ta 800 ft, oc l 0 [.ref la, vi ((ll : Nat) : Int), vi pll], ai cI la 800 fl1, oc hi 0 [.ref ha, vi ((lh : Nat) : Int), vi ph], ai cI ha 800 fh, oc x 3 [.ref k, vi (b2 mi), vi ((zr : Nat) : Int), vi pt, .ref g, .ref w, .ref t, .ref l, .ref hi], oc k 0 [.ref ka, vi ((len : Nat) : Int), vi pl], ai cI ka 800 f, oc g 1 [.ref b, vi ((fi2 : Nat) : Int), vi ((en2 : Nat) : Int)], aj cJ b 160 R2, oc w 2 [.ref wa, vi (b2 hm2)], aj cJ wa 70 W2] 0 0 4 [(0, .ref x)] [vj ((r : Nat) : Int)]
  refine qv_lstore_n C (lv' := [(1, vj ((r : Nat) : Int)), (0, .ref x)]) (by decide) rfl dq_Tru_enough_4 ?_
  refine qv_lload_n C rfl dq_Tru_enough_5 ?_
  refine qv_ldc2 C (z := 9218868437227405312) wk_Tru_41 dq_Tru_enough_6 ?_
  refine qv_lclt C (by omega) (by omega) dq_Tru_enough_9 (tgt := 23) (by decide) dq_Tru_enough_10 (fun h9 => ?_) (fun h9 => ?_)
  · skip
    refine qv_lload_n C rfl dq_Tru_enough_23 ?_
    refine qv_lconst C (z := 0) (by decide) dq_Tru_enough_24 ?_
    refine qv_lcne C (by omega) (by omega) dq_Tru_enough_25 (tgt := 33) (by decide) dq_Tru_enough_26 (fun h25 => ?_) (fun h25 => ?_)
    · skip
      have hin := Ne_in hNe (by omega) (by omega)
      refine qv_aload_n C rfl dq_Tru_enough_33 ?_
      refine qv_lload_n C rfl dq_Tru_enough_34 ?_
      refine qc_vI (wr := [oc w 2 [.ref wa, vi (b2 hm2)], aj cJ wa 70 W2]) (st := []) C cl_Tru_123 cd_Tru_leastDigitsFor (c_Tru_leastDigitsFor cI cJ x k g w t l hi mi zr pt ka len pl f ta lt pt2 ft b fi2 en2 R2 la ll pll fl1 ha lh ph fh r (by omega) (by omega) hK hin.1 hin.2.1 hin.2.2 hft hfl hfh) (Xok_t K) Xbl_t [6, 7, 8, 9, 10, 0, 1, 2, 3, 4, 5] [11, 12] rfl rfl (by decide) (by decide) (by decide) 0 rfl rfl rfl rfl rfl (Nat.le_of_ble_eq_true rfl) (by decide) (by decide) dq_Tru_enough_35 (fun z u hu => ?_)
      obtain ⟨n, L, H, lt2, pt3, ft2, fi3, en3, R3, ll2, pll2, fl2, lh2, ph2, fh2, rfl, hn0, hn1, hL, hH, hm1, hm2x, q1, q2, q3, rfl⟩ := hu
      show V K 4 [oc w 2 [.ref wa, vi (b2 hm2)], aj cJ wa 70 W2, oc x 3 [.ref k, vi (b2 mi), vi ((zr : Nat) : Int), vi pt, .ref g, .ref w, .ref t, .ref l, .ref hi], oc k 0 [.ref ka, vi ((len : Nat) : Int), vi pl], ai cI ka 800 f, oc g 1 [.ref b, vi ((fi3 : Nat) : Int), vi ((en3 : Nat) : Int)], aj cJ b 160 R3, oc t 0 [.ref ta, vi ((lt2 : Nat) : Int), vi pt3], ai cI ta 800 ft2, oc l 0 [.ref la, vi ((ll2 : Nat) : Int), vi pll2], ai cI la 800 fl2, oc hi 0 [.ref ha, vi ((lh2 : Nat) : Int), vi ph2], ai cI ha 800 fh2] 0 0 38 [(1, vj ((r : Nat) : Int)), (0, .ref x)] [vi ((n : Nat) : Int)]
      refine qv_istore_n C (lv' := [(3, vi ((n : Nat) : Int)), (1, vj ((r : Nat) : Int)), (0, .ref x)]) (by decide) rfl dq_Tru_enough_38 ?_
      refine qv_aload_n C rfl dq_Tru_enough_39 ?_
      refine qv_iload_n C rfl dq_Tru_enough_40 ?_
      refine qc_vV (wr := [oc w 2 [.ref wa, vi (b2 hm2)], aj cJ wa 70 W2, oc g 1 [.ref b, vi ((fi3 : Nat) : Int), vi ((en3 : Nat) : Int)], aj cJ b 160 R3, oc t 0 [.ref ta, vi ((lt2 : Nat) : Int), vi pt3], ai cI ta 800 ft2, oc l 0 [.ref la, vi ((ll2 : Nat) : Int), vi pll2], ai cI la 800 fl2, oc hi 0 [.ref ha, vi ((lh2 : Nat) : Int), vi ph2], ai cI ha 800 fh2]) (st := []) C cl_Tru_101 cd_Tru_roundToDigits (c_Tru_roundToDigits cI cJ x k g w t l hi mi zr pt ka len pl f n (by omega) hK.1 (by omega)) (Xok_t K) Xbl_t [2, 3, 4] [0, 1, 5, 6, 7, 8, 9, 10, 11, 12] rfl rfl (by decide) (by decide) (by decide) 0 rfl rfl rfl rfl rfl (Nat.le_of_ble_eq_true rfl) (by decide) (by decide) dq_Tru_enough_41 (fun u hu => ?_)
      obtain rfl := hu
      show V K 4 [oc w 2 [.ref wa, vi (b2 hm2)], aj cJ wa 70 W2, oc g 1 [.ref b, vi ((fi3 : Nat) : Int), vi ((en3 : Nat) : Int)], aj cJ b 160 R3, oc t 0 [.ref ta, vi ((lt2 : Nat) : Int), vi pt3], ai cI ta 800 ft2, oc l 0 [.ref la, vi ((ll2 : Nat) : Int), vi pll2], ai cI la 800 fl2, oc hi 0 [.ref ha, vi ((lh2 : Nat) : Int), vi ph2], ai cI ha 800 fh2, oc x 3 [.ref k, vi (b2 mi), vi 0, vi 0, .ref g, .ref w, .ref t, .ref l, .ref hi], oc k 0 [.ref ka, vi ((cL f len (rz n) : Nat) : Int), vi (cP f len (rz n) pl)], ai cI ka 800 (cF f len (rz n))] 0 0 44 [(3, vi ((n : Nat) : Int)), (1, vj ((r : Nat) : Int)), (0, .ref x)] []
      refine qv_iload_n C rfl dq_Tru_enough_44 ?_
      refine qv_ws [10, 11, 12, 2, 3, 0, 1, 4, 5, 6, 7, 8, 9] (ws' := [oc x 3 [.ref k, vi (b2 mi), vi 0, vi 0, .ref g, .ref w, .ref t, .ref l, .ref hi], oc k 0 [.ref ka, vi ((cL f len (rz n) : Nat) : Int), vi (cP f len (rz n) pl)], ai cI ka 800 (cF f len (rz n)), oc g 1 [.ref b, vi ((fi3 : Nat) : Int), vi ((en3 : Nat) : Int)], aj cJ b 160 R3, oc w 2 [.ref wa, vi (b2 hm2)], aj cJ wa 70 W2, oc t 0 [.ref ta, vi ((lt2 : Nat) : Int), vi pt3], ai cI ta 800 ft2, oc l 0 [.ref la, vi ((ll2 : Nat) : Int), vi pll2], ai cI la 800 fl2, oc hi 0 [.ref ha, vi ((lh2 : Nat) : Int), vi ph2], ai cI ha 800 fh2]) (by decide) rfl ?_
      refine qx_iret C hR ?_ dq_Tru_enough_45 (by decide) (by decide)
      exact ⟨r, R3, fi3, en3, hm2, W2, lt2, pt3, ft2, ll2, pll2, fl2, lh2, ph2, fh2, n, rfl, hNe, by omega, q1, q2, q3, fun q => (by omega), fun _ => ⟨hn0, hn1, L, H, hL, hH, hm1, hm2x⟩, rfl⟩
    · skip
      refine qv_iconst C dq_Tru_enough_29 ?_
      refine qv_goto C (tgt := 38) (by decide) dq_Tru_enough_30 ?_
      refine qv_istore_n C (lv' := [(3, vi 0), (1, vj ((r : Nat) : Int)), (0, .ref x)]) (by decide) rfl dq_Tru_enough_38 ?_
      refine qv_aload_n C rfl dq_Tru_enough_39 ?_
      refine qv_iload_n C rfl dq_Tru_enough_40 ?_
      refine qc_vV (wr := [oc t 0 [.ref ta, vi ((lt : Nat) : Int), vi pt2], ai cI ta 800 ft, oc l 0 [.ref la, vi ((ll : Nat) : Int), vi pll], ai cI la 800 fl1, oc hi 0 [.ref ha, vi ((lh : Nat) : Int), vi ph], ai cI ha 800 fh, oc g 1 [.ref b, vi ((fi2 : Nat) : Int), vi ((en2 : Nat) : Int)], aj cJ b 160 R2, oc w 2 [.ref wa, vi (b2 hm2)], aj cJ wa 70 W2]) (st := []) C cl_Tru_101 cd_Tru_roundToDigits (c_Tru_roundToDigits cI cJ x k g w t l hi mi zr pt ka len pl f 0 (by omega) hK.1 (by omega)) (Xok_t K) Xbl_t [6, 7, 8] [0, 1, 2, 3, 4, 5, 9, 10, 11, 12] rfl rfl (by decide) (by decide) (by decide) 0 rfl rfl rfl rfl rfl (Nat.le_of_ble_eq_true rfl) (by decide) (by decide) dq_Tru_enough_41 (fun u hu => ?_)
      obtain rfl := hu
      show V K 4 [oc t 0 [.ref ta, vi ((lt : Nat) : Int), vi pt2], ai cI ta 800 ft, oc l 0 [.ref la, vi ((ll : Nat) : Int), vi pll], ai cI la 800 fl1, oc hi 0 [.ref ha, vi ((lh : Nat) : Int), vi ph], ai cI ha 800 fh, oc g 1 [.ref b, vi ((fi2 : Nat) : Int), vi ((en2 : Nat) : Int)], aj cJ b 160 R2, oc w 2 [.ref wa, vi (b2 hm2)], aj cJ wa 70 W2, oc x 3 [.ref k, vi (b2 mi), vi 0, vi 0, .ref g, .ref w, .ref t, .ref l, .ref hi], oc k 0 [.ref ka, vi ((cL f len (rz 0) : Nat) : Int), vi (cP f len (rz 0) pl)], ai cI ka 800 (cF f len (rz 0))] 0 0 44 [(3, vi 0), (1, vj ((r : Nat) : Int)), (0, .ref x)] []
      refine qv_iload_n C rfl dq_Tru_enough_44 ?_
      refine qv_ws [10, 11, 12, 6, 7, 8, 9, 0, 1, 2, 3, 4, 5] (ws' := [oc x 3 [.ref k, vi (b2 mi), vi 0, vi 0, .ref g, .ref w, .ref t, .ref l, .ref hi], oc k 0 [.ref ka, vi ((cL f len (rz 0) : Nat) : Int), vi (cP f len (rz 0) pl)], ai cI ka 800 (cF f len (rz 0)), oc g 1 [.ref b, vi ((fi2 : Nat) : Int), vi ((en2 : Nat) : Int)], aj cJ b 160 R2, oc w 2 [.ref wa, vi (b2 hm2)], aj cJ wa 70 W2, oc t 0 [.ref ta, vi ((lt : Nat) : Int), vi pt2], ai cI ta 800 ft, oc l 0 [.ref la, vi ((ll : Nat) : Int), vi pll], ai cI la 800 fl1, oc hi 0 [.ref ha, vi ((lh : Nat) : Int), vi ph], ai cI ha 800 fh]) (by decide) rfl ?_
      refine qx_iret C hR ?_ dq_Tru_enough_45 (by decide) (by decide)
      exact ⟨r, R2, fi2, en2, hm2, W2, lt, pt2, ft, ll, pll, fl1, lh, ph, fh, 0, rfl, hNe, by omega, hft, hfl, hfh, fun _ => rfl, fun q => (by omega), rfl⟩
  · skip
    refine qv_ws [6, 7, 8, 9, 10, 11, 12, 0, 1, 2, 3, 4, 5] (ws' := [oc x 3 [.ref k, vi (b2 mi), vi ((zr : Nat) : Int), vi pt, .ref g, .ref w, .ref t, .ref l, .ref hi], oc k 0 [.ref ka, vi ((len : Nat) : Int), vi pl], ai cI ka 800 f, oc g 1 [.ref b, vi ((fi2 : Nat) : Int), vi ((en2 : Nat) : Int)], aj cJ b 160 R2, oc w 2 [.ref wa, vi (b2 hm2)], aj cJ wa 70 W2, oc t 0 [.ref ta, vi ((lt : Nat) : Int), vi pt2], ai cI ta 800 ft, oc l 0 [.ref la, vi ((ll : Nat) : Int), vi pll], ai cI la 800 fl1, oc hi 0 [.ref ha, vi ((lh : Nat) : Int), vi ph], ai cI ha 800 fh]) (by decide) rfl ?_
    refine qx_throw C hR.x hX (by decide) ak_A ai_A (is := 118) (text := "it is beyond") (by decide) ax_A ?_ dq_Tru_enough_13 dq_Tru_enough_16 dq_Tru_enough_17 dq_Tru_enough_19 dq_Tru_enough_22 (by decide) (by decide) (by decide) (by decide)
    exact ⟨rfl, r, R2, fi2, en2, hm2, W2, hNe, by omega, rfl⟩

