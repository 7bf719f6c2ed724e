theorem c_Tru_holdsWith (cI cJ : ClassId) (x k g w t l hi : Nat) (mi : Bool) (zr : Nat) (pt : Int) (ka len : Nat) (pl : Int) (f : Nat → Nat) (ta lt : Nat) (pt2 : Int) (ft : Nat → Nat) (la ll : Nat) (pll : Int) (fl1 : Nat → Nat) (ha lh : Nat) (ph : Int) (fh : Nat → Nat) (n : Nat) (ev : Bool) (hK : Kd f len pl) (hn1 : 0 < n) (hn2 : n < len) (hp1 : -330 ≤ pl) (hp2 : pl ≤ 310) (hft : ∀ i, ft i ≤ 9) (hkl : Kd fl1 ll pll) (hkh : Kd fh lh ph) (hl0 : 0 < ll) (hh0 : 0 < lh) (hpl1 : -1125 ≤ pll) (hpl2 : pll ≤ 315) (hph1 : -1125 ≤ ph) (hph2 : ph ≤ 315) (hql : (ll : Int) ≤ pll + 1125) (hqh : (lh : Int) ≤ ph + 1125) : MtI cI cJ ky_Tru_holdsWith kb_Tru_holdsWith 5 .boolean rm_Tru_holdsWith Xt [.ref x, vi ((n : Nat) : Int), vi (b2 ev)] [oc x 3 [.ref k, vi (b2 mi), vi ((zr : Nat) : Int), vi pt, .ref g, .ref w, .ref t, .ref l, .ref hi], oc k 0 [.ref ka, vi ((len : Nat) : Int), vi pl], ai cI ka 800 f, oc t 0 [.ref ta, vi ((lt : Nat) : Int), vi pt2], ai cI ta 800 ft, oc l 0 [.ref la, vi ((ll : Nat) : Int), vi pll], ai cI la 800 fl1, oc hi 0 [.ref ha, vi ((lh : Nat) : Int), vi ph], ai cI ha 800 fh] (fun z u => ∃ (hw : Bool) (lt2 : Nat) (pt3 : Int) (ft2 : Nat → Nat), z = b2 hw ∧ (hw = true ↔ H1 f len pl (sv 1200 fl1 ll pll) (sv 1200 fh lh ph) ev n) ∧ (∀ i, ft2 i ≤ 9) ∧ u = xo x k g w t l hi mi zr pt :: (dw cI k ka len pl f ++ dw cI t ta lt2 pt3 ft2 ++ dw cI l la ll pll fl1 ++ dw cI hi ha lh ph fh)) := by
  refine MtI_in (by decide) (Nat.le_of_ble_eq_true rfl) (fun K C hR hX hN => ?_)
  show V K 5 [oc x 3 [.ref k, vi (b2 mi), vi ((zr : Nat) : Int), vi pt, .ref g, .ref w, .ref t, .ref l, .ref hi], oc k 0 [.ref ka, vi ((len : Nat) : Int), vi pl], ai cI ka 800 f, oc t 0 [.ref ta, vi ((lt : Nat) : Int), vi pt2], ai cI ta 800 ft, oc l 0 [.ref la, vi ((ll : Nat) : Int), vi pll], ai cI la 800 fl1, oc hi 0 [.ref ha, vi ((lh : Nat) : Int), vi ph], ai cI ha 800 fh] 0 0 0 [(0, .ref x), (1, vi ((n : Nat) : Int)), (2, vi (b2 ev))] []
  obtain ⟨hf, hl, hnz, -⟩ := id hK
  obtain ⟨hfl, hll, hnl, -⟩ := id hkl
  obtain ⟨hfh, hlh, hnh, -⟩ := id hkh
  have h00 := (hnz (by omega)).1
  obtain ⟨gg, hg⟩ : ∃ gg, gg = va_cpy f ft 0 0 n := ⟨_, rfl⟩
  have hg9 : ∀ i, gg i ≤ 9 := by rw [hg]; exact cpy_9 hf hft
  have hgf : ∀ i, i < n → gg i = f i := fun i hi => by rw [hg]; exact cpy_lt hi
  have hg0 : gg 0 ≠ 0 := by rw [hgf 0 hn1]; exact h00
  obtain ⟨up, hup⟩ : ∃ up, up = gu f len n := ⟨_, rfl⟩
  obtain ⟨c1, c2, c3, c4⟩ := cut_nrm (u := up) hg9 hn1 hg0
  obtain ⟨c5, c6⟩ := cut_pl (u := up) (p := pl) hn1 hg0
  have hT : sv 1200 (if up = true then upF gg n else gg) (if up = true then upL gg n else dz gg n) (if up = true then upP gg n pl else dnP gg n pl) = Tv f len pl n := by rw [hup]; exact cut_val hgf
  obtain ⟨F, hF⟩ : ∃ F, F = (if up = true then upF gg n else gg) := ⟨_, rfl⟩
  obtain ⟨Lt, hLt⟩ : ∃ L, L = (if up = true then upL gg n else dz gg n) := ⟨_, rfl⟩
  obtain ⟨Pt, hPt⟩ : ∃ P, P = (if up = true then upP gg n pl else dnP gg n pl) := ⟨_, rfl⟩
  rw [← hF] at c1 c2 hT
  rw [← hLt] at c2 c3 c4 hT
  rw [← hPt] at c5 c6 hT
  refine qv_aload_n C rfl dq_Tru_holdsWith_0 ?_
  refine qv_get C fl_Tru_12 0 rfl rfl dq_Tru_holdsWith_1 ?_
  refine qv_iload_n C rfl dq_Tru_holdsWith_4 ?_
  refine qc_vI (wr := [oc x 3 [.ref k, vi (b2 mi), vi ((zr : Nat) : Int), vi pt, .ref g, .ref w, .ref t, .ref l, .ref hi], oc t 0 [.ref ta, vi ((lt : Nat) : Int), vi pt2], ai cI ta 800 ft, oc l 0 [.ref la, vi ((ll : Nat) : Int), vi pll], ai cI la 800 fl1, oc hi 0 [.ref ha, vi ((lh : Nat) : Int), vi ph], ai cI ha 800 fh]) (st := []) C cl_Tru_155 cd_Dec_goesUpBehind (c_Dec_goesUpBehind cI cJ k ka len pl f n hl hf hn2) (Xok_t K) Xbl_t [1, 2] [0, 3, 4, 5, 6, 7, 8] rfl rfl (by decide) (by decide) (by decide) 0 rfl rfl rfl rfl rfl (Nat.le_of_ble_eq_true rfl) (by decide) (by decide) dq_Tru_holdsWith_5 (fun z u hu => ?_)
  obtain ⟨rfl, rfl⟩ := hu
  rw [← hup]
  show V K 5 [oc x 3 [.ref k, vi (b2 mi), vi ((zr : Nat) : Int), vi pt, .ref g, .ref w, .ref t, .ref l, .ref hi], oc t 0 [.ref ta, vi ((lt : Nat) : Int), vi pt2], ai cI ta 800 ft, oc l 0 [.ref la, vi ((ll : Nat) : Int), vi pll], ai cI la 800 fl1, oc hi 0 [.ref ha, vi ((lh : Nat) : Int), vi ph], ai cI ha 800 fh, oc k 0 [.ref ka, vi ((len : Nat) : Int), vi pl], ai cI ka 800 f] 0 0 8 [(0, .ref x), (1, vi ((n : Nat) : Int)), (2, vi (b2 ev))] [vi (b2 up)]
  refine qv_istore_n C (lv' := [(3, vi (b2 up)), (0, .ref x), (1, vi ((n : Nat) : Int)), (2, vi (b2 ev))]) (by decide) rfl dq_Tru_holdsWith_8 ?_
  refine qv_aload_n C rfl dq_Tru_holdsWith_9 ?_
  refine qv_get C fl_Tru_30 0 rfl rfl dq_Tru_holdsWith_10 ?_
  refine qv_aload_n C rfl dq_Tru_holdsWith_13 ?_
  refine qv_get C fl_Tru_12 0 rfl rfl dq_Tru_holdsWith_14 ?_
  refine qv_iload_n C rfl dq_Tru_holdsWith_17 ?_
  refine qc_vV (wr := [oc x 3 [.ref k, vi (b2 mi), vi ((zr : Nat) : Int), vi pt, .ref g, .ref w, .ref t, .ref l, .ref hi], oc l 0 [.ref la, vi ((ll : Nat) : Int), vi pll], ai cI la 800 fl1, oc hi 0 [.ref ha, vi ((lh : Nat) : Int), vi ph], ai cI ha 800 fh]) (st := []) C cl_Tru_158 cd_Dec_beStartOf (c_Dec_beStartOf cI cJ t ta lt pt2 ft k ka len pl f n (by omega)) (Xok_t K) Xbl_t [1, 2, 7, 8] [0, 3, 4, 5, 6] rfl rfl (by decide) (by decide) (by decide) 0 rfl rfl rfl rfl rfl (Nat.le_of_ble_eq_true rfl) (by decide) (by decide) dq_Tru_holdsWith_18 (fun u hu => ?_)
  obtain rfl := hu
  rw [← hg]
  show V K 5 [oc x 3 [.ref k, vi (b2 mi), vi ((zr : Nat) : Int), vi pt, .ref g, .ref w, .ref t, .ref l, .ref hi], oc l 0 [.ref la, vi ((ll : Nat) : Int), vi pll], ai cI la 800 fl1, oc hi 0 [.ref ha, vi ((lh : Nat) : Int), vi ph], ai cI ha 800 fh, oc t 0 [.ref ta, vi ((n : Nat) : Int), vi pl], ai cI ta 800 gg, oc k 0 [.ref ka, vi ((len : Nat) : Int), vi pl], ai cI ka 800 f] 0 0 21 [(3, vi (b2 up)), (0, .ref x), (1, vi ((n : Nat) : Int)), (2, vi (b2 ev))] []
  refine qv_aload_n C rfl dq_Tru_holdsWith_21 ?_
  refine qv_get C fl_Tru_30 0 rfl rfl dq_Tru_holdsWith_22 ?_
  refine qv_iload_n C rfl dq_Tru_holdsWith_25 ?_
  refine qc_vV (wr := [oc x 3 [.ref k, vi (b2 mi), vi ((zr : Nat) : Int), vi pt, .ref g, .ref w, .ref t, .ref l, .ref hi], oc l 0 [.ref la, vi ((ll : Nat) : Int), vi pll], ai cI la 800 fl1, oc hi 0 [.ref ha, vi ((lh : Nat) : Int), vi ph], ai cI ha 800 fh, oc k 0 [.ref ka, vi ((len : Nat) : Int), vi pl], ai cI ka 800 f]) (st := []) C cl_Tru_162 cd_Dec_settle (c_Dec_settle cI cJ t ta n pl gg up (by omega) hg9) (Xok_t K) Xbl_t [5, 6] [0, 1, 2, 3, 4, 7, 8] rfl rfl (by decide) (by decide) (by decide) 0 rfl rfl rfl rfl rfl (Nat.le_of_ble_eq_true rfl) (by decide) (by decide) dq_Tru_holdsWith_26 (fun u hu => ?_)
  obtain rfl := hu
  rw [← hF, ← hLt, ← hPt]
  show V K 5 [oc x 3 [.ref k, vi (b2 mi), vi ((zr : Nat) : Int), vi pt, .ref g, .ref w, .ref t, .ref l, .ref hi], oc l 0 [.ref la, vi ((ll : Nat) : Int), vi pll], ai cI la 800 fl1, oc hi 0 [.ref ha, vi ((lh : Nat) : Int), vi ph], ai cI ha 800 fh, oc k 0 [.ref ka, vi ((len : Nat) : Int), vi pl], ai cI ka 800 f, oc t 0 [.ref ta, vi ((Lt : Nat) : Int), vi Pt], ai cI ta 800 F] 0 0 29 [(3, vi (b2 up)), (0, .ref x), (1, vi ((n : Nat) : Int)), (2, vi (b2 ev))] []
  refine qv_iload_n C rfl dq_Tru_holdsWith_29 ?_
  refine qv_ifeq C (rb_b2 up) (tgt := 47) (by decide) dq_Tru_holdsWith_30 (fun h30 => ?_) (fun h30 => ?_)
  · skip
    refine qv_aload_n C rfl dq_Tru_holdsWith_47 ?_
    refine qv_get C fl_Tru_30 0 rfl rfl dq_Tru_holdsWith_48 ?_
    refine qv_aload_n C rfl dq_Tru_holdsWith_51 ?_
    refine qv_get C fl_Tru_33 0 rfl rfl dq_Tru_holdsWith_52 ?_
    refine qc_vI (wr := [oc x 3 [.ref k, vi (b2 mi), vi ((zr : Nat) : Int), vi pt, .ref g, .ref w, .ref t, .ref l, .ref hi], oc hi 0 [.ref ha, vi ((lh : Nat) : Int), vi ph], ai cI ha 800 fh, oc k 0 [.ref ka, vi ((len : Nat) : Int), vi pl], ai cI ka 800 f]) (st := []) C cl_Tru_166 cd_Dec_against (c_Dec_against cI cJ t ta l la Lt ll Pt pll F fl1 c2 (Kd_nrm hkl) c3 hl0 (by omega) hll c1 hfl (by omega) (by omega) (by omega) (by omega)) (Xok_t K) Xbl_t [7, 8, 1, 2] [0, 3, 4, 5, 6] rfl rfl (by decide) (by decide) (by decide) 0 rfl rfl rfl rfl rfl (Nat.le_of_ble_eq_true rfl) (by decide) (by decide) dq_Tru_holdsWith_55 (fun z u hu => ?_)
    obtain ⟨hC, hzr, rfl⟩ := hu
    rw [hT] at hC
    show V K 5 [oc x 3 [.ref k, vi (b2 mi), vi ((zr : Nat) : Int), vi pt, .ref g, .ref w, .ref t, .ref l, .ref hi], oc hi 0 [.ref ha, vi ((lh : Nat) : Int), vi ph], ai cI ha 800 fh, oc k 0 [.ref ka, vi ((len : Nat) : Int), vi pl], ai cI ka 800 f, oc t 0 [.ref ta, vi ((Lt : Nat) : Int), vi Pt], ai cI ta 800 F, oc l 0 [.ref la, vi ((ll : Nat) : Int), vi pll], ai cI la 800 fl1] 0 0 58 [(3, vi (b2 up)), (0, .ref x), (1, vi ((n : Nat) : Int)), (2, vi (b2 ev))] [vi z]
    refine qv_istore C (lv' := [(4, vi z), (3, vi (b2 up)), (0, .ref x), (1, vi ((n : Nat) : Int)), (2, vi (b2 ev))]) (by decide) rfl dq_Tru_holdsWith_58 ?_
    refine qv_iload_n C rfl dq_Tru_holdsWith_60 ?_
    refine qv_ifeq C (rb_b2 ev) (tgt := 77) (by decide) dq_Tru_holdsWith_61 (fun h61 => ?_) (fun h61 => ?_)
    · skip
      refine qv_iload C rfl dq_Tru_holdsWith_77 ?_
      refine qv_ifle C (by omega) (tgt := 86) (by decide) dq_Tru_holdsWith_79 (fun h79 => ?_) (fun h79 => ?_)
      · skip
        refine qv_iconst C dq_Tru_holdsWith_86 ?_
        refine qv_ws [0, 3, 4, 5, 6, 7, 8, 1, 2] (ws' := [oc x 3 [.ref k, vi (b2 mi), vi ((zr : Nat) : Int), vi pt, .ref g, .ref w, .ref t, .ref l, .ref hi], oc k 0 [.ref ka, vi ((len : Nat) : Int), vi pl], ai cI ka 800 f, oc t 0 [.ref ta, vi ((Lt : Nat) : Int), vi Pt], ai cI ta 800 F, oc l 0 [.ref la, vi ((ll : Nat) : Int), vi pll], ai cI la 800 fl1, oc hi 0 [.ref ha, vi ((lh : Nat) : Int), vi ph], ai cI ha 800 fh]) (by decide) rfl ?_
        refine qv_zret (b := false) C hR ?_ dq_Tru_holdsWith_87 (by decide) (by decide)
        have hu1 := b2_f h30
        have he1 := b2_f h61
        refine ⟨false, Lt, Pt, F, rfl, ?_, c1, rfl⟩
        unfold H1 Cs at *
        rw [← hup, hu1, he1]
        simp only [if_true, if_false, Bool.false_eq_true, false_iff, true_iff]
        omega
      · skip
        refine qv_iconst C dq_Tru_holdsWith_82 ?_
        refine qv_goto C (tgt := 87) (by decide) dq_Tru_holdsWith_83 ?_
        refine qv_ws [0, 3, 4, 5, 6, 7, 8, 1, 2] (ws' := [oc x 3 [.ref k, vi (b2 mi), vi ((zr : Nat) : Int), vi pt, .ref g, .ref w, .ref t, .ref l, .ref hi], oc k 0 [.ref ka, vi ((len : Nat) : Int), vi pl], ai cI ka 800 f, oc t 0 [.ref ta, vi ((Lt : Nat) : Int), vi Pt], ai cI ta 800 F, oc l 0 [.ref la, vi ((ll : Nat) : Int), vi pll], ai cI la 800 fl1, oc hi 0 [.ref ha, vi ((lh : Nat) : Int), vi ph], ai cI ha 800 fh]) (by decide) rfl ?_
        refine qv_zret (b := true) C hR ?_ dq_Tru_holdsWith_87 (by decide) (by decide)
        have hu1 := b2_f h30
        have he1 := b2_f h61
        refine ⟨true, Lt, Pt, F, rfl, ?_, c1, rfl⟩
        unfold H1 Cs at *
        rw [← hup, hu1, he1]
        simp only [if_true, if_false, Bool.false_eq_true, false_iff, true_iff]
        omega
    · skip
      refine qv_iload C rfl dq_Tru_holdsWith_64 ?_
      refine qv_iflt C (by omega) (tgt := 73) (by decide) dq_Tru_holdsWith_66 (fun h66 => ?_) (fun h66 => ?_)
      · skip
        refine qv_iconst C dq_Tru_holdsWith_73 ?_
        refine qv_goto C (tgt := 87) (by decide) dq_Tru_holdsWith_74 ?_
        refine qv_ws [0, 3, 4, 5, 6, 7, 8, 1, 2] (ws' := [oc x 3 [.ref k, vi (b2 mi), vi ((zr : Nat) : Int), vi pt, .ref g, .ref w, .ref t, .ref l, .ref hi], oc k 0 [.ref ka, vi ((len : Nat) : Int), vi pl], ai cI ka 800 f, oc t 0 [.ref ta, vi ((Lt : Nat) : Int), vi Pt], ai cI ta 800 F, oc l 0 [.ref la, vi ((ll : Nat) : Int), vi pll], ai cI la 800 fl1, oc hi 0 [.ref ha, vi ((lh : Nat) : Int), vi ph], ai cI ha 800 fh]) (by decide) rfl ?_
        refine qv_zret (b := false) C hR ?_ dq_Tru_holdsWith_87 (by decide) (by decide)
        have hu1 := b2_f h30
        have he1 := b2_t h61
        refine ⟨false, Lt, Pt, F, rfl, ?_, c1, rfl⟩
        unfold H1 Cs at *
        rw [← hup, hu1, he1]
        simp only [if_true, if_false, Bool.false_eq_true, false_iff, true_iff]
        omega
      · skip
        refine qv_iconst C dq_Tru_holdsWith_69 ?_
        refine qv_goto C (tgt := 87) (by decide) dq_Tru_holdsWith_70 ?_
        refine qv_ws [0, 3, 4, 5, 6, 7, 8, 1, 2] (ws' := [oc x 3 [.ref k, vi (b2 mi), vi ((zr : Nat) : Int), vi pt, .ref g, .ref w, .ref t, .ref l, .ref hi], oc k 0 [.ref ka, vi ((len : Nat) : Int), vi pl], ai cI ka 800 f, oc t 0 [.ref ta, vi ((Lt : Nat) : Int), vi Pt], ai cI ta 800 F, oc l 0 [.ref la, vi ((ll : Nat) : Int), vi pll], ai cI la 800 fl1, oc hi 0 [.ref ha, vi ((lh : Nat) : Int), vi ph], ai cI ha 800 fh]) (by decide) rfl ?_
        refine qv_zret (b := true) C hR ?_ dq_Tru_holdsWith_87 (by decide) (by decide)
        have hu1 := b2_f h30
        have he1 := b2_t h61
        refine ⟨true, Lt, Pt, F, rfl, ?_, c1, rfl⟩
        unfold H1 Cs at *
        rw [← hup, hu1, he1]
        simp only [if_true, if_false, Bool.false_eq_true, false_iff, true_iff]
        omega
  · skip
    refine qv_aload_n C rfl dq_Tru_holdsWith_33 ?_
    refine qv_get C fl_Tru_36 0 rfl rfl dq_Tru_holdsWith_34 ?_
    refine qv_aload_n C rfl dq_Tru_holdsWith_37 ?_
    refine qv_get C fl_Tru_30 0 rfl rfl dq_Tru_holdsWith_38 ?_
    refine qc_vI (wr := [oc x 3 [.ref k, vi (b2 mi), vi ((zr : Nat) : Int), vi pt, .ref g, .ref w, .ref t, .ref l, .ref hi], oc l 0 [.ref la, vi ((ll : Nat) : Int), vi pll], ai cI la 800 fl1, oc k 0 [.ref ka, vi ((len : Nat) : Int), vi pl], ai cI ka 800 f]) (st := []) C cl_Tru_166 cd_Dec_against (c_Dec_against cI cJ hi ha t ta lh Lt ph Pt fh F (Kd_nrm hkh) c2 hh0 c3 hlh (by omega) hfh c1 (by omega) (by omega) (by omega) (by omega)) (Xok_t K) Xbl_t [3, 4, 7, 8] [0, 1, 2, 5, 6] rfl rfl (by decide) (by decide) (by decide) 0 rfl rfl rfl rfl rfl (Nat.le_of_ble_eq_true rfl) (by decide) (by decide) dq_Tru_holdsWith_41 (fun z u hu => ?_)
    obtain ⟨hC, hzr, rfl⟩ := hu
    rw [hT] at hC
    show V K 5 [oc x 3 [.ref k, vi (b2 mi), vi ((zr : Nat) : Int), vi pt, .ref g, .ref w, .ref t, .ref l, .ref hi], oc l 0 [.ref la, vi ((ll : Nat) : Int), vi pll], ai cI la 800 fl1, oc k 0 [.ref ka, vi ((len : Nat) : Int), vi pl], ai cI ka 800 f, oc hi 0 [.ref ha, vi ((lh : Nat) : Int), vi ph], ai cI ha 800 fh, oc t 0 [.ref ta, vi ((Lt : Nat) : Int), vi Pt], ai cI ta 800 F] 0 0 44 [(3, vi (b2 up)), (0, .ref x), (1, vi ((n : Nat) : Int)), (2, vi (b2 ev))] [vi z]
    refine qv_goto C (tgt := 58) (by decide) dq_Tru_holdsWith_44 ?_
    refine qv_istore C (lv' := [(4, vi z), (3, vi (b2 up)), (0, .ref x), (1, vi ((n : Nat) : Int)), (2, vi (b2 ev))]) (by decide) rfl dq_Tru_holdsWith_58 ?_
    refine qv_iload_n C rfl dq_Tru_holdsWith_60 ?_
    refine qv_ifeq C (rb_b2 ev) (tgt := 77) (by decide) dq_Tru_holdsWith_61 (fun h61 => ?_) (fun h61 => ?_)
    · skip
      refine qv_iload C rfl dq_Tru_holdsWith_77 ?_
      refine qv_ifle C (by omega) (tgt := 86) (by decide) dq_Tru_holdsWith_79 (fun h79 => ?_) (fun h79 => ?_)
      · skip
        refine qv_iconst C dq_Tru_holdsWith_86 ?_
        refine qv_ws [0, 3, 4, 7, 8, 1, 2, 5, 6] (ws' := [oc x 3 [.ref k, vi (b2 mi), vi ((zr : Nat) : Int), vi pt, .ref g, .ref w, .ref t, .ref l, .ref hi], oc k 0 [.ref ka, vi ((len : Nat) : Int), vi pl], ai cI ka 800 f, oc t 0 [.ref ta, vi ((Lt : Nat) : Int), vi Pt], ai cI ta 800 F, oc l 0 [.ref la, vi ((ll : Nat) : Int), vi pll], ai cI la 800 fl1, oc hi 0 [.ref ha, vi ((lh : Nat) : Int), vi ph], ai cI ha 800 fh]) (by decide) rfl ?_
        refine qv_zret (b := false) C hR ?_ dq_Tru_holdsWith_87 (by decide) (by decide)
        have hu1 := b2_t h30
        have he1 := b2_f h61
        refine ⟨false, Lt, Pt, F, rfl, ?_, c1, rfl⟩
        unfold H1 Cs at *
        rw [← hup, hu1, he1]
        simp only [if_true, if_false, Bool.false_eq_true, false_iff, true_iff]
        omega
      · skip
        refine qv_iconst C dq_Tru_holdsWith_82 ?_
        refine qv_goto C (tgt := 87) (by decide) dq_Tru_holdsWith_83 ?_
        refine qv_ws [0, 3, 4, 7, 8, 1, 2, 5, 6] (ws' := [oc x 3 [.ref k, vi (b2 mi), vi ((zr : Nat) : Int), vi pt, .ref g, .ref w, .ref t, .ref l, .ref hi], oc k 0 [.ref ka, vi ((len : Nat) : Int), vi pl], ai cI ka 800 f, oc t 0 [.ref ta, vi ((Lt : Nat) : Int), vi Pt], ai cI ta 800 F, oc l 0 [.ref la, vi ((ll : Nat) : Int), vi pll], ai cI la 800 fl1, oc hi 0 [.ref ha, vi ((lh : Nat) : Int), vi ph], ai cI ha 800 fh]) (by decide) rfl ?_
        refine qv_zret (b := true) C hR ?_ dq_Tru_holdsWith_87 (by decide) (by decide)
        have hu1 := b2_t h30
        have he1 := b2_f h61
        refine ⟨true, Lt, Pt, F, rfl, ?_, c1, rfl⟩
        unfold H1 Cs at *
        rw [← hup, hu1, he1]
        simp only [if_true, if_false, Bool.false_eq_true, false_iff, true_iff]
        omega
    · skip
      refine qv_iload C rfl dq_Tru_holdsWith_64 ?_
      refine qv_iflt C (by omega) (tgt := 73) (by decide) dq_Tru_holdsWith_66 (fun h66 => ?_) (fun h66 => ?_)
      · skip
        refine qv_iconst C dq_Tru_holdsWith_73 ?_
        refine qv_goto C (tgt := 87) (by decide) dq_Tru_holdsWith_74 ?_
        refine qv_ws [0, 3, 4, 7, 8, 1, 2, 5, 6] (ws' := [oc x 3 [.ref k, vi (b2 mi), vi ((zr : Nat) : Int), vi pt, .ref g, .ref w, .ref t, .ref l, .ref hi], oc k 0 [.ref ka, vi ((len : Nat) : Int), vi pl], ai cI ka 800 f, oc t 0 [.ref ta, vi ((Lt : Nat) : Int), vi Pt], ai cI ta 800 F, oc l 0 [.ref la, vi ((ll : Nat) : Int), vi pll], ai cI la 800 fl1, oc hi 0 [.ref ha, vi ((lh : Nat) : Int), vi ph], ai cI ha 800 fh]) (by decide) rfl ?_
        refine qv_zret (b := false) C hR ?_ dq_Tru_holdsWith_87 (by decide) (by decide)
        have hu1 := b2_t h30
        have he1 := b2_t h61
        refine ⟨false, Lt, Pt, F, rfl, ?_, c1, rfl⟩
        unfold H1 Cs at *
        rw [← hup, hu1, he1]
        simp only [if_true, if_false, Bool.false_eq_true, false_iff, true_iff]
        omega
      · skip
        refine qv_iconst C dq_Tru_holdsWith_69 ?_
        refine qv_goto C (tgt := 87) (by decide) dq_Tru_holdsWith_70 ?_
        refine qv_ws [0, 3, 4, 7, 8, 1, 2, 5, 6] (ws' := [oc x 3 [.ref k, vi (b2 mi), vi ((zr : Nat) : Int), vi pt, .ref g, .ref w, .ref t, .ref l, .ref hi], oc k 0 [.ref ka, vi ((len : Nat) : Int), vi pl], ai cI ka 800 f, oc t 0 [.ref ta, vi ((Lt : Nat) : Int), vi Pt], ai cI ta 800 F, oc l 0 [.ref la, vi ((ll : Nat) : Int), vi pll], ai cI la 800 fl1, oc hi 0 [.ref ha, vi ((lh : Nat) : Int), vi ph], ai cI ha 800 fh]) (by decide) rfl ?_
        refine qv_zret (b := true) C hR ?_ dq_Tru_holdsWith_87 (by decide) (by decide)
        have hu1 := b2_t h30
        have he1 := b2_t h61
        refine ⟨true, Lt, Pt, F, rfl, ?_, c1, rfl⟩
        unfold H1 Cs at *
        rw [← hup, hu1, he1]
        simp only [if_true, if_false, Bool.false_eq_true, false_iff, true_iff]
        omega

theorem c_Tru_leastDigitsFor (cI cJ : ClassId) (x k g w t l hi : Nat) (mi : Bool) (zr : Nat) (pt : Int) (ka len : Nat) (pl : Int) (f : Nat → Nat) (ta lt : Nat) (pt2 : Int) (ft : Nat → Nat) (b fi en : Nat) (R : Nat → Nat) (la ll : Nat) (pll : Int) (fl1 : Nat → Nat) (ha lh : Nat) (ph : Int) (fh : Nat → Nat) (r : Nat) (hr0 : 0 < r) (hr : r < INF) (hK : Kd f len pl) (h0 : 0 < len) (hp1 : -330 ≤ pl) (hp2 : pl ≤ 310) (hft : ∀ i, ft i ≤ 9) (hfl : ∀ i, fl1 i ≤ 9) (hfh : ∀ i, fh i ≤ 9) : MtI cI cJ ky_Tru_leastDigitsFor kb_Tru_leastDigitsFor 5 .int rm_Tru_leastDigitsFor Xt [.ref x, vj ((r : Nat) : Int)] [oc x 3 [.ref k, vi (b2 mi), vi ((zr : Nat) : Int), vi pt, .ref g, .ref w, .ref t, .ref l, .ref hi], oc k 0 [.ref ka, vi ((len : Nat) : Int), vi pl], ai cI ka 800 f, oc g 1 [.ref b, vi ((fi : Nat) : Int), vi ((en : Nat) : Int)], aj cJ b 160 R, oc t 0 [.ref ta, vi ((lt : Nat) : Int), vi pt2], ai cI ta 800 ft, oc l 0 [.ref la, vi ((ll : Nat) : Int), vi pll], ai cI la 800 fl1, oc hi 0 [.ref ha, vi ((lh : Nat) : Int), vi ph], ai cI ha 800 fh] (fun z u => ∃ (n : Nat) (L H : Nat) (lt2 : Nat) (pt3 : Int) (ft2 : Nat → Nat) (fi2 en2 : Nat) (R2 : Nat → Nat) (ll2 : Nat) (pll2 : Int) (fl2 : Nat → Nat) (lh2 : Nat) (ph2 : Int) (fh2 : Nat → Nat), z = ((n : Nat) : Int) ∧ 0 < n ∧ n ≤ len ∧ L * 2 ^ 1075 = md (r - 1) * 10 ^ 1200 ∧ H * 2 ^ 1075 = md r * 10 ^ 1200 ∧ (∀ m, 0 < m → m < n → ¬ H1 f len pl L H (decide (r % 2 = 0)) m) ∧ (n < len → H1 f len pl L H (decide (r % 2 = 0)) n) ∧ (∀ i, ft2 i ≤ 9) ∧ (∀ i, fl2 i ≤ 9) ∧ (∀ i, fh2 i ≤ 9) ∧ u = xo x k g w t l hi mi zr pt :: (dw cI k ka len pl f ++ gw cJ g b fi2 en2 R2 ++ dw cI t ta lt2 pt3 ft2 ++ dw cI l la ll2 pll2 fl2 ++ dw cI hi ha lh2 ph2 fh2)) := by
  refine MtI_in (by decide) (Nat.le_of_ble_eq_true rfl) (fun K C hR hX hN => ?_)
  show V K 5 [oc x 3 [.ref k, vi (b2 mi), vi ((zr : Nat) : Int), vi pt, .ref g, .ref w, .ref t, .ref l, .ref hi], oc k 0 [.ref ka, vi ((len : Nat) : Int), vi pl], ai cI ka 800 f, oc g 1 [.ref b, vi ((fi : Nat) : Int), vi ((en : Nat) : Int)], aj cJ b 160 R, oc t 0 [.ref ta, vi ((lt : Nat) : Int), vi pt2], ai cI ta 800 ft, oc l 0 [.ref la, vi ((ll : Nat) : Int), vi pll], ai cI la 800 fl1, oc hi 0 [.ref ha, vi ((lh : Nat) : Int), vi ph], ai cI ha 800 fh] 0 0 0 [(0, .ref x), (1, vj ((r : Nat) : Int))] []
  have hINF : INF = 9218868437227405312 := rfl
  obtain ⟨ev, hev⟩ : ∃ ev, ev = decide (r % 2 = 0) := ⟨_, rfl⟩
  have hl8 := hK.2.1
  have loop : ∀ (fi3 en3 : Nat) (R3 : Nat → Nat) (ll2 : Nat) (pll2 : Int) (fl2 : Nat → Nat) (lh2 : Nat) (ph2 : Int) (fh2 : Nat → Nat), Mid (r - 1) fl2 ll2 pll2 → Mid r fh2 lh2 ph2 → ∀ c n (lt : Nat) (pt2 : Int) (ft : Nat → Nat), n + c = len → 0 < n → (∀ i, ft i ≤ 9) → (∀ m, 0 < m → m < n → ¬ H1 f len pl (sv 1200 fl2 ll2 pll2) (sv 1200 fh2 lh2 ph2) ev m) → V K 5 [oc x 3 [.ref k, vi (b2 mi), vi ((zr : Nat) : Int), vi pt, .ref g, .ref w, .ref t, .ref l, .ref hi], oc k 0 [.ref ka, vi ((len : Nat) : Int), vi pl], ai cI ka 800 f, oc g 1 [.ref b, vi ((fi3 : Nat) : Int), vi ((en3 : Nat) : Int)], aj cJ b 160 R3, oc t 0 [.ref ta, vi ((lt : Nat) : Int), vi pt2], ai cI ta 800 ft, oc l 0 [.ref la, vi ((ll2 : Nat) : Int), vi pll2], ai cI la 800 fl2, oc hi 0 [.ref ha, vi ((lh2 : Nat) : Int), vi ph2], ai cI ha 800 fh2] 0 0 37 [(0, .ref x), (1, vj ((r : Nat) : Int)), (3, vi (b2 ev)), (4, vi ((n : Nat) : Int))] [] := by
    intro fi3 en3 R3 ll2 pll2 fl2 lh2 ph2 fh2 hML hMH c
    obtain ⟨a1, a2, a3, a4, a5, a6⟩ := id hML
    obtain ⟨e1, e2, e3, e4, e5, e6⟩ := id hMH
    induction c with
    | zero =>
      intro n lt pt2 ft hn hn0 hft hno
      refine qv_iload C rfl dq_Tru_leastDigitsFor_37 ?_
      refine qv_aload_n C rfl dq_Tru_leastDigitsFor_39 ?_
      refine qv_get C fl_Tru_12 0 rfl rfl dq_Tru_leastDigitsFor_40 ?_
      refine qv_get C fl_Tru_69 1 rfl rfl dq_Tru_leastDigitsFor_43 ?_
      refine qv_icge C (by omega) (by omega) (tgt := 65) (by decide) dq_Tru_leastDigitsFor_46 (fun h46 => ?_) (fun h46 => ?_)
      · skip
        refine qv_iload C rfl dq_Tru_leastDigitsFor_65 ?_
        refine qv_iret C hR ?_ dq_Tru_leastDigitsFor_67 (by decide) (by decide)
        exact ⟨n, sv 1200 fl2 ll2 pll2, sv 1200 fh2 lh2 ph2, lt, pt2, ft, fi3, en3, R3, ll2, pll2, fl2, lh2, ph2, fh2, rfl, by omega, by omega, a6, e6, by rw [← hev]; exact hno, fun q => by omega, hft, a1.1, e1.1, rfl⟩
      · exfalso; omega
    | succ c ih =>
      intro n lt pt2 ft hn hn0 hft hno
      refine qv_iload C rfl dq_Tru_leastDigitsFor_37 ?_
      refine qv_aload_n C rfl dq_Tru_leastDigitsFor_39 ?_
      refine qv_get C fl_Tru_12 0 rfl rfl dq_Tru_leastDigitsFor_40 ?_
      refine qv_get C fl_Tru_69 1 rfl rfl dq_Tru_leastDigitsFor_43 ?_
      refine qv_icge C (by omega) (by omega) (tgt := 65) (by decide) dq_Tru_leastDigitsFor_46 (fun h46 => ?_) (fun h46 => ?_)
      · exfalso; omega
      · skip
        refine qv_aload_n C rfl dq_Tru_leastDigitsFor_49 ?_
        refine qv_iload C rfl dq_Tru_leastDigitsFor_50 ?_
        refine qv_iload_n C rfl dq_Tru_leastDigitsFor_52 ?_
        refine qc_vI (wr := [oc g 1 [.ref b, vi ((fi3 : Nat) : Int), vi ((en3 : Nat) : Int)], aj cJ b 160 R3]) (st := []) C cl_Tru_151 cd_Tru_holdsWith (c_Tru_holdsWith cI cJ x k g w t l hi mi zr pt ka len pl f ta lt pt2 ft la ll2 pll2 fl2 ha lh2 ph2 fh2 n ev hK (by omega) (by omega) hp1 hp2 hft a1 e1 a2 e2 a3 a4 e3 e4 a5 e5) (Xok_t K) Xbl_t [0, 1, 2, 5, 6, 7, 8, 9, 10] [3, 4] rfl rfl (by decide) (by decide) (by decide) 0 rfl rfl rfl rfl rfl (Nat.le_of_ble_eq_true rfl) (by decide) (by decide) dq_Tru_leastDigitsFor_53 (fun z u hu => ?_)
        obtain ⟨hw, lt3, pt3, ft3, rfl, hhw, hft2, rfl⟩ := hu
        show V K 5 [oc g 1 [.ref b, vi ((fi3 : Nat) : Int), vi ((en3 : Nat) : Int)], aj cJ b 160 R3, oc x 3 [.ref k, vi (b2 mi), vi ((zr : Nat) : Int), vi pt, .ref g, .ref w, .ref t, .ref l, .ref hi], oc k 0 [.ref ka, vi ((len : Nat) : Int), vi pl], ai cI ka 800 f, oc t 0 [.ref ta, vi ((lt3 : Nat) : Int), vi pt3], ai cI ta 800 ft3, oc l 0 [.ref la, vi ((ll2 : Nat) : Int), vi pll2], ai cI la 800 fl2, oc hi 0 [.ref ha, vi ((lh2 : Nat) : Int), vi ph2], ai cI ha 800 fh2] 0 0 56 [(0, .ref x), (1, vj ((r : Nat) : Int)), (3, vi (b2 ev)), (4, vi ((n : Nat) : Int))] [vi (b2 hw)]
        refine qv_ifne C (rb_b2 hw) (tgt := 65) (by decide) dq_Tru_leastDigitsFor_56 (fun h56 => ?_) (fun h56 => ?_)
        · skip
          refine qv_iload C rfl dq_Tru_leastDigitsFor_65 ?_
          refine qv_ws [2, 3, 4, 0, 1, 5, 6, 7, 8, 9, 10] (ws' := [oc x 3 [.ref k, vi (b2 mi), vi ((zr : Nat) : Int), vi pt, .ref g, .ref w, .ref t, .ref l, .ref hi], oc k 0 [.ref ka, vi ((len : Nat) : Int), vi pl], ai cI ka 800 f, oc g 1 [.ref b, vi ((fi3 : Nat) : Int), vi ((en3 : Nat) : Int)], aj cJ b 160 R3, oc t 0 [.ref ta, vi ((lt3 : Nat) : Int), vi pt3], ai cI ta 800 ft3, oc l 0 [.ref la, vi ((ll2 : Nat) : Int), vi pll2], ai cI la 800 fl2, oc hi 0 [.ref ha, vi ((lh2 : Nat) : Int), vi ph2], ai cI ha 800 fh2]) (by decide) rfl ?_
          refine qv_iret C hR ?_ dq_Tru_leastDigitsFor_67 (by decide) (by decide)
          exact ⟨n, sv 1200 fl2 ll2 pll2, sv 1200 fh2 lh2 ph2, lt3, pt3, ft3, fi3, en3, R3, ll2, pll2, fl2, lh2, ph2, fh2, rfl, by omega, by omega, a6, e6, by rw [← hev]; exact hno, fun _ => by rw [← hev]; exact hhw.mp (b2_t h56), hft2, a1.1, e1.1, rfl⟩
        · skip
          refine qv_iinc C (j := 3) (lv' := [(4, vi (((n + 1) : Nat) : Int)), (0, .ref x), (1, vj ((r : Nat) : Int)), (3, vi (b2 ev))]) (by omega) rfl (by decide) rfl dq_Tru_leastDigitsFor_59 ?_
          refine qv_goto C (tgt := 37) (by decide) dq_Tru_leastDigitsFor_62 ?_
          refine qv_ws [2, 3, 4, 0, 1, 5, 6, 7, 8, 9, 10] (ws' := [oc x 3 [.ref k, vi (b2 mi), vi ((zr : Nat) : Int), vi pt, .ref g, .ref w, .ref t, .ref l, .ref hi], oc k 0 [.ref ka, vi ((len : Nat) : Int), vi pl], ai cI ka 800 f, oc g 1 [.ref b, vi ((fi3 : Nat) : Int), vi ((en3 : Nat) : Int)], aj cJ b 160 R3, oc t 0 [.ref ta, vi ((lt3 : Nat) : Int), vi pt3], ai cI ta 800 ft3, oc l 0 [.ref la, vi ((ll2 : Nat) : Int), vi pll2], ai cI la 800 fl2, oc hi 0 [.ref ha, vi ((lh2 : Nat) : Int), vi ph2], ai cI ha 800 fh2]) (by decide) rfl ?_
          refine qv_lv [1, 2, 3, 0] (lv' := [(0, .ref x), (1, vj ((r : Nat) : Int)), (3, vi (b2 ev)), (4, vi (((n + 1) : Nat) : Int))]) rfl ?_
          have hf9 := b2_f h56
          exact ih (n + 1) lt3 pt3 ft3 (by omega) (by omega) hft2 (fun m q1 q2 => by
            by_cases q : m = n
            · rw [q]; intro q3; rw [hhw.mpr q3] at hf9; cases hf9
            · exact hno m q1 (by omega))
  refine qv_aload_n C rfl dq_Tru_leastDigitsFor_0 ?_
  refine qv_lload_n C rfl dq_Tru_leastDigitsFor_1 ?_
  refine qv_lconst C (z := 1) (by decide) dq_Tru_leastDigitsFor_2 ?_
  refine qv_lsub C (r := (((r - 1) : Nat) : Int)) (by omega) dq_Tru_leastDigitsFor_3 ?_
  refine qv_aload_n C rfl dq_Tru_leastDigitsFor_4 ?_
  refine qv_get C fl_Tru_33 0 rfl rfl dq_Tru_leastDigitsFor_5 ?_
  refine qc_vV (wr := [oc k 0 [.ref ka, vi ((len : Nat) : Int), vi pl], ai cI ka 800 f, oc t 0 [.ref ta, vi ((lt : Nat) : Int), vi pt2], ai cI ta 800 ft, oc hi 0 [.ref ha, vi ((lh : Nat) : Int), vi ph], ai cI ha 800 fh]) (st := []) C cl_Tru_147 cd_Tru_spellMiddleAbove (c_Tru_spellMiddleAbove cI cJ x k g w t l hi mi zr pt b fi en R l la ll pll fl1 hfl (r - 1) (by omega)) (Xok_t K) Xbl_t [0, 3, 4, 7, 8] [1, 2, 5, 6, 9, 10] rfl rfl (by decide) (by decide) (by decide) 0 rfl rfl rfl rfl rfl (Nat.le_of_ble_eq_true rfl) (by decide) (by decide) dq_Tru_leastDigitsFor_8 (fun u hu => ?_)
  obtain ⟨R2, fi2, en2, ll2, pll2, fl2, rfl, hS1⟩ := hu
  show V K 5 [oc k 0 [.ref ka, vi ((len : Nat) : Int), vi pl], ai cI ka 800 f, oc t 0 [.ref ta, vi ((lt : Nat) : Int), vi pt2], ai cI ta 800 ft, oc hi 0 [.ref ha, vi ((lh : Nat) : Int), vi ph], ai cI ha 800 fh, oc x 3 [.ref k, vi (b2 mi), vi ((zr : Nat) : Int), vi pt, .ref g, .ref w, .ref t, .ref l, .ref hi], oc g 1 [.ref b, vi ((fi2 : Nat) : Int), vi ((en2 : Nat) : Int)], aj cJ b 160 R2, oc l 0 [.ref la, vi ((ll2 : Nat) : Int), vi pll2], ai cI la 800 fl2] 0 0 11 [(0, .ref x), (1, vj ((r : Nat) : Int))] []
  refine qv_aload_n C rfl dq_Tru_leastDigitsFor_11 ?_
  refine qv_lload_n C rfl dq_Tru_leastDigitsFor_12 ?_
  refine qv_aload_n C rfl dq_Tru_leastDigitsFor_13 ?_
  refine qv_get C fl_Tru_36 6 rfl rfl dq_Tru_leastDigitsFor_14 ?_
  refine qc_vV (wr := [oc k 0 [.ref ka, vi ((len : Nat) : Int), vi pl], ai cI ka 800 f, oc t 0 [.ref ta, vi ((lt : Nat) : Int), vi pt2], ai cI ta 800 ft, oc l 0 [.ref la, vi ((ll2 : Nat) : Int), vi pll2], ai cI la 800 fl2]) (st := []) C cl_Tru_147 cd_Tru_spellMiddleAbove (c_Tru_spellMiddleAbove cI cJ x k g w t l hi mi zr pt b fi2 en2 R2 hi ha lh ph fh hfh r (by omega)) (Xok_t K) Xbl_t [6, 7, 8, 4, 5] [0, 1, 2, 3, 9, 10] rfl rfl (by decide) (by decide) (by decide) 0 rfl rfl rfl rfl rfl (Nat.le_of_ble_eq_true rfl) (by decide) (by decide) dq_Tru_leastDigitsFor_17 (fun u hu => ?_)
  obtain ⟨R3, fi3, en3, lh2, ph2, fh2, rfl, hS2⟩ := hu
  show V K 5 [oc k 0 [.ref ka, vi ((len : Nat) : Int), vi pl], ai cI ka 800 f, oc t 0 [.ref ta, vi ((lt : Nat) : Int), vi pt2], ai cI ta 800 ft, oc l 0 [.ref la, vi ((ll2 : Nat) : Int), vi pll2], ai cI la 800 fl2, oc x 3 [.ref k, vi (b2 mi), vi ((zr : Nat) : Int), vi pt, .ref g, .ref w, .ref t, .ref l, .ref hi], oc g 1 [.ref b, vi ((fi3 : Nat) : Int), vi ((en3 : Nat) : Int)], aj cJ b 160 R3, oc hi 0 [.ref ha, vi ((lh2 : Nat) : Int), vi ph2], ai cI ha 800 fh2] 0 0 20 [(0, .ref x), (1, vj ((r : Nat) : Int))] []
  refine qv_lload_n C rfl dq_Tru_leastDigitsFor_20 ?_
  refine qv_lconst C (z := 1) (by decide) dq_Tru_leastDigitsFor_21 ?_
  refine qv_land C (r := (((r % 2) : Nat) : Int)) (zj_and (a := r) (b := 1) (by omega)) dq_Tru_leastDigitsFor_22 ?_
  refine qv_lconst C (z := 0) (by decide) dq_Tru_leastDigitsFor_23 ?_
  refine qv_lcne C (by omega) (by omega) dq_Tru_leastDigitsFor_24 (tgt := 32) (by decide) dq_Tru_leastDigitsFor_25 (fun h24 => ?_) (fun h24 => ?_)
  · skip
    refine qv_iconst C dq_Tru_leastDigitsFor_32 ?_
    refine qv_ti (r := b2 ev) (by rw [hev, decide_eq_false (by omega)]; rfl) ?_
    refine qv_istore_n C (lv' := [(3, vi (b2 ev)), (0, .ref x), (1, vj ((r : Nat) : Int))]) (by decide) rfl dq_Tru_leastDigitsFor_33 ?_
    refine qv_iconst C dq_Tru_leastDigitsFor_34 ?_
    refine qv_istore C (lv' := [(4, vi 1), (3, vi (b2 ev)), (0, .ref x), (1, vj ((r : Nat) : Int))]) (by decide) rfl dq_Tru_leastDigitsFor_35 ?_
    refine qv_ws [6, 0, 1, 7, 8, 2, 3, 4, 5, 9, 10] (ws' := [oc x 3 [.ref k, vi (b2 mi), vi ((zr : Nat) : Int), vi pt, .ref g, .ref w, .ref t, .ref l, .ref hi], oc k 0 [.ref ka, vi ((len : Nat) : Int), vi pl], ai cI ka 800 f, oc g 1 [.ref b, vi ((fi3 : Nat) : Int), vi ((en3 : Nat) : Int)], aj cJ b 160 R3, oc t 0 [.ref ta, vi ((lt : Nat) : Int), vi pt2], ai cI ta 800 ft, oc l 0 [.ref la, vi ((ll2 : Nat) : Int), vi pll2], ai cI la 800 fl2, oc hi 0 [.ref ha, vi ((lh2 : Nat) : Int), vi ph2], ai cI ha 800 fh2]) (by decide) rfl ?_
    refine qv_lv [2, 3, 1, 0] (lv' := [(0, .ref x), (1, vj ((r : Nat) : Int)), (3, vi (b2 ev)), (4, vi 1)]) rfl ?_
    exact loop fi3 en3 R3 ll2 pll2 fl2 lh2 ph2 fh2 (Mid_of hS1) (Mid_of hS2) (len - 1) 1 lt pt2 ft (by omega) (by omega) hft (fun m q1 q2 => by omega)
  · skip
    refine qv_iconst C dq_Tru_leastDigitsFor_28 ?_
    refine qv_goto C (tgt := 33) (by decide) dq_Tru_leastDigitsFor_29 ?_
    refine qv_ti (r := b2 ev) (by rw [hev, decide_eq_true (by omega)]; rfl) ?_
    refine qv_istore_n C (lv' := [(3, vi (b2 ev)), (0, .ref x), (1, vj ((r : Nat) : Int))]) (by decide) rfl dq_Tru_leastDigitsFor_33 ?_
    refine qv_iconst C dq_Tru_leastDigitsFor_34 ?_
    refine qv_istore C (lv' := [(4, vi 1), (3, vi (b2 ev)), (0, .ref x), (1, vj ((r : Nat) : Int))]) (by decide) rfl dq_Tru_leastDigitsFor_35 ?_
    refine qv_ws [6, 0, 1, 7, 8, 2, 3, 4, 5, 9, 10] (ws' := [oc x 3 [.ref k, vi (b2 mi), vi ((zr : Nat) : Int), vi pt, .ref g, .ref w, .ref t, .ref l, .ref hi], oc k 0 [.ref ka, vi ((len : Nat) : Int), vi pl], ai cI ka 800 f, oc g 1 [.ref b, vi ((fi3 : Nat) : Int), vi ((en3 : Nat) : Int)], aj cJ b 160 R3, oc t 0 [.ref ta, vi ((lt : Nat) : Int), vi pt2], ai cI ta 800 ft, oc l 0 [.ref la, vi ((ll2 : Nat) : Int), vi pll2], ai cI la 800 fl2, oc hi 0 [.ref ha, vi ((lh2 : Nat) : Int), vi ph2], ai cI ha 800 fh2]) (by decide) rfl ?_
    refine qv_lv [2, 3, 1, 0] (lv' := [(0, .ref x), (1, vj ((r : Nat) : Int)), (3, vi (b2 ev)), (4, vi 1)]) rfl ?_
    exact loop fi3 en3 R3 ll2 pll2 fl2 lh2 ph2 fh2 (Mid_of hS1) (Mid_of hS2) (len - 1) 1 lt pt2 ft (by omega) (by omega) hft (fun m q1 q2 => by omega)

