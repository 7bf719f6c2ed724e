theorem c_Tru_holdsWith (cI cJ : ClassId) (x k g w t l hi : Nat) (mi : Bool) (zr : Nat) (pt : Int) (ka len : Nat) (pl : Int) (f : Nat → Nat) (ta lt : Nat) (pt2 : Int) (ft : Nat → Nat) (la ll : Nat) (pll : Int) (fl1 : Nat → Nat) (ha lh : Nat) (ph : Int) (fh : Nat → Nat) (n : Nat) (ev : Bool) (hK : Kd f len pl) (hn1 : 0 < n) (hn2 : n < len) (hp1 : -330 ≤ pl) (hp2 : pl ≤ 310) (hft : ∀ i, ft i ≤ 9) (hkl : Kd fl1 ll pll) (hkh : Kd fh lh ph) (hl0 : 0 < ll) (hh0 : 0 < lh) (hpl1 : -1125 ≤ pll) (hpl2 : pll ≤ 315) (hph1 : -1125 ≤ ph) (hph2 : ph ≤ 315) (hql : (ll : Int) ≤ pll + 1125) (hqh : (lh : Int) ≤ ph + 1125) : MtI cI cJ ky_Tru_holdsWith kb_Tru_holdsWith 5 .boolean rm_Tru_holdsWith Xt [.ref x, vi ((n : Nat) : Int), vi (b2 ev)] [oc x 3 [.ref k, vi (b2 mi), vi ((zr : Nat) : Int), vi pt, .ref g, .ref w, .ref t, .ref l, .ref hi], oc k 0 [.ref ka, vi ((len : Nat) : Int), vi pl], ai cI ka 800 f, oc t 0 [.ref ta, vi ((lt : Nat) : Int), vi pt2], ai cI ta 800 ft, oc l 0 [.ref la, vi ((ll : Nat) : Int), vi pll], ai cI la 800 fl1, oc hi 0 [.ref ha, vi ((lh : Nat) : Int), vi ph], ai cI ha 800 fh] (fun z u => ∃ (hw : Bool) (lt2 : Nat) (pt3 : Int) (ft2 : Nat → Nat), z = b2 hw ∧ (hw = true ↔ H1 f len pl (sv 1200 fl1 ll pll) (sv 1200 fh lh ph) ev n) ∧ (∀ i, ft2 i ≤ 9) ∧ u = xo x k g w t l hi mi zr pt :: (dw cI k ka len pl f ++ dw cI t ta lt2 pt3 ft2 ++ dw cI l la ll pll fl1 ++ dw cI hi ha lh ph fh)) := by
  refine MtI_in (by decide) (Nat.le_of_ble_eq_true rfl) (fun K C hR hX hN => ?_)
  show V K 5 [oc x 3 [.ref k, vi (b2 mi), vi ((zr : Nat) : Int), vi pt, .ref g, .ref w, .ref t, .ref l, .ref hi], oc k 0 [.ref ka, vi ((len : Nat) : Int), vi pl], ai cI ka 800 f, oc t 0 [.ref ta, vi ((lt : Nat) : Int), vi pt2], ai cI ta 800 ft, oc l 0 [.ref la, vi ((ll : Nat) : Int), vi pll], ai cI la 800 fl1, oc hi 0 [.ref ha, vi ((lh : Nat) : Int), vi ph], ai cI ha 800 fh] 0 0 0 [(0, .ref x), (1, vi ((n : Nat) : Int)), (2, vi (b2 ev))] []
  obtain ⟨hf, hl, hnz, -⟩ := id hK
  obtain ⟨hfl, hll, hnl, -⟩ := id hkl
  obtain ⟨hfh, hlh, hnh, -⟩ := id hkh
  have h00 := (hnz (by omega)).1
  obtain ⟨gg, hg⟩ : ∃ gg, gg = va_cpy f ft 0 0 n := ⟨_, rfl⟩
  have hg9 : ∀ i, gg i ≤ 9 := by rw [hg]; exact cpy_9 hf hft
  have hgf : ∀ i, i < n → gg i = f i := fun i hi => by rw [hg]; exact cpy_lt hi
  have hg0 : gg 0 ≠ 0 := by rw [hgf 0 hn1]; exact h00
  obtain ⟨up, hup⟩ : ∃ up, up = gu f len n := ⟨_, rfl⟩
  obtain ⟨c1, c2, c3, c4⟩ := cut_nrm (u := up) hg9 hn1 hg0
  obtain ⟨c5, c6⟩ := cut_pl (u := up) (p := pl) hn1 hg0
  have hT : sv 1200 (if up = true then upF gg n else gg) (if up = true then upL gg n else dz gg n) (if up = true then upP gg n pl else dnP gg n pl) = Tv f len pl n := by rw [hup]; exact cut_val hgf
  obtain ⟨F, hF⟩ : ∃ F, F = (if up = true then upF gg n else gg) := ⟨_, rfl⟩
  obtain ⟨Lt, hLt⟩ : ∃ L, L = (if up = true then upL gg n else dz gg n) := ⟨_, rfl⟩
  obtain ⟨Pt, hPt⟩ : ∃ P, P = (if up = true then upP gg n pl else dnP gg n pl) := ⟨_, rfl⟩
  rw [← hF] at c1 c2 hT
  rw [← hLt] at c2 c3 c4 hT
  rw [← hPt] at c5 c6 hT
  refine qv_aload_n C rfl dq_Tru_holdsWith_0 ?_
  refine qv_get C fl_Tru_12 0 rfl rfl dq_Tru_holdsWith_1 ?_
  refine qv_iload_n C rfl dq_Tru_holdsWith_4 ?_
  refine qc_vI (wr := [oc x 3 [.ref k, vi (b2 mi), vi ((zr : Nat) : Int), vi pt, .ref g, .ref w, .ref t, .ref l, .ref hi], oc t 0 [.ref ta, vi ((lt : Nat) : Int), vi pt2], ai cI ta 800 ft, oc l 0 [.ref la, vi ((ll : Nat) : Int), vi pll], ai cI la 800 fl1, oc hi 0 [.ref ha, vi ((lh : Nat) : Int), vi ph], ai cI ha 800 fh]) (st := []) C cl_Tru_155 cd_Dec_goesUpBehind (c_Dec_goesUpBehind cI cJ k ka len pl f n hl hf hn2) (Xok_t K) Xbl_t [1, 2] [0, 3, 4, 5, 6, 7, 8] rfl rfl (by decide) (by decide) (by decide) 0 rfl rfl rfl rfl rfl (Nat.le_of_ble_eq_true rfl) (by decide) (by decide) dq_Tru_holdsWith_5 (fun z u hu => ?_)
  obtain ⟨rfl, rfl⟩ := hu
  rw [← hup]
  show V K 5 [oc x 3 [.ref k, vi (b2 mi), vi ((zr : Nat) : Int), vi pt, .ref g, .ref w, .ref t, .ref l, .ref hi], oc t 0 [.ref ta, vi ((lt : Nat) : Int), vi pt2], ai cI ta 800 ft, oc l 0 [.ref la, vi ((ll : Nat) : Int), vi pll], ai cI la 800 fl1, oc hi 0 [.ref ha, vi ((lh : Nat) : Int), vi ph], ai cI ha 800 fh, oc k 0 [.ref ka, vi ((len : Nat) : Int), vi pl], ai cI ka 800 f] 0 0 8 [(0, .ref x), (1, vi ((n : Nat) : Int)), (2, vi (b2 ev))] [vi (b2 up)]
  refine qv_istore_n C (lv' := [(3, vi (b2 up)), (0, .ref x), (1, vi ((n : Nat) : Int)), (2, vi (b2 ev))]) (by decide) rfl dq_Tru_holdsWith_8 ?_
  refine qv_aload_n C rfl dq_Tru_holdsWith_9 ?_
  refine qv_get C fl_Tru_30 0 rfl rfl dq_Tru_holdsWith_10 ?_
  refine qv_aload_n C rfl dq_Tru_holdsWith_13 ?_
  refine qv_get C fl_Tru_12 0 rfl rfl dq_Tru_holdsWith_14 ?_
  refine qv_iload_n C rfl dq_Tru_holdsWith_17 ?_
  refine qc_vV (wr := [oc x 3 [.ref k, vi (b2 mi), vi ((zr : Nat) : Int), vi pt, .ref g, .ref w, .ref t, .ref l, .ref hi], oc l 0 [.ref la, vi ((ll : Nat) : Int), vi pll], ai cI la 800 fl1, oc hi 0 [.ref ha, vi ((lh : Nat) : Int), vi ph], ai cI ha 800 fh]) (st := []) C cl_Tru_158 cd_Dec_beStartOf (c_Dec_beStartOf cI cJ t ta lt pt2 ft k ka len pl f n (by omega)) (Xok_t K) Xbl_t [1, 2, 7, 8] [0, 3, 4, 5, 6] rfl rfl (by decide) (by decide) (by decide) 0 rfl rfl rfl rfl rfl (Nat.le_of_ble_eq_true rfl) (by decide) (by decide) dq_Tru_holdsWith_18 (fun u hu => ?_)
  obtain rfl := hu
  rw [← hg]
  show V K 5 [oc x 3 [.ref k, vi (b2 mi), vi ((zr : Nat) : Int), vi pt, .ref g, .ref w, .ref t, .ref l, .ref hi], oc l 0 [.ref la, vi ((ll : Nat) : Int), vi pll], ai cI la 800 fl1, oc hi 0 [.ref ha, vi ((lh : Nat) : Int), vi ph], ai cI ha 800 fh, oc t 0 [.ref ta, vi ((n : Nat) : Int), vi pl], ai cI ta 800 gg, oc k 0 [.ref ka, vi ((len : Nat) : Int), vi pl], ai cI ka 800 f] 0 0 21 [(3, vi (b2 up)), (0, .ref x), (1, vi ((n : Nat) : Int)), (2, vi (b2 ev))] []
  refine qv_aload_n C rfl dq_Tru_holdsWith_21 ?_
  refine qv_get C fl_Tru_30 0 rfl rfl dq_Tru_holdsWith_22 ?_
  refine qv_iload_n C rfl dq_Tru_holdsWith_25 ?_
  refine qc_vV (wr := [oc x 3 [.ref k, vi (b2 mi), vi ((zr : Nat) : Int), vi pt, .ref g, .ref w, .ref t, .ref l, .ref hi], oc l 0 [.ref la, vi ((ll : Nat) : Int), vi pll], ai cI la 800 fl1, oc hi 0 [.ref ha, vi ((lh : Nat) : Int), vi ph], ai cI ha 800 fh, oc k 0 [.ref ka, vi ((len : Nat) : Int), vi pl], ai cI ka 800 f]) (st := []) C cl_Tru_162 cd_Dec_settle (c_Dec_settle cI cJ t ta n pl gg up (by omega) hg9) (Xok_t K) Xbl_t [5, 6] [0, 1, 2, 3, 4, 7, 8] rfl rfl (by decide) (by decide) (by decide) 0 rfl rfl rfl rfl rfl (Nat.le_of_ble_eq_true rfl) (by decide) (by decide) dq_Tru_holdsWith_26 (fun u hu => ?_)
  obtain rfl := hu
  rw [← hF, ← hLt, ← hPt]
  show V K 5 [oc x 3 [.ref k, vi (b2 mi), vi ((zr : Nat) : Int), vi pt, .ref g, .ref w, .ref t, .ref l, .ref hi], oc l 0 [.ref la, vi ((ll : Nat) : Int), vi pll], ai cI la 800 fl1, oc hi 0 [.ref ha, vi ((lh : Nat) : Int), vi ph], ai cI ha 800 fh, oc k 0 [.ref ka, vi ((len : Nat) : Int), vi pl], ai cI ka 800 f, oc t 0 [.ref ta, vi ((Lt : Nat) : Int), vi Pt], ai cI ta 800 F] 0 0 29 [(3, vi (b2 up)), (0, .ref x), (1, vi ((n : Nat) : Int)), (2, vi (b2 ev))] []
  refine qv_iload_n C rfl dq_Tru_holdsWith_29 ?_
  refine qv_ifeq C (rb_b2 up) (tgt := 47) (by decide) dq_Tru_holdsWith_30 (fun h30 => ?_) (fun h30 => ?_)
  · skip
    refine qv_aload_n C rfl dq_Tru_holdsWith_47 ?_
    refine qv_get C fl_Tru_30 0 rfl rfl dq_Tru_holdsWith_48 ?_
    refine qv_aload_n C rfl dq_Tru_holdsWith_51 ?_
    refine qv_get C fl_Tru_33 0 rfl rfl dq_Tru_holdsWith_52 ?_
    refine qc_vI (wr := [oc x 3 [.ref k, vi (b2 mi), vi ((zr : Nat) : Int), vi pt, .ref g, .ref w, .ref t, .ref l, .ref hi], oc hi 0 [.ref ha, vi ((lh : Nat) : Int), vi ph], ai cI ha 800 fh, oc k 0 [.ref ka, vi ((len : Nat) : Int), vi pl], ai cI ka 800 f]) (st := []) C cl_Tru_166 cd_Dec_against (c_Dec_against cI cJ t ta l la Lt ll Pt pll F fl1 c2 (Kd_nrm hkl) c3 hl0 (by omega) hll c1 hfl (by omega) (by omega) (by omega) (by omega)) (Xok_t K) Xbl_t [7, 8, 1, 2] [0, 3, 4, 5, 6] rfl rfl (by decide) (by decide) (by decide) 0 rfl rfl rfl rfl rfl (Nat.le_of_ble_eq_true rfl) (by decide) (by decide) dq_Tru_holdsWith_55 (fun z u hu => ?_)
    obtain ⟨hC, hzr, rfl⟩ := hu
    rw [hT] at hC
    show V K 5 [oc x 3 [.ref k, vi (b2 mi), vi ((zr : Nat) : Int), vi pt, .ref g, .ref w, .ref t, .ref l, .ref hi], oc hi 0 [.ref ha, vi ((lh : Nat) : Int), vi ph], ai cI ha 800 fh, oc k 0 [.ref ka, vi ((len : Nat) : Int), vi pl], ai cI ka 800 f, oc t 0 [.ref ta, vi ((Lt : Nat) : Int), vi Pt], ai cI ta 800 F, oc l 0 [.ref la, vi ((ll : Nat) : Int), vi pll], ai cI la 800 fl1] 0 0 58 [(3, vi (b2 up)), (0, .ref x), (1, vi ((n : Nat) : Int)), (2, vi (b2 ev))] [vi z]
    refine qv_istore C (lv' := [(4, vi z), (3, vi (b2 up)), (0, .ref x), (1, vi ((n : Nat) : Int)), (2, vi (b2 ev))]) (by decide) rfl dq_Tru_holdsWith_58 ?_
    refine qv_iload_n C rfl dq_Tru_holdsWith_60 ?_
    refine qv_ifeq C (rb_b2 ev) (tgt := 77) (by decide) dq_Tru_holdsWith_61 (fun h61 => ?_) (fun h61 => ?_)
    · skip
      refine qv_iload C rfl dq_Tru_holdsWith_77 ?_
      refine qv_ifle C (by omega) (tgt := 86) (by decide) dq_Tru_holdsWith_79 (fun h79 => ?_) (fun h79 => ?_)
      · skip
        refine qv_iconst C dq_Tru_holdsWith_86 ?_
        refine qv_ws [0, 3, 4, 5, 6, 7, 8, 1, 2] (ws' := [oc x 3 [.ref k, vi (b2 mi), vi ((zr : Nat) : Int), vi pt, .ref g, .ref w, .ref t, .ref l, .ref hi], oc k 0 [.ref ka, vi ((len : Nat) : Int), vi pl], ai cI ka 800 f, oc t 0 [.ref ta, vi ((Lt : Nat) : Int), vi Pt], ai cI ta 800 F, oc l 0 [.ref la, vi ((ll : Nat) : Int), vi pll], ai cI la 800 fl1, oc hi 0 [.ref ha, vi ((lh : Nat) : Int), vi ph], ai cI ha 800 fh]) (by decide) rfl ?_
        refine qv_zret (b := false) C hR ?_ dq_Tru_holdsWith_87 (by decide) (by decide)
        have hu1 := b2_f h30
        have he1 := b2_f h61
        refine ⟨false, Lt, Pt, F, rfl, ?_, c1, rfl⟩
        unfold H1 Cs at *
        rw [← hup, hu1, he1]
        simp only [if_true, if_false, Bool.false_eq_true, false_iff, true_iff]
        omega
      · skip
        refine qv_iconst C dq_Tru_holdsWith_82 ?_
        refine qv_goto C (tgt := 87) (by decide) dq_Tru_holdsWith_83 ?_
        refine qv_ws [0, 3, 4, 5, 6, 7, 8, 1, 2] (ws' := [oc x 3 [.ref k, vi (b2 mi), vi ((zr : Nat) : Int), vi pt, .ref g, .ref w, .ref t, .ref l, .ref hi], oc k 0 [.ref ka, vi ((len : Nat) : Int), vi pl], ai cI ka 800 f, oc t 0 [.ref ta, vi ((Lt : Nat) : Int), vi Pt], ai cI ta 800 F, oc l 0 [.ref la, vi ((ll : Nat) : Int), vi pll], ai cI la 800 fl1, oc hi 0 [.ref ha, vi ((lh : Nat) : Int), vi ph], ai cI ha 800 fh]) (by decide) rfl ?_
        refine qv_zret (b := true) C hR ?_ dq_Tru_holdsWith_87 (by decide) (by decide)
        have hu1 := b2_f h30
        have he1 := b2_f h61
        refine ⟨true, Lt, Pt, F, rfl, ?_, c1, rfl⟩
        unfold H1 Cs at *
        rw [← hup, hu1, he1]
        simp only [if_true, if_false, Bool.false_eq_true, false_iff, true_iff]
        omega
    · skip
      refine qv_iload C rfl dq_Tru_holdsWith_64 ?_
      refine qv_iflt C (by omega) (tgt := 73) (by decide) dq_Tru_holdsWith_66 (fun h66 => ?_) (fun h66 => ?_)
      · skip
        refine qv_iconst C dq_Tru_holdsWith_73 ?_
        refine qv_goto C (tgt := 87) (by decide) dq_Tru_holdsWith_74 ?_
        refine qv_ws [0, 3, 4, 5, 6, 7, 8, 1, 2] (ws' := [oc x 3 [.ref k, vi (b2 mi), vi ((zr : Nat) : Int), vi pt, .ref g, .ref w, .ref t, .ref l, .ref hi], oc k 0 [.ref ka, vi ((len : Nat) : Int), vi pl], ai cI ka 800 f, oc t 0 [.ref ta, vi ((Lt : Nat) : Int), vi Pt], ai cI ta 800 F, oc l 0 [.ref la, vi ((ll : Nat) : Int), vi pll], ai cI la 800 fl1, oc hi 0 [.ref ha, vi ((lh : Nat) : Int), vi ph], ai cI ha 800 fh]) (by decide) rfl ?_
        refine qv_zret (b := false) C hR ?_ dq_Tru_holdsWith_87 (by decide) (by decide)
        have hu1 := b2_f h30
        have he1 := b2_t h61
        refine ⟨false, Lt, Pt, F, rfl, ?_, c1, rfl⟩
        unfold H1 Cs at *
        rw [← hup, hu1, he1]
        simp only [if_true, if_false, Bool.false_eq_true, false_iff, true_iff]
        omega
      · skip
        refine qv_iconst C dq_Tru_holdsWith_69 ?_
        refine qv_goto C (tgt := 87) (by decide) dq_Tru_holdsWith_70 ?_
        refine qv_ws [0, 3, 4, 5, 6, 7, 8, 1, 2] (ws' := [oc x 3 [.ref k, vi (b2 mi), vi ((zr : Nat) : Int), vi pt, .ref g, .ref w, .ref t, .ref l, .ref hi], oc k 0 [.ref ka, vi ((len : Nat) : Int), vi pl], ai cI ka 800 f, oc t 0 [.ref ta, vi ((Lt : Nat) : Int), vi Pt], ai cI ta 800 F, oc l 0 [.ref la, vi ((ll : Nat) : Int), vi pll], ai cI la 800 fl1, oc hi 0 [.ref ha, vi ((lh : Nat) : Int), vi ph], ai cI ha 800 fh]) (by decide) rfl ?_
        refine qv_zret (b := true) C hR ?_ dq_Tru_holdsWith_87 (by decide) (by decide)
        have hu1 := b2_f h30
        have he1 := b2_t h61
        refine ⟨true, Lt, Pt, F, rfl, ?_, c1, rfl⟩
        unfold H1 Cs at *
        rw [← hup, hu1, he1]
        simp only [if_true, if_false, Bool.false_eq_true, false_iff, true_iff]
        omega
  · skip
    refine qv_aload_n C rfl dq_Tru_holdsWith_33 ?_
    refine qv_get C fl_Tru_36 0 rfl rfl dq_Tru_holdsWith_34 ?_
    refine qv_aload_n C rfl dq_Tru_holdsWith_37 ?_
    refine qv_get C fl_Tru_30 0 rfl rfl dq_Tru_holdsWith_38 ?_
    refine qc_vI (wr := [oc x 3 [.ref k, vi (b2 mi), vi ((zr : Nat) : Int), vi pt, .ref g, .ref w, .ref t, .ref l, .ref hi], oc l 0 [.ref la, vi ((ll : Nat) : Int), vi pll], ai cI la 800 fl1, oc k 0 [.ref ka, vi ((len : Nat) : Int), vi pl], ai cI ka 800 f]) (st := []) C cl_Tru_166 cd_Dec_against (c_Dec_against cI cJ hi ha t ta lh Lt ph Pt fh F (Kd_nrm hkh) c2 hh0 c3 hlh (by omega) hfh c1 (by omega) (by omega) (by omega) (by omega)) (Xok_t K) Xbl_t [3, 4, 7, 8] [0, 1, 2, 5, 6] rfl rfl (by decide) (by decide) (by decide) 0 rfl rfl rfl rfl rfl (Nat.le_of_ble_eq_true rfl) (by decide) (by decide) dq_Tru_holdsWith_41 (fun z u hu => ?_)
    obtain ⟨hC, hzr, rfl⟩ := hu
    rw [hT] at hC
    show V K 5 [oc x 3 [.ref k, vi (b2 mi), vi ((zr : Nat) : Int), vi pt, .ref g, .ref w, .ref t, .ref l, .ref hi], oc l 0 [.ref la, vi ((ll : Nat) : Int), vi pll], ai cI la 800 fl1, oc k 0 [.ref ka, vi ((len : Nat) : Int), vi pl], ai cI ka 800 f, oc hi 0 [.ref ha, vi ((lh : Nat) : Int), vi ph], ai cI ha 800 fh, oc t 0 [.ref ta, vi ((Lt : Nat) : Int), vi Pt], ai cI ta 800 F] 0 0 44 [(3, vi (b2 up)), (0, .ref x), (1, vi ((n : Nat) : Int)), (2, vi (b2 ev))] [vi z]
    refine qv_goto C (tgt := 58) (by decide) dq_Tru_holdsWith_44 ?_
    refine qv_istore C (lv' := [(4, vi z), (3, vi (b2 up)), (0, .ref x), (1, vi ((n : Nat) : Int)), (2, vi (b2 ev))]) (by decide) rfl dq_Tru_holdsWith_58 ?_
    refine qv_iload_n C rfl dq_Tru_holdsWith_60 ?_
    refine qv_ifeq C (rb_b2 ev) (tgt := 77) (by decide) dq_Tru_holdsWith_61 (fun h61 => ?_) (fun h61 => ?_)
    · skip
      refine qv_iload C rfl dq_Tru_holdsWith_77 ?_
      refine qv_ifle C (by omega) (tgt := 86) (by decide) dq_Tru_holdsWith_79 (fun h79 => ?_) (fun h79 => ?_)
      · skip
        refine qv_iconst C dq_Tru_holdsWith_86 ?_
        refine qv_ws [0, 3, 4, 7, 8, 1, 2, 5, 6] (ws' := [oc x 3 [.ref k, vi (b2 mi), vi ((zr : Nat) : Int), vi pt, .ref g, .ref w, .ref t, .ref l, .ref hi], oc k 0 [.ref ka, vi ((len : Nat) : Int), vi pl], ai cI ka 800 f, oc t 0 [.ref ta, vi ((Lt : Nat) : Int), vi Pt], ai cI ta 800 F, oc l 0 [.ref la, vi ((ll : Nat) : Int), vi pll], ai cI la 800 fl1, oc hi 0 [.ref ha, vi ((lh : Nat) : Int), vi ph], ai cI ha 800 fh]) (by decide) rfl ?_
        refine qv_zret (b := false) C hR ?_ dq_Tru_holdsWith_87 (by decide) (by decide)
        have hu1 := b2_t h30
        have he1 := b2_f h61
        refine ⟨false, Lt, Pt, F, rfl, ?_, c1, rfl⟩
        unfold H1 Cs at *
        rw [← hup, hu1, he1]
        simp only [if_true, if_false, Bool.false_eq_true, false_iff, true_iff]
        omega
      · skip
        refine qv_iconst C dq_Tru_holdsWith_82 ?_
        refine qv_goto C (tgt := 87) (by decide) dq_Tru_holdsWith_83 ?_
        refine qv_ws [0, 3, 4, 7, 8, 1, 2, 5, 6] (ws' := [oc x 3 [.ref k, vi (b2 mi), vi ((zr : Nat) : Int), vi pt, .ref g, .ref w, .ref t, .ref l, .ref hi], oc k 0 [.ref ka, vi ((len : Nat) : Int), vi pl], ai cI ka 800 f, oc t 0 [.ref ta, vi ((Lt : Nat) : Int), vi Pt], ai cI ta 800 F, oc l 0 [.ref la, vi ((ll : Nat) : Int), vi pll], ai cI la 800 fl1, oc hi 0 [.ref ha, vi ((lh : Nat) : Int), vi ph], ai cI ha 800 fh]) (by decide) rfl ?_
        refine qv_zret (b := true) C hR ?_ dq_Tru_holdsWith_87 (by decide) (by decide)
        have hu1 := b2_t h30
        have he1 := b2_f h61
        refine ⟨true, Lt, Pt, F, rfl, ?_, c1, rfl⟩
        unfold H1 Cs at *
        rw [← hup, hu1, he1]
        simp only [if_true, if_false, Bool.false_eq_true, false_iff, true_iff]
        omega
    · skip
      refine qv_iload C rfl dq_Tru_holdsWith_64 ?_
      refine qv_iflt C (by omega) (tgt := 73) (by decide) dq_Tru_holdsWith_66 (fun h66 => ?_) (fun h66 => ?_)
      · skip
        refine qv_iconst C dq_Tru_holdsWith_73 ?_
        refine qv_goto C (tgt := 87) (by decide) dq_Tru_holdsWith_74 ?_
        refine qv_ws [0, 3, 4, 7, 8, 1, 2, 5, 6] (ws' := [oc x 3 [.ref k, vi (b2 mi), vi ((zr : Nat) : Int), vi pt, .ref g, .ref w, .ref t, .ref l, .ref hi], oc k 0 [.ref ka, vi ((len : Nat) : Int), vi pl], ai cI ka 800 f, oc t 0 [.ref ta, vi ((Lt : Nat) : Int), vi Pt], ai cI ta 800 F, oc l 0 [.ref la, vi ((ll : Nat) : Int), vi pll], ai cI la 800 fl1, oc hi 0 [.ref ha, vi ((lh : Nat) : Int), vi ph], ai cI ha 800 fh]) (by decide) rfl ?_
        refine qv_zret (b := false) C hR ?_ dq_Tru_holdsWith_87 (by decide) (by decide)
        have hu1 := b2_t h30
        have he1 := b2_t h61
        refine ⟨false, Lt, Pt, F, rfl, ?_, c1, rfl⟩
        unfold H1 Cs at *
        rw [← hup, hu1, he1]
        simp only [if_true, if_false, Bool.false_eq_true, false_iff, true_iff]
        omega
      · skip
        refine qv_iconst C dq_Tru_holdsWith_69 ?_
        refine qv_goto C (tgt := 87) (by decide) dq_Tru_holdsWith_70 ?_
        refine qv_ws [0, 3, 4, 7, 8, 1, 2, 5, 6] (ws' := [oc x 3 [.ref k, vi (b2 mi), vi ((zr : Nat) : Int), vi pt, .ref g, .ref w, .ref t, .ref l, .ref hi], oc k 0 [.ref ka, vi ((len : Nat) : Int), vi pl], ai cI ka 800 f, oc t 0 [.ref ta, vi ((Lt : Nat) : Int), vi Pt], ai cI ta 800 F, oc l 0 [.ref la, vi ((ll : Nat) : Int), vi pll], ai cI la 800 fl1, oc hi 0 [.ref ha, vi ((lh : Nat) : Int), vi ph], ai cI ha 800 fh]) (by decide) rfl ?_
        refine qv_zret (b := true) C hR ?_ dq_Tru_holdsWith_87 (by decide) (by decide)
        have hu1 := b2_t h30
        have he1 := b2_t h61
        refine ⟨true, Lt, Pt, F, rfl, ?_, c1, rfl⟩
        unfold H1 Cs at *
        rw [← hup, hu1, he1]
        simp only [if_true, if_false, Bool.false_eq_true, false_iff, true_iff]
        omega

