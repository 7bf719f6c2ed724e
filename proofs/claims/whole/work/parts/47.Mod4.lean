theorem c_Mod_isNothing (cI cJ : ClassId) (y dg rw bt wz lw hg : Nat) (er : Int) (mi : Bool) (nd : Nat) (pl : Int) (zr : Nat) (bh : Int) (mn : Nat) (fr fo : Int) (ls : Nat) (lp : Int) (hs : Nat) (hq : Int) (f : Nat → Nat) (b : Nat) (hf : ∀ i, f i ≤ 9) (hb : b ≤ 1200) : MtI cI cJ ky_Mod_isNothing kb_Mod_isNothing 4 .boolean rm_Mod_isNothing Xt [.ref y, vi 0, vi ((b : Nat) : Int)] [oc y 4 [vi er, vi (b2 mi), .ref dg, vi ((nd : Nat) : Int), vi pl, vi ((zr : Nat) : Int), vi bh, .ref rw, vi ((mn : Nat) : Int), vi fr, vj fo, .ref bt, .ref wz, .ref lw, .ref hg, vi ((ls : Nat) : Int), vi lp, vi ((hs : Nat) : Int), vi hq], ai cI rw 1200 f] (fun z u => ∃ e : Bool, z = b2 e ∧ (e = true ↔ dv 10 f b = 0) ∧ u = [mo y dg rw bt wz lw hg er mi nd pl zr bh mn fr fo ls lp hs hq, ai cI rw 1200 f]) := by
  refine MtI_in (by decide) (Nat.le_of_ble_eq_true rfl) (fun K C hR hX hN => ?_)
  show V K 4 [oc y 4 [vi er, vi (b2 mi), .ref dg, vi ((nd : Nat) : Int), vi pl, vi ((zr : Nat) : Int), vi bh, .ref rw, vi ((mn : Nat) : Int), vi fr, vj fo, .ref bt, .ref wz, .ref lw, .ref hg, vi ((ls : Nat) : Int), vi lp, vi ((hs : Nat) : Int), vi hq], ai cI rw 1200 f] 0 0 0 [(0, .ref y), (1, vi 0), (2, vi ((b : Nat) : Int))] []
  have loop : ∀ n i, i + n = b → (∀ j, j < i → f j = 0) → V K 4 [oc y 4 [vi er, vi (b2 mi), .ref dg, vi ((nd : Nat) : Int), vi pl, vi ((zr : Nat) : Int), vi bh, .ref rw, vi ((mn : Nat) : Int), vi fr, vj fo, .ref bt, .ref wz, .ref lw, .ref hg, vi ((ls : Nat) : Int), vi lp, vi ((hs : Nat) : Int), vi hq], ai cI rw 1200 f] 0 0 2 [(0, .ref y), (1, vi 0), (2, vi ((b : Nat) : Int)), (3, vi ((i : Nat) : Int))] [] := by
    intro n
    induction n with
    | zero =>
      intro i hi hz
      refine qv_iload_n C rfl dq_Mod_isNothing_2 ?_
      refine qv_iload_n C rfl dq_Mod_isNothing_3 ?_
      refine qv_icge C (by omega) (by omega) (tgt := 24) (by decide) dq_Mod_isNothing_4 (fun h4 => ?_) (fun h4 => ?_)
      · skip
        refine qv_iconst C dq_Mod_isNothing_24 ?_
        refine qv_zret (b := true) C hR ?_ dq_Mod_isNothing_25 (by decide) (by decide)
        exact ⟨true, rfl, ⟨fun _ => dv_z (fun j hj => hz j (by omega)), fun _ => rfl⟩, rfl⟩
      · exfalso; omega
    | succ n ih =>
      intro i hi hz
      have h9 := hf i
      refine qv_iload_n C rfl dq_Mod_isNothing_2 ?_
      refine qv_iload_n C rfl dq_Mod_isNothing_3 ?_
      refine qv_icge C (by omega) (by omega) (tgt := 24) (by decide) dq_Mod_isNothing_4 (fun h4 => ?_) (fun h4 => ?_)
      · exfalso; omega
      · skip
        refine qv_aload_n C rfl dq_Mod_isNothing_7 ?_
        refine qv_get C fl_Mod_13 0 rfl rfl dq_Mod_isNothing_8 ?_
        refine qv_iload_n C rfl dq_Mod_isNothing_11 ?_
        refine qv_iald C 1 i rfl (by omega) (by omega) (by omega) dq_Mod_isNothing_12 ?_
        refine qv_ifeq C (by omega) (tgt := 18) (by decide) dq_Mod_isNothing_13 (fun h13 => ?_) (fun h13 => ?_)
        · skip
          refine qv_iinc C (j := 3) (lv' := [(3, vi (((i + 1) : Nat) : Int)), (0, .ref y), (1, vi 0), (2, vi ((b : Nat) : Int))]) (by omega) rfl (by decide) rfl dq_Mod_isNothing_18 ?_
          refine qv_goto C (tgt := 2) (by decide) dq_Mod_isNothing_21 ?_
          refine qv_lv [1, 2, 3, 0] (lv' := [(0, .ref y), (1, vi 0), (2, vi ((b : Nat) : Int)), (3, vi (((i + 1) : Nat) : Int))]) rfl ?_
          exact ih (i + 1) (by omega) (fun j hj => by
            by_cases q : j = i
            · rw [q]; omega
            · exact hz j (by omega))
        · skip
          refine qv_iconst C dq_Mod_isNothing_16 ?_
          refine qv_zret (b := false) C hR ?_ dq_Mod_isNothing_17 (by decide) (by decide)
          exact ⟨false, rfl, ⟨fun q => (by cases q), fun q => (by
            exfalso
            have := dv_e0 (by omega) q i (by omega)
            omega)⟩, rfl⟩
  refine qv_iload_n C rfl dq_Mod_isNothing_0 ?_
  refine qv_istore_n C (lv' := [(3, vi 0), (0, .ref y), (1, vi 0), (2, vi ((b : Nat) : Int))]) (by decide) rfl dq_Mod_isNothing_1 ?_
  refine qv_lv [1, 2, 3, 0] (lv' := [(0, .ref y), (1, vi 0), (2, vi ((b : Nat) : Int)), (3, vi 0)]) rfl ?_
  exact loop b 0 (by omega) (fun j hj => by omega)

theorem c_Mod_compare (cI cJ : ClassId) (y dg rw bt wz lw hg : Nat) (er : Int) (mi : Bool) (nd : Nat) (pl : Int) (zr : Nat) (bh : Int) (mn : Nat) (fr fo : Int) (ls : Nat) (lp : Int) (hs : Nat) (hq : Int) (d x : Nat → Nat) (xa n : Nat) (at2 : Int) (hN1 : Nrm d nd) (hN2 : Nrm x n) (hd : ∀ i, d i ≤ 9) (hx : ∀ i, x i ≤ 9) (hnd : nd ≤ 800) (hn : n ≤ 1200) (hp1 : -10000 ≤ pl ∧ pl ≤ 10000) (hp2 : -10000 ≤ at2 ∧ at2 ≤ 10000) (hq1 : (nd : Int) ≤ pl + 1200) (hq2 : (n : Int) ≤ at2 + 1200) : MtI cI cJ ky_Mod_compare kb_Mod_compare 7 .int rm_Mod_compare Xt [.ref y, .ref xa, vi ((n : Nat) : Int), vi at2] [oc y 4 [vi er, vi (b2 mi), .ref dg, vi ((nd : Nat) : Int), vi pl, vi ((zr : Nat) : Int), vi bh, .ref rw, vi ((mn : Nat) : Int), vi fr, vj fo, .ref bt, .ref wz, .ref lw, .ref hg, vi ((ls : Nat) : Int), vi lp, vi ((hs : Nat) : Int), vi hq], ai cI dg 800 d, ai cI xa 1200 x] (fun z u => Cs z (sv 1200 d nd pl) (sv 1200 x n at2) ∧ (-1 ≤ z ∧ z ≤ 1) ∧ u = [mo y dg rw bt wz lw hg er mi nd pl zr bh mn fr fo ls lp hs hq, ai cI dg 800 d, ai cI xa 1200 x]) := by
  refine MtI_in (by decide) (Nat.le_of_ble_eq_true rfl) (fun K C hR hX hN => ?_)
  show V K 7 [oc y 4 [vi er, vi (b2 mi), .ref dg, vi ((nd : Nat) : Int), vi pl, vi ((zr : Nat) : Int), vi bh, .ref rw, vi ((mn : Nat) : Int), vi fr, vj fo, .ref bt, .ref wz, .ref lw, .ref hg, vi ((ls : Nat) : Int), vi lp, vi ((hs : Nat) : Int), vi hq], ai cI dg 800 d, ai cI xa 1200 x] 0 0 0 [(0, .ref y), (1, .ref xa), (2, vi ((n : Nat) : Int)), (3, vi at2)] []
  have loop : pl = at2 → ∀ k i, i + k = max nd n → (∀ j, j < i → ext0 d nd j = ext0 x n j) → V K 7 [oc y 4 [vi er, vi (b2 mi), .ref dg, vi ((nd : Nat) : Int), vi pl, vi ((zr : Nat) : Int), vi bh, .ref rw, vi ((mn : Nat) : Int), vi fr, vj fo, .ref bt, .ref wz, .ref lw, .ref hg, vi ((ls : Nat) : Int), vi lp, vi ((hs : Nat) : Int), vi hq], ai cI dg 800 d, ai cI xa 1200 x] 0 0 61 [(0, .ref y), (1, .ref xa), (2, vi ((n : Nat) : Int)), (3, vi at2), (4, vi ((i : Nat) : Int))] [] := by
    intro hpp k
    induction k with
    | zero =>
      intro i hi hs
      refine qv_iload C rfl dq_Mod_compare_61 ?_
      refine qv_aload_n C rfl dq_Mod_compare_63 ?_
      refine qv_get C fl_Mod_61 0 rfl rfl dq_Mod_compare_64 ?_
      refine qv_iclt C (by omega) (by omega) (tgt := 76) (by decide) dq_Mod_compare_67 (fun h67 => ?_) (fun h67 => ?_)
      · exfalso; omega
      · skip
        refine qv_iload C rfl dq_Mod_compare_70 ?_
        refine qv_iload_n C rfl dq_Mod_compare_72 ?_
        refine qv_icge C (by omega) (by omega) (tgt := 140) (by decide) dq_Mod_compare_73 (fun h73 => ?_) (fun h73 => ?_)
        · skip
          refine qv_iconst C dq_Mod_compare_140 ?_
          refine qv_iret C hR ?_ dq_Mod_compare_141 (by decide) (by decide)
          refine ⟨Or.inr (Or.inl ⟨rfl, ?_⟩), by omega, rfl⟩
          rw [← hpp] at hq2 ⊢
          exact sv_same (by omega) (by omega) (fun j hj => hs j (by omega))
        · exfalso; omega
    | succ k ih =>
      intro i hi hs
      have h9 := hd i
      have h8 := hx i
      refine qv_iload C rfl dq_Mod_compare_61 ?_
      refine qv_aload_n C rfl dq_Mod_compare_63 ?_
      refine qv_get C fl_Mod_61 0 rfl rfl dq_Mod_compare_64 ?_
      refine qv_iclt C (by omega) (by omega) (tgt := 76) (by decide) dq_Mod_compare_67 (fun h67 => ?_) (fun h67 => ?_)
      · skip
        refine qv_iload C rfl dq_Mod_compare_76 ?_
        refine qv_aload_n C rfl dq_Mod_compare_78 ?_
        refine qv_get C fl_Mod_61 0 rfl rfl dq_Mod_compare_79 ?_
        refine qv_icge C (by omega) (by omega) (tgt := 95) (by decide) dq_Mod_compare_82 (fun h82 => ?_) (fun h82 => ?_)
        · skip
          refine qv_iconst C dq_Mod_compare_95 ?_
          refine qv_istore C (lv' := [(5, vi 0), (0, .ref y), (1, .ref xa), (2, vi ((n : Nat) : Int)), (3, vi at2), (4, vi ((i : Nat) : Int))]) (by decide) rfl dq_Mod_compare_96 ?_
          refine qv_iload C rfl dq_Mod_compare_98 ?_
          refine qv_iload_n C rfl dq_Mod_compare_100 ?_
          refine qv_icge C (by omega) (by omega) (tgt := 111) (by decide) dq_Mod_compare_101 (fun h101 => ?_) (fun h101 => ?_)
          · skip
            refine qv_iconst C dq_Mod_compare_111 ?_
            refine qv_istore C (lv' := [(6, vi 0), (5, vi 0), (0, .ref y), (1, .ref xa), (2, vi ((n : Nat) : Int)), (3, vi at2), (4, vi ((i : Nat) : Int))]) (by decide) rfl dq_Mod_compare_112 ?_
            refine qv_iload C rfl dq_Mod_compare_114 ?_
            refine qv_iload C rfl dq_Mod_compare_116 ?_
            refine qv_iceq C (by omega) (by omega) (tgt := 134) (by decide) dq_Mod_compare_118 (fun h118 => ?_) (fun h118 => ?_)
            · skip
              refine qv_iinc C (j := 6) (lv' := [(4, vi (((i + 1) : Nat) : Int)), (6, vi 0), (5, vi 0), (0, .ref y), (1, .ref xa), (2, vi ((n : Nat) : Int)), (3, vi at2)]) (by omega) rfl (by decide) rfl dq_Mod_compare_134 ?_
              refine qv_goto C (tgt := 61) (by decide) dq_Mod_compare_137 ?_
              refine qv_lv [3, 4, 5, 6, 0] (lv' := [(0, .ref y), (1, .ref xa), (2, vi ((n : Nat) : Int)), (3, vi at2), (4, vi (((i + 1) : Nat) : Int))]) rfl ?_
              have x1 : ext0 d nd i = _ := ext0_ge (show ¬ i < nd by omega)
              have x2 : ext0 x n i = _ := ext0_ge (show ¬ i < n by omega)
              exact ih (i + 1) (by omega) (fun j hj => by
                by_cases q : j = i
                · rw [q, x1, x2] <;> omega
                · exact hs j (by omega))
            · exfalso; omega
          · skip
            refine qv_aload_n C rfl dq_Mod_compare_104 ?_
            refine qv_iload C rfl dq_Mod_compare_105 ?_
            refine qv_iald C 2 i rfl (by omega) (by omega) (by omega) dq_Mod_compare_107 ?_
            refine qv_goto C (tgt := 112) (by decide) dq_Mod_compare_108 ?_
            refine qv_istore C (lv' := [(6, vi ((x i : Nat) : Int)), (5, vi 0), (0, .ref y), (1, .ref xa), (2, vi ((n : Nat) : Int)), (3, vi at2), (4, vi ((i : Nat) : Int))]) (by decide) rfl dq_Mod_compare_112 ?_
            refine qv_iload C rfl dq_Mod_compare_114 ?_
            refine qv_iload C rfl dq_Mod_compare_116 ?_
            refine qv_iceq C (by omega) (by omega) (tgt := 134) (by decide) dq_Mod_compare_118 (fun h118 => ?_) (fun h118 => ?_)
            · skip
              refine qv_iinc C (j := 6) (lv' := [(4, vi (((i + 1) : Nat) : Int)), (6, vi ((x i : Nat) : Int)), (5, vi 0), (0, .ref y), (1, .ref xa), (2, vi ((n : Nat) : Int)), (3, vi at2)]) (by omega) rfl (by decide) rfl dq_Mod_compare_134 ?_
              refine qv_goto C (tgt := 61) (by decide) dq_Mod_compare_137 ?_
              refine qv_lv [3, 4, 5, 6, 0] (lv' := [(0, .ref y), (1, .ref xa), (2, vi ((n : Nat) : Int)), (3, vi at2), (4, vi (((i + 1) : Nat) : Int))]) rfl ?_
              have x1 : ext0 d nd i = _ := ext0_ge (show ¬ i < nd by omega)
              have x2 : ext0 x n i = _ := ext0_lt (show i < n by omega)
              exact ih (i + 1) (by omega) (fun j hj => by
                by_cases q : j = i
                · rw [q, x1, x2] <;> omega
                · exact hs j (by omega))
            · skip
              refine qv_iload C rfl dq_Mod_compare_121 ?_
              refine qv_iload C rfl dq_Mod_compare_123 ?_
              refine qv_icge C (by omega) (by omega) (tgt := 132) (by decide) dq_Mod_compare_125 (fun h125 => ?_) (fun h125 => ?_)
              · skip
                refine qv_iconst C dq_Mod_compare_132 ?_
                refine qv_iret C hR ?_ dq_Mod_compare_133 (by decide) (by decide)
                have x1 : ext0 d nd i = _ := ext0_ge (show ¬ i < nd by omega)
                have x2 : ext0 x n i = _ := ext0_lt (show i < n by omega)
                refine ⟨Or.inr (Or.inr ⟨by omega, ?_⟩), by omega, rfl⟩
                rw [← hpp] at hq2 ⊢
                exact sv_lex (k := i) (fun j _ => by have := hx j; omega) (by omega) (by omega) (by omega) (fun j hj => (hs j hj).symm) (by rw [x1, x2]; omega)
              · skip
                refine qv_iconst C dq_Mod_compare_128 ?_
                refine qv_goto C (tgt := 133) (by decide) dq_Mod_compare_129 ?_
                refine qv_iret C hR ?_ dq_Mod_compare_133 (by decide) (by decide)
                have x1 : ext0 d nd i = _ := ext0_ge (show ¬ i < nd by omega)
                have x2 : ext0 x n i = _ := ext0_lt (show i < n by omega)
                refine ⟨Or.inl ⟨by omega, ?_⟩, by omega, rfl⟩
                rw [← hpp] at hq2 ⊢
                exact sv_lex (k := i) (fun j _ => by have := hd j; omega) (by omega) (by omega) (by omega) hs (by rw [x1, x2]; omega)
        · skip
          refine qv_aload_n C rfl dq_Mod_compare_85 ?_
          refine qv_get C fl_Mod_9 0 rfl rfl dq_Mod_compare_86 ?_
          refine qv_iload C rfl dq_Mod_compare_89 ?_
          refine qv_iald C 1 i rfl (by omega) (by omega) (by omega) dq_Mod_compare_91 ?_
          refine qv_goto C (tgt := 96) (by decide) dq_Mod_compare_92 ?_
          refine qv_istore C (lv' := [(5, vi ((d i : Nat) : Int)), (0, .ref y), (1, .ref xa), (2, vi ((n : Nat) : Int)), (3, vi at2), (4, vi ((i : Nat) : Int))]) (by decide) rfl dq_Mod_compare_96 ?_
          refine qv_iload C rfl dq_Mod_compare_98 ?_
          refine qv_iload_n C rfl dq_Mod_compare_100 ?_
          refine qv_icge C (by omega) (by omega) (tgt := 111) (by decide) dq_Mod_compare_101 (fun h101 => ?_) (fun h101 => ?_)
          · skip
            refine qv_iconst C dq_Mod_compare_111 ?_
            refine qv_istore C (lv' := [(6, vi 0), (5, vi ((d i : Nat) : Int)), (0, .ref y), (1, .ref xa), (2, vi ((n : Nat) : Int)), (3, vi at2), (4, vi ((i : Nat) : Int))]) (by decide) rfl dq_Mod_compare_112 ?_
            refine qv_iload C rfl dq_Mod_compare_114 ?_
            refine qv_iload C rfl dq_Mod_compare_116 ?_
            refine qv_iceq C (by omega) (by omega) (tgt := 134) (by decide) dq_Mod_compare_118 (fun h118 => ?_) (fun h118 => ?_)
            · skip
              refine qv_iinc C (j := 6) (lv' := [(4, vi (((i + 1) : Nat) : Int)), (6, vi 0), (5, vi ((d i : Nat) : Int)), (0, .ref y), (1, .ref xa), (2, vi ((n : Nat) : Int)), (3, vi at2)]) (by omega) rfl (by decide) rfl dq_Mod_compare_134 ?_
              refine qv_goto C (tgt := 61) (by decide) dq_Mod_compare_137 ?_
              refine qv_lv [3, 4, 5, 6, 0] (lv' := [(0, .ref y), (1, .ref xa), (2, vi ((n : Nat) : Int)), (3, vi at2), (4, vi (((i + 1) : Nat) : Int))]) rfl ?_
              have x1 : ext0 d nd i = _ := ext0_lt (show i < nd by omega)
              have x2 : ext0 x n i = _ := ext0_ge (show ¬ i < n by omega)
              exact ih (i + 1) (by omega) (fun j hj => by
                by_cases q : j = i
                · rw [q, x1, x2] <;> omega
                · exact hs j (by omega))
            · skip
              refine qv_iload C rfl dq_Mod_compare_121 ?_
              refine qv_iload C rfl dq_Mod_compare_123 ?_
              refine qv_icge C (by omega) (by omega) (tgt := 132) (by decide) dq_Mod_compare_125 (fun h125 => ?_) (fun h125 => ?_)
              · skip
                refine qv_iconst C dq_Mod_compare_132 ?_
                refine qv_iret C hR ?_ dq_Mod_compare_133 (by decide) (by decide)
                have x1 : ext0 d nd i = _ := ext0_lt (show i < nd by omega)
                have x2 : ext0 x n i = _ := ext0_ge (show ¬ i < n by omega)
                refine ⟨Or.inr (Or.inr ⟨by omega, ?_⟩), by omega, rfl⟩
                rw [← hpp] at hq2 ⊢
                exact sv_lex (k := i) (fun j _ => by have := hx j; omega) (by omega) (by omega) (by omega) (fun j hj => (hs j hj).symm) (by rw [x1, x2]; omega)
              · skip
                refine qv_iconst C dq_Mod_compare_128 ?_
                refine qv_goto C (tgt := 133) (by decide) dq_Mod_compare_129 ?_
                refine qv_iret C hR ?_ dq_Mod_compare_133 (by decide) (by decide)
                have x1 : ext0 d nd i = _ := ext0_lt (show i < nd by omega)
                have x2 : ext0 x n i = _ := ext0_ge (show ¬ i < n by omega)
                refine ⟨Or.inl ⟨by omega, ?_⟩, by omega, rfl⟩
                rw [← hpp] at hq2 ⊢
                exact sv_lex (k := i) (fun j _ => by have := hd j; omega) (by omega) (by omega) (by omega) hs (by rw [x1, x2]; omega)
          · skip
            refine qv_aload_n C rfl dq_Mod_compare_104 ?_
            refine qv_iload C rfl dq_Mod_compare_105 ?_
            refine qv_iald C 2 i rfl (by omega) (by omega) (by omega) dq_Mod_compare_107 ?_
            refine qv_goto C (tgt := 112) (by decide) dq_Mod_compare_108 ?_
            refine qv_istore C (lv' := [(6, vi ((x i : Nat) : Int)), (5, vi ((d i : Nat) : Int)), (0, .ref y), (1, .ref xa), (2, vi ((n : Nat) : Int)), (3, vi at2), (4, vi ((i : Nat) : Int))]) (by decide) rfl dq_Mod_compare_112 ?_
            refine qv_iload C rfl dq_Mod_compare_114 ?_
            refine qv_iload C rfl dq_Mod_compare_116 ?_
            refine qv_iceq C (by omega) (by omega) (tgt := 134) (by decide) dq_Mod_compare_118 (fun h118 => ?_) (fun h118 => ?_)
            · skip
              refine qv_iinc C (j := 6) (lv' := [(4, vi (((i + 1) : Nat) : Int)), (6, vi ((x i : Nat) : Int)), (5, vi ((d i : Nat) : Int)), (0, .ref y), (1, .ref xa), (2, vi ((n : Nat) : Int)), (3, vi at2)]) (by omega) rfl (by decide) rfl dq_Mod_compare_134 ?_
              refine qv_goto C (tgt := 61) (by decide) dq_Mod_compare_137 ?_
              refine qv_lv [3, 4, 5, 6, 0] (lv' := [(0, .ref y), (1, .ref xa), (2, vi ((n : Nat) : Int)), (3, vi at2), (4, vi (((i + 1) : Nat) : Int))]) rfl ?_
              have x1 : ext0 d nd i = _ := ext0_lt (show i < nd by omega)
              have x2 : ext0 x n i = _ := ext0_lt (show i < n by omega)
              exact ih (i + 1) (by omega) (fun j hj => by
                by_cases q : j = i
                · rw [q, x1, x2] <;> omega
                · exact hs j (by omega))
            · skip
              refine qv_iload C rfl dq_Mod_compare_121 ?_
              refine qv_iload C rfl dq_Mod_compare_123 ?_
              refine qv_icge C (by omega) (by omega) (tgt := 132) (by decide) dq_Mod_compare_125 (fun h125 => ?_) (fun h125 => ?_)
              · skip
                refine qv_iconst C dq_Mod_compare_132 ?_
                refine qv_iret C hR ?_ dq_Mod_compare_133 (by decide) (by decide)
                have x1 : ext0 d nd i = _ := ext0_lt (show i < nd by omega)
                have x2 : ext0 x n i = _ := ext0_lt (show i < n by omega)
                refine ⟨Or.inr (Or.inr ⟨by omega, ?_⟩), by omega, rfl⟩
                rw [← hpp] at hq2 ⊢
                exact sv_lex (k := i) (fun j _ => by have := hx j; omega) (by omega) (by omega) (by omega) (fun j hj => (hs j hj).symm) (by rw [x1, x2]; omega)
              · skip
                refine qv_iconst C dq_Mod_compare_128 ?_
                refine qv_goto C (tgt := 133) (by decide) dq_Mod_compare_129 ?_
                refine qv_iret C hR ?_ dq_Mod_compare_133 (by decide) (by decide)
                have x1 : ext0 d nd i = _ := ext0_lt (show i < nd by omega)
                have x2 : ext0 x n i = _ := ext0_lt (show i < n by omega)
                refine ⟨Or.inl ⟨by omega, ?_⟩, by omega, rfl⟩
                rw [← hpp] at hq2 ⊢
                exact sv_lex (k := i) (fun j _ => by have := hd j; omega) (by omega) (by omega) (by omega) hs (by rw [x1, x2]; omega)
      · skip
        refine qv_iload C rfl dq_Mod_compare_70 ?_
        refine qv_iload_n C rfl dq_Mod_compare_72 ?_
        refine qv_icge C (by omega) (by omega) (tgt := 140) (by decide) dq_Mod_compare_73 (fun h73 => ?_) (fun h73 => ?_)
        · skip
          refine qv_iconst C dq_Mod_compare_140 ?_
          refine qv_iret C hR ?_ dq_Mod_compare_141 (by decide) (by decide)
          exfalso; omega
        · skip
          refine qv_iload C rfl dq_Mod_compare_76 ?_
          refine qv_aload_n C rfl dq_Mod_compare_78 ?_
          refine qv_get C fl_Mod_61 0 rfl rfl dq_Mod_compare_79 ?_
          refine qv_icge C (by omega) (by omega) (tgt := 95) (by decide) dq_Mod_compare_82 (fun h82 => ?_) (fun h82 => ?_)
          · skip
            refine qv_iconst C dq_Mod_compare_95 ?_
            refine qv_istore C (lv' := [(5, vi 0), (0, .ref y), (1, .ref xa), (2, vi ((n : Nat) : Int)), (3, vi at2), (4, vi ((i : Nat) : Int))]) (by decide) rfl dq_Mod_compare_96 ?_
            refine qv_iload C rfl dq_Mod_compare_98 ?_
            refine qv_iload_n C rfl dq_Mod_compare_100 ?_
            refine qv_icge C (by omega) (by omega) (tgt := 111) (by decide) dq_Mod_compare_101 (fun h101 => ?_) (fun h101 => ?_)
            · skip
              refine qv_iconst C dq_Mod_compare_111 ?_
              refine qv_istore C (lv' := [(6, vi 0), (5, vi 0), (0, .ref y), (1, .ref xa), (2, vi ((n : Nat) : Int)), (3, vi at2), (4, vi ((i : Nat) : Int))]) (by decide) rfl dq_Mod_compare_112 ?_
              refine qv_iload C rfl dq_Mod_compare_114 ?_
              refine qv_iload C rfl dq_Mod_compare_116 ?_
              refine qv_iceq C (by omega) (by omega) (tgt := 134) (by decide) dq_Mod_compare_118 (fun h118 => ?_) (fun h118 => ?_)
              · skip
                refine qv_iinc C (j := 6) (lv' := [(4, vi (((i + 1) : Nat) : Int)), (6, vi 0), (5, vi 0), (0, .ref y), (1, .ref xa), (2, vi ((n : Nat) : Int)), (3, vi at2)]) (by omega) rfl (by decide) rfl dq_Mod_compare_134 ?_
                refine qv_goto C (tgt := 61) (by decide) dq_Mod_compare_137 ?_
                refine qv_lv [3, 4, 5, 6, 0] (lv' := [(0, .ref y), (1, .ref xa), (2, vi ((n : Nat) : Int)), (3, vi at2), (4, vi (((i + 1) : Nat) : Int))]) rfl ?_
                have x1 : ext0 d nd i = _ := ext0_ge (show ¬ i < nd by omega)
                have x2 : ext0 x n i = _ := ext0_ge (show ¬ i < n by omega)
                exact ih (i + 1) (by omega) (fun j hj => by
                  by_cases q : j = i
                  · rw [q, x1, x2] <;> omega
                  · exact hs j (by omega))
              · exfalso; omega
            · skip
              refine qv_aload_n C rfl dq_Mod_compare_104 ?_
              refine qv_iload C rfl dq_Mod_compare_105 ?_
              refine qv_iald C 2 i rfl (by omega) (by omega) (by omega) dq_Mod_compare_107 ?_
              refine qv_goto C (tgt := 112) (by decide) dq_Mod_compare_108 ?_
              refine qv_istore C (lv' := [(6, vi ((x i : Nat) : Int)), (5, vi 0), (0, .ref y), (1, .ref xa), (2, vi ((n : Nat) : Int)), (3, vi at2), (4, vi ((i : Nat) : Int))]) (by decide) rfl dq_Mod_compare_112 ?_
              refine qv_iload C rfl dq_Mod_compare_114 ?_
              refine qv_iload C rfl dq_Mod_compare_116 ?_
              refine qv_iceq C (by omega) (by omega) (tgt := 134) (by decide) dq_Mod_compare_118 (fun h118 => ?_) (fun h118 => ?_)
              · skip
                refine qv_iinc C (j := 6) (lv' := [(4, vi (((i + 1) : Nat) : Int)), (6, vi ((x i : Nat) : Int)), (5, vi 0), (0, .ref y), (1, .ref xa), (2, vi ((n : Nat) : Int)), (3, vi at2)]) (by omega) rfl (by decide) rfl dq_Mod_compare_134 ?_
                refine qv_goto C (tgt := 61) (by decide) dq_Mod_compare_137 ?_
                refine qv_lv [3, 4, 5, 6, 0] (lv' := [(0, .ref y), (1, .ref xa), (2, vi ((n : Nat) : Int)), (3, vi at2), (4, vi (((i + 1) : Nat) : Int))]) rfl ?_
                have x1 : ext0 d nd i = _ := ext0_ge (show ¬ i < nd by omega)
                have x2 : ext0 x n i = _ := ext0_lt (show i < n by omega)
                exact ih (i + 1) (by omega) (fun j hj => by
                  by_cases q : j = i
                  · rw [q, x1, x2] <;> omega
                  · exact hs j (by omega))
              · skip
                refine qv_iload C rfl dq_Mod_compare_121 ?_
                refine qv_iload C rfl dq_Mod_compare_123 ?_
                refine qv_icge C (by omega) (by omega) (tgt := 132) (by decide) dq_Mod_compare_125 (fun h125 => ?_) (fun h125 => ?_)
                · skip
                  refine qv_iconst C dq_Mod_compare_132 ?_
                  refine qv_iret C hR ?_ dq_Mod_compare_133 (by decide) (by decide)
                  have x1 : ext0 d nd i = _ := ext0_ge (show ¬ i < nd by omega)
                  have x2 : ext0 x n i = _ := ext0_lt (show i < n by omega)
                  refine ⟨Or.inr (Or.inr ⟨by omega, ?_⟩), by omega, rfl⟩
                  rw [← hpp] at hq2 ⊢
                  exact sv_lex (k := i) (fun j _ => by have := hx j; omega) (by omega) (by omega) (by omega) (fun j hj => (hs j hj).symm) (by rw [x1, x2]; omega)
                · skip
                  refine qv_iconst C dq_Mod_compare_128 ?_
                  refine qv_goto C (tgt := 133) (by decide) dq_Mod_compare_129 ?_
                  refine qv_iret C hR ?_ dq_Mod_compare_133 (by decide) (by decide)
                  have x1 : ext0 d nd i = _ := ext0_ge (show ¬ i < nd by omega)
                  have x2 : ext0 x n i = _ := ext0_lt (show i < n by omega)
                  refine ⟨Or.inl ⟨by omega, ?_⟩, by omega, rfl⟩
                  rw [← hpp] at hq2 ⊢
                  exact sv_lex (k := i) (fun j _ => by have := hd j; omega) (by omega) (by omega) (by omega) hs (by rw [x1, x2]; omega)
          · skip
            refine qv_aload_n C rfl dq_Mod_compare_85 ?_
            refine qv_get C fl_Mod_9 0 rfl rfl dq_Mod_compare_86 ?_
            refine qv_iload C rfl dq_Mod_compare_89 ?_
            refine qv_iald C 1 i rfl (by omega) (by omega) (by omega) dq_Mod_compare_91 ?_
            refine qv_goto C (tgt := 96) (by decide) dq_Mod_compare_92 ?_
            refine qv_istore C (lv' := [(5, vi ((d i : Nat) : Int)), (0, .ref y), (1, .ref xa), (2, vi ((n : Nat) : Int)), (3, vi at2), (4, vi ((i : Nat) : Int))]) (by decide) rfl dq_Mod_compare_96 ?_
            refine qv_iload C rfl dq_Mod_compare_98 ?_
            refine qv_iload_n C rfl dq_Mod_compare_100 ?_
            refine qv_icge C (by omega) (by omega) (tgt := 111) (by decide) dq_Mod_compare_101 (fun h101 => ?_) (fun h101 => ?_)
            · skip
              refine qv_iconst C dq_Mod_compare_111 ?_
              refine qv_istore C (lv' := [(6, vi 0), (5, vi ((d i : Nat) : Int)), (0, .ref y), (1, .ref xa), (2, vi ((n : Nat) : Int)), (3, vi at2), (4, vi ((i : Nat) : Int))]) (by decide) rfl dq_Mod_compare_112 ?_
              refine qv_iload C rfl dq_Mod_compare_114 ?_
              refine qv_iload C rfl dq_Mod_compare_116 ?_
              refine qv_iceq C (by omega) (by omega) (tgt := 134) (by decide) dq_Mod_compare_118 (fun h118 => ?_) (fun h118 => ?_)
              · skip
                refine qv_iinc C (j := 6) (lv' := [(4, vi (((i + 1) : Nat) : Int)), (6, vi 0), (5, vi ((d i : Nat) : Int)), (0, .ref y), (1, .ref xa), (2, vi ((n : Nat) : Int)), (3, vi at2)]) (by omega) rfl (by decide) rfl dq_Mod_compare_134 ?_
                refine qv_goto C (tgt := 61) (by decide) dq_Mod_compare_137 ?_
                refine qv_lv [3, 4, 5, 6, 0] (lv' := [(0, .ref y), (1, .ref xa), (2, vi ((n : Nat) : Int)), (3, vi at2), (4, vi (((i + 1) : Nat) : Int))]) rfl ?_
                have x1 : ext0 d nd i = _ := ext0_lt (show i < nd by omega)
                have x2 : ext0 x n i = _ := ext0_ge (show ¬ i < n by omega)
                exact ih (i + 1) (by omega) (fun j hj => by
                  by_cases q : j = i
                  · rw [q, x1, x2] <;> omega
                  · exact hs j (by omega))
              · skip
                refine qv_iload C rfl dq_Mod_compare_121 ?_
                refine qv_iload C rfl dq_Mod_compare_123 ?_
                refine qv_icge C (by omega) (by omega) (tgt := 132) (by decide) dq_Mod_compare_125 (fun h125 => ?_) (fun h125 => ?_)
                · skip
                  refine qv_iconst C dq_Mod_compare_132 ?_
                  refine qv_iret C hR ?_ dq_Mod_compare_133 (by decide) (by decide)
                  have x1 : ext0 d nd i = _ := ext0_lt (show i < nd by omega)
                  have x2 : ext0 x n i = _ := ext0_ge (show ¬ i < n by omega)
                  refine ⟨Or.inr (Or.inr ⟨by omega, ?_⟩), by omega, rfl⟩
                  rw [← hpp] at hq2 ⊢
                  exact sv_lex (k := i) (fun j _ => by have := hx j; omega) (by omega) (by omega) (by omega) (fun j hj => (hs j hj).symm) (by rw [x1, x2]; omega)
                · skip
                  refine qv_iconst C dq_Mod_compare_128 ?_
                  refine qv_goto C (tgt := 133) (by decide) dq_Mod_compare_129 ?_
                  refine qv_iret C hR ?_ dq_Mod_compare_133 (by decide) (by decide)
                  have x1 : ext0 d nd i = _ := ext0_lt (show i < nd by omega)
                  have x2 : ext0 x n i = _ := ext0_ge (show ¬ i < n by omega)
                  refine ⟨Or.inl ⟨by omega, ?_⟩, by omega, rfl⟩
                  rw [← hpp] at hq2 ⊢
                  exact sv_lex (k := i) (fun j _ => by have := hd j; omega) (by omega) (by omega) (by omega) hs (by rw [x1, x2]; omega)
            · skip
              refine qv_aload_n C rfl dq_Mod_compare_104 ?_
              refine qv_iload C rfl dq_Mod_compare_105 ?_
              refine qv_iald C 2 i rfl (by omega) (by omega) (by omega) dq_Mod_compare_107 ?_
              refine qv_goto C (tgt := 112) (by decide) dq_Mod_compare_108 ?_
              refine qv_istore C (lv' := [(6, vi ((x i : Nat) : Int)), (5, vi ((d i : Nat) : Int)), (0, .ref y), (1, .ref xa), (2, vi ((n : Nat) : Int)), (3, vi at2), (4, vi ((i : Nat) : Int))]) (by decide) rfl dq_Mod_compare_112 ?_
              refine qv_iload C rfl dq_Mod_compare_114 ?_
              refine qv_iload C rfl dq_Mod_compare_116 ?_
              refine qv_iceq C (by omega) (by omega) (tgt := 134) (by decide) dq_Mod_compare_118 (fun h118 => ?_) (fun h118 => ?_)
              · skip
                refine qv_iinc C (j := 6) (lv' := [(4, vi (((i + 1) : Nat) : Int)), (6, vi ((x i : Nat) : Int)), (5, vi ((d i : Nat) : Int)), (0, .ref y), (1, .ref xa), (2, vi ((n : Nat) : Int)), (3, vi at2)]) (by omega) rfl (by decide) rfl dq_Mod_compare_134 ?_
                refine qv_goto C (tgt := 61) (by decide) dq_Mod_compare_137 ?_
                refine qv_lv [3, 4, 5, 6, 0] (lv' := [(0, .ref y), (1, .ref xa), (2, vi ((n : Nat) : Int)), (3, vi at2), (4, vi (((i + 1) : Nat) : Int))]) rfl ?_
                have x1 : ext0 d nd i = _ := ext0_lt (show i < nd by omega)
                have x2 : ext0 x n i = _ := ext0_lt (show i < n by omega)
                exact ih (i + 1) (by omega) (fun j hj => by
                  by_cases q : j = i
                  · rw [q, x1, x2] <;> omega
                  · exact hs j (by omega))
              · skip
                refine qv_iload C rfl dq_Mod_compare_121 ?_
                refine qv_iload C rfl dq_Mod_compare_123 ?_
                refine qv_icge C (by omega) (by omega) (tgt := 132) (by decide) dq_Mod_compare_125 (fun h125 => ?_) (fun h125 => ?_)
                · skip
                  refine qv_iconst C dq_Mod_compare_132 ?_
                  refine qv_iret C hR ?_ dq_Mod_compare_133 (by decide) (by decide)
                  have x1 : ext0 d nd i = _ := ext0_lt (show i < nd by omega)
                  have x2 : ext0 x n i = _ := ext0_lt (show i < n by omega)
                  refine ⟨Or.inr (Or.inr ⟨by omega, ?_⟩), by omega, rfl⟩
                  rw [← hpp] at hq2 ⊢
                  exact sv_lex (k := i) (fun j _ => by have := hx j; omega) (by omega) (by omega) (by omega) (fun j hj => (hs j hj).symm) (by rw [x1, x2]; omega)
                · skip
                  refine qv_iconst C dq_Mod_compare_128 ?_
                  refine qv_goto C (tgt := 133) (by decide) dq_Mod_compare_129 ?_
                  refine qv_iret C hR ?_ dq_Mod_compare_133 (by decide) (by decide)
                  have x1 : ext0 d nd i = _ := ext0_lt (show i < nd by omega)
                  have x2 : ext0 x n i = _ := ext0_lt (show i < n by omega)
                  refine ⟨Or.inl ⟨by omega, ?_⟩, by omega, rfl⟩
                  rw [← hpp] at hq2 ⊢
                  exact sv_lex (k := i) (fun j _ => by have := hd j; omega) (by omega) (by omega) (by omega) hs (by rw [x1, x2]; omega)
  refine qv_aload_n C rfl dq_Mod_compare_0 ?_
  refine qv_get C fl_Mod_61 0 rfl rfl dq_Mod_compare_1 ?_
  refine qv_ifeq C (by omega) (tgt := 11) (by decide) dq_Mod_compare_4 (fun h4 => ?_) (fun h4 => ?_)
  · skip
    refine qv_aload_n C rfl dq_Mod_compare_11 ?_
    refine qv_get C fl_Mod_61 0 rfl rfl dq_Mod_compare_12 ?_
    refine qv_iload_n C rfl dq_Mod_compare_15 ?_
    refine qv_icne C (by omega) (by omega) (tgt := 23) (by decide) dq_Mod_compare_16 (fun h16 => ?_) (fun h16 => ?_)
    · skip
      refine qv_aload_n C rfl dq_Mod_compare_23 ?_
      refine qv_get C fl_Mod_61 0 rfl rfl dq_Mod_compare_24 ?_
      refine qv_ifne C (by omega) (tgt := 34) (by decide) dq_Mod_compare_27 (fun h27 => ?_) (fun h27 => ?_)
      · skip
        refine qv_iconst C dq_Mod_compare_34 ?_
        refine qv_iret C hR ?_ dq_Mod_compare_35 (by decide) (by decide)
        have e1 : n = 0 := by omega
        subst e1
        exact ⟨Or.inr (Or.inr ⟨by omega, by rw [sv_n0]; exact sv_pos hN1 (by omega) hq1⟩), by omega, rfl⟩
      · skip
        refine qv_iconst C dq_Mod_compare_30 ?_
        refine qv_goto C (tgt := 35) (by decide) dq_Mod_compare_31 ?_
        refine qv_iret C hR ?_ dq_Mod_compare_35 (by decide) (by decide)
        have e1 : nd = 0 := by omega
        subst e1
        exact ⟨Or.inl ⟨by omega, by rw [sv_n0]; exact sv_pos hN2 (by omega) hq2⟩, by omega, rfl⟩
    · skip
      refine qv_iconst C dq_Mod_compare_19 ?_
      refine qv_goto C (tgt := 35) (by decide) dq_Mod_compare_20 ?_
      refine qv_iret C hR ?_ dq_Mod_compare_35 (by decide) (by decide)
      have e1 : nd = 0 := by omega
      have e2 : n = 0 := by omega
      subst e1 e2
      exact ⟨Or.inr (Or.inl ⟨rfl, by rw [sv_n0, sv_n0]⟩), by omega, rfl⟩
  · skip
    refine qv_iload_n C rfl dq_Mod_compare_7 ?_
    refine qv_ifne C (by omega) (tgt := 36) (by decide) dq_Mod_compare_8 (fun h8 => ?_) (fun h8 => ?_)
    · skip
      refine qv_aload_n C rfl dq_Mod_compare_36 ?_
      refine qv_get C fl_Mod_64 0 rfl rfl dq_Mod_compare_37 ?_
      refine qv_iload_n C rfl dq_Mod_compare_40 ?_
      refine qv_iceq C (by omega) (by omega) (tgt := 58) (by decide) dq_Mod_compare_41 (fun h41 => ?_) (fun h41 => ?_)
      · skip
        refine qv_iconst C dq_Mod_compare_58 ?_
        refine qv_istore C (lv' := [(4, vi 0), (0, .ref y), (1, .ref xa), (2, vi ((n : Nat) : Int)), (3, vi at2)]) (by decide) rfl dq_Mod_compare_59 ?_
        refine qv_lv [1, 2, 3, 4, 0] (lv' := [(0, .ref y), (1, .ref xa), (2, vi ((n : Nat) : Int)), (3, vi at2), (4, vi 0)]) rfl ?_
        exact loop (by omega) (max nd n) 0 (by omega) (fun j hj => by omega)
      · skip
        refine qv_aload_n C rfl dq_Mod_compare_44 ?_
        refine qv_get C fl_Mod_64 0 rfl rfl dq_Mod_compare_45 ?_
        refine qv_iload_n C rfl dq_Mod_compare_48 ?_
        refine qv_icge C (by omega) (by omega) (tgt := 56) (by decide) dq_Mod_compare_49 (fun h49 => ?_) (fun h49 => ?_)
        · skip
          refine qv_iconst C dq_Mod_compare_56 ?_
          refine qv_iret C hR ?_ dq_Mod_compare_57 (by decide) (by decide)
          exact ⟨Or.inr (Or.inr ⟨by omega, sv_place hN2 hN1 (by omega) hq2 hq1 (by omega)⟩), by omega, rfl⟩
        · skip
          refine qv_iconst C dq_Mod_compare_52 ?_
          refine qv_goto C (tgt := 57) (by decide) dq_Mod_compare_53 ?_
          refine qv_iret C hR ?_ dq_Mod_compare_57 (by decide) (by decide)
          exact ⟨Or.inl ⟨by omega, sv_place hN1 hN2 (by omega) hq1 hq2 (by omega)⟩, by omega, rfl⟩
    · skip
      refine qv_aload_n C rfl dq_Mod_compare_11 ?_
      refine qv_get C fl_Mod_61 0 rfl rfl dq_Mod_compare_12 ?_
      refine qv_iload_n C rfl dq_Mod_compare_15 ?_
      refine qv_icne C (by omega) (by omega) (tgt := 23) (by decide) dq_Mod_compare_16 (fun h16 => ?_) (fun h16 => ?_)
      · skip
        refine qv_aload_n C rfl dq_Mod_compare_23 ?_
        refine qv_get C fl_Mod_61 0 rfl rfl dq_Mod_compare_24 ?_
        refine qv_ifne C (by omega) (tgt := 34) (by decide) dq_Mod_compare_27 (fun h27 => ?_) (fun h27 => ?_)
        · skip
          refine qv_iconst C dq_Mod_compare_34 ?_
          refine qv_iret C hR ?_ dq_Mod_compare_35 (by decide) (by decide)
          have e1 : n = 0 := by omega
          subst e1
          exact ⟨Or.inr (Or.inr ⟨by omega, by rw [sv_n0]; exact sv_pos hN1 (by omega) hq1⟩), by omega, rfl⟩
        · skip
          refine qv_iconst C dq_Mod_compare_30 ?_
          refine qv_goto C (tgt := 35) (by decide) dq_Mod_compare_31 ?_
          refine qv_iret C hR ?_ dq_Mod_compare_35 (by decide) (by decide)
          have e1 : nd = 0 := by omega
          subst e1
          exact ⟨Or.inl ⟨by omega, by rw [sv_n0]; exact sv_pos hN2 (by omega) hq2⟩, by omega, rfl⟩
      · skip
        refine qv_iconst C dq_Mod_compare_19 ?_
        refine qv_goto C (tgt := 35) (by decide) dq_Mod_compare_20 ?_
        refine qv_iret C hR ?_ dq_Mod_compare_35 (by decide) (by decide)
        have e1 : nd = 0 := by omega
        have e2 : n = 0 := by omega
        subst e1 e2
        exact ⟨Or.inr (Or.inl ⟨rfl, by rw [sv_n0, sv_n0]⟩), by omega, rfl⟩

theorem c_Mod_put (cI cJ : ClassId) (y dg rw bt wz lw hg : Nat) (er : Int) (mi : Bool) (nd : Nat) (pl : Int) (zr : Nat) (bh : Int) (mn : Nat) (fr fo : Int) (ls : Nat) (lp : Int) (hs : Nat) (hq : Int) (m got : Nat) (p : Int) (more : Bool) (hgt : (got = 54 ∧ 9007199254740992 ≤ m ∧ m < 18014398509481984 ∧ -1075 ≤ p ∧ p ≤ 1000) ∨ (got ≤ 53 ∧ m < 9007199254740992 ∧ p = -1075)) : MtI cI cJ ky_Mod_put kb_Mod_put 12 .boolean rm_Mod_put Xt [.ref y, vj ((m : Nat) : Int), vi ((got : Nat) : Int), vi p, vi (b2 more)] [oc y 4 [vi er, vi (b2 mi), .ref dg, vi ((nd : Nat) : Int), vi pl, vi ((zr : Nat) : Int), vi bh, .ref rw, vi ((mn : Nat) : Int), vi fr, vj fo, .ref bt, .ref wz, .ref lw, .ref hg, vi ((ls : Nat) : Int), vi lp, vi ((hs : Nat) : Int), vi hq]] (fun z u => ∃ up : Bool, (up = true ↔ m % 2 = 1 ∧ (more = true ∨ m / 2 % 2 = 1)) ∧ ((((p + 1075).toNat * 4503599627370496 + m / 2 + (if up = true then 1 else 0)) < INF ∧ z = 1 ∧ u = [mo y dg rw bt wz lw hg er mi nd pl zr bh mn fr ((((p + 1075).toNat * 4503599627370496 + m / 2 + (if up = true then 1 else 0)) : Nat) : Int) ls lp hs hq]) ∨ (INF ≤ ((p + 1075).toNat * 4503599627370496 + m / 2 + (if up = true then 1 else 0)) ∧ z = 0 ∧ u = [mo y dg rw bt wz lw hg er mi nd pl zr bh mn fr fo ls lp hs hq]))) := by
  refine MtI_in (by decide) (Nat.le_of_ble_eq_true rfl) (fun K C hR hX hN => ?_)
  show V K 12 [oc y 4 [vi er, vi (b2 mi), .ref dg, vi ((nd : Nat) : Int), vi pl, vi ((zr : Nat) : Int), vi bh, .ref rw, vi ((mn : Nat) : Int), vi fr, vj fo, .ref bt, .ref wz, .ref lw, .ref hg, vi ((ls : Nat) : Int), vi lp, vi ((hs : Nat) : Int), vi hq]] 0 0 0 [(0, .ref y), (1, vj ((m : Nat) : Int)), (3, vi ((got : Nat) : Int)), (4, vi p), (5, vi (b2 more))] []
  obtain ⟨f, hf⟩ : ∃ f, f = m / 2 := ⟨_, rfl⟩
  obtain ⟨q, hqp⟩ : ∃ q : Nat, p + 1075 = (q : Int) := ⟨(p + 1075).toNat, by omega⟩
  have hqn : (p + 1075).toNat = q := by omega
  have hI : INF = 9218868437227405312 := rfl
  have hmo : b2 more = 0 → more = false := b2_f
  have hmo2 : b2 more ≠ 0 → more = true := b2_t
  refine qv_iload C rfl dq_Mod_put_0 ?_
  refine qv_iload_n C rfl dq_Mod_put_2 ?_
  refine qv_iadd C (r := (p + ((got : Nat) : Int))) rfl dq_Mod_put_3 ?_
  refine qv_bipush C (by decide) dq_Mod_put_4 ?_
  refine qv_isub C (r := ((p + ((got : Nat) : Int)) - 53)) rfl dq_Mod_put_6 ?_
  refine qv_sipush C (by decide) dq_Mod_put_7 ?_
  refine qv_icge C (by omega) (by omega) (tgt := 19) (by decide) dq_Mod_put_10 (fun h10 => ?_) (fun h10 => ?_)
  · skip
    refine qv_iload C rfl dq_Mod_put_19 ?_
    refine qv_iload_n C rfl dq_Mod_put_21 ?_
    refine qv_iadd C (r := (p + ((got : Nat) : Int))) rfl dq_Mod_put_22 ?_
    refine qv_bipush C (by decide) dq_Mod_put_23 ?_
    refine qv_isub C (r := ((p + ((got : Nat) : Int)) - 53)) rfl dq_Mod_put_25 ?_
    refine qv_ti (r := (p + 1)) (by omega) ?_
    refine qv_istore C (lv' := [(6, vi (p + 1)), (0, .ref y), (1, vj ((m : Nat) : Int)), (3, vi ((got : Nat) : Int)), (4, vi p), (5, vi (b2 more))]) (by decide) rfl dq_Mod_put_26 ?_
    refine qv_lload_n C rfl dq_Mod_put_28 ?_
    refine qv_lstore C (lv' := [(7, vj ((m : Nat) : Int)), (6, vi (p + 1)), (0, .ref y), (1, vj ((m : Nat) : Int)), (3, vi ((got : Nat) : Int)), (4, vi p), (5, vi (b2 more))]) (by decide) rfl dq_Mod_put_29 ?_
    refine qv_iload C rfl dq_Mod_put_31 ?_
    refine qv_istore C (lv' := [(9, vi (b2 more)), (7, vj ((m : Nat) : Int)), (6, vi (p + 1)), (0, .ref y), (1, vj ((m : Nat) : Int)), (3, vi ((got : Nat) : Int)), (4, vi p), (5, vi (b2 more))]) (by decide) rfl dq_Mod_put_33 ?_
    refine qv_iconst C dq_Mod_put_35 ?_
    refine qv_istore C (lv' := [(10, vi 0), (9, vi (b2 more)), (7, vj ((m : Nat) : Int)), (6, vi (p + 1)), (0, .ref y), (1, vj ((m : Nat) : Int)), (3, vi ((got : Nat) : Int)), (4, vi p), (5, vi (b2 more))]) (by decide) rfl dq_Mod_put_36 ?_
    refine qv_iload C rfl dq_Mod_put_38 ?_
    refine qv_istore C (lv' := [(11, vi p), (10, vi 0), (9, vi (b2 more)), (7, vj ((m : Nat) : Int)), (6, vi (p + 1)), (0, .ref y), (1, vj ((m : Nat) : Int)), (3, vi ((got : Nat) : Int)), (4, vi p), (5, vi (b2 more))]) (by decide) rfl dq_Mod_put_40 ?_
    refine qv_iload C rfl dq_Mod_put_42 ?_
    refine qv_iload C rfl dq_Mod_put_44 ?_
    refine qv_icge C (by omega) (by omega) (tgt := 84) (by decide) dq_Mod_put_46 (fun h46 => ?_) (fun h46 => ?_)
    · exfalso; omega
    · skip
      refine qv_iload C rfl dq_Mod_put_49 ?_
      refine qv_iload C rfl dq_Mod_put_51 ?_
      refine qv_ior C (r := b2 more) (by cases more <;> decide) dq_Mod_put_53 ?_
      refine qv_istore C (lv' := [(9, vi (b2 more)), (11, vi p), (10, vi 0), (7, vj ((m : Nat) : Int)), (6, vi (p + 1)), (0, .ref y), (1, vj ((m : Nat) : Int)), (3, vi ((got : Nat) : Int)), (4, vi p), (5, vi (b2 more))]) (by decide) rfl dq_Mod_put_54 ?_
      refine qv_lload C rfl dq_Mod_put_56 ?_
      refine qv_lconst C (z := 1) (by decide) dq_Mod_put_58 ?_
      refine qv_land C (r := (((m % 2) : Nat) : Int)) (zj_and (a := m) (b := 1) (by omega)) dq_Mod_put_59 ?_
      refine qv_lconst C (z := 0) (by decide) dq_Mod_put_60 ?_
      refine qv_lceq C (by omega) (by omega) dq_Mod_put_61 (tgt := 69) (by decide) dq_Mod_put_62 (fun h61 => ?_) (fun h61 => ?_)
      · skip
        refine qv_iconst C dq_Mod_put_69 ?_
        refine qv_istore C (lv' := [(10, vi 0), (9, vi (b2 more)), (11, vi p), (7, vj ((m : Nat) : Int)), (6, vi (p + 1)), (0, .ref y), (1, vj ((m : Nat) : Int)), (3, vi ((got : Nat) : Int)), (4, vi p), (5, vi (b2 more))]) (by decide) rfl dq_Mod_put_70 ?_
        refine qv_lload C rfl dq_Mod_put_72 ?_
        refine qv_iconst C dq_Mod_put_74 ?_
        refine qv_lshr C m 1 (by omega) (by omega) (by omega) (by omega) dq_Mod_put_75 ?_
        refine qv_tj (r := ((f : Nat) : Int)) (by rw [hf] <;> rfl) ?_
        refine qv_lstore C (lv' := [(7, vj ((f : Nat) : Int)), (10, vi 0), (9, vi (b2 more)), (11, vi p), (6, vi (p + 1)), (0, .ref y), (1, vj ((m : Nat) : Int)), (3, vi ((got : Nat) : Int)), (4, vi p), (5, vi (b2 more))]) (by decide) rfl dq_Mod_put_76 ?_
        refine qv_iinc C (j := 3) (lv' := [(11, vi (p + 1)), (7, vj ((f : Nat) : Int)), (10, vi 0), (9, vi (b2 more)), (6, vi (p + 1)), (0, .ref y), (1, vj ((m : Nat) : Int)), (3, vi ((got : Nat) : Int)), (4, vi p), (5, vi (b2 more))]) rfl rfl (by decide) rfl dq_Mod_put_78 ?_
        refine qv_goto C (tgt := 42) (by decide) dq_Mod_put_81 ?_
        refine qv_iload C rfl dq_Mod_put_42 ?_
        refine qv_iload C rfl dq_Mod_put_44 ?_
        refine qv_icge C (by omega) (by omega) (tgt := 84) (by decide) dq_Mod_put_46 (fun h46 => ?_) (fun h46 => ?_)
        · skip
          refine qv_iload C rfl dq_Mod_put_84 ?_
          refine qv_istore C (lv' := [(11, vi (p + 1)), (7, vj ((f : Nat) : Int)), (10, vi 0), (9, vi (b2 more)), (6, vi (p + 1)), (0, .ref y), (1, vj ((m : Nat) : Int)), (3, vi ((got : Nat) : Int)), (4, vi p), (5, vi (b2 more))]) (by decide) rfl dq_Mod_put_86 ?_
          refine qv_iload C rfl dq_Mod_put_88 ?_
          refine qv_iload C rfl dq_Mod_put_90 ?_
          refine qv_icge C (by omega) (by omega) (tgt := 105) (by decide) dq_Mod_put_92 (fun h92 => ?_) (fun h92 => ?_)
          · skip
            refine qv_iload C rfl dq_Mod_put_105 ?_
            refine qv_ifeq C (by omega) (tgt := 130) (by decide) dq_Mod_put_107 (fun h107 => ?_) (fun h107 => ?_)
            · skip
              refine qv_lload C rfl dq_Mod_put_130 ?_
              refine qv_ldc2 C (z := 9007199254740992) wk_Mod_108 dq_Mod_put_132 ?_
              refine qv_lcne C (by omega) (by omega) dq_Mod_put_135 (tgt := 148) (by decide) dq_Mod_put_136 (fun h135 => ?_) (fun h135 => ?_)
              · skip
                refine qv_iload C rfl dq_Mod_put_148 ?_
                refine qv_sipush C (by decide) dq_Mod_put_150 ?_
                refine qv_icle C (by omega) (by omega) (tgt := 158) (by decide) dq_Mod_put_153 (fun h153 => ?_) (fun h153 => ?_)
                · skip
                  refine qv_aload_n C rfl dq_Mod_put_158 ?_
                  refine qv_lload C rfl dq_Mod_put_159 ?_
                  refine qv_ldc2 C (z := 4503599627370496) wk_Mod_38 dq_Mod_put_161 ?_
                  refine qv_lcge C (by omega) (by omega) dq_Mod_put_164 (tgt := 173) (by decide) dq_Mod_put_165 (fun h164 => ?_) (fun h164 => ?_)
                  · skip
                    refine qv_lload C rfl dq_Mod_put_173 ?_
                    refine qv_ldc2 C (z := 4503599627370496) wk_Mod_38 dq_Mod_put_175 ?_
                    refine qv_lsub C (r := (((f - 4503599627370496) : Nat) : Int)) (by omega) dq_Mod_put_178 ?_
                    refine qv_iload C rfl dq_Mod_put_179 ?_
                    refine qv_sipush C (by decide) dq_Mod_put_181 ?_
                    refine qv_iadd C (r := ((p + 1) + 1075)) rfl dq_Mod_put_184 ?_
                    refine qv_ti (r := (((q + 1) : Nat) : Int)) (by omega) ?_
                    refine qv_i2l C (by omega) dq_Mod_put_185 ?_
                    refine qv_bipush C (by decide) dq_Mod_put_186 ?_
                    refine qv_lshl C (q + 1) 52 (by omega) (by omega) (by omega) dq_Mod_put_188 ?_
                    refine qv_lor C (r := ((((q + 1) * 2 ^ 52 + (f - 4503599627370496)) : Nat) : Int)) (zj_or' (by omega) (by omega)) dq_Mod_put_189 ?_
                    refine qv_put C (ws' := [oc y 4 [vi er, vi (b2 mi), .ref dg, vi ((nd : Nat) : Int), vi pl, vi ((zr : Nat) : Int), vi bh, .ref rw, vi ((mn : Nat) : Int), vi fr, vj ((((q + 1) * 2 ^ 52 + (f - 4503599627370496)) : Nat) : Int), .ref bt, .ref wz, .ref lw, .ref hg, vi ((ls : Nat) : Int), vi lp, vi ((hs : Nat) : Int), vi hq]]) fl_Mod_96 fs_4_10 0 rfl rfl rfl (Nat.le_of_ble_eq_true rfl) rfl dq_Mod_put_190 ?_
                    refine qv_iconst C dq_Mod_put_193 ?_
                    refine qv_zret (b := true) C hR ?_ dq_Mod_put_194 (by decide) (by decide)
                    refine ⟨false, ?_, ?_⟩
                    · refine ⟨fun q => (by cases q), fun q => ?_⟩
                      exfalso
                      omega
                    · rw [hqn, ← hf, if_neg (by decide)]
                      refine Or.inl ⟨by omega, rfl, ?_⟩
                      have ev : ((((q + 1) * 2 ^ 52 + (f - 4503599627370496)) : Nat) : Int) = ((q * 4503599627370496 + f + 0 : Nat) : Int) := by omega
                      rw [← ev] <;> rfl
                  · skip
                    refine qv_lload C rfl dq_Mod_put_168 ?_
                    refine qv_goto C (tgt := 190) (by decide) dq_Mod_put_170 ?_
                    refine qv_put C (ws' := [oc y 4 [vi er, vi (b2 mi), .ref dg, vi ((nd : Nat) : Int), vi pl, vi ((zr : Nat) : Int), vi bh, .ref rw, vi ((mn : Nat) : Int), vi fr, vj ((f : Nat) : Int), .ref bt, .ref wz, .ref lw, .ref hg, vi ((ls : Nat) : Int), vi lp, vi ((hs : Nat) : Int), vi hq]]) fl_Mod_96 fs_4_10 0 rfl rfl rfl (Nat.le_of_ble_eq_true rfl) rfl dq_Mod_put_190 ?_
                    refine qv_iconst C dq_Mod_put_193 ?_
                    refine qv_zret (b := true) C hR ?_ dq_Mod_put_194 (by decide) (by decide)
                    refine ⟨false, ?_, ?_⟩
                    · refine ⟨fun q => (by cases q), fun q => ?_⟩
                      exfalso
                      omega
                    · rw [hqn, ← hf, if_neg (by decide)]
                      refine Or.inl ⟨by omega, rfl, ?_⟩
                      have ev : ((f : Nat) : Int) = ((q * 4503599627370496 + f + 0 : Nat) : Int) := by omega
                      rw [← ev] <;> rfl
                · skip
                  refine qv_iconst C dq_Mod_put_156 ?_
                  refine qv_zret (b := false) C hR ?_ dq_Mod_put_157 (by decide) (by decide)
                  refine ⟨false, ?_, ?_⟩
                  · refine ⟨fun q => (by cases q), fun q => ?_⟩
                    exfalso
                    omega
                  · rw [hqn, ← hf, if_neg (by decide)]
                    exact Or.inr ⟨by omega, rfl, rfl⟩
              · skip
                refine qv_lload C rfl dq_Mod_put_139 ?_
                refine qv_iconst C dq_Mod_put_141 ?_
                refine qv_lshr C f 1 (by omega) (by omega) (by omega) (by omega) dq_Mod_put_142 ?_
                refine qv_lstore C (lv' := [(7, vj ((f / 2 ^ 1 : Nat) : Int)), (11, vi (p + 1)), (10, vi 0), (9, vi (b2 more)), (6, vi (p + 1)), (0, .ref y), (1, vj ((m : Nat) : Int)), (3, vi ((got : Nat) : Int)), (4, vi p), (5, vi (b2 more))]) (by decide) rfl dq_Mod_put_143 ?_
                refine qv_iinc C (j := 1) (lv' := [(11, vi ((p + 1) + 1)), (7, vj ((f / 2 ^ 1 : Nat) : Int)), (10, vi 0), (9, vi (b2 more)), (6, vi (p + 1)), (0, .ref y), (1, vj ((m : Nat) : Int)), (3, vi ((got : Nat) : Int)), (4, vi p), (5, vi (b2 more))]) rfl rfl (by decide) rfl dq_Mod_put_145 ?_
                refine qv_iload C rfl dq_Mod_put_148 ?_
                refine qv_sipush C (by decide) dq_Mod_put_150 ?_
                refine qv_icle C (by omega) (by omega) (tgt := 158) (by decide) dq_Mod_put_153 (fun h153 => ?_) (fun h153 => ?_)
                · skip
                  refine qv_aload_n C rfl dq_Mod_put_158 ?_
                  refine qv_lload C rfl dq_Mod_put_159 ?_
                  refine qv_ldc2 C (z := 4503599627370496) wk_Mod_38 dq_Mod_put_161 ?_
                  refine qv_lcge C (by omega) (by omega) dq_Mod_put_164 (tgt := 173) (by decide) dq_Mod_put_165 (fun h164 => ?_) (fun h164 => ?_)
                  · skip
                    refine qv_lload C rfl dq_Mod_put_173 ?_
                    refine qv_ldc2 C (z := 4503599627370496) wk_Mod_38 dq_Mod_put_175 ?_
                    refine qv_lsub C (r := (((f / 2 ^ 1 - 4503599627370496) : Nat) : Int)) (by omega) dq_Mod_put_178 ?_
                    refine qv_iload C rfl dq_Mod_put_179 ?_
                    refine qv_sipush C (by decide) dq_Mod_put_181 ?_
                    refine qv_iadd C (r := (((p + 1) + 1) + 1075)) rfl dq_Mod_put_184 ?_
                    refine qv_ti (r := (((q + 2) : Nat) : Int)) (by omega) ?_
                    refine qv_i2l C (by omega) dq_Mod_put_185 ?_
                    refine qv_bipush C (by decide) dq_Mod_put_186 ?_
                    refine qv_lshl C (q + 2) 52 (by omega) (by omega) (by omega) dq_Mod_put_188 ?_
                    refine qv_lor C (r := ((((q + 2) * 2 ^ 52 + (f / 2 ^ 1 - 4503599627370496)) : Nat) : Int)) (zj_or' (by omega) (by omega)) dq_Mod_put_189 ?_
                    refine qv_put C (ws' := [oc y 4 [vi er, vi (b2 mi), .ref dg, vi ((nd : Nat) : Int), vi pl, vi ((zr : Nat) : Int), vi bh, .ref rw, vi ((mn : Nat) : Int), vi fr, vj ((((q + 2) * 2 ^ 52 + (f / 2 ^ 1 - 4503599627370496)) : Nat) : Int), .ref bt, .ref wz, .ref lw, .ref hg, vi ((ls : Nat) : Int), vi lp, vi ((hs : Nat) : Int), vi hq]]) fl_Mod_96 fs_4_10 0 rfl rfl rfl (Nat.le_of_ble_eq_true rfl) rfl dq_Mod_put_190 ?_
                    refine qv_iconst C dq_Mod_put_193 ?_
                    refine qv_zret (b := true) C hR ?_ dq_Mod_put_194 (by decide) (by decide)
                    refine ⟨true, ?_, ?_⟩
                    · exact ⟨fun _ => ⟨by omega, Or.inr (by omega)⟩, fun _ => rfl⟩
                    · rw [hqn, ← hf, if_pos rfl]
                      refine Or.inl ⟨by omega, rfl, ?_⟩
                      have ev : ((((q + 2) * 2 ^ 52 + (f / 2 ^ 1 - 4503599627370496)) : Nat) : Int) = ((q * 4503599627370496 + f + 1 : Nat) : Int) := by omega
                      rw [← ev] <;> rfl
                  · skip
                    refine qv_lload C rfl dq_Mod_put_168 ?_
                    refine qv_goto C (tgt := 190) (by decide) dq_Mod_put_170 ?_
                    refine qv_put C (ws' := [oc y 4 [vi er, vi (b2 mi), .ref dg, vi ((nd : Nat) : Int), vi pl, vi ((zr : Nat) : Int), vi bh, .ref rw, vi ((mn : Nat) : Int), vi fr, vj ((f / 2 ^ 1 : Nat) : Int), .ref bt, .ref wz, .ref lw, .ref hg, vi ((ls : Nat) : Int), vi lp, vi ((hs : Nat) : Int), vi hq]]) fl_Mod_96 fs_4_10 0 rfl rfl rfl (Nat.le_of_ble_eq_true rfl) rfl dq_Mod_put_190 ?_
                    refine qv_iconst C dq_Mod_put_193 ?_
                    refine qv_zret (b := true) C hR ?_ dq_Mod_put_194 (by decide) (by decide)
                    refine ⟨true, ?_, ?_⟩
                    · exact ⟨fun _ => ⟨by omega, Or.inr (by omega)⟩, fun _ => rfl⟩
                    · rw [hqn, ← hf, if_pos rfl]
                      refine Or.inl ⟨by omega, rfl, ?_⟩
                      have ev : ((f / 2 ^ 1 : Nat) : Int) = ((q * 4503599627370496 + f + 1 : Nat) : Int) := by omega
                      rw [← ev] <;> rfl
                · skip
                  refine qv_iconst C dq_Mod_put_156 ?_
                  refine qv_zret (b := false) C hR ?_ dq_Mod_put_157 (by decide) (by decide)
                  refine ⟨true, ?_, ?_⟩
                  · exact ⟨fun _ => ⟨by omega, Or.inr (by omega)⟩, fun _ => rfl⟩
                  · rw [hqn, ← hf, if_pos rfl]
                    exact Or.inr ⟨by omega, rfl, rfl⟩
            · exfalso; omega
          · exfalso; omega
        · exfalso; omega
      · skip
        refine qv_iconst C dq_Mod_put_65 ?_
        refine qv_goto C (tgt := 70) (by decide) dq_Mod_put_66 ?_
        refine qv_istore C (lv' := [(10, vi 1), (9, vi (b2 more)), (11, vi p), (7, vj ((m : Nat) : Int)), (6, vi (p + 1)), (0, .ref y), (1, vj ((m : Nat) : Int)), (3, vi ((got : Nat) : Int)), (4, vi p), (5, vi (b2 more))]) (by decide) rfl dq_Mod_put_70 ?_
        refine qv_lload C rfl dq_Mod_put_72 ?_
        refine qv_iconst C dq_Mod_put_74 ?_
        refine qv_lshr C m 1 (by omega) (by omega) (by omega) (by omega) dq_Mod_put_75 ?_
        refine qv_tj (r := ((f : Nat) : Int)) (by rw [hf] <;> rfl) ?_
        refine qv_lstore C (lv' := [(7, vj ((f : Nat) : Int)), (10, vi 1), (9, vi (b2 more)), (11, vi p), (6, vi (p + 1)), (0, .ref y), (1, vj ((m : Nat) : Int)), (3, vi ((got : Nat) : Int)), (4, vi p), (5, vi (b2 more))]) (by decide) rfl dq_Mod_put_76 ?_
        refine qv_iinc C (j := 3) (lv' := [(11, vi (p + 1)), (7, vj ((f : Nat) : Int)), (10, vi 1), (9, vi (b2 more)), (6, vi (p + 1)), (0, .ref y), (1, vj ((m : Nat) : Int)), (3, vi ((got : Nat) : Int)), (4, vi p), (5, vi (b2 more))]) rfl rfl (by decide) rfl dq_Mod_put_78 ?_
        refine qv_goto C (tgt := 42) (by decide) dq_Mod_put_81 ?_
        refine qv_iload C rfl dq_Mod_put_42 ?_
        refine qv_iload C rfl dq_Mod_put_44 ?_
        refine qv_icge C (by omega) (by omega) (tgt := 84) (by decide) dq_Mod_put_46 (fun h46 => ?_) (fun h46 => ?_)
        · skip
          refine qv_iload C rfl dq_Mod_put_84 ?_
          refine qv_istore C (lv' := [(11, vi (p + 1)), (7, vj ((f : Nat) : Int)), (10, vi 1), (9, vi (b2 more)), (6, vi (p + 1)), (0, .ref y), (1, vj ((m : Nat) : Int)), (3, vi ((got : Nat) : Int)), (4, vi p), (5, vi (b2 more))]) (by decide) rfl dq_Mod_put_86 ?_
          refine qv_iload C rfl dq_Mod_put_88 ?_
          refine qv_iload C rfl dq_Mod_put_90 ?_
          refine qv_icge C (by omega) (by omega) (tgt := 105) (by decide) dq_Mod_put_92 (fun h92 => ?_) (fun h92 => ?_)
          · skip
            refine qv_iload C rfl dq_Mod_put_105 ?_
            refine qv_ifeq C (by omega) (tgt := 130) (by decide) dq_Mod_put_107 (fun h107 => ?_) (fun h107 => ?_)
            · exfalso; omega
            · skip
              refine qv_iload C rfl dq_Mod_put_110 ?_
              refine qv_ifne C (rb_b2 more) (tgt := 124) (by decide) dq_Mod_put_112 (fun h112 => ?_) (fun h112 => ?_)
              · skip
                refine qv_lload C rfl dq_Mod_put_124 ?_
                refine qv_lconst C (z := 1) (by decide) dq_Mod_put_126 ?_
                refine qv_ladd C (r := (((f + 1) : Nat) : Int)) (by omega) dq_Mod_put_127 ?_
                refine qv_lstore C (lv' := [(7, vj (((f + 1) : Nat) : Int)), (11, vi (p + 1)), (10, vi 1), (9, vi (b2 more)), (6, vi (p + 1)), (0, .ref y), (1, vj ((m : Nat) : Int)), (3, vi ((got : Nat) : Int)), (4, vi p), (5, vi (b2 more))]) (by decide) rfl dq_Mod_put_128 ?_
                refine qv_lload C rfl dq_Mod_put_130 ?_
                refine qv_ldc2 C (z := 9007199254740992) wk_Mod_108 dq_Mod_put_132 ?_
                refine qv_lcne C (by omega) (by omega) dq_Mod_put_135 (tgt := 148) (by decide) dq_Mod_put_136 (fun h135 => ?_) (fun h135 => ?_)
                · skip
                  refine qv_iload C rfl dq_Mod_put_148 ?_
                  refine qv_sipush C (by decide) dq_Mod_put_150 ?_
                  refine qv_icle C (by omega) (by omega) (tgt := 158) (by decide) dq_Mod_put_153 (fun h153 => ?_) (fun h153 => ?_)
                  · skip
                    refine qv_aload_n C rfl dq_Mod_put_158 ?_
                    refine qv_lload C rfl dq_Mod_put_159 ?_
                    refine qv_ldc2 C (z := 4503599627370496) wk_Mod_38 dq_Mod_put_161 ?_
                    refine qv_lcge C (by omega) (by omega) dq_Mod_put_164 (tgt := 173) (by decide) dq_Mod_put_165 (fun h164 => ?_) (fun h164 => ?_)
                    · skip
                      refine qv_lload C rfl dq_Mod_put_173 ?_
                      refine qv_ldc2 C (z := 4503599627370496) wk_Mod_38 dq_Mod_put_175 ?_
                      refine qv_lsub C (r := (((f - 4503599627370495) : Nat) : Int)) (by omega) dq_Mod_put_178 ?_
                      refine qv_iload C rfl dq_Mod_put_179 ?_
                      refine qv_sipush C (by decide) dq_Mod_put_181 ?_
                      refine qv_iadd C (r := ((p + 1) + 1075)) rfl dq_Mod_put_184 ?_
                      refine qv_ti (r := (((q + 1) : Nat) : Int)) (by omega) ?_
                      refine qv_i2l C (by omega) dq_Mod_put_185 ?_
                      refine qv_bipush C (by decide) dq_Mod_put_186 ?_
                      refine qv_lshl C (q + 1) 52 (by omega) (by omega) (by omega) dq_Mod_put_188 ?_
                      refine qv_lor C (r := ((((q + 1) * 2 ^ 52 + (f - 4503599627370495)) : Nat) : Int)) (zj_or' (by omega) (by omega)) dq_Mod_put_189 ?_
                      refine qv_put C (ws' := [oc y 4 [vi er, vi (b2 mi), .ref dg, vi ((nd : Nat) : Int), vi pl, vi ((zr : Nat) : Int), vi bh, .ref rw, vi ((mn : Nat) : Int), vi fr, vj ((((q + 1) * 2 ^ 52 + (f - 4503599627370495)) : Nat) : Int), .ref bt, .ref wz, .ref lw, .ref hg, vi ((ls : Nat) : Int), vi lp, vi ((hs : Nat) : Int), vi hq]]) fl_Mod_96 fs_4_10 0 rfl rfl rfl (Nat.le_of_ble_eq_true rfl) rfl dq_Mod_put_190 ?_
                      refine qv_iconst C dq_Mod_put_193 ?_
                      refine qv_zret (b := true) C hR ?_ dq_Mod_put_194 (by decide) (by decide)
                      have em := hmo2 h112
                      refine ⟨true, ?_, ?_⟩
                      · exact ⟨fun _ => ⟨by omega, Or.inl em⟩, fun _ => rfl⟩
                      · rw [hqn, ← hf, if_pos rfl]
                        refine Or.inl ⟨by omega, rfl, ?_⟩
                        have ev : ((((q + 1) * 2 ^ 52 + (f - 4503599627370495)) : Nat) : Int) = ((q * 4503599627370496 + f + 1 : Nat) : Int) := by omega
                        rw [← ev] <;> rfl
                    · skip
                      refine qv_lload C rfl dq_Mod_put_168 ?_
                      refine qv_goto C (tgt := 190) (by decide) dq_Mod_put_170 ?_
                      refine qv_put C (ws' := [oc y 4 [vi er, vi (b2 mi), .ref dg, vi ((nd : Nat) : Int), vi pl, vi ((zr : Nat) : Int), vi bh, .ref rw, vi ((mn : Nat) : Int), vi fr, vj (((f + 1) : Nat) : Int), .ref bt, .ref wz, .ref lw, .ref hg, vi ((ls : Nat) : Int), vi lp, vi ((hs : Nat) : Int), vi hq]]) fl_Mod_96 fs_4_10 0 rfl rfl rfl (Nat.le_of_ble_eq_true rfl) rfl dq_Mod_put_190 ?_
                      refine qv_iconst C dq_Mod_put_193 ?_
                      refine qv_zret (b := true) C hR ?_ dq_Mod_put_194 (by decide) (by decide)
                      have em := hmo2 h112
                      refine ⟨true, ?_, ?_⟩
                      · exact ⟨fun _ => ⟨by omega, Or.inl em⟩, fun _ => rfl⟩
                      · rw [hqn, ← hf, if_pos rfl]
                        refine Or.inl ⟨by omega, rfl, ?_⟩
                        have ev : (((f + 1) : Nat) : Int) = ((q * 4503599627370496 + f + 1 : Nat) : Int) := by omega
                        rw [← ev] <;> rfl
                  · skip
                    refine qv_iconst C dq_Mod_put_156 ?_
                    refine qv_zret (b := false) C hR ?_ dq_Mod_put_157 (by decide) (by decide)
                    have em := hmo2 h112
                    refine ⟨true, ?_, ?_⟩
                    · exact ⟨fun _ => ⟨by omega, Or.inl em⟩, fun _ => rfl⟩
                    · rw [hqn, ← hf, if_pos rfl]
                      exact Or.inr ⟨by omega, rfl, rfl⟩
                · skip
                  refine qv_lload C rfl dq_Mod_put_139 ?_
                  refine qv_iconst C dq_Mod_put_141 ?_
                  refine qv_lshr C (f + 1) 1 (by omega) (by omega) (by omega) (by omega) dq_Mod_put_142 ?_
                  refine qv_lstore C (lv' := [(7, vj (((f + 1) / 2 ^ 1 : Nat) : Int)), (11, vi (p + 1)), (10, vi 1), (9, vi (b2 more)), (6, vi (p + 1)), (0, .ref y), (1, vj ((m : Nat) : Int)), (3, vi ((got : Nat) : Int)), (4, vi p), (5, vi (b2 more))]) (by decide) rfl dq_Mod_put_143 ?_
                  refine qv_iinc C (j := 1) (lv' := [(11, vi ((p + 1) + 1)), (7, vj (((f + 1) / 2 ^ 1 : Nat) : Int)), (10, vi 1), (9, vi (b2 more)), (6, vi (p + 1)), (0, .ref y), (1, vj ((m : Nat) : Int)), (3, vi ((got : Nat) : Int)), (4, vi p), (5, vi (b2 more))]) rfl rfl (by decide) rfl dq_Mod_put_145 ?_
                  refine qv_iload C rfl dq_Mod_put_148 ?_
                  refine qv_sipush C (by decide) dq_Mod_put_150 ?_
                  refine qv_icle C (by omega) (by omega) (tgt := 158) (by decide) dq_Mod_put_153 (fun h153 => ?_) (fun h153 => ?_)
                  · skip
                    refine qv_aload_n C rfl dq_Mod_put_158 ?_
                    refine qv_lload C rfl dq_Mod_put_159 ?_
                    refine qv_ldc2 C (z := 4503599627370496) wk_Mod_38 dq_Mod_put_161 ?_
                    refine qv_lcge C (by omega) (by omega) dq_Mod_put_164 (tgt := 173) (by decide) dq_Mod_put_165 (fun h164 => ?_) (fun h164 => ?_)
                    · skip
                      refine qv_lload C rfl dq_Mod_put_173 ?_
                      refine qv_ldc2 C (z := 4503599627370496) wk_Mod_38 dq_Mod_put_175 ?_
                      refine qv_lsub C (r := ((((f + 1) / 2 ^ 1 - 4503599627370496) : Nat) : Int)) (by omega) dq_Mod_put_178 ?_
                      refine qv_iload C rfl dq_Mod_put_179 ?_
                      refine qv_sipush C (by decide) dq_Mod_put_181 ?_
                      refine qv_iadd C (r := (((p + 1) + 1) + 1075)) rfl dq_Mod_put_184 ?_
                      refine qv_ti (r := (((q + 2) : Nat) : Int)) (by omega) ?_
                      refine qv_i2l C (by omega) dq_Mod_put_185 ?_
                      refine qv_bipush C (by decide) dq_Mod_put_186 ?_
                      refine qv_lshl C (q + 2) 52 (by omega) (by omega) (by omega) dq_Mod_put_188 ?_
                      refine qv_lor C (r := ((((q + 2) * 2 ^ 52 + ((f + 1) / 2 ^ 1 - 4503599627370496)) : Nat) : Int)) (zj_or' (by omega) (by omega)) dq_Mod_put_189 ?_
                      refine qv_put C (ws' := [oc y 4 [vi er, vi (b2 mi), .ref dg, vi ((nd : Nat) : Int), vi pl, vi ((zr : Nat) : Int), vi bh, .ref rw, vi ((mn : Nat) : Int), vi fr, vj ((((q + 2) * 2 ^ 52 + ((f + 1) / 2 ^ 1 - 4503599627370496)) : Nat) : Int), .ref bt, .ref wz, .ref lw, .ref hg, vi ((ls : Nat) : Int), vi lp, vi ((hs : Nat) : Int), vi hq]]) fl_Mod_96 fs_4_10 0 rfl rfl rfl (Nat.le_of_ble_eq_true rfl) rfl dq_Mod_put_190 ?_
                      refine qv_iconst C dq_Mod_put_193 ?_
                      refine qv_zret (b := true) C hR ?_ dq_Mod_put_194 (by decide) (by decide)
                      have em := hmo2 h112
                      refine ⟨true, ?_, ?_⟩
                      · exact ⟨fun _ => ⟨by omega, Or.inl em⟩, fun _ => rfl⟩
                      · rw [hqn, ← hf, if_pos rfl]
                        refine Or.inl ⟨by omega, rfl, ?_⟩
                        have ev : ((((q + 2) * 2 ^ 52 + ((f + 1) / 2 ^ 1 - 4503599627370496)) : Nat) : Int) = ((q * 4503599627370496 + f + 1 : Nat) : Int) := by omega
                        rw [← ev] <;> rfl
                    · skip
                      refine qv_lload C rfl dq_Mod_put_168 ?_
                      refine qv_goto C (tgt := 190) (by decide) dq_Mod_put_170 ?_
                      refine qv_put C (ws' := [oc y 4 [vi er, vi (b2 mi), .ref dg, vi ((nd : Nat) : Int), vi pl, vi ((zr : Nat) : Int), vi bh, .ref rw, vi ((mn : Nat) : Int), vi fr, vj (((f + 1) / 2 ^ 1 : Nat) : Int), .ref bt, .ref wz, .ref lw, .ref hg, vi ((ls : Nat) : Int), vi lp, vi ((hs : Nat) : Int), vi hq]]) fl_Mod_96 fs_4_10 0 rfl rfl rfl (Nat.le_of_ble_eq_true rfl) rfl dq_Mod_put_190 ?_
                      refine qv_iconst C dq_Mod_put_193 ?_
                      refine qv_zret (b := true) C hR ?_ dq_Mod_put_194 (by decide) (by decide)
                      have em := hmo2 h112
                      refine ⟨true, ?_, ?_⟩
                      · exact ⟨fun _ => ⟨by omega, Or.inl em⟩, fun _ => rfl⟩
                      · rw [hqn, ← hf, if_pos rfl]
                        refine Or.inl ⟨by omega, rfl, ?_⟩
                        have ev : (((f + 1) / 2 ^ 1 : Nat) : Int) = ((q * 4503599627370496 + f + 1 : Nat) : Int) := by omega
                        rw [← ev] <;> rfl
                  · skip
                    refine qv_iconst C dq_Mod_put_156 ?_
                    refine qv_zret (b := false) C hR ?_ dq_Mod_put_157 (by decide) (by decide)
                    have em := hmo2 h112
                    refine ⟨true, ?_, ?_⟩
                    · exact ⟨fun _ => ⟨by omega, Or.inl em⟩, fun _ => rfl⟩
                    · rw [hqn, ← hf, if_pos rfl]
                      exact Or.inr ⟨by omega, rfl, rfl⟩
              · skip
                refine qv_lload C rfl dq_Mod_put_115 ?_
                refine qv_lconst C (z := 1) (by decide) dq_Mod_put_117 ?_
                refine qv_land C (r := (((f % 2) : Nat) : Int)) (zj_and (a := f) (b := 1) (by omega)) dq_Mod_put_118 ?_
                refine qv_lconst C (z := 0) (by decide) dq_Mod_put_119 ?_
                refine qv_lceq C (by omega) (by omega) dq_Mod_put_120 (tgt := 130) (by decide) dq_Mod_put_121 (fun h120 => ?_) (fun h120 => ?_)
                · skip
                  refine qv_lload C rfl dq_Mod_put_130 ?_
                  refine qv_ldc2 C (z := 9007199254740992) wk_Mod_108 dq_Mod_put_132 ?_
                  refine qv_lcne C (by omega) (by omega) dq_Mod_put_135 (tgt := 148) (by decide) dq_Mod_put_136 (fun h135 => ?_) (fun h135 => ?_)
                  · skip
                    refine qv_iload C rfl dq_Mod_put_148 ?_
                    refine qv_sipush C (by decide) dq_Mod_put_150 ?_
                    refine qv_icle C (by omega) (by omega) (tgt := 158) (by decide) dq_Mod_put_153 (fun h153 => ?_) (fun h153 => ?_)
                    · skip
                      refine qv_aload_n C rfl dq_Mod_put_158 ?_
                      refine qv_lload C rfl dq_Mod_put_159 ?_
                      refine qv_ldc2 C (z := 4503599627370496) wk_Mod_38 dq_Mod_put_161 ?_
                      refine qv_lcge C (by omega) (by omega) dq_Mod_put_164 (tgt := 173) (by decide) dq_Mod_put_165 (fun h164 => ?_) (fun h164 => ?_)
                      · skip
                        refine qv_lload C rfl dq_Mod_put_173 ?_
                        refine qv_ldc2 C (z := 4503599627370496) wk_Mod_38 dq_Mod_put_175 ?_
                        refine qv_lsub C (r := (((f - 4503599627370496) : Nat) : Int)) (by omega) dq_Mod_put_178 ?_
                        refine qv_iload C rfl dq_Mod_put_179 ?_
                        refine qv_sipush C (by decide) dq_Mod_put_181 ?_
                        refine qv_iadd C (r := ((p + 1) + 1075)) rfl dq_Mod_put_184 ?_
                        refine qv_ti (r := (((q + 1) : Nat) : Int)) (by omega) ?_
                        refine qv_i2l C (by omega) dq_Mod_put_185 ?_
                        refine qv_bipush C (by decide) dq_Mod_put_186 ?_
                        refine qv_lshl C (q + 1) 52 (by omega) (by omega) (by omega) dq_Mod_put_188 ?_
                        refine qv_lor C (r := ((((q + 1) * 2 ^ 52 + (f - 4503599627370496)) : Nat) : Int)) (zj_or' (by omega) (by omega)) dq_Mod_put_189 ?_
                        refine qv_put C (ws' := [oc y 4 [vi er, vi (b2 mi), .ref dg, vi ((nd : Nat) : Int), vi pl, vi ((zr : Nat) : Int), vi bh, .ref rw, vi ((mn : Nat) : Int), vi fr, vj ((((q + 1) * 2 ^ 52 + (f - 4503599627370496)) : Nat) : Int), .ref bt, .ref wz, .ref lw, .ref hg, vi ((ls : Nat) : Int), vi lp, vi ((hs : Nat) : Int), vi hq]]) fl_Mod_96 fs_4_10 0 rfl rfl rfl (Nat.le_of_ble_eq_true rfl) rfl dq_Mod_put_190 ?_
                        refine qv_iconst C dq_Mod_put_193 ?_
                        refine qv_zret (b := true) C hR ?_ dq_Mod_put_194 (by decide) (by decide)
                        have em := hmo h112
                        refine ⟨false, ?_, ?_⟩
                        · refine ⟨fun q => (by cases q), fun q => ?_⟩
                          exfalso
                          rcases q with ⟨q1, q2 | q2⟩
                          · rw [em] at q2; cases q2
                          · omega
                        · rw [hqn, ← hf, if_neg (by decide)]
                          refine Or.inl ⟨by omega, rfl, ?_⟩
                          have ev : ((((q + 1) * 2 ^ 52 + (f - 4503599627370496)) : Nat) : Int) = ((q * 4503599627370496 + f + 0 : Nat) : Int) := by omega
                          rw [← ev] <;> rfl
                      · skip
                        refine qv_lload C rfl dq_Mod_put_168 ?_
                        refine qv_goto C (tgt := 190) (by decide) dq_Mod_put_170 ?_
                        refine qv_put C (ws' := [oc y 4 [vi er, vi (b2 mi), .ref dg, vi ((nd : Nat) : Int), vi pl, vi ((zr : Nat) : Int), vi bh, .ref rw, vi ((mn : Nat) : Int), vi fr, vj ((f : Nat) : Int), .ref bt, .ref wz, .ref lw, .ref hg, vi ((ls : Nat) : Int), vi lp, vi ((hs : Nat) : Int), vi hq]]) fl_Mod_96 fs_4_10 0 rfl rfl rfl (Nat.le_of_ble_eq_true rfl) rfl dq_Mod_put_190 ?_
                        refine qv_iconst C dq_Mod_put_193 ?_
                        refine qv_zret (b := true) C hR ?_ dq_Mod_put_194 (by decide) (by decide)
                        have em := hmo h112
                        refine ⟨false, ?_, ?_⟩
                        · refine ⟨fun q => (by cases q), fun q => ?_⟩
                          exfalso
                          rcases q with ⟨q1, q2 | q2⟩
                          · rw [em] at q2; cases q2
                          · omega
                        · rw [hqn, ← hf, if_neg (by decide)]
                          refine Or.inl ⟨by omega, rfl, ?_⟩
                          have ev : ((f : Nat) : Int) = ((q * 4503599627370496 + f + 0 : Nat) : Int) := by omega
                          rw [← ev] <;> rfl
                    · skip
                      refine qv_iconst C dq_Mod_put_156 ?_
                      refine qv_zret (b := false) C hR ?_ dq_Mod_put_157 (by decide) (by decide)
                      have em := hmo h112
                      refine ⟨false, ?_, ?_⟩
                      · refine ⟨fun q => (by cases q), fun q => ?_⟩
                        exfalso
                        rcases q with ⟨q1, q2 | q2⟩
                        · rw [em] at q2; cases q2
                        · omega
                      · rw [hqn, ← hf, if_neg (by decide)]
                        exact Or.inr ⟨by omega, rfl, rfl⟩
                  · skip
                    refine qv_lload C rfl dq_Mod_put_139 ?_
                    refine qv_iconst C dq_Mod_put_141 ?_
                    refine qv_lshr C f 1 (by omega) (by omega) (by omega) (by omega) dq_Mod_put_142 ?_
                    refine qv_lstore C (lv' := [(7, vj ((f / 2 ^ 1 : Nat) : Int)), (11, vi (p + 1)), (10, vi 1), (9, vi (b2 more)), (6, vi (p + 1)), (0, .ref y), (1, vj ((m : Nat) : Int)), (3, vi ((got : Nat) : Int)), (4, vi p), (5, vi (b2 more))]) (by decide) rfl dq_Mod_put_143 ?_
                    refine qv_iinc C (j := 1) (lv' := [(11, vi ((p + 1) + 1)), (7, vj ((f / 2 ^ 1 : Nat) : Int)), (10, vi 1), (9, vi (b2 more)), (6, vi (p + 1)), (0, .ref y), (1, vj ((m : Nat) : Int)), (3, vi ((got : Nat) : Int)), (4, vi p), (5, vi (b2 more))]) rfl rfl (by decide) rfl dq_Mod_put_145 ?_
                    refine qv_iload C rfl dq_Mod_put_148 ?_
                    refine qv_sipush C (by decide) dq_Mod_put_150 ?_
                    refine qv_icle C (by omega) (by omega) (tgt := 158) (by decide) dq_Mod_put_153 (fun h153 => ?_) (fun h153 => ?_)
                    · skip
                      refine qv_aload_n C rfl dq_Mod_put_158 ?_
                      refine qv_lload C rfl dq_Mod_put_159 ?_
                      refine qv_ldc2 C (z := 4503599627370496) wk_Mod_38 dq_Mod_put_161 ?_
                      refine qv_lcge C (by omega) (by omega) dq_Mod_put_164 (tgt := 173) (by decide) dq_Mod_put_165 (fun h164 => ?_) (fun h164 => ?_)
                      · skip
                        refine qv_lload C rfl dq_Mod_put_173 ?_
                        refine qv_ldc2 C (z := 4503599627370496) wk_Mod_38 dq_Mod_put_175 ?_
                        refine qv_lsub C (r := (((f / 2 ^ 1 - 4503599627370496) : Nat) : Int)) (by omega) dq_Mod_put_178 ?_
                        refine qv_iload C rfl dq_Mod_put_179 ?_
                        refine qv_sipush C (by decide) dq_Mod_put_181 ?_
                        refine qv_iadd C (r := (((p + 1) + 1) + 1075)) rfl dq_Mod_put_184 ?_
                        refine qv_ti (r := (((q + 2) : Nat) : Int)) (by omega) ?_
                        refine qv_i2l C (by omega) dq_Mod_put_185 ?_
                        refine qv_bipush C (by decide) dq_Mod_put_186 ?_
                        refine qv_lshl C (q + 2) 52 (by omega) (by omega) (by omega) dq_Mod_put_188 ?_
                        refine qv_lor C (r := ((((q + 2) * 2 ^ 52 + (f / 2 ^ 1 - 4503599627370496)) : Nat) : Int)) (zj_or' (by omega) (by omega)) dq_Mod_put_189 ?_
                        refine qv_put C (ws' := [oc y 4 [vi er, vi (b2 mi), .ref dg, vi ((nd : Nat) : Int), vi pl, vi ((zr : Nat) : Int), vi bh, .ref rw, vi ((mn : Nat) : Int), vi fr, vj ((((q + 2) * 2 ^ 52 + (f / 2 ^ 1 - 4503599627370496)) : Nat) : Int), .ref bt, .ref wz, .ref lw, .ref hg, vi ((ls : Nat) : Int), vi lp, vi ((hs : Nat) : Int), vi hq]]) fl_Mod_96 fs_4_10 0 rfl rfl rfl (Nat.le_of_ble_eq_true rfl) rfl dq_Mod_put_190 ?_
                        refine qv_iconst C dq_Mod_put_193 ?_
                        refine qv_zret (b := true) C hR ?_ dq_Mod_put_194 (by decide) (by decide)
                        have em := hmo h112
                        refine ⟨true, ?_, ?_⟩
                        · exact ⟨fun _ => ⟨by omega, Or.inr (by omega)⟩, fun _ => rfl⟩
                        · rw [hqn, ← hf, if_pos rfl]
                          refine Or.inl ⟨by omega, rfl, ?_⟩
                          have ev : ((((q + 2) * 2 ^ 52 + (f / 2 ^ 1 - 4503599627370496)) : Nat) : Int) = ((q * 4503599627370496 + f + 1 : Nat) : Int) := by omega
                          rw [← ev] <;> rfl
                      · skip
                        refine qv_lload C rfl dq_Mod_put_168 ?_
                        refine qv_goto C (tgt := 190) (by decide) dq_Mod_put_170 ?_
                        refine qv_put C (ws' := [oc y 4 [vi er, vi (b2 mi), .ref dg, vi ((nd : Nat) : Int), vi pl, vi ((zr : Nat) : Int), vi bh, .ref rw, vi ((mn : Nat) : Int), vi fr, vj ((f / 2 ^ 1 : Nat) : Int), .ref bt, .ref wz, .ref lw, .ref hg, vi ((ls : Nat) : Int), vi lp, vi ((hs : Nat) : Int), vi hq]]) fl_Mod_96 fs_4_10 0 rfl rfl rfl (Nat.le_of_ble_eq_true rfl) rfl dq_Mod_put_190 ?_
                        refine qv_iconst C dq_Mod_put_193 ?_
                        refine qv_zret (b := true) C hR ?_ dq_Mod_put_194 (by decide) (by decide)
                        have em := hmo h112
                        refine ⟨true, ?_, ?_⟩
                        · exact ⟨fun _ => ⟨by omega, Or.inr (by omega)⟩, fun _ => rfl⟩
                        · rw [hqn, ← hf, if_pos rfl]
                          refine Or.inl ⟨by omega, rfl, ?_⟩
                          have ev : ((f / 2 ^ 1 : Nat) : Int) = ((q * 4503599627370496 + f + 1 : Nat) : Int) := by omega
                          rw [← ev] <;> rfl
                    · skip
                      refine qv_iconst C dq_Mod_put_156 ?_
                      refine qv_zret (b := false) C hR ?_ dq_Mod_put_157 (by decide) (by decide)
                      have em := hmo h112
                      refine ⟨true, ?_, ?_⟩
                      · exact ⟨fun _ => ⟨by omega, Or.inr (by omega)⟩, fun _ => rfl⟩
                      · rw [hqn, ← hf, if_pos rfl]
                        exact Or.inr ⟨by omega, rfl, rfl⟩
                · skip
                  refine qv_lload C rfl dq_Mod_put_124 ?_
                  refine qv_lconst C (z := 1) (by decide) dq_Mod_put_126 ?_
                  refine qv_ladd C (r := (((f + 1) : Nat) : Int)) (by omega) dq_Mod_put_127 ?_
                  refine qv_lstore C (lv' := [(7, vj (((f + 1) : Nat) : Int)), (11, vi (p + 1)), (10, vi 1), (9, vi (b2 more)), (6, vi (p + 1)), (0, .ref y), (1, vj ((m : Nat) : Int)), (3, vi ((got : Nat) : Int)), (4, vi p), (5, vi (b2 more))]) (by decide) rfl dq_Mod_put_128 ?_
                  refine qv_lload C rfl dq_Mod_put_130 ?_
                  refine qv_ldc2 C (z := 9007199254740992) wk_Mod_108 dq_Mod_put_132 ?_
                  refine qv_lcne C (by omega) (by omega) dq_Mod_put_135 (tgt := 148) (by decide) dq_Mod_put_136 (fun h135 => ?_) (fun h135 => ?_)
                  · skip
                    refine qv_iload C rfl dq_Mod_put_148 ?_
                    refine qv_sipush C (by decide) dq_Mod_put_150 ?_
                    refine qv_icle C (by omega) (by omega) (tgt := 158) (by decide) dq_Mod_put_153 (fun h153 => ?_) (fun h153 => ?_)
                    · skip
                      refine qv_aload_n C rfl dq_Mod_put_158 ?_
                      refine qv_lload C rfl dq_Mod_put_159 ?_
                      refine qv_ldc2 C (z := 4503599627370496) wk_Mod_38 dq_Mod_put_161 ?_
                      refine qv_lcge C (by omega) (by omega) dq_Mod_put_164 (tgt := 173) (by decide) dq_Mod_put_165 (fun h164 => ?_) (fun h164 => ?_)
                      · skip
                        refine qv_lload C rfl dq_Mod_put_173 ?_
                        refine qv_ldc2 C (z := 4503599627370496) wk_Mod_38 dq_Mod_put_175 ?_
                        refine qv_lsub C (r := (((f - 4503599627370495) : Nat) : Int)) (by omega) dq_Mod_put_178 ?_
                        refine qv_iload C rfl dq_Mod_put_179 ?_
                        refine qv_sipush C (by decide) dq_Mod_put_181 ?_
                        refine qv_iadd C (r := ((p + 1) + 1075)) rfl dq_Mod_put_184 ?_
                        refine qv_ti (r := (((q + 1) : Nat) : Int)) (by omega) ?_
                        refine qv_i2l C (by omega) dq_Mod_put_185 ?_
                        refine qv_bipush C (by decide) dq_Mod_put_186 ?_
                        refine qv_lshl C (q + 1) 52 (by omega) (by omega) (by omega) dq_Mod_put_188 ?_
                        refine qv_lor C (r := ((((q + 1) * 2 ^ 52 + (f - 4503599627370495)) : Nat) : Int)) (zj_or' (by omega) (by omega)) dq_Mod_put_189 ?_
                        refine qv_put C (ws' := [oc y 4 [vi er, vi (b2 mi), .ref dg, vi ((nd : Nat) : Int), vi pl, vi ((zr : Nat) : Int), vi bh, .ref rw, vi ((mn : Nat) : Int), vi fr, vj ((((q + 1) * 2 ^ 52 + (f - 4503599627370495)) : Nat) : Int), .ref bt, .ref wz, .ref lw, .ref hg, vi ((ls : Nat) : Int), vi lp, vi ((hs : Nat) : Int), vi hq]]) fl_Mod_96 fs_4_10 0 rfl rfl rfl (Nat.le_of_ble_eq_true rfl) rfl dq_Mod_put_190 ?_
                        refine qv_iconst C dq_Mod_put_193 ?_
                        refine qv_zret (b := true) C hR ?_ dq_Mod_put_194 (by decide) (by decide)
                        have em := hmo h112
                        refine ⟨true, ?_, ?_⟩
                        · exact ⟨fun _ => ⟨by omega, Or.inr (by omega)⟩, fun _ => rfl⟩
                        · rw [hqn, ← hf, if_pos rfl]
                          refine Or.inl ⟨by omega, rfl, ?_⟩
                          have ev : ((((q + 1) * 2 ^ 52 + (f - 4503599627370495)) : Nat) : Int) = ((q * 4503599627370496 + f + 1 : Nat) : Int) := by omega
                          rw [← ev] <;> rfl
                      · skip
                        refine qv_lload C rfl dq_Mod_put_168 ?_
                        refine qv_goto C (tgt := 190) (by decide) dq_Mod_put_170 ?_
                        refine qv_put C (ws' := [oc y 4 [vi er, vi (b2 mi), .ref dg, vi ((nd : Nat) : Int), vi pl, vi ((zr : Nat) : Int), vi bh, .ref rw, vi ((mn : Nat) : Int), vi fr, vj (((f + 1) : Nat) : Int), .ref bt, .ref wz, .ref lw, .ref hg, vi ((ls : Nat) : Int), vi lp, vi ((hs : Nat) : Int), vi hq]]) fl_Mod_96 fs_4_10 0 rfl rfl rfl (Nat.le_of_ble_eq_true rfl) rfl dq_Mod_put_190 ?_
                        refine qv_iconst C dq_Mod_put_193 ?_
                        refine qv_zret (b := true) C hR ?_ dq_Mod_put_194 (by decide) (by decide)
                        have em := hmo h112
                        refine ⟨true, ?_, ?_⟩
                        · exact ⟨fun _ => ⟨by omega, Or.inr (by omega)⟩, fun _ => rfl⟩
                        · rw [hqn, ← hf, if_pos rfl]
                          refine Or.inl ⟨by omega, rfl, ?_⟩
                          have ev : (((f + 1) : Nat) : Int) = ((q * 4503599627370496 + f + 1 : Nat) : Int) := by omega
                          rw [← ev] <;> rfl
                    · skip
                      refine qv_iconst C dq_Mod_put_156 ?_
                      refine qv_zret (b := false) C hR ?_ dq_Mod_put_157 (by decide) (by decide)
                      have em := hmo h112
                      refine ⟨true, ?_, ?_⟩
                      · exact ⟨fun _ => ⟨by omega, Or.inr (by omega)⟩, fun _ => rfl⟩
                      · rw [hqn, ← hf, if_pos rfl]
                        exact Or.inr ⟨by omega, rfl, rfl⟩
                  · skip
                    refine qv_lload C rfl dq_Mod_put_139 ?_
                    refine qv_iconst C dq_Mod_put_141 ?_
                    refine qv_lshr C (f + 1) 1 (by omega) (by omega) (by omega) (by omega) dq_Mod_put_142 ?_
                    refine qv_lstore C (lv' := [(7, vj (((f + 1) / 2 ^ 1 : Nat) : Int)), (11, vi (p + 1)), (10, vi 1), (9, vi (b2 more)), (6, vi (p + 1)), (0, .ref y), (1, vj ((m : Nat) : Int)), (3, vi ((got : Nat) : Int)), (4, vi p), (5, vi (b2 more))]) (by decide) rfl dq_Mod_put_143 ?_
                    refine qv_iinc C (j := 1) (lv' := [(11, vi ((p + 1) + 1)), (7, vj (((f + 1) / 2 ^ 1 : Nat) : Int)), (10, vi 1), (9, vi (b2 more)), (6, vi (p + 1)), (0, .ref y), (1, vj ((m : Nat) : Int)), (3, vi ((got : Nat) : Int)), (4, vi p), (5, vi (b2 more))]) rfl rfl (by decide) rfl dq_Mod_put_145 ?_
                    refine qv_iload C rfl dq_Mod_put_148 ?_
                    refine qv_sipush C (by decide) dq_Mod_put_150 ?_
                    refine qv_icle C (by omega) (by omega) (tgt := 158) (by decide) dq_Mod_put_153 (fun h153 => ?_) (fun h153 => ?_)
                    · skip
                      refine qv_aload_n C rfl dq_Mod_put_158 ?_
                      refine qv_lload C rfl dq_Mod_put_159 ?_
                      refine qv_ldc2 C (z := 4503599627370496) wk_Mod_38 dq_Mod_put_161 ?_
                      refine qv_lcge C (by omega) (by omega) dq_Mod_put_164 (tgt := 173) (by decide) dq_Mod_put_165 (fun h164 => ?_) (fun h164 => ?_)
                      · skip
                        refine qv_lload C rfl dq_Mod_put_173 ?_
                        refine qv_ldc2 C (z := 4503599627370496) wk_Mod_38 dq_Mod_put_175 ?_
                        refine qv_lsub C (r := ((((f + 1) / 2 ^ 1 - 4503599627370496) : Nat) : Int)) (by omega) dq_Mod_put_178 ?_
                        refine qv_iload C rfl dq_Mod_put_179 ?_
                        refine qv_sipush C (by decide) dq_Mod_put_181 ?_
                        refine qv_iadd C (r := (((p + 1) + 1) + 1075)) rfl dq_Mod_put_184 ?_
                        refine qv_ti (r := (((q + 2) : Nat) : Int)) (by omega) ?_
                        refine qv_i2l C (by omega) dq_Mod_put_185 ?_
                        refine qv_bipush C (by decide) dq_Mod_put_186 ?_
                        refine qv_lshl C (q + 2) 52 (by omega) (by omega) (by omega) dq_Mod_put_188 ?_
                        refine qv_lor C (r := ((((q + 2) * 2 ^ 52 + ((f + 1) / 2 ^ 1 - 4503599627370496)) : Nat) : Int)) (zj_or' (by omega) (by omega)) dq_Mod_put_189 ?_
                        refine qv_put C (ws' := [oc y 4 [vi er, vi (b2 mi), .ref dg, vi ((nd : Nat) : Int), vi pl, vi ((zr : Nat) : Int), vi bh, .ref rw, vi ((mn : Nat) : Int), vi fr, vj ((((q + 2) * 2 ^ 52 + ((f + 1) / 2 ^ 1 - 4503599627370496)) : Nat) : Int), .ref bt, .ref wz, .ref lw, .ref hg, vi ((ls : Nat) : Int), vi lp, vi ((hs : Nat) : Int), vi hq]]) fl_Mod_96 fs_4_10 0 rfl rfl rfl (Nat.le_of_ble_eq_true rfl) rfl dq_Mod_put_190 ?_
                        refine qv_iconst C dq_Mod_put_193 ?_
                        refine qv_zret (b := true) C hR ?_ dq_Mod_put_194 (by decide) (by decide)
                        have em := hmo h112
                        refine ⟨true, ?_, ?_⟩
                        · exact ⟨fun _ => ⟨by omega, Or.inr (by omega)⟩, fun _ => rfl⟩
                        · rw [hqn, ← hf, if_pos rfl]
                          refine Or.inl ⟨by omega, rfl, ?_⟩
                          have ev : ((((q + 2) * 2 ^ 52 + ((f + 1) / 2 ^ 1 - 4503599627370496)) : Nat) : Int) = ((q * 4503599627370496 + f + 1 : Nat) : Int) := by omega
                          rw [← ev] <;> rfl
                      · skip
                        refine qv_lload C rfl dq_Mod_put_168 ?_
                        refine qv_goto C (tgt := 190) (by decide) dq_Mod_put_170 ?_
                        refine qv_put C (ws' := [oc y 4 [vi er, vi (b2 mi), .ref dg, vi ((nd : Nat) : Int), vi pl, vi ((zr : Nat) : Int), vi bh, .ref rw, vi ((mn : Nat) : Int), vi fr, vj (((f + 1) / 2 ^ 1 : Nat) : Int), .ref bt, .ref wz, .ref lw, .ref hg, vi ((ls : Nat) : Int), vi lp, vi ((hs : Nat) : Int), vi hq]]) fl_Mod_96 fs_4_10 0 rfl rfl rfl (Nat.le_of_ble_eq_true rfl) rfl dq_Mod_put_190 ?_
                        refine qv_iconst C dq_Mod_put_193 ?_
                        refine qv_zret (b := true) C hR ?_ dq_Mod_put_194 (by decide) (by decide)
                        have em := hmo h112
                        refine ⟨true, ?_, ?_⟩
                        · exact ⟨fun _ => ⟨by omega, Or.inr (by omega)⟩, fun _ => rfl⟩
                        · rw [hqn, ← hf, if_pos rfl]
                          refine Or.inl ⟨by omega, rfl, ?_⟩
                          have ev : (((f + 1) / 2 ^ 1 : Nat) : Int) = ((q * 4503599627370496 + f + 1 : Nat) : Int) := by omega
                          rw [← ev] <;> rfl
                    · skip
                      refine qv_iconst C dq_Mod_put_156 ?_
                      refine qv_zret (b := false) C hR ?_ dq_Mod_put_157 (by decide) (by decide)
                      have em := hmo h112
                      refine ⟨true, ?_, ?_⟩
                      · exact ⟨fun _ => ⟨by omega, Or.inr (by omega)⟩, fun _ => rfl⟩
                      · rw [hqn, ← hf, if_pos rfl]
                        exact Or.inr ⟨by omega, rfl, rfl⟩
          · exfalso; omega
        · exfalso; omega
  · skip
    refine qv_sipush C (by decide) dq_Mod_put_13 ?_
    refine qv_goto C (tgt := 26) (by decide) dq_Mod_put_16 ?_
    refine qv_ti (r := (p + 1)) (by omega) ?_
    refine qv_istore C (lv' := [(6, vi (p + 1)), (0, .ref y), (1, vj ((m : Nat) : Int)), (3, vi ((got : Nat) : Int)), (4, vi p), (5, vi (b2 more))]) (by decide) rfl dq_Mod_put_26 ?_
    refine qv_lload_n C rfl dq_Mod_put_28 ?_
    refine qv_lstore C (lv' := [(7, vj ((m : Nat) : Int)), (6, vi (p + 1)), (0, .ref y), (1, vj ((m : Nat) : Int)), (3, vi ((got : Nat) : Int)), (4, vi p), (5, vi (b2 more))]) (by decide) rfl dq_Mod_put_29 ?_
    refine qv_iload C rfl dq_Mod_put_31 ?_
    refine qv_istore C (lv' := [(9, vi (b2 more)), (7, vj ((m : Nat) : Int)), (6, vi (p + 1)), (0, .ref y), (1, vj ((m : Nat) : Int)), (3, vi ((got : Nat) : Int)), (4, vi p), (5, vi (b2 more))]) (by decide) rfl dq_Mod_put_33 ?_
    refine qv_iconst C dq_Mod_put_35 ?_
    refine qv_istore C (lv' := [(10, vi 0), (9, vi (b2 more)), (7, vj ((m : Nat) : Int)), (6, vi (p + 1)), (0, .ref y), (1, vj ((m : Nat) : Int)), (3, vi ((got : Nat) : Int)), (4, vi p), (5, vi (b2 more))]) (by decide) rfl dq_Mod_put_36 ?_
    refine qv_iload C rfl dq_Mod_put_38 ?_
    refine qv_istore C (lv' := [(11, vi p), (10, vi 0), (9, vi (b2 more)), (7, vj ((m : Nat) : Int)), (6, vi (p + 1)), (0, .ref y), (1, vj ((m : Nat) : Int)), (3, vi ((got : Nat) : Int)), (4, vi p), (5, vi (b2 more))]) (by decide) rfl dq_Mod_put_40 ?_
    refine qv_iload C rfl dq_Mod_put_42 ?_
    refine qv_iload C rfl dq_Mod_put_44 ?_
    refine qv_icge C (by omega) (by omega) (tgt := 84) (by decide) dq_Mod_put_46 (fun h46 => ?_) (fun h46 => ?_)
    · exfalso; omega
    · skip
      refine qv_iload C rfl dq_Mod_put_49 ?_
      refine qv_iload C rfl dq_Mod_put_51 ?_
      refine qv_ior C (r := b2 more) (by cases more <;> decide) dq_Mod_put_53 ?_
      refine qv_istore C (lv' := [(9, vi (b2 more)), (11, vi p), (10, vi 0), (7, vj ((m : Nat) : Int)), (6, vi (p + 1)), (0, .ref y), (1, vj ((m : Nat) : Int)), (3, vi ((got : Nat) : Int)), (4, vi p), (5, vi (b2 more))]) (by decide) rfl dq_Mod_put_54 ?_
      refine qv_lload C rfl dq_Mod_put_56 ?_
      refine qv_lconst C (z := 1) (by decide) dq_Mod_put_58 ?_
      refine qv_land C (r := (((m % 2) : Nat) : Int)) (zj_and (a := m) (b := 1) (by omega)) dq_Mod_put_59 ?_
      refine qv_lconst C (z := 0) (by decide) dq_Mod_put_60 ?_
      refine qv_lceq C (by omega) (by omega) dq_Mod_put_61 (tgt := 69) (by decide) dq_Mod_put_62 (fun h61 => ?_) (fun h61 => ?_)
      · skip
        refine qv_iconst C dq_Mod_put_69 ?_
        refine qv_istore C (lv' := [(10, vi 0), (9, vi (b2 more)), (11, vi p), (7, vj ((m : Nat) : Int)), (6, vi (p + 1)), (0, .ref y), (1, vj ((m : Nat) : Int)), (3, vi ((got : Nat) : Int)), (4, vi p), (5, vi (b2 more))]) (by decide) rfl dq_Mod_put_70 ?_
        refine qv_lload C rfl dq_Mod_put_72 ?_
        refine qv_iconst C dq_Mod_put_74 ?_
        refine qv_lshr C m 1 (by omega) (by omega) (by omega) (by omega) dq_Mod_put_75 ?_
        refine qv_tj (r := ((f : Nat) : Int)) (by rw [hf] <;> rfl) ?_
        refine qv_lstore C (lv' := [(7, vj ((f : Nat) : Int)), (10, vi 0), (9, vi (b2 more)), (11, vi p), (6, vi (p + 1)), (0, .ref y), (1, vj ((m : Nat) : Int)), (3, vi ((got : Nat) : Int)), (4, vi p), (5, vi (b2 more))]) (by decide) rfl dq_Mod_put_76 ?_
        refine qv_iinc C (j := 3) (lv' := [(11, vi (p + 1)), (7, vj ((f : Nat) : Int)), (10, vi 0), (9, vi (b2 more)), (6, vi (p + 1)), (0, .ref y), (1, vj ((m : Nat) : Int)), (3, vi ((got : Nat) : Int)), (4, vi p), (5, vi (b2 more))]) rfl rfl (by decide) rfl dq_Mod_put_78 ?_
        refine qv_goto C (tgt := 42) (by decide) dq_Mod_put_81 ?_
        refine qv_iload C rfl dq_Mod_put_42 ?_
        refine qv_iload C rfl dq_Mod_put_44 ?_
        refine qv_icge C (by omega) (by omega) (tgt := 84) (by decide) dq_Mod_put_46 (fun h46 => ?_) (fun h46 => ?_)
        · skip
          refine qv_iload C rfl dq_Mod_put_84 ?_
          refine qv_istore C (lv' := [(11, vi (p + 1)), (7, vj ((f : Nat) : Int)), (10, vi 0), (9, vi (b2 more)), (6, vi (p + 1)), (0, .ref y), (1, vj ((m : Nat) : Int)), (3, vi ((got : Nat) : Int)), (4, vi p), (5, vi (b2 more))]) (by decide) rfl dq_Mod_put_86 ?_
          refine qv_iload C rfl dq_Mod_put_88 ?_
          refine qv_iload C rfl dq_Mod_put_90 ?_
          refine qv_icge C (by omega) (by omega) (tgt := 105) (by decide) dq_Mod_put_92 (fun h92 => ?_) (fun h92 => ?_)
          · skip
            refine qv_iload C rfl dq_Mod_put_105 ?_
            refine qv_ifeq C (by omega) (tgt := 130) (by decide) dq_Mod_put_107 (fun h107 => ?_) (fun h107 => ?_)
            · skip
              refine qv_lload C rfl dq_Mod_put_130 ?_
              refine qv_ldc2 C (z := 9007199254740992) wk_Mod_108 dq_Mod_put_132 ?_
              refine qv_lcne C (by omega) (by omega) dq_Mod_put_135 (tgt := 148) (by decide) dq_Mod_put_136 (fun h135 => ?_) (fun h135 => ?_)
              · skip
                refine qv_iload C rfl dq_Mod_put_148 ?_
                refine qv_sipush C (by decide) dq_Mod_put_150 ?_
                refine qv_icle C (by omega) (by omega) (tgt := 158) (by decide) dq_Mod_put_153 (fun h153 => ?_) (fun h153 => ?_)
                · skip
                  refine qv_aload_n C rfl dq_Mod_put_158 ?_
                  refine qv_lload C rfl dq_Mod_put_159 ?_
                  refine qv_ldc2 C (z := 4503599627370496) wk_Mod_38 dq_Mod_put_161 ?_
                  refine qv_lcge C (by omega) (by omega) dq_Mod_put_164 (tgt := 173) (by decide) dq_Mod_put_165 (fun h164 => ?_) (fun h164 => ?_)
                  · skip
                    refine qv_lload C rfl dq_Mod_put_173 ?_
                    refine qv_ldc2 C (z := 4503599627370496) wk_Mod_38 dq_Mod_put_175 ?_
                    refine qv_lsub C (r := (((f - 4503599627370496) : Nat) : Int)) (by omega) dq_Mod_put_178 ?_
                    refine qv_iload C rfl dq_Mod_put_179 ?_
                    refine qv_sipush C (by decide) dq_Mod_put_181 ?_
                    refine qv_iadd C (r := ((p + 1) + 1075)) rfl dq_Mod_put_184 ?_
                    refine qv_ti (r := (((q + 1) : Nat) : Int)) (by omega) ?_
                    refine qv_i2l C (by omega) dq_Mod_put_185 ?_
                    refine qv_bipush C (by decide) dq_Mod_put_186 ?_
                    refine qv_lshl C (q + 1) 52 (by omega) (by omega) (by omega) dq_Mod_put_188 ?_
                    refine qv_lor C (r := ((((q + 1) * 2 ^ 52 + (f - 4503599627370496)) : Nat) : Int)) (zj_or' (by omega) (by omega)) dq_Mod_put_189 ?_
                    refine qv_put C (ws' := [oc y 4 [vi er, vi (b2 mi), .ref dg, vi ((nd : Nat) : Int), vi pl, vi ((zr : Nat) : Int), vi bh, .ref rw, vi ((mn : Nat) : Int), vi fr, vj ((((q + 1) * 2 ^ 52 + (f - 4503599627370496)) : Nat) : Int), .ref bt, .ref wz, .ref lw, .ref hg, vi ((ls : Nat) : Int), vi lp, vi ((hs : Nat) : Int), vi hq]]) fl_Mod_96 fs_4_10 0 rfl rfl rfl (Nat.le_of_ble_eq_true rfl) rfl dq_Mod_put_190 ?_
                    refine qv_iconst C dq_Mod_put_193 ?_
                    refine qv_zret (b := true) C hR ?_ dq_Mod_put_194 (by decide) (by decide)
                    refine ⟨false, ?_, ?_⟩
                    · refine ⟨fun q => (by cases q), fun q => ?_⟩
                      exfalso
                      omega
                    · rw [hqn, ← hf, if_neg (by decide)]
                      refine Or.inl ⟨by omega, rfl, ?_⟩
                      have ev : ((((q + 1) * 2 ^ 52 + (f - 4503599627370496)) : Nat) : Int) = ((q * 4503599627370496 + f + 0 : Nat) : Int) := by omega
                      rw [← ev] <;> rfl
                  · skip
                    refine qv_lload C rfl dq_Mod_put_168 ?_
                    refine qv_goto C (tgt := 190) (by decide) dq_Mod_put_170 ?_
                    refine qv_put C (ws' := [oc y 4 [vi er, vi (b2 mi), .ref dg, vi ((nd : Nat) : Int), vi pl, vi ((zr : Nat) : Int), vi bh, .ref rw, vi ((mn : Nat) : Int), vi fr, vj ((f : Nat) : Int), .ref bt, .ref wz, .ref lw, .ref hg, vi ((ls : Nat) : Int), vi lp, vi ((hs : Nat) : Int), vi hq]]) fl_Mod_96 fs_4_10 0 rfl rfl rfl (Nat.le_of_ble_eq_true rfl) rfl dq_Mod_put_190 ?_
                    refine qv_iconst C dq_Mod_put_193 ?_
                    refine qv_zret (b := true) C hR ?_ dq_Mod_put_194 (by decide) (by decide)
                    refine ⟨false, ?_, ?_⟩
                    · refine ⟨fun q => (by cases q), fun q => ?_⟩
                      exfalso
                      omega
                    · rw [hqn, ← hf, if_neg (by decide)]
                      refine Or.inl ⟨by omega, rfl, ?_⟩
                      have ev : ((f : Nat) : Int) = ((q * 4503599627370496 + f + 0 : Nat) : Int) := by omega
                      rw [← ev] <;> rfl
                · skip
                  refine qv_iconst C dq_Mod_put_156 ?_
                  refine qv_zret (b := false) C hR ?_ dq_Mod_put_157 (by decide) (by decide)
                  refine ⟨false, ?_, ?_⟩
                  · refine ⟨fun q => (by cases q), fun q => ?_⟩
                    exfalso
                    omega
                  · rw [hqn, ← hf, if_neg (by decide)]
                    exact Or.inr ⟨by omega, rfl, rfl⟩
              · skip
                refine qv_lload C rfl dq_Mod_put_139 ?_
                refine qv_iconst C dq_Mod_put_141 ?_
                refine qv_lshr C f 1 (by omega) (by omega) (by omega) (by omega) dq_Mod_put_142 ?_
                refine qv_lstore C (lv' := [(7, vj ((f / 2 ^ 1 : Nat) : Int)), (11, vi (p + 1)), (10, vi 0), (9, vi (b2 more)), (6, vi (p + 1)), (0, .ref y), (1, vj ((m : Nat) : Int)), (3, vi ((got : Nat) : Int)), (4, vi p), (5, vi (b2 more))]) (by decide) rfl dq_Mod_put_143 ?_
                refine qv_iinc C (j := 1) (lv' := [(11, vi ((p + 1) + 1)), (7, vj ((f / 2 ^ 1 : Nat) : Int)), (10, vi 0), (9, vi (b2 more)), (6, vi (p + 1)), (0, .ref y), (1, vj ((m : Nat) : Int)), (3, vi ((got : Nat) : Int)), (4, vi p), (5, vi (b2 more))]) rfl rfl (by decide) rfl dq_Mod_put_145 ?_
                refine qv_iload C rfl dq_Mod_put_148 ?_
                refine qv_sipush C (by decide) dq_Mod_put_150 ?_
                refine qv_icle C (by omega) (by omega) (tgt := 158) (by decide) dq_Mod_put_153 (fun h153 => ?_) (fun h153 => ?_)
                · skip
                  refine qv_aload_n C rfl dq_Mod_put_158 ?_
                  refine qv_lload C rfl dq_Mod_put_159 ?_
                  refine qv_ldc2 C (z := 4503599627370496) wk_Mod_38 dq_Mod_put_161 ?_
                  refine qv_lcge C (by omega) (by omega) dq_Mod_put_164 (tgt := 173) (by decide) dq_Mod_put_165 (fun h164 => ?_) (fun h164 => ?_)
                  · skip
                    refine qv_lload C rfl dq_Mod_put_173 ?_
                    refine qv_ldc2 C (z := 4503599627370496) wk_Mod_38 dq_Mod_put_175 ?_
                    refine qv_lsub C (r := (((f / 2 ^ 1 - 4503599627370496) : Nat) : Int)) (by omega) dq_Mod_put_178 ?_
                    refine qv_iload C rfl dq_Mod_put_179 ?_
                    refine qv_sipush C (by decide) dq_Mod_put_181 ?_
                    refine qv_iadd C (r := (((p + 1) + 1) + 1075)) rfl dq_Mod_put_184 ?_
                    refine qv_ti (r := (((q + 2) : Nat) : Int)) (by omega) ?_
                    refine qv_i2l C (by omega) dq_Mod_put_185 ?_
                    refine qv_bipush C (by decide) dq_Mod_put_186 ?_
                    refine qv_lshl C (q + 2) 52 (by omega) (by omega) (by omega) dq_Mod_put_188 ?_
                    refine qv_lor C (r := ((((q + 2) * 2 ^ 52 + (f / 2 ^ 1 - 4503599627370496)) : Nat) : Int)) (zj_or' (by omega) (by omega)) dq_Mod_put_189 ?_
                    refine qv_put C (ws' := [oc y 4 [vi er, vi (b2 mi), .ref dg, vi ((nd : Nat) : Int), vi pl, vi ((zr : Nat) : Int), vi bh, .ref rw, vi ((mn : Nat) : Int), vi fr, vj ((((q + 2) * 2 ^ 52 + (f / 2 ^ 1 - 4503599627370496)) : Nat) : Int), .ref bt, .ref wz, .ref lw, .ref hg, vi ((ls : Nat) : Int), vi lp, vi ((hs : Nat) : Int), vi hq]]) fl_Mod_96 fs_4_10 0 rfl rfl rfl (Nat.le_of_ble_eq_true rfl) rfl dq_Mod_put_190 ?_
                    refine qv_iconst C dq_Mod_put_193 ?_
                    refine qv_zret (b := true) C hR ?_ dq_Mod_put_194 (by decide) (by decide)
                    refine ⟨true, ?_, ?_⟩
                    · exact ⟨fun _ => ⟨by omega, Or.inr (by omega)⟩, fun _ => rfl⟩
                    · rw [hqn, ← hf, if_pos rfl]
                      refine Or.inl ⟨by omega, rfl, ?_⟩
                      have ev : ((((q + 2) * 2 ^ 52 + (f / 2 ^ 1 - 4503599627370496)) : Nat) : Int) = ((q * 4503599627370496 + f + 1 : Nat) : Int) := by omega
                      rw [← ev] <;> rfl
                  · skip
                    refine qv_lload C rfl dq_Mod_put_168 ?_
                    refine qv_goto C (tgt := 190) (by decide) dq_Mod_put_170 ?_
                    refine qv_put C (ws' := [oc y 4 [vi er, vi (b2 mi), .ref dg, vi ((nd : Nat) : Int), vi pl, vi ((zr : Nat) : Int), vi bh, .ref rw, vi ((mn : Nat) : Int), vi fr, vj ((f / 2 ^ 1 : Nat) : Int), .ref bt, .ref wz, .ref lw, .ref hg, vi ((ls : Nat) : Int), vi lp, vi ((hs : Nat) : Int), vi hq]]) fl_Mod_96 fs_4_10 0 rfl rfl rfl (Nat.le_of_ble_eq_true rfl) rfl dq_Mod_put_190 ?_
                    refine qv_iconst C dq_Mod_put_193 ?_
                    refine qv_zret (b := true) C hR ?_ dq_Mod_put_194 (by decide) (by decide)
                    refine ⟨true, ?_, ?_⟩
                    · exact ⟨fun _ => ⟨by omega, Or.inr (by omega)⟩, fun _ => rfl⟩
                    · rw [hqn, ← hf, if_pos rfl]
                      refine Or.inl ⟨by omega, rfl, ?_⟩
                      have ev : ((f / 2 ^ 1 : Nat) : Int) = ((q * 4503599627370496 + f + 1 : Nat) : Int) := by omega
                      rw [← ev] <;> rfl
                · skip
                  refine qv_iconst C dq_Mod_put_156 ?_
                  refine qv_zret (b := false) C hR ?_ dq_Mod_put_157 (by decide) (by decide)
                  refine ⟨true, ?_, ?_⟩
                  · exact ⟨fun _ => ⟨by omega, Or.inr (by omega)⟩, fun _ => rfl⟩
                  · rw [hqn, ← hf, if_pos rfl]
                    exact Or.inr ⟨by omega, rfl, rfl⟩
            · exfalso; omega
          · exfalso; omega
        · exfalso; omega
      · skip
        refine qv_iconst C dq_Mod_put_65 ?_
        refine qv_goto C (tgt := 70) (by decide) dq_Mod_put_66 ?_
        refine qv_istore C (lv' := [(10, vi 1), (9, vi (b2 more)), (11, vi p), (7, vj ((m : Nat) : Int)), (6, vi (p + 1)), (0, .ref y), (1, vj ((m : Nat) : Int)), (3, vi ((got : Nat) : Int)), (4, vi p), (5, vi (b2 more))]) (by decide) rfl dq_Mod_put_70 ?_
        refine qv_lload C rfl dq_Mod_put_72 ?_
        refine qv_iconst C dq_Mod_put_74 ?_
        refine qv_lshr C m 1 (by omega) (by omega) (by omega) (by omega) dq_Mod_put_75 ?_
        refine qv_tj (r := ((f : Nat) : Int)) (by rw [hf] <;> rfl) ?_
        refine qv_lstore C (lv' := [(7, vj ((f : Nat) : Int)), (10, vi 1), (9, vi (b2 more)), (11, vi p), (6, vi (p + 1)), (0, .ref y), (1, vj ((m : Nat) : Int)), (3, vi ((got : Nat) : Int)), (4, vi p), (5, vi (b2 more))]) (by decide) rfl dq_Mod_put_76 ?_
        refine qv_iinc C (j := 3) (lv' := [(11, vi (p + 1)), (7, vj ((f : Nat) : Int)), (10, vi 1), (9, vi (b2 more)), (6, vi (p + 1)), (0, .ref y), (1, vj ((m : Nat) : Int)), (3, vi ((got : Nat) : Int)), (4, vi p), (5, vi (b2 more))]) rfl rfl (by decide) rfl dq_Mod_put_78 ?_
        refine qv_goto C (tgt := 42) (by decide) dq_Mod_put_81 ?_
        refine qv_iload C rfl dq_Mod_put_42 ?_
        refine qv_iload C rfl dq_Mod_put_44 ?_
        refine qv_icge C (by omega) (by omega) (tgt := 84) (by decide) dq_Mod_put_46 (fun h46 => ?_) (fun h46 => ?_)
        · skip
          refine qv_iload C rfl dq_Mod_put_84 ?_
          refine qv_istore C (lv' := [(11, vi (p + 1)), (7, vj ((f : Nat) : Int)), (10, vi 1), (9, vi (b2 more)), (6, vi (p + 1)), (0, .ref y), (1, vj ((m : Nat) : Int)), (3, vi ((got : Nat) : Int)), (4, vi p), (5, vi (b2 more))]) (by decide) rfl dq_Mod_put_86 ?_
          refine qv_iload C rfl dq_Mod_put_88 ?_
          refine qv_iload C rfl dq_Mod_put_90 ?_
          refine qv_icge C (by omega) (by omega) (tgt := 105) (by decide) dq_Mod_put_92 (fun h92 => ?_) (fun h92 => ?_)
          · skip
            refine qv_iload C rfl dq_Mod_put_105 ?_
            refine qv_ifeq C (by omega) (tgt := 130) (by decide) dq_Mod_put_107 (fun h107 => ?_) (fun h107 => ?_)
            · exfalso; omega
            · skip
              refine qv_iload C rfl dq_Mod_put_110 ?_
              refine qv_ifne C (rb_b2 more) (tgt := 124) (by decide) dq_Mod_put_112 (fun h112 => ?_) (fun h112 => ?_)
              · skip
                refine qv_lload C rfl dq_Mod_put_124 ?_
                refine qv_lconst C (z := 1) (by decide) dq_Mod_put_126 ?_
                refine qv_ladd C (r := (((f + 1) : Nat) : Int)) (by omega) dq_Mod_put_127 ?_
                refine qv_lstore C (lv' := [(7, vj (((f + 1) : Nat) : Int)), (11, vi (p + 1)), (10, vi 1), (9, vi (b2 more)), (6, vi (p + 1)), (0, .ref y), (1, vj ((m : Nat) : Int)), (3, vi ((got : Nat) : Int)), (4, vi p), (5, vi (b2 more))]) (by decide) rfl dq_Mod_put_128 ?_
                refine qv_lload C rfl dq_Mod_put_130 ?_
                refine qv_ldc2 C (z := 9007199254740992) wk_Mod_108 dq_Mod_put_132 ?_
                refine qv_lcne C (by omega) (by omega) dq_Mod_put_135 (tgt := 148) (by decide) dq_Mod_put_136 (fun h135 => ?_) (fun h135 => ?_)
                · skip
                  refine qv_iload C rfl dq_Mod_put_148 ?_
                  refine qv_sipush C (by decide) dq_Mod_put_150 ?_
                  refine qv_icle C (by omega) (by omega) (tgt := 158) (by decide) dq_Mod_put_153 (fun h153 => ?_) (fun h153 => ?_)
                  · skip
                    refine qv_aload_n C rfl dq_Mod_put_158 ?_
                    refine qv_lload C rfl dq_Mod_put_159 ?_
                    refine qv_ldc2 C (z := 4503599627370496) wk_Mod_38 dq_Mod_put_161 ?_
                    refine qv_lcge C (by omega) (by omega) dq_Mod_put_164 (tgt := 173) (by decide) dq_Mod_put_165 (fun h164 => ?_) (fun h164 => ?_)
                    · skip
                      refine qv_lload C rfl dq_Mod_put_173 ?_
                      refine qv_ldc2 C (z := 4503599627370496) wk_Mod_38 dq_Mod_put_175 ?_
                      refine qv_lsub C (r := (((f - 4503599627370495) : Nat) : Int)) (by omega) dq_Mod_put_178 ?_
                      refine qv_iload C rfl dq_Mod_put_179 ?_
                      refine qv_sipush C (by decide) dq_Mod_put_181 ?_
                      refine qv_iadd C (r := ((p + 1) + 1075)) rfl dq_Mod_put_184 ?_
                      refine qv_ti (r := (((q + 1) : Nat) : Int)) (by omega) ?_
                      refine qv_i2l C (by omega) dq_Mod_put_185 ?_
                      refine qv_bipush C (by decide) dq_Mod_put_186 ?_
                      refine qv_lshl C (q + 1) 52 (by omega) (by omega) (by omega) dq_Mod_put_188 ?_
                      refine qv_lor C (r := ((((q + 1) * 2 ^ 52 + (f - 4503599627370495)) : Nat) : Int)) (zj_or' (by omega) (by omega)) dq_Mod_put_189 ?_
                      refine qv_put C (ws' := [oc y 4 [vi er, vi (b2 mi), .ref dg, vi ((nd : Nat) : Int), vi pl, vi ((zr : Nat) : Int), vi bh, .ref rw, vi ((mn : Nat) : Int), vi fr, vj ((((q + 1) * 2 ^ 52 + (f - 4503599627370495)) : Nat) : Int), .ref bt, .ref wz, .ref lw, .ref hg, vi ((ls : Nat) : Int), vi lp, vi ((hs : Nat) : Int), vi hq]]) fl_Mod_96 fs_4_10 0 rfl rfl rfl (Nat.le_of_ble_eq_true rfl) rfl dq_Mod_put_190 ?_
                      refine qv_iconst C dq_Mod_put_193 ?_
                      refine qv_zret (b := true) C hR ?_ dq_Mod_put_194 (by decide) (by decide)
                      have em := hmo2 h112
                      refine ⟨true, ?_, ?_⟩
                      · exact ⟨fun _ => ⟨by omega, Or.inl em⟩, fun _ => rfl⟩
                      · rw [hqn, ← hf, if_pos rfl]
                        refine Or.inl ⟨by omega, rfl, ?_⟩
                        have ev : ((((q + 1) * 2 ^ 52 + (f - 4503599627370495)) : Nat) : Int) = ((q * 4503599627370496 + f + 1 : Nat) : Int) := by omega
                        rw [← ev] <;> rfl
                    · skip
                      refine qv_lload C rfl dq_Mod_put_168 ?_
                      refine qv_goto C (tgt := 190) (by decide) dq_Mod_put_170 ?_
                      refine qv_put C (ws' := [oc y 4 [vi er, vi (b2 mi), .ref dg, vi ((nd : Nat) : Int), vi pl, vi ((zr : Nat) : Int), vi bh, .ref rw, vi ((mn : Nat) : Int), vi fr, vj (((f + 1) : Nat) : Int), .ref bt, .ref wz, .ref lw, .ref hg, vi ((ls : Nat) : Int), vi lp, vi ((hs : Nat) : Int), vi hq]]) fl_Mod_96 fs_4_10 0 rfl rfl rfl (Nat.le_of_ble_eq_true rfl) rfl dq_Mod_put_190 ?_
                      refine qv_iconst C dq_Mod_put_193 ?_
                      refine qv_zret (b := true) C hR ?_ dq_Mod_put_194 (by decide) (by decide)
                      have em := hmo2 h112
                      refine ⟨true, ?_, ?_⟩
                      · exact ⟨fun _ => ⟨by omega, Or.inl em⟩, fun _ => rfl⟩
                      · rw [hqn, ← hf, if_pos rfl]
                        refine Or.inl ⟨by omega, rfl, ?_⟩
                        have ev : (((f + 1) : Nat) : Int) = ((q * 4503599627370496 + f + 1 : Nat) : Int) := by omega
                        rw [← ev] <;> rfl
                  · skip
                    refine qv_iconst C dq_Mod_put_156 ?_
                    refine qv_zret (b := false) C hR ?_ dq_Mod_put_157 (by decide) (by decide)
                    have em := hmo2 h112
                    refine ⟨true, ?_, ?_⟩
                    · exact ⟨fun _ => ⟨by omega, Or.inl em⟩, fun _ => rfl⟩
                    · rw [hqn, ← hf, if_pos rfl]
                      exact Or.inr ⟨by omega, rfl, rfl⟩
                · skip
                  refine qv_lload C rfl dq_Mod_put_139 ?_
                  refine qv_iconst C dq_Mod_put_141 ?_
                  refine qv_lshr C (f + 1) 1 (by omega) (by omega) (by omega) (by omega) dq_Mod_put_142 ?_
                  refine qv_lstore C (lv' := [(7, vj (((f + 1) / 2 ^ 1 : Nat) : Int)), (11, vi (p + 1)), (10, vi 1), (9, vi (b2 more)), (6, vi (p + 1)), (0, .ref y), (1, vj ((m : Nat) : Int)), (3, vi ((got : Nat) : Int)), (4, vi p), (5, vi (b2 more))]) (by decide) rfl dq_Mod_put_143 ?_
                  refine qv_iinc C (j := 1) (lv' := [(11, vi ((p + 1) + 1)), (7, vj (((f + 1) / 2 ^ 1 : Nat) : Int)), (10, vi 1), (9, vi (b2 more)), (6, vi (p + 1)), (0, .ref y), (1, vj ((m : Nat) : Int)), (3, vi ((got : Nat) : Int)), (4, vi p), (5, vi (b2 more))]) rfl rfl (by decide) rfl dq_Mod_put_145 ?_
                  refine qv_iload C rfl dq_Mod_put_148 ?_
                  refine qv_sipush C (by decide) dq_Mod_put_150 ?_
                  refine qv_icle C (by omega) (by omega) (tgt := 158) (by decide) dq_Mod_put_153 (fun h153 => ?_) (fun h153 => ?_)
                  · skip
                    refine qv_aload_n C rfl dq_Mod_put_158 ?_
                    refine qv_lload C rfl dq_Mod_put_159 ?_
                    refine qv_ldc2 C (z := 4503599627370496) wk_Mod_38 dq_Mod_put_161 ?_
                    refine qv_lcge C (by omega) (by omega) dq_Mod_put_164 (tgt := 173) (by decide) dq_Mod_put_165 (fun h164 => ?_) (fun h164 => ?_)
                    · skip
                      refine qv_lload C rfl dq_Mod_put_173 ?_
                      refine qv_ldc2 C (z := 4503599627370496) wk_Mod_38 dq_Mod_put_175 ?_
                      refine qv_lsub C (r := ((((f + 1) / 2 ^ 1 - 4503599627370496) : Nat) : Int)) (by omega) dq_Mod_put_178 ?_
                      refine qv_iload C rfl dq_Mod_put_179 ?_
                      refine qv_sipush C (by decide) dq_Mod_put_181 ?_
                      refine qv_iadd C (r := (((p + 1) + 1) + 1075)) rfl dq_Mod_put_184 ?_
                      refine qv_ti (r := (((q + 2) : Nat) : Int)) (by omega) ?_
                      refine qv_i2l C (by omega) dq_Mod_put_185 ?_
                      refine qv_bipush C (by decide) dq_Mod_put_186 ?_
                      refine qv_lshl C (q + 2) 52 (by omega) (by omega) (by omega) dq_Mod_put_188 ?_
                      refine qv_lor C (r := ((((q + 2) * 2 ^ 52 + ((f + 1) / 2 ^ 1 - 4503599627370496)) : Nat) : Int)) (zj_or' (by omega) (by omega)) dq_Mod_put_189 ?_
                      refine qv_put C (ws' := [oc y 4 [vi er, vi (b2 mi), .ref dg, vi ((nd : Nat) : Int), vi pl, vi ((zr : Nat) : Int), vi bh, .ref rw, vi ((mn : Nat) : Int), vi fr, vj ((((q + 2) * 2 ^ 52 + ((f + 1) / 2 ^ 1 - 4503599627370496)) : Nat) : Int), .ref bt, .ref wz, .ref lw, .ref hg, vi ((ls : Nat) : Int), vi lp, vi ((hs : Nat) : Int), vi hq]]) fl_Mod_96 fs_4_10 0 rfl rfl rfl (Nat.le_of_ble_eq_true rfl) rfl dq_Mod_put_190 ?_
                      refine qv_iconst C dq_Mod_put_193 ?_
                      refine qv_zret (b := true) C hR ?_ dq_Mod_put_194 (by decide) (by decide)
                      have em := hmo2 h112
                      refine ⟨true, ?_, ?_⟩
                      · exact ⟨fun _ => ⟨by omega, Or.inl em⟩, fun _ => rfl⟩
                      · rw [hqn, ← hf, if_pos rfl]
                        refine Or.inl ⟨by omega, rfl, ?_⟩
                        have ev : ((((q + 2) * 2 ^ 52 + ((f + 1) / 2 ^ 1 - 4503599627370496)) : Nat) : Int) = ((q * 4503599627370496 + f + 1 : Nat) : Int) := by omega
                        rw [← ev] <;> rfl
                    · skip
                      refine qv_lload C rfl dq_Mod_put_168 ?_
                      refine qv_goto C (tgt := 190) (by decide) dq_Mod_put_170 ?_
                      refine qv_put C (ws' := [oc y 4 [vi er, vi (b2 mi), .ref dg, vi ((nd : Nat) : Int), vi pl, vi ((zr : Nat) : Int), vi bh, .ref rw, vi ((mn : Nat) : Int), vi fr, vj (((f + 1) / 2 ^ 1 : Nat) : Int), .ref bt, .ref wz, .ref lw, .ref hg, vi ((ls : Nat) : Int), vi lp, vi ((hs : Nat) : Int), vi hq]]) fl_Mod_96 fs_4_10 0 rfl rfl rfl (Nat.le_of_ble_eq_true rfl) rfl dq_Mod_put_190 ?_
                      refine qv_iconst C dq_Mod_put_193 ?_
                      refine qv_zret (b := true) C hR ?_ dq_Mod_put_194 (by decide) (by decide)
                      have em := hmo2 h112
                      refine ⟨true, ?_, ?_⟩
                      · exact ⟨fun _ => ⟨by omega, Or.inl em⟩, fun _ => rfl⟩
                      · rw [hqn, ← hf, if_pos rfl]
                        refine Or.inl ⟨by omega, rfl, ?_⟩
                        have ev : (((f + 1) / 2 ^ 1 : Nat) : Int) = ((q * 4503599627370496 + f + 1 : Nat) : Int) := by omega
                        rw [← ev] <;> rfl
                  · skip
                    refine qv_iconst C dq_Mod_put_156 ?_
                    refine qv_zret (b := false) C hR ?_ dq_Mod_put_157 (by decide) (by decide)
                    have em := hmo2 h112
                    refine ⟨true, ?_, ?_⟩
                    · exact ⟨fun _ => ⟨by omega, Or.inl em⟩, fun _ => rfl⟩
                    · rw [hqn, ← hf, if_pos rfl]
                      exact Or.inr ⟨by omega, rfl, rfl⟩
              · skip
                refine qv_lload C rfl dq_Mod_put_115 ?_
                refine qv_lconst C (z := 1) (by decide) dq_Mod_put_117 ?_
                refine qv_land C (r := (((f % 2) : Nat) : Int)) (zj_and (a := f) (b := 1) (by omega)) dq_Mod_put_118 ?_
                refine qv_lconst C (z := 0) (by decide) dq_Mod_put_119 ?_
                refine qv_lceq C (by omega) (by omega) dq_Mod_put_120 (tgt := 130) (by decide) dq_Mod_put_121 (fun h120 => ?_) (fun h120 => ?_)
                · skip
                  refine qv_lload C rfl dq_Mod_put_130 ?_
                  refine qv_ldc2 C (z := 9007199254740992) wk_Mod_108 dq_Mod_put_132 ?_
                  refine qv_lcne C (by omega) (by omega) dq_Mod_put_135 (tgt := 148) (by decide) dq_Mod_put_136 (fun h135 => ?_) (fun h135 => ?_)
                  · skip
                    refine qv_iload C rfl dq_Mod_put_148 ?_
                    refine qv_sipush C (by decide) dq_Mod_put_150 ?_
                    refine qv_icle C (by omega) (by omega) (tgt := 158) (by decide) dq_Mod_put_153 (fun h153 => ?_) (fun h153 => ?_)
                    · skip
                      refine qv_aload_n C rfl dq_Mod_put_158 ?_
                      refine qv_lload C rfl dq_Mod_put_159 ?_
                      refine qv_ldc2 C (z := 4503599627370496) wk_Mod_38 dq_Mod_put_161 ?_
                      refine qv_lcge C (by omega) (by omega) dq_Mod_put_164 (tgt := 173) (by decide) dq_Mod_put_165 (fun h164 => ?_) (fun h164 => ?_)
                      · skip
                        refine qv_lload C rfl dq_Mod_put_173 ?_
                        refine qv_ldc2 C (z := 4503599627370496) wk_Mod_38 dq_Mod_put_175 ?_
                        refine qv_lsub C (r := (((f - 4503599627370496) : Nat) : Int)) (by omega) dq_Mod_put_178 ?_
                        refine qv_iload C rfl dq_Mod_put_179 ?_
                        refine qv_sipush C (by decide) dq_Mod_put_181 ?_
                        refine qv_iadd C (r := ((p + 1) + 1075)) rfl dq_Mod_put_184 ?_
                        refine qv_ti (r := (((q + 1) : Nat) : Int)) (by omega) ?_
                        refine qv_i2l C (by omega) dq_Mod_put_185 ?_
                        refine qv_bipush C (by decide) dq_Mod_put_186 ?_
                        refine qv_lshl C (q + 1) 52 (by omega) (by omega) (by omega) dq_Mod_put_188 ?_
                        refine qv_lor C (r := ((((q + 1) * 2 ^ 52 + (f - 4503599627370496)) : Nat) : Int)) (zj_or' (by omega) (by omega)) dq_Mod_put_189 ?_
                        refine qv_put C (ws' := [oc y 4 [vi er, vi (b2 mi), .ref dg, vi ((nd : Nat) : Int), vi pl, vi ((zr : Nat) : Int), vi bh, .ref rw, vi ((mn : Nat) : Int), vi fr, vj ((((q + 1) * 2 ^ 52 + (f - 4503599627370496)) : Nat) : Int), .ref bt, .ref wz, .ref lw, .ref hg, vi ((ls : Nat) : Int), vi lp, vi ((hs : Nat) : Int), vi hq]]) fl_Mod_96 fs_4_10 0 rfl rfl rfl (Nat.le_of_ble_eq_true rfl) rfl dq_Mod_put_190 ?_
                        refine qv_iconst C dq_Mod_put_193 ?_
                        refine qv_zret (b := true) C hR ?_ dq_Mod_put_194 (by decide) (by decide)
                        have em := hmo h112
                        refine ⟨false, ?_, ?_⟩
                        · refine ⟨fun q => (by cases q), fun q => ?_⟩
                          exfalso
                          rcases q with ⟨q1, q2 | q2⟩
                          · rw [em] at q2; cases q2
                          · omega
                        · rw [hqn, ← hf, if_neg (by decide)]
                          refine Or.inl ⟨by omega, rfl, ?_⟩
                          have ev : ((((q + 1) * 2 ^ 52 + (f - 4503599627370496)) : Nat) : Int) = ((q * 4503599627370496 + f + 0 : Nat) : Int) := by omega
                          rw [← ev] <;> rfl
                      · skip
                        refine qv_lload C rfl dq_Mod_put_168 ?_
                        refine qv_goto C (tgt := 190) (by decide) dq_Mod_put_170 ?_
                        refine qv_put C (ws' := [oc y 4 [vi er, vi (b2 mi), .ref dg, vi ((nd : Nat) : Int), vi pl, vi ((zr : Nat) : Int), vi bh, .ref rw, vi ((mn : Nat) : Int), vi fr, vj ((f : Nat) : Int), .ref bt, .ref wz, .ref lw, .ref hg, vi ((ls : Nat) : Int), vi lp, vi ((hs : Nat) : Int), vi hq]]) fl_Mod_96 fs_4_10 0 rfl rfl rfl (Nat.le_of_ble_eq_true rfl) rfl dq_Mod_put_190 ?_
                        refine qv_iconst C dq_Mod_put_193 ?_
                        refine qv_zret (b := true) C hR ?_ dq_Mod_put_194 (by decide) (by decide)
                        have em := hmo h112
                        refine ⟨false, ?_, ?_⟩
                        · refine ⟨fun q => (by cases q), fun q => ?_⟩
                          exfalso
                          rcases q with ⟨q1, q2 | q2⟩
                          · rw [em] at q2; cases q2
                          · omega
                        · rw [hqn, ← hf, if_neg (by decide)]
                          refine Or.inl ⟨by omega, rfl, ?_⟩
                          have ev : ((f : Nat) : Int) = ((q * 4503599627370496 + f + 0 : Nat) : Int) := by omega
                          rw [← ev] <;> rfl
                    · skip
                      refine qv_iconst C dq_Mod_put_156 ?_
                      refine qv_zret (b := false) C hR ?_ dq_Mod_put_157 (by decide) (by decide)
                      have em := hmo h112
                      refine ⟨false, ?_, ?_⟩
                      · refine ⟨fun q => (by cases q), fun q => ?_⟩
                        exfalso
                        rcases q with ⟨q1, q2 | q2⟩
                        · rw [em] at q2; cases q2
                        · omega
                      · rw [hqn, ← hf, if_neg (by decide)]
                        exact Or.inr ⟨by omega, rfl, rfl⟩
                  · skip
                    refine qv_lload C rfl dq_Mod_put_139 ?_
                    refine qv_iconst C dq_Mod_put_141 ?_
                    refine qv_lshr C f 1 (by omega) (by omega) (by omega) (by omega) dq_Mod_put_142 ?_
                    refine qv_lstore C (lv' := [(7, vj ((f / 2 ^ 1 : Nat) : Int)), (11, vi (p + 1)), (10, vi 1), (9, vi (b2 more)), (6, vi (p + 1)), (0, .ref y), (1, vj ((m : Nat) : Int)), (3, vi ((got : Nat) : Int)), (4, vi p), (5, vi (b2 more))]) (by decide) rfl dq_Mod_put_143 ?_
                    refine qv_iinc C (j := 1) (lv' := [(11, vi ((p + 1) + 1)), (7, vj ((f / 2 ^ 1 : Nat) : Int)), (10, vi 1), (9, vi (b2 more)), (6, vi (p + 1)), (0, .ref y), (1, vj ((m : Nat) : Int)), (3, vi ((got : Nat) : Int)), (4, vi p), (5, vi (b2 more))]) rfl rfl (by decide) rfl dq_Mod_put_145 ?_
                    refine qv_iload C rfl dq_Mod_put_148 ?_
                    refine qv_sipush C (by decide) dq_Mod_put_150 ?_
                    refine qv_icle C (by omega) (by omega) (tgt := 158) (by decide) dq_Mod_put_153 (fun h153 => ?_) (fun h153 => ?_)
                    · skip
                      refine qv_aload_n C rfl dq_Mod_put_158 ?_
                      refine qv_lload C rfl dq_Mod_put_159 ?_
                      refine qv_ldc2 C (z := 4503599627370496) wk_Mod_38 dq_Mod_put_161 ?_
                      refine qv_lcge C (by omega) (by omega) dq_Mod_put_164 (tgt := 173) (by decide) dq_Mod_put_165 (fun h164 => ?_) (fun h164 => ?_)
                      · skip
                        refine qv_lload C rfl dq_Mod_put_173 ?_
                        refine qv_ldc2 C (z := 4503599627370496) wk_Mod_38 dq_Mod_put_175 ?_
                        refine qv_lsub C (r := (((f / 2 ^ 1 - 4503599627370496) : Nat) : Int)) (by omega) dq_Mod_put_178 ?_
                        refine qv_iload C rfl dq_Mod_put_179 ?_
                        refine qv_sipush C (by decide) dq_Mod_put_181 ?_
                        refine qv_iadd C (r := (((p + 1) + 1) + 1075)) rfl dq_Mod_put_184 ?_
                        refine qv_ti (r := (((q + 2) : Nat) : Int)) (by omega) ?_
                        refine qv_i2l C (by omega) dq_Mod_put_185 ?_
                        refine qv_bipush C (by decide) dq_Mod_put_186 ?_
                        refine qv_lshl C (q + 2) 52 (by omega) (by omega) (by omega) dq_Mod_put_188 ?_
                        refine qv_lor C (r := ((((q + 2) * 2 ^ 52 + (f / 2 ^ 1 - 4503599627370496)) : Nat) : Int)) (zj_or' (by omega) (by omega)) dq_Mod_put_189 ?_
                        refine qv_put C (ws' := [oc y 4 [vi er, vi (b2 mi), .ref dg, vi ((nd : Nat) : Int), vi pl, vi ((zr : Nat) : Int), vi bh, .ref rw, vi ((mn : Nat) : Int), vi fr, vj ((((q + 2) * 2 ^ 52 + (f / 2 ^ 1 - 4503599627370496)) : Nat) : Int), .ref bt, .ref wz, .ref lw, .ref hg, vi ((ls : Nat) : Int), vi lp, vi ((hs : Nat) : Int), vi hq]]) fl_Mod_96 fs_4_10 0 rfl rfl rfl (Nat.le_of_ble_eq_true rfl) rfl dq_Mod_put_190 ?_
                        refine qv_iconst C dq_Mod_put_193 ?_
                        refine qv_zret (b := true) C hR ?_ dq_Mod_put_194 (by decide) (by decide)
                        have em := hmo h112
                        refine ⟨true, ?_, ?_⟩
                        · exact ⟨fun _ => ⟨by omega, Or.inr (by omega)⟩, fun _ => rfl⟩
                        · rw [hqn, ← hf, if_pos rfl]
                          refine Or.inl ⟨by omega, rfl, ?_⟩
                          have ev : ((((q + 2) * 2 ^ 52 + (f / 2 ^ 1 - 4503599627370496)) : Nat) : Int) = ((q * 4503599627370496 + f + 1 : Nat) : Int) := by omega
                          rw [← ev] <;> rfl
                      · skip
                        refine qv_lload C rfl dq_Mod_put_168 ?_
                        refine qv_goto C (tgt := 190) (by decide) dq_Mod_put_170 ?_
                        refine qv_put C (ws' := [oc y 4 [vi er, vi (b2 mi), .ref dg, vi ((nd : Nat) : Int), vi pl, vi ((zr : Nat) : Int), vi bh, .ref rw, vi ((mn : Nat) : Int), vi fr, vj ((f / 2 ^ 1 : Nat) : Int), .ref bt, .ref wz, .ref lw, .ref hg, vi ((ls : Nat) : Int), vi lp, vi ((hs : Nat) : Int), vi hq]]) fl_Mod_96 fs_4_10 0 rfl rfl rfl (Nat.le_of_ble_eq_true rfl) rfl dq_Mod_put_190 ?_
                        refine qv_iconst C dq_Mod_put_193 ?_
                        refine qv_zret (b := true) C hR ?_ dq_Mod_put_194 (by decide) (by decide)
                        have em := hmo h112
                        refine ⟨true, ?_, ?_⟩
                        · exact ⟨fun _ => ⟨by omega, Or.inr (by omega)⟩, fun _ => rfl⟩
                        · rw [hqn, ← hf, if_pos rfl]
                          refine Or.inl ⟨by omega, rfl, ?_⟩
                          have ev : ((f / 2 ^ 1 : Nat) : Int) = ((q * 4503599627370496 + f + 1 : Nat) : Int) := by omega
                          rw [← ev] <;> rfl
                    · skip
                      refine qv_iconst C dq_Mod_put_156 ?_
                      refine qv_zret (b := false) C hR ?_ dq_Mod_put_157 (by decide) (by decide)
                      have em := hmo h112
                      refine ⟨true, ?_, ?_⟩
                      · exact ⟨fun _ => ⟨by omega, Or.inr (by omega)⟩, fun _ => rfl⟩
                      · rw [hqn, ← hf, if_pos rfl]
                        exact Or.inr ⟨by omega, rfl, rfl⟩
                · skip
                  refine qv_lload C rfl dq_Mod_put_124 ?_
                  refine qv_lconst C (z := 1) (by decide) dq_Mod_put_126 ?_
                  refine qv_ladd C (r := (((f + 1) : Nat) : Int)) (by omega) dq_Mod_put_127 ?_
                  refine qv_lstore C (lv' := [(7, vj (((f + 1) : Nat) : Int)), (11, vi (p + 1)), (10, vi 1), (9, vi (b2 more)), (6, vi (p + 1)), (0, .ref y), (1, vj ((m : Nat) : Int)), (3, vi ((got : Nat) : Int)), (4, vi p), (5, vi (b2 more))]) (by decide) rfl dq_Mod_put_128 ?_
                  refine qv_lload C rfl dq_Mod_put_130 ?_
                  refine qv_ldc2 C (z := 9007199254740992) wk_Mod_108 dq_Mod_put_132 ?_
                  refine qv_lcne C (by omega) (by omega) dq_Mod_put_135 (tgt := 148) (by decide) dq_Mod_put_136 (fun h135 => ?_) (fun h135 => ?_)
                  · skip
                    refine qv_iload C rfl dq_Mod_put_148 ?_
                    refine qv_sipush C (by decide) dq_Mod_put_150 ?_
                    refine qv_icle C (by omega) (by omega) (tgt := 158) (by decide) dq_Mod_put_153 (fun h153 => ?_) (fun h153 => ?_)
                    · skip
                      refine qv_aload_n C rfl dq_Mod_put_158 ?_
                      refine qv_lload C rfl dq_Mod_put_159 ?_
                      refine qv_ldc2 C (z := 4503599627370496) wk_Mod_38 dq_Mod_put_161 ?_
                      refine qv_lcge C (by omega) (by omega) dq_Mod_put_164 (tgt := 173) (by decide) dq_Mod_put_165 (fun h164 => ?_) (fun h164 => ?_)
                      · skip
                        refine qv_lload C rfl dq_Mod_put_173 ?_
                        refine qv_ldc2 C (z := 4503599627370496) wk_Mod_38 dq_Mod_put_175 ?_
                        refine qv_lsub C (r := (((f - 4503599627370495) : Nat) : Int)) (by omega) dq_Mod_put_178 ?_
                        refine qv_iload C rfl dq_Mod_put_179 ?_
                        refine qv_sipush C (by decide) dq_Mod_put_181 ?_
                        refine qv_iadd C (r := ((p + 1) + 1075)) rfl dq_Mod_put_184 ?_
                        refine qv_ti (r := (((q + 1) : Nat) : Int)) (by omega) ?_
                        refine qv_i2l C (by omega) dq_Mod_put_185 ?_
                        refine qv_bipush C (by decide) dq_Mod_put_186 ?_
                        refine qv_lshl C (q + 1) 52 (by omega) (by omega) (by omega) dq_Mod_put_188 ?_
                        refine qv_lor C (r := ((((q + 1) * 2 ^ 52 + (f - 4503599627370495)) : Nat) : Int)) (zj_or' (by omega) (by omega)) dq_Mod_put_189 ?_
                        refine qv_put C (ws' := [oc y 4 [vi er, vi (b2 mi), .ref dg, vi ((nd : Nat) : Int), vi pl, vi ((zr : Nat) : Int), vi bh, .ref rw, vi ((mn : Nat) : Int), vi fr, vj ((((q + 1) * 2 ^ 52 + (f - 4503599627370495)) : Nat) : Int), .ref bt, .ref wz, .ref lw, .ref hg, vi ((ls : Nat) : Int), vi lp, vi ((hs : Nat) : Int), vi hq]]) fl_Mod_96 fs_4_10 0 rfl rfl rfl (Nat.le_of_ble_eq_true rfl) rfl dq_Mod_put_190 ?_
                        refine qv_iconst C dq_Mod_put_193 ?_
                        refine qv_zret (b := true) C hR ?_ dq_Mod_put_194 (by decide) (by decide)
                        have em := hmo h112
                        refine ⟨true, ?_, ?_⟩
                        · exact ⟨fun _ => ⟨by omega, Or.inr (by omega)⟩, fun _ => rfl⟩
                        · rw [hqn, ← hf, if_pos rfl]
                          refine Or.inl ⟨by omega, rfl, ?_⟩
                          have ev : ((((q + 1) * 2 ^ 52 + (f - 4503599627370495)) : Nat) : Int) = ((q * 4503599627370496 + f + 1 : Nat) : Int) := by omega
                          rw [← ev] <;> rfl
                      · skip
                        refine qv_lload C rfl dq_Mod_put_168 ?_
                        refine qv_goto C (tgt := 190) (by decide) dq_Mod_put_170 ?_
                        refine qv_put C (ws' := [oc y 4 [vi er, vi (b2 mi), .ref dg, vi ((nd : Nat) : Int), vi pl, vi ((zr : Nat) : Int), vi bh, .ref rw, vi ((mn : Nat) : Int), vi fr, vj (((f + 1) : Nat) : Int), .ref bt, .ref wz, .ref lw, .ref hg, vi ((ls : Nat) : Int), vi lp, vi ((hs : Nat) : Int), vi hq]]) fl_Mod_96 fs_4_10 0 rfl rfl rfl (Nat.le_of_ble_eq_true rfl) rfl dq_Mod_put_190 ?_
                        refine qv_iconst C dq_Mod_put_193 ?_
                        refine qv_zret (b := true) C hR ?_ dq_Mod_put_194 (by decide) (by decide)
                        have em := hmo h112
                        refine ⟨true, ?_, ?_⟩
                        · exact ⟨fun _ => ⟨by omega, Or.inr (by omega)⟩, fun _ => rfl⟩
                        · rw [hqn, ← hf, if_pos rfl]
                          refine Or.inl ⟨by omega, rfl, ?_⟩
                          have ev : (((f + 1) : Nat) : Int) = ((q * 4503599627370496 + f + 1 : Nat) : Int) := by omega
                          rw [← ev] <;> rfl
                    · skip
                      refine qv_iconst C dq_Mod_put_156 ?_
                      refine qv_zret (b := false) C hR ?_ dq_Mod_put_157 (by decide) (by decide)
                      have em := hmo h112
                      refine ⟨true, ?_, ?_⟩
                      · exact ⟨fun _ => ⟨by omega, Or.inr (by omega)⟩, fun _ => rfl⟩
                      · rw [hqn, ← hf, if_pos rfl]
                        exact Or.inr ⟨by omega, rfl, rfl⟩
                  · skip
                    refine qv_lload C rfl dq_Mod_put_139 ?_
                    refine qv_iconst C dq_Mod_put_141 ?_
                    refine qv_lshr C (f + 1) 1 (by omega) (by omega) (by omega) (by omega) dq_Mod_put_142 ?_
                    refine qv_lstore C (lv' := [(7, vj (((f + 1) / 2 ^ 1 : Nat) : Int)), (11, vi (p + 1)), (10, vi 1), (9, vi (b2 more)), (6, vi (p + 1)), (0, .ref y), (1, vj ((m : Nat) : Int)), (3, vi ((got : Nat) : Int)), (4, vi p), (5, vi (b2 more))]) (by decide) rfl dq_Mod_put_143 ?_
                    refine qv_iinc C (j := 1) (lv' := [(11, vi ((p + 1) + 1)), (7, vj (((f + 1) / 2 ^ 1 : Nat) : Int)), (10, vi 1), (9, vi (b2 more)), (6, vi (p + 1)), (0, .ref y), (1, vj ((m : Nat) : Int)), (3, vi ((got : Nat) : Int)), (4, vi p), (5, vi (b2 more))]) rfl rfl (by decide) rfl dq_Mod_put_145 ?_
                    refine qv_iload C rfl dq_Mod_put_148 ?_
                    refine qv_sipush C (by decide) dq_Mod_put_150 ?_
                    refine qv_icle C (by omega) (by omega) (tgt := 158) (by decide) dq_Mod_put_153 (fun h153 => ?_) (fun h153 => ?_)
                    · skip
                      refine qv_aload_n C rfl dq_Mod_put_158 ?_
                      refine qv_lload C rfl dq_Mod_put_159 ?_
                      refine qv_ldc2 C (z := 4503599627370496) wk_Mod_38 dq_Mod_put_161 ?_
                      refine qv_lcge C (by omega) (by omega) dq_Mod_put_164 (tgt := 173) (by decide) dq_Mod_put_165 (fun h164 => ?_) (fun h164 => ?_)
                      · skip
                        refine qv_lload C rfl dq_Mod_put_173 ?_
                        refine qv_ldc2 C (z := 4503599627370496) wk_Mod_38 dq_Mod_put_175 ?_
                        refine qv_lsub C (r := ((((f + 1) / 2 ^ 1 - 4503599627370496) : Nat) : Int)) (by omega) dq_Mod_put_178 ?_
                        refine qv_iload C rfl dq_Mod_put_179 ?_
                        refine qv_sipush C (by decide) dq_Mod_put_181 ?_
                        refine qv_iadd C (r := (((p + 1) + 1) + 1075)) rfl dq_Mod_put_184 ?_
                        refine qv_ti (r := (((q + 2) : Nat) : Int)) (by omega) ?_
                        refine qv_i2l C (by omega) dq_Mod_put_185 ?_
                        refine qv_bipush C (by decide) dq_Mod_put_186 ?_
                        refine qv_lshl C (q + 2) 52 (by omega) (by omega) (by omega) dq_Mod_put_188 ?_
                        refine qv_lor C (r := ((((q + 2) * 2 ^ 52 + ((f + 1) / 2 ^ 1 - 4503599627370496)) : Nat) : Int)) (zj_or' (by omega) (by omega)) dq_Mod_put_189 ?_
                        refine qv_put C (ws' := [oc y 4 [vi er, vi (b2 mi), .ref dg, vi ((nd : Nat) : Int), vi pl, vi ((zr : Nat) : Int), vi bh, .ref rw, vi ((mn : Nat) : Int), vi fr, vj ((((q + 2) * 2 ^ 52 + ((f + 1) / 2 ^ 1 - 4503599627370496)) : Nat) : Int), .ref bt, .ref wz, .ref lw, .ref hg, vi ((ls : Nat) : Int), vi lp, vi ((hs : Nat) : Int), vi hq]]) fl_Mod_96 fs_4_10 0 rfl rfl rfl (Nat.le_of_ble_eq_true rfl) rfl dq_Mod_put_190 ?_
                        refine qv_iconst C dq_Mod_put_193 ?_
                        refine qv_zret (b := true) C hR ?_ dq_Mod_put_194 (by decide) (by decide)
                        have em := hmo h112
                        refine ⟨true, ?_, ?_⟩
                        · exact ⟨fun _ => ⟨by omega, Or.inr (by omega)⟩, fun _ => rfl⟩
                        · rw [hqn, ← hf, if_pos rfl]
                          refine Or.inl ⟨by omega, rfl, ?_⟩
                          have ev : ((((q + 2) * 2 ^ 52 + ((f + 1) / 2 ^ 1 - 4503599627370496)) : Nat) : Int) = ((q * 4503599627370496 + f + 1 : Nat) : Int) := by omega
                          rw [← ev] <;> rfl
                      · skip
                        refine qv_lload C rfl dq_Mod_put_168 ?_
                        refine qv_goto C (tgt := 190) (by decide) dq_Mod_put_170 ?_
                        refine qv_put C (ws' := [oc y 4 [vi er, vi (b2 mi), .ref dg, vi ((nd : Nat) : Int), vi pl, vi ((zr : Nat) : Int), vi bh, .ref rw, vi ((mn : Nat) : Int), vi fr, vj (((f + 1) / 2 ^ 1 : Nat) : Int), .ref bt, .ref wz, .ref lw, .ref hg, vi ((ls : Nat) : Int), vi lp, vi ((hs : Nat) : Int), vi hq]]) fl_Mod_96 fs_4_10 0 rfl rfl rfl (Nat.le_of_ble_eq_true rfl) rfl dq_Mod_put_190 ?_
                        refine qv_iconst C dq_Mod_put_193 ?_
                        refine qv_zret (b := true) C hR ?_ dq_Mod_put_194 (by decide) (by decide)
                        have em := hmo h112
                        refine ⟨true, ?_, ?_⟩
                        · exact ⟨fun _ => ⟨by omega, Or.inr (by omega)⟩, fun _ => rfl⟩
                        · rw [hqn, ← hf, if_pos rfl]
                          refine Or.inl ⟨by omega, rfl, ?_⟩
                          have ev : (((f + 1) / 2 ^ 1 : Nat) : Int) = ((q * 4503599627370496 + f + 1 : Nat) : Int) := by omega
                          rw [← ev] <;> rfl
                    · skip
                      refine qv_iconst C dq_Mod_put_156 ?_
                      refine qv_zret (b := false) C hR ?_ dq_Mod_put_157 (by decide) (by decide)
                      have em := hmo h112
                      refine ⟨true, ?_, ?_⟩
                      · exact ⟨fun _ => ⟨by omega, Or.inr (by omega)⟩, fun _ => rfl⟩
                      · rw [hqn, ← hf, if_pos rfl]
                        exact Or.inr ⟨by omega, rfl, rfl⟩
          · exfalso; omega
        · exfalso; omega

