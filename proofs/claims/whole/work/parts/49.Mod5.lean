theorem c_Mod_exactly (cI cJ : ClassId) (y dg rw bt wz lw hg : Nat) (er : Int) (mi : Bool) (nd : Nat) (pl : Int) (zr : Nat) (bh : Int) (mn : Nat) (fr fo : Int) (ls : Nat) (lp : Int) (hs : Nat) (hq : Int) (f : Nat → Nat) (M : Nat) (p : Int) (hf : ∀ i, f i ≤ 9) (hM0 : 0 < M) (hM : M < 100000000000000000) (hp1 : -1075 ≤ p) (hp2 : p ≤ 971) : MtV cI cJ ky_Mod_exactly kb_Mod_exactly 7 rm_Mod_exactly Xt [.ref y, vj ((M : Nat) : Int), vi p] [oc y 4 [vi er, vi (b2 mi), .ref dg, vi ((nd : Nat) : Int), vi pl, vi ((zr : Nat) : Int), vi bh, .ref rw, vi ((mn : Nat) : Int), vi fr, vj fo, .ref bt, .ref wz, .ref lw, .ref hg, vi ((ls : Nat) : Int), vi lp, vi ((hs : Nat) : Int), vi hq], ai cI rw 1200 f] (fun u => ∃ (f3 : Nat → Nat) (n3 fr3 : Nat), u = [mo y dg rw bt wz lw hg er mi nd pl zr bh (dz f3 n3) ((fr3 : Int) - ((n3 : Int) - ((dz f3 n3 : Nat) : Int))) fo ls lp hs hq, ai cI rw 1200 f3] ∧ Rw f3 n3 fr3 M (p + 1076).toNat ∧ n3 ≤ 1200 ∧ fr3 ≤ 1075) := by
  refine MtV_in (by decide) (Nat.le_of_ble_eq_true rfl) (fun K C hR hX hN => ?_)
  show V K 7 [oc y 4 [vi er, vi (b2 mi), .ref dg, vi ((nd : Nat) : Int), vi pl, vi ((zr : Nat) : Int), vi bh, .ref rw, vi ((mn : Nat) : Int), vi fr, vj fo, .ref bt, .ref wz, .ref lw, .ref hg, vi ((ls : Nat) : Int), vi lp, vi ((hs : Nat) : Int), vi hq], ai cI rw 1200 f] 0 0 0 [(0, .ref y), (1, vj ((M : Nat) : Int)), (3, vi p)] []
  have trim : ∀ (f3 : Nat → Nat) (n3 fr3 : Nat), Rw f3 n3 fr3 M (p + 1076).toNat → n3 ≤ 1200 → fr3 ≤ 1075 → ∀ l, l ≤ n3 → dz f3 l = dz f3 n3 → V K 7 [oc y 4 [vi er, vi (b2 mi), .ref dg, vi ((nd : Nat) : Int), vi pl, vi ((zr : Nat) : Int), vi bh, .ref rw, vi ((l : Nat) : Int), vi (((fr3 : Nat) : Int) - (((n3 : Nat) : Int) - ((l : Nat) : Int))), vj fo, .ref bt, .ref wz, .ref lw, .ref hg, vi ((ls : Nat) : Int), vi lp, vi ((hs : Nat) : Int), vi hq], ai cI rw 1200 f3] 0 0 121 [(0, .ref y)] [] := by
    intro f3 n3 fr3 hR3 hn3 hfr3 l
    have hdp := (Rw_dz hR3).1
    induction l with
    | zero =>
      intro hl he
      exfalso
      have e : dz f3 0 = 0 := rfl
      omega
    | succ l ih =>
      intro hl he
      have h9 := hR3.1 l
      refine qv_aload_n C rfl dq_Mod_exactly_121 ?_
      refine qv_get C fl_Mod_40 0 rfl rfl dq_Mod_exactly_122 ?_
      refine qv_ifle C (by omega) (tgt := 165) (by decide) dq_Mod_exactly_125 (fun h125 => ?_) (fun h125 => ?_)
      · exfalso; omega
      · skip
        refine qv_aload_n C rfl dq_Mod_exactly_128 ?_
        refine qv_get C fl_Mod_13 0 rfl rfl dq_Mod_exactly_129 ?_
        refine qv_aload_n C rfl dq_Mod_exactly_132 ?_
        refine qv_get C fl_Mod_40 0 rfl rfl dq_Mod_exactly_133 ?_
        refine qv_iconst C dq_Mod_exactly_136 ?_
        refine qv_isub C (r := ((l : Nat) : Int)) (by omega) dq_Mod_exactly_137 ?_
        refine qv_iald C 1 l rfl (by omega) (by omega) (by omega) dq_Mod_exactly_138 ?_
        refine qv_ifne C (by omega) (tgt := 165) (by decide) dq_Mod_exactly_139 (fun h139 => ?_) (fun h139 => ?_)
        · skip
          refine qv_vret C hR ?_ dq_Mod_exactly_165 (by decide) (by decide)
          have e0 : dz f3 n3 = l + 1 := by rw [← he, dz_s1 (by omega)]
          exact ⟨f3, n3, fr3, (by rw [e0] <;> rfl), hR3, hn3, hfr3⟩
        · skip
          refine qv_aload_n C rfl dq_Mod_exactly_142 ?_
          refine qv_dup C rfl dq_Mod_exactly_143 ?_
          refine qv_get C fl_Mod_40 0 rfl rfl dq_Mod_exactly_144 ?_
          refine qv_iconst C dq_Mod_exactly_147 ?_
          refine qv_isub C (r := ((l : Nat) : Int)) (by omega) dq_Mod_exactly_148 ?_
          refine qv_put C (ws' := [oc y 4 [vi er, vi (b2 mi), .ref dg, vi ((nd : Nat) : Int), vi pl, vi ((zr : Nat) : Int), vi bh, .ref rw, vi ((l : Nat) : Int), vi (((fr3 : Nat) : Int) - (((n3 : Nat) : Int) - (((l + 1) : Nat) : Int))), vj fo, .ref bt, .ref wz, .ref lw, .ref hg, vi ((ls : Nat) : Int), vi lp, vi ((hs : Nat) : Int), vi hq], ai cI rw 1200 f3]) fl_Mod_40 fs_4_8 0 rfl rfl rfl (Nat.le_of_ble_eq_true rfl) rfl dq_Mod_exactly_149 ?_
          refine qv_aload_n C rfl dq_Mod_exactly_152 ?_
          refine qv_dup C rfl dq_Mod_exactly_153 ?_
          refine qv_get C fl_Mod_43 0 rfl rfl dq_Mod_exactly_154 ?_
          refine qv_iconst C dq_Mod_exactly_157 ?_
          refine qv_isub C (r := (((fr3 : Nat) : Int) - (((n3 : Nat) : Int) - ((l : Nat) : Int)))) (by omega) dq_Mod_exactly_158 ?_
          refine qv_put C (ws' := [oc y 4 [vi er, vi (b2 mi), .ref dg, vi ((nd : Nat) : Int), vi pl, vi ((zr : Nat) : Int), vi bh, .ref rw, vi ((l : Nat) : Int), vi (((fr3 : Nat) : Int) - (((n3 : Nat) : Int) - ((l : Nat) : Int))), vj fo, .ref bt, .ref wz, .ref lw, .ref hg, vi ((ls : Nat) : Int), vi lp, vi ((hs : Nat) : Int), vi hq], ai cI rw 1200 f3]) fl_Mod_43 fs_4_9 0 rfl rfl rfl (Nat.le_of_ble_eq_true rfl) rfl dq_Mod_exactly_159 ?_
          refine qv_goto C (tgt := 121) (by decide) dq_Mod_exactly_162 ?_
          exact ih (by omega) (by rw [← he, dz_s0 (by omega)])
  rcases (show ∃ q : Nat, p = (q : Int) ∨ p = -(q : Int) from ⟨p.natAbs, by omega⟩) with ⟨q, rfl | rfl⟩
  · skip
    have lpp : ∀ r (n : Nat) (f : Nat → Nat), r ≤ q → Rw f n 0 M (1076 + (q - r)) → n ≤ 17 + (q - r) → V K 7 [oc y 4 [vi er, vi (b2 mi), .ref dg, vi ((nd : Nat) : Int), vi pl, vi ((zr : Nat) : Int), vi bh, .ref rw, vi ((n : Nat) : Int), vi 0, vj fo, .ref bt, .ref wz, .ref lw, .ref hg, vi ((ls : Nat) : Int), vi lp, vi ((hs : Nat) : Int), vi hq], ai cI rw 1200 f] 0 0 88 [(0, .ref y), (3, vi ((q : Nat) : Int)), (6, vi ((r : Nat) : Int))] [] := by
      intro r
      induction r with
      | zero =>
        intro n f hr hR1 hn
        refine qv_iload C rfl dq_Mod_exactly_88 ?_
        refine qv_ifle C (by omega) (tgt := 103) (by decide) dq_Mod_exactly_90 (fun h90 => ?_) (fun h90 => ?_)
        · skip
          refine qv_iload_n C rfl dq_Mod_exactly_103 ?_
          refine qv_istore C (lv' := [(6, vi ((q : Nat) : Int)), (0, .ref y), (3, vi ((q : Nat) : Int))]) (by decide) rfl dq_Mod_exactly_104 ?_
          refine qv_iload C rfl dq_Mod_exactly_106 ?_
          refine qv_ifge C (by omega) (tgt := 121) (by decide) dq_Mod_exactly_108 (fun h108 => ?_) (fun h108 => ?_)
          · skip
            refine qv_lv [1] (lv' := [(0, .ref y)]) rfl ?_
            have t0 := trim f n 0 (by rw [show ((q : Int) + 1076).toNat = 1076 + (q - 0) by omega]; exact hR1) (by omega) (by omega) n (Nat.le_refl _) rfl
            rw [show (((0 : Nat) : Int) - (((n : Nat) : Int) - ((n : Nat) : Int))) = 0 by omega] at t0
            exact t0
          · exfalso; omega
        · exfalso; omega
      | succ r ih =>
        intro n f hr hR1 hn
        refine qv_iload C rfl dq_Mod_exactly_88 ?_
        refine qv_ifle C (by omega) (tgt := 103) (by decide) dq_Mod_exactly_90 (fun h90 => ?_) (fun h90 => ?_)
        · exfalso; omega
        · skip
          refine qv_aload_n C rfl dq_Mod_exactly_93 ?_
          refine qc_vV (wr := []) (st := []) C cl_Mod_48 cd_Mod_twice (c_Mod_twice cI cJ y dg rw bt wz lw hg er mi nd pl zr bh n 0 fo ls lp hs hq f hR1.1 (by omega)) (Xok_t K) Xbl_t [0, 1] [] rfl rfl (by decide) (by decide) (by decide) 0 rfl rfl rfl rfl rfl (Nat.le_of_ble_eq_true rfl) (by decide) (by decide) dq_Mod_exactly_94 (fun u hu => ?_)
          obtain ⟨f2, n2, rfl, hT⟩ := hu
          show V K 7 [oc y 4 [vi er, vi (b2 mi), .ref dg, vi ((nd : Nat) : Int), vi pl, vi ((zr : Nat) : Int), vi bh, .ref rw, vi ((n2 : Nat) : Int), vi 0, vj fo, .ref bt, .ref wz, .ref lw, .ref hg, vi ((ls : Nat) : Int), vi lp, vi ((hs : Nat) : Int), vi hq], ai cI rw 1200 f2] 0 0 97 [(0, .ref y), (3, vi ((q : Nat) : Int)), (6, vi (((r + 1) : Nat) : Int))] []
          refine qv_iinc C (j := 2) (lv' := [(6, vi ((r : Nat) : Int)), (0, .ref y), (3, vi ((q : Nat) : Int))]) (by omega) rfl (by decide) rfl dq_Mod_exactly_97 ?_
          refine qv_goto C (tgt := 88) (by decide) dq_Mod_exactly_100 ?_
          refine qv_lv [1, 2, 0] (lv' := [(0, .ref y), (3, vi ((q : Nat) : Int)), (6, vi ((r : Nat) : Int))]) rfl ?_
          have hR2 := Rw_tw hR1 hT
          rw [show 1076 + (q - (r + 1)) + 1 = 1076 + (q - r) by omega] at hR2
          exact ih n2 f2 (by omega) hR2 (by have := hT.2.2.1; omega)
    have fil : ∀ n, Nd M n → n ≤ 17 → ∀ t (f : Nat → Nat), t ≤ n → Fi M n t f → V K 7 [oc y 4 [vi er, vi (b2 mi), .ref dg, vi ((nd : Nat) : Int), vi pl, vi ((zr : Nat) : Int), vi bh, .ref rw, vi ((n : Nat) : Int), vi 0, vj fo, .ref bt, .ref wz, .ref lw, .ref hg, vi ((ls : Nat) : Int), vi lp, vi ((hs : Nat) : Int), vi hq], ai cI rw 1200 f] 0 0 52 [(0, .ref y), (1, vj ((M : Nat) : Int)), (3, vi ((q : Nat) : Int)), (4, vj (((M / 10 ^ (n - t)) : Nat) : Int)), (6, vi (((t : Nat) : Int) - 1))] [] := by
      intro n hN hn t
      induction t with
      | zero =>
        intro f ht hF
        have hR1 := Rw_0 hF hN hM0
        have hvM := Nat.div_le_self M (10 ^ (n - 0))
        refine qv_iload C rfl dq_Mod_exactly_52 ?_
        refine qv_iflt C (by omega) (tgt := 85) (by decide) dq_Mod_exactly_54 (fun h54 => ?_) (fun h54 => ?_)
        · skip
          refine qv_iload_n C rfl dq_Mod_exactly_85 ?_
          refine qv_istore C (lv' := [(6, vi ((q : Nat) : Int)), (0, .ref y), (1, vj ((M : Nat) : Int)), (3, vi ((q : Nat) : Int)), (4, vj (((M / 10 ^ (n - 0)) : Nat) : Int))]) (by decide) rfl dq_Mod_exactly_86 ?_
          refine qv_lv [1, 3, 0] (lv' := [(0, .ref y), (3, vi ((q : Nat) : Int)), (6, vi ((q : Nat) : Int))]) rfl ?_
          exact lpp q n f (Nat.le_refl _) (by rw [Nat.sub_self]; exact hR1) (by omega)
        · exfalso; omega
      | succ t ih =>
        intro f ht hF
        have et : (((t + 1 : Nat) : Int) - 1) = ((t : Nat) : Int) := by omega
        rw [et]
        obtain ⟨v, hv⟩ : ∃ v, v = M / 10 ^ (n - (t + 1)) := ⟨_, rfl⟩
        have hvM : v ≤ M := by rw [hv]; exact Nat.div_le_self _ _
        have hv10 : v / 10 = M / 10 ^ (n - t) := by rw [hv, Nat.div_div_eq_div_mul, ← Nat.pow_succ]; congr 2; omega
        rw [← hv]
        refine qv_iload C rfl dq_Mod_exactly_52 ?_
        refine qv_iflt C (by omega) (tgt := 85) (by decide) dq_Mod_exactly_54 (fun h54 => ?_) (fun h54 => ?_)
        · exfalso; omega
        · skip
          refine qv_aload_n C rfl dq_Mod_exactly_57 ?_
          refine qv_get C fl_Mod_13 0 rfl rfl dq_Mod_exactly_58 ?_
          refine qv_iload C rfl dq_Mod_exactly_61 ?_
          refine qv_lload C rfl dq_Mod_exactly_63 ?_
          refine qv_ldc2 C (z := 10) wk_Mod_46 dq_Mod_exactly_65 ?_
          refine qv_lrem C (r := (((v % 10) : Nat) : Int)) (by omega) (by omega) (by omega) (by omega) (by omega) dq_Mod_exactly_68 ?_
          refine qv_l2i C dq_Mod_exactly_69 ?_
          refine qv_iast C (ws' := [oc y 4 [vi er, vi (b2 mi), .ref dg, vi ((nd : Nat) : Int), vi pl, vi ((zr : Nat) : Int), vi bh, .ref rw, vi ((n : Nat) : Int), vi 0, vj fo, .ref bt, .ref wz, .ref lw, .ref hg, vi ((ls : Nat) : Int), vi lp, vi ((hs : Nat) : Int), vi hq], ai cI rw 1200 (un f t (v % 10))]) 1 t (v % 10) rfl (by omega) (by omega) (by omega) (by omega) rfl dq_Mod_exactly_70 ?_
          refine qv_lload C rfl dq_Mod_exactly_71 ?_
          refine qv_ldc2 C (z := 10) wk_Mod_46 dq_Mod_exactly_73 ?_
          refine qv_ldiv C (r := (((v / 10) : Nat) : Int)) (by omega) (by omega) (by omega) (by omega) (by omega) dq_Mod_exactly_76 ?_
          refine qv_lstore C (lv' := [(4, vj (((v / 10) : Nat) : Int)), (0, .ref y), (1, vj ((M : Nat) : Int)), (3, vi ((q : Nat) : Int)), (6, vi ((t : Nat) : Int))]) (by decide) rfl dq_Mod_exactly_77 ?_
          refine qv_iinc C (j := 4) (lv' := [(6, vi (((t : Nat) : Int) - 1)), (4, vj (((v / 10) : Nat) : Int)), (0, .ref y), (1, vj ((M : Nat) : Int)), (3, vi ((q : Nat) : Int))]) (by omega) rfl (by decide) rfl dq_Mod_exactly_79 ?_
          refine qv_goto C (tgt := 52) (by decide) dq_Mod_exactly_82 ?_
          refine qv_lv [2, 3, 4, 1, 0] (lv' := [(0, .ref y), (1, vj ((M : Nat) : Int)), (3, vi ((q : Nat) : Int)), (4, vj (((v / 10) : Nat) : Int)), (6, vi (((t : Nat) : Int) - 1))]) rfl ?_
          rw [hv10]
          have hF2 := Fi_s hF (by omega)
          rw [← hv] at hF2
          exact ih _ (by omega) hF2
    have cnt : ∀ k (v c : Nat), v ≤ k → v ≤ M → (∀ j, Nd v j → Nd M (c + j)) → V K 7 [oc y 4 [vi er, vi (b2 mi), .ref dg, vi ((nd : Nat) : Int), vi pl, vi ((zr : Nat) : Int), vi bh, .ref rw, vi ((c : Nat) : Int), vi 0, vj fo, .ref bt, .ref wz, .ref lw, .ref hg, vi ((ls : Nat) : Int), vi lp, vi ((hs : Nat) : Int), vi hq], ai cI rw 1200 f] 0 0 13 [(0, .ref y), (1, vj ((M : Nat) : Int)), (3, vi ((q : Nat) : Int)), (4, vj ((v : Nat) : Int))] [] := by
      intro k
      induction k with
      | zero =>
        intro v c hv hvM hN
        have ev : v = 0 := by omega
        subst ev
        refine qv_lload C rfl dq_Mod_exactly_13 ?_
        refine qv_lconst C (z := 0) (by decide) dq_Mod_exactly_15 ?_
        refine qv_lcle C (by omega) (by omega) dq_Mod_exactly_16 (tgt := 41) (by decide) dq_Mod_exactly_17 (fun h16 => ?_) (fun h16 => ?_)
        · skip
          refine qv_lload_n C rfl dq_Mod_exactly_41 ?_
          refine qv_lstore C (lv' := [(4, vj ((M : Nat) : Int)), (0, .ref y), (1, vj ((M : Nat) : Int)), (3, vi ((q : Nat) : Int))]) (by decide) rfl dq_Mod_exactly_42 ?_
          refine qv_aload_n C rfl dq_Mod_exactly_44 ?_
          refine qv_get C fl_Mod_40 0 rfl rfl dq_Mod_exactly_45 ?_
          refine qv_iconst C dq_Mod_exactly_48 ?_
          refine qv_isub C (r := (((c : Nat) : Int) - 1)) rfl dq_Mod_exactly_49 ?_
          refine qv_istore C (lv' := [(6, vi (((c : Nat) : Int) - 1)), (4, vj ((M : Nat) : Int)), (0, .ref y), (1, vj ((M : Nat) : Int)), (3, vi ((q : Nat) : Int))]) (by decide) rfl dq_Mod_exactly_50 ?_
          refine qv_lv [2, 3, 4, 1, 0] (lv' := [(0, .ref y), (1, vj ((M : Nat) : Int)), (3, vi ((q : Nat) : Int)), (4, vj ((M : Nat) : Int)), (6, vi (((c : Nat) : Int) - 1))]) rfl ?_
          have hN0 := hN 0 Nd_0
          rw [Nat.add_zero] at hN0
          have l0 := fil c hN0 (Nd_le hN0 hM) c f (Nat.le_refl _) (Fi_0 hf)
          rw [Nat.sub_self, Nat.pow_zero, Nat.div_one] at l0
          exact l0
        · exfalso; omega
      | succ k ih =>
        intro v c hv hvM hN
        by_cases hv0 : v = 0
        · subst hv0
          refine qv_lload C rfl dq_Mod_exactly_13 ?_
          refine qv_lconst C (z := 0) (by decide) dq_Mod_exactly_15 ?_
          refine qv_lcle C (by omega) (by omega) dq_Mod_exactly_16 (tgt := 41) (by decide) dq_Mod_exactly_17 (fun h16 => ?_) (fun h16 => ?_)
          · skip
            refine qv_lload_n C rfl dq_Mod_exactly_41 ?_
            refine qv_lstore C (lv' := [(4, vj ((M : Nat) : Int)), (0, .ref y), (1, vj ((M : Nat) : Int)), (3, vi ((q : Nat) : Int))]) (by decide) rfl dq_Mod_exactly_42 ?_
            refine qv_aload_n C rfl dq_Mod_exactly_44 ?_
            refine qv_get C fl_Mod_40 0 rfl rfl dq_Mod_exactly_45 ?_
            refine qv_iconst C dq_Mod_exactly_48 ?_
            refine qv_isub C (r := (((c : Nat) : Int) - 1)) rfl dq_Mod_exactly_49 ?_
            refine qv_istore C (lv' := [(6, vi (((c : Nat) : Int) - 1)), (4, vj ((M : Nat) : Int)), (0, .ref y), (1, vj ((M : Nat) : Int)), (3, vi ((q : Nat) : Int))]) (by decide) rfl dq_Mod_exactly_50 ?_
            refine qv_lv [2, 3, 4, 1, 0] (lv' := [(0, .ref y), (1, vj ((M : Nat) : Int)), (3, vi ((q : Nat) : Int)), (4, vj ((M : Nat) : Int)), (6, vi (((c : Nat) : Int) - 1))]) rfl ?_
            have hN0 := hN 0 Nd_0
            rw [Nat.add_zero] at hN0
            have l0 := fil c hN0 (Nd_le hN0 hM) c f (Nat.le_refl _) (Fi_0 hf)
            rw [Nat.sub_self, Nat.pow_zero, Nat.div_one] at l0
            exact l0
          · exfalso; omega
        · skip
          refine qv_lload C rfl dq_Mod_exactly_13 ?_
          refine qv_lconst C (z := 0) (by decide) dq_Mod_exactly_15 ?_
          refine qv_lcle C (by omega) (by omega) dq_Mod_exactly_16 (tgt := 41) (by decide) dq_Mod_exactly_17 (fun h16 => ?_) (fun h16 => ?_)
          · exfalso; omega
          · skip
            refine qv_aload_n C rfl dq_Mod_exactly_20 ?_
            refine qv_dup C rfl dq_Mod_exactly_21 ?_
            refine qv_get C fl_Mod_40 0 rfl rfl dq_Mod_exactly_22 ?_
            refine qv_iconst C dq_Mod_exactly_25 ?_
            refine qv_iadd C (r := (((c + 1) : Nat) : Int)) (by omega) dq_Mod_exactly_26 ?_
            refine qv_put C (ws' := [oc y 4 [vi er, vi (b2 mi), .ref dg, vi ((nd : Nat) : Int), vi pl, vi ((zr : Nat) : Int), vi bh, .ref rw, vi (((c + 1) : Nat) : Int), vi 0, vj fo, .ref bt, .ref wz, .ref lw, .ref hg, vi ((ls : Nat) : Int), vi lp, vi ((hs : Nat) : Int), vi hq], ai cI rw 1200 f]) fl_Mod_40 fs_4_8 0 rfl rfl rfl (Nat.le_of_ble_eq_true rfl) rfl dq_Mod_exactly_27 ?_
            refine qv_lload C rfl dq_Mod_exactly_30 ?_
            refine qv_ldc2 C (z := 10) wk_Mod_46 dq_Mod_exactly_32 ?_
            refine qv_ldiv C (r := (((v / 10) : Nat) : Int)) (by omega) (by omega) (by omega) (by omega) (by omega) dq_Mod_exactly_35 ?_
            refine qv_lstore C (lv' := [(4, vj (((v / 10) : Nat) : Int)), (0, .ref y), (1, vj ((M : Nat) : Int)), (3, vi ((q : Nat) : Int))]) (by decide) rfl dq_Mod_exactly_36 ?_
            refine qv_goto C (tgt := 13) (by decide) dq_Mod_exactly_38 ?_
            refine qv_lv [1, 2, 3, 0] (lv' := [(0, .ref y), (1, vj ((M : Nat) : Int)), (3, vi ((q : Nat) : Int)), (4, vj (((v / 10) : Nat) : Int))]) rfl ?_
            exact ih (v / 10) (c + 1) (by omega) (by omega) (fun j hj => by
              have h := hN (j + 1) (Nd_s (by omega) hj)
              rw [show c + 1 + j = c + (j + 1) by omega]
              exact h)
    refine qv_aload_n C rfl dq_Mod_exactly_0 ?_
    refine qv_iconst C dq_Mod_exactly_1 ?_
    refine qv_put C (ws' := [oc y 4 [vi er, vi (b2 mi), .ref dg, vi ((nd : Nat) : Int), vi pl, vi ((zr : Nat) : Int), vi bh, .ref rw, vi 0, vi fr, vj fo, .ref bt, .ref wz, .ref lw, .ref hg, vi ((ls : Nat) : Int), vi lp, vi ((hs : Nat) : Int), vi hq], ai cI rw 1200 f]) fl_Mod_40 fs_4_8 0 rfl rfl rfl (Nat.le_of_ble_eq_true rfl) rfl dq_Mod_exactly_2 ?_
    refine qv_aload_n C rfl dq_Mod_exactly_5 ?_
    refine qv_iconst C dq_Mod_exactly_6 ?_
    refine qv_put C (ws' := [oc y 4 [vi er, vi (b2 mi), .ref dg, vi ((nd : Nat) : Int), vi pl, vi ((zr : Nat) : Int), vi bh, .ref rw, vi 0, vi 0, vj fo, .ref bt, .ref wz, .ref lw, .ref hg, vi ((ls : Nat) : Int), vi lp, vi ((hs : Nat) : Int), vi hq], ai cI rw 1200 f]) fl_Mod_43 fs_4_9 0 rfl rfl rfl (Nat.le_of_ble_eq_true rfl) rfl dq_Mod_exactly_7 ?_
    refine qv_lload_n C rfl dq_Mod_exactly_10 ?_
    refine qv_lstore C (lv' := [(4, vj ((M : Nat) : Int)), (0, .ref y), (1, vj ((M : Nat) : Int)), (3, vi ((q : Nat) : Int))]) (by decide) rfl dq_Mod_exactly_11 ?_
    refine qv_lv [1, 2, 3, 0] (lv' := [(0, .ref y), (1, vj ((M : Nat) : Int)), (3, vi ((q : Nat) : Int)), (4, vj ((M : Nat) : Int))]) rfl ?_
    exact cnt M M 0 (Nat.le_refl _) (Nat.le_refl _) (fun j hj => by rw [Nat.zero_add]; exact hj)
  · skip
    have lpp : ∀ r (n fr1 : Nat) (f : Nat → Nat), r ≤ q → Rw f n fr1 M (1076 - (q - r)) → n ≤ 17 + (q - r) → fr1 ≤ q - r → V K 7 [oc y 4 [vi er, vi (b2 mi), .ref dg, vi ((nd : Nat) : Int), vi pl, vi ((zr : Nat) : Int), vi bh, .ref rw, vi ((n : Nat) : Int), vi ((fr1 : Nat) : Int), vj fo, .ref bt, .ref wz, .ref lw, .ref hg, vi ((ls : Nat) : Int), vi lp, vi ((hs : Nat) : Int), vi hq], ai cI rw 1200 f] 0 0 106 [(0, .ref y), (3, vi (-((q : Nat) : Int))), (6, vi (-((r : Nat) : Int)))] [] := by
      intro r
      induction r with
      | zero =>
        intro n fr1 f hr hR1 hn hfr
        refine qv_iload C rfl dq_Mod_exactly_106 ?_
        refine qv_ifge C (by omega) (tgt := 121) (by decide) dq_Mod_exactly_108 (fun h108 => ?_) (fun h108 => ?_)
        · skip
          refine qv_lv [0] (lv' := [(0, .ref y)]) rfl ?_
          have t0 := trim f n fr1 (by rw [show (-(q : Int) + 1076).toNat = 1076 - (q - 0) by omega]; exact hR1) (by omega) (by omega) n (Nat.le_refl _) rfl
          rw [show (((fr1 : Nat) : Int) - (((n : Nat) : Int) - ((n : Nat) : Int))) = ((fr1 : Nat) : Int) by omega] at t0
          exact t0
        · exfalso; omega
      | succ r ih =>
        intro n fr1 f hr hR1 hn hfr
        refine qv_iload C rfl dq_Mod_exactly_106 ?_
        refine qv_ifge C (by omega) (tgt := 121) (by decide) dq_Mod_exactly_108 (fun h108 => ?_) (fun h108 => ?_)
        · exfalso; omega
        · skip
          refine qv_aload_n C rfl dq_Mod_exactly_111 ?_
          refine qc_vV (wr := []) (st := []) C cl_Mod_51 cd_Mod_half (c_Mod_half cI cJ y dg rw bt wz lw hg er mi nd pl zr bh n ((fr1 : Nat) : Int) fo ls lp hs hq f hR1.1 (by omega) hR1.2.1 hR1.2.2.1) (Xok_t K) Xbl_t [0, 1] [] rfl rfl (by decide) (by decide) (by decide) 0 rfl rfl rfl rfl rfl (Nat.le_of_ble_eq_true rfl) (by decide) (by decide) dq_Mod_exactly_112 (fun u hu => ?_)
          obtain ⟨f2, n2, x, rfl, hT⟩ := hu
          show V K 7 [oc y 4 [vi er, vi (b2 mi), .ref dg, vi ((nd : Nat) : Int), vi pl, vi ((zr : Nat) : Int), vi bh, .ref rw, vi ((n2 : Nat) : Int), vi (((fr1 : Nat) : Int) + ((x : Nat) : Int)), vj fo, .ref bt, .ref wz, .ref lw, .ref hg, vi ((ls : Nat) : Int), vi lp, vi ((hs : Nat) : Int), vi hq], ai cI rw 1200 f2] 0 0 115 [(0, .ref y), (3, vi (-((q : Nat) : Int))), (6, vi (-(((r + 1) : Nat) : Int)))] []
          refine qv_iinc C (j := 2) (lv' := [(6, vi (-((r : Nat) : Int))), (0, .ref y), (3, vi (-((q : Nat) : Int)))]) (by omega) rfl (by decide) rfl dq_Mod_exactly_115 ?_
          refine qv_goto C (tgt := 106) (by decide) dq_Mod_exactly_118 ?_
          refine qv_lv [1, 2, 0] (lv' := [(0, .ref y), (3, vi (-((q : Nat) : Int))), (6, vi (-((r : Nat) : Int)))]) rfl ?_
          rw [show 1076 - (q - (r + 1)) = (1076 - (q - r)) + 1 by omega] at hR1
          have hR2 := Rw_hf hR1 hT
          have hT2 := hT.2.1
          have hT3 := hT.2.2.1
          exact ih n2 (fr1 + x) f2 (by omega) hR2 (by omega) (by omega)
    have fil : ∀ n, Nd M n → n ≤ 17 → ∀ t (f : Nat → Nat), t ≤ n → Fi M n t f → V K 7 [oc y 4 [vi er, vi (b2 mi), .ref dg, vi ((nd : Nat) : Int), vi pl, vi ((zr : Nat) : Int), vi bh, .ref rw, vi ((n : Nat) : Int), vi 0, vj fo, .ref bt, .ref wz, .ref lw, .ref hg, vi ((ls : Nat) : Int), vi lp, vi ((hs : Nat) : Int), vi hq], ai cI rw 1200 f] 0 0 52 [(0, .ref y), (1, vj ((M : Nat) : Int)), (3, vi (-((q : Nat) : Int))), (4, vj (((M / 10 ^ (n - t)) : Nat) : Int)), (6, vi (((t : Nat) : Int) - 1))] [] := by
      intro n hN hn t
      induction t with
      | zero =>
        intro f ht hF
        have hR1 := Rw_0 hF hN hM0
        have hvM := Nat.div_le_self M (10 ^ (n - 0))
        refine qv_iload C rfl dq_Mod_exactly_52 ?_
        refine qv_iflt C (by omega) (tgt := 85) (by decide) dq_Mod_exactly_54 (fun h54 => ?_) (fun h54 => ?_)
        · skip
          refine qv_iload_n C rfl dq_Mod_exactly_85 ?_
          refine qv_istore C (lv' := [(6, vi (-((q : Nat) : Int))), (0, .ref y), (1, vj ((M : Nat) : Int)), (3, vi (-((q : Nat) : Int))), (4, vj (((M / 10 ^ (n - 0)) : Nat) : Int))]) (by decide) rfl dq_Mod_exactly_86 ?_
          refine qv_iload C rfl dq_Mod_exactly_88 ?_
          refine qv_ifle C (by omega) (tgt := 103) (by decide) dq_Mod_exactly_90 (fun h90 => ?_) (fun h90 => ?_)
          · skip
            refine qv_iload_n C rfl dq_Mod_exactly_103 ?_
            refine qv_istore C (lv' := [(6, vi (-((q : Nat) : Int))), (0, .ref y), (1, vj ((M : Nat) : Int)), (3, vi (-((q : Nat) : Int))), (4, vj (((M / 10 ^ (n - 0)) : Nat) : Int))]) (by decide) rfl dq_Mod_exactly_104 ?_
            refine qv_lv [1, 3, 0] (lv' := [(0, .ref y), (3, vi (-((q : Nat) : Int))), (6, vi (-((q : Nat) : Int)))]) rfl ?_
            exact lpp q n 0 f (Nat.le_refl _) (by rw [Nat.sub_self]; exact hR1) (by omega) (by omega)
          · exfalso; omega
        · exfalso; omega
      | succ t ih =>
        intro f ht hF
        have et : (((t + 1 : Nat) : Int) - 1) = ((t : Nat) : Int) := by omega
        rw [et]
        obtain ⟨v, hv⟩ : ∃ v, v = M / 10 ^ (n - (t + 1)) := ⟨_, rfl⟩
        have hvM : v ≤ M := by rw [hv]; exact Nat.div_le_self _ _
        have hv10 : v / 10 = M / 10 ^ (n - t) := by rw [hv, Nat.div_div_eq_div_mul, ← Nat.pow_succ]; congr 2; omega
        rw [← hv]
        refine qv_iload C rfl dq_Mod_exactly_52 ?_
        refine qv_iflt C (by omega) (tgt := 85) (by decide) dq_Mod_exactly_54 (fun h54 => ?_) (fun h54 => ?_)
        · exfalso; omega
        · skip
          refine qv_aload_n C rfl dq_Mod_exactly_57 ?_
          refine qv_get C fl_Mod_13 0 rfl rfl dq_Mod_exactly_58 ?_
          refine qv_iload C rfl dq_Mod_exactly_61 ?_
          refine qv_lload C rfl dq_Mod_exactly_63 ?_
          refine qv_ldc2 C (z := 10) wk_Mod_46 dq_Mod_exactly_65 ?_
          refine qv_lrem C (r := (((v % 10) : Nat) : Int)) (by omega) (by omega) (by omega) (by omega) (by omega) dq_Mod_exactly_68 ?_
          refine qv_l2i C dq_Mod_exactly_69 ?_
          refine qv_iast C (ws' := [oc y 4 [vi er, vi (b2 mi), .ref dg, vi ((nd : Nat) : Int), vi pl, vi ((zr : Nat) : Int), vi bh, .ref rw, vi ((n : Nat) : Int), vi 0, vj fo, .ref bt, .ref wz, .ref lw, .ref hg, vi ((ls : Nat) : Int), vi lp, vi ((hs : Nat) : Int), vi hq], ai cI rw 1200 (un f t (v % 10))]) 1 t (v % 10) rfl (by omega) (by omega) (by omega) (by omega) rfl dq_Mod_exactly_70 ?_
          refine qv_lload C rfl dq_Mod_exactly_71 ?_
          refine qv_ldc2 C (z := 10) wk_Mod_46 dq_Mod_exactly_73 ?_
          refine qv_ldiv C (r := (((v / 10) : Nat) : Int)) (by omega) (by omega) (by omega) (by omega) (by omega) dq_Mod_exactly_76 ?_
          refine qv_lstore C (lv' := [(4, vj (((v / 10) : Nat) : Int)), (0, .ref y), (1, vj ((M : Nat) : Int)), (3, vi (-((q : Nat) : Int))), (6, vi ((t : Nat) : Int))]) (by decide) rfl dq_Mod_exactly_77 ?_
          refine qv_iinc C (j := 4) (lv' := [(6, vi (((t : Nat) : Int) - 1)), (4, vj (((v / 10) : Nat) : Int)), (0, .ref y), (1, vj ((M : Nat) : Int)), (3, vi (-((q : Nat) : Int)))]) (by omega) rfl (by decide) rfl dq_Mod_exactly_79 ?_
          refine qv_goto C (tgt := 52) (by decide) dq_Mod_exactly_82 ?_
          refine qv_lv [2, 3, 4, 1, 0] (lv' := [(0, .ref y), (1, vj ((M : Nat) : Int)), (3, vi (-((q : Nat) : Int))), (4, vj (((v / 10) : Nat) : Int)), (6, vi (((t : Nat) : Int) - 1))]) rfl ?_
          rw [hv10]
          have hF2 := Fi_s hF (by omega)
          rw [← hv] at hF2
          exact ih _ (by omega) hF2
    have cnt : ∀ k (v c : Nat), v ≤ k → v ≤ M → (∀ j, Nd v j → Nd M (c + j)) → V K 7 [oc y 4 [vi er, vi (b2 mi), .ref dg, vi ((nd : Nat) : Int), vi pl, vi ((zr : Nat) : Int), vi bh, .ref rw, vi ((c : Nat) : Int), vi 0, vj fo, .ref bt, .ref wz, .ref lw, .ref hg, vi ((ls : Nat) : Int), vi lp, vi ((hs : Nat) : Int), vi hq], ai cI rw 1200 f] 0 0 13 [(0, .ref y), (1, vj ((M : Nat) : Int)), (3, vi (-((q : Nat) : Int))), (4, vj ((v : Nat) : Int))] [] := by
      intro k
      induction k with
      | zero =>
        intro v c hv hvM hN
        have ev : v = 0 := by omega
        subst ev
        refine qv_lload C rfl dq_Mod_exactly_13 ?_
        refine qv_lconst C (z := 0) (by decide) dq_Mod_exactly_15 ?_
        refine qv_lcle C (by omega) (by omega) dq_Mod_exactly_16 (tgt := 41) (by decide) dq_Mod_exactly_17 (fun h16 => ?_) (fun h16 => ?_)
        · skip
          refine qv_lload_n C rfl dq_Mod_exactly_41 ?_
          refine qv_lstore C (lv' := [(4, vj ((M : Nat) : Int)), (0, .ref y), (1, vj ((M : Nat) : Int)), (3, vi (-((q : Nat) : Int)))]) (by decide) rfl dq_Mod_exactly_42 ?_
          refine qv_aload_n C rfl dq_Mod_exactly_44 ?_
          refine qv_get C fl_Mod_40 0 rfl rfl dq_Mod_exactly_45 ?_
          refine qv_iconst C dq_Mod_exactly_48 ?_
          refine qv_isub C (r := (((c : Nat) : Int) - 1)) rfl dq_Mod_exactly_49 ?_
          refine qv_istore C (lv' := [(6, vi (((c : Nat) : Int) - 1)), (4, vj ((M : Nat) : Int)), (0, .ref y), (1, vj ((M : Nat) : Int)), (3, vi (-((q : Nat) : Int)))]) (by decide) rfl dq_Mod_exactly_50 ?_
          refine qv_lv [2, 3, 4, 1, 0] (lv' := [(0, .ref y), (1, vj ((M : Nat) : Int)), (3, vi (-((q : Nat) : Int))), (4, vj ((M : Nat) : Int)), (6, vi (((c : Nat) : Int) - 1))]) rfl ?_
          have hN0 := hN 0 Nd_0
          rw [Nat.add_zero] at hN0
          have l0 := fil c hN0 (Nd_le hN0 hM) c f (Nat.le_refl _) (Fi_0 hf)
          rw [Nat.sub_self, Nat.pow_zero, Nat.div_one] at l0
          exact l0
        · exfalso; omega
      | succ k ih =>
        intro v c hv hvM hN
        by_cases hv0 : v = 0
        · subst hv0
          refine qv_lload C rfl dq_Mod_exactly_13 ?_
          refine qv_lconst C (z := 0) (by decide) dq_Mod_exactly_15 ?_
          refine qv_lcle C (by omega) (by omega) dq_Mod_exactly_16 (tgt := 41) (by decide) dq_Mod_exactly_17 (fun h16 => ?_) (fun h16 => ?_)
          · skip
            refine qv_lload_n C rfl dq_Mod_exactly_41 ?_
            refine qv_lstore C (lv' := [(4, vj ((M : Nat) : Int)), (0, .ref y), (1, vj ((M : Nat) : Int)), (3, vi (-((q : Nat) : Int)))]) (by decide) rfl dq_Mod_exactly_42 ?_
            refine qv_aload_n C rfl dq_Mod_exactly_44 ?_
            refine qv_get C fl_Mod_40 0 rfl rfl dq_Mod_exactly_45 ?_
            refine qv_iconst C dq_Mod_exactly_48 ?_
            refine qv_isub C (r := (((c : Nat) : Int) - 1)) rfl dq_Mod_exactly_49 ?_
            refine qv_istore C (lv' := [(6, vi (((c : Nat) : Int) - 1)), (4, vj ((M : Nat) : Int)), (0, .ref y), (1, vj ((M : Nat) : Int)), (3, vi (-((q : Nat) : Int)))]) (by decide) rfl dq_Mod_exactly_50 ?_
            refine qv_lv [2, 3, 4, 1, 0] (lv' := [(0, .ref y), (1, vj ((M : Nat) : Int)), (3, vi (-((q : Nat) : Int))), (4, vj ((M : Nat) : Int)), (6, vi (((c : Nat) : Int) - 1))]) rfl ?_
            have hN0 := hN 0 Nd_0
            rw [Nat.add_zero] at hN0
            have l0 := fil c hN0 (Nd_le hN0 hM) c f (Nat.le_refl _) (Fi_0 hf)
            rw [Nat.sub_self, Nat.pow_zero, Nat.div_one] at l0
            exact l0
          · exfalso; omega
        · skip
          refine qv_lload C rfl dq_Mod_exactly_13 ?_
          refine qv_lconst C (z := 0) (by decide) dq_Mod_exactly_15 ?_
          refine qv_lcle C (by omega) (by omega) dq_Mod_exactly_16 (tgt := 41) (by decide) dq_Mod_exactly_17 (fun h16 => ?_) (fun h16 => ?_)
          · exfalso; omega
          · skip
            refine qv_aload_n C rfl dq_Mod_exactly_20 ?_
            refine qv_dup C rfl dq_Mod_exactly_21 ?_
            refine qv_get C fl_Mod_40 0 rfl rfl dq_Mod_exactly_22 ?_
            refine qv_iconst C dq_Mod_exactly_25 ?_
            refine qv_iadd C (r := (((c + 1) : Nat) : Int)) (by omega) dq_Mod_exactly_26 ?_
            refine qv_put C (ws' := [oc y 4 [vi er, vi (b2 mi), .ref dg, vi ((nd : Nat) : Int), vi pl, vi ((zr : Nat) : Int), vi bh, .ref rw, vi (((c + 1) : Nat) : Int), vi 0, vj fo, .ref bt, .ref wz, .ref lw, .ref hg, vi ((ls : Nat) : Int), vi lp, vi ((hs : Nat) : Int), vi hq], ai cI rw 1200 f]) fl_Mod_40 fs_4_8 0 rfl rfl rfl (Nat.le_of_ble_eq_true rfl) rfl dq_Mod_exactly_27 ?_
            refine qv_lload C rfl dq_Mod_exactly_30 ?_
            refine qv_ldc2 C (z := 10) wk_Mod_46 dq_Mod_exactly_32 ?_
            refine qv_ldiv C (r := (((v / 10) : Nat) : Int)) (by omega) (by omega) (by omega) (by omega) (by omega) dq_Mod_exactly_35 ?_
            refine qv_lstore C (lv' := [(4, vj (((v / 10) : Nat) : Int)), (0, .ref y), (1, vj ((M : Nat) : Int)), (3, vi (-((q : Nat) : Int)))]) (by decide) rfl dq_Mod_exactly_36 ?_
            refine qv_goto C (tgt := 13) (by decide) dq_Mod_exactly_38 ?_
            refine qv_lv [1, 2, 3, 0] (lv' := [(0, .ref y), (1, vj ((M : Nat) : Int)), (3, vi (-((q : Nat) : Int))), (4, vj (((v / 10) : Nat) : Int))]) rfl ?_
            exact ih (v / 10) (c + 1) (by omega) (by omega) (fun j hj => by
              have h := hN (j + 1) (Nd_s (by omega) hj)
              rw [show c + 1 + j = c + (j + 1) by omega]
              exact h)
    refine qv_aload_n C rfl dq_Mod_exactly_0 ?_
    refine qv_iconst C dq_Mod_exactly_1 ?_
    refine qv_put C (ws' := [oc y 4 [vi er, vi (b2 mi), .ref dg, vi ((nd : Nat) : Int), vi pl, vi ((zr : Nat) : Int), vi bh, .ref rw, vi 0, vi fr, vj fo, .ref bt, .ref wz, .ref lw, .ref hg, vi ((ls : Nat) : Int), vi lp, vi ((hs : Nat) : Int), vi hq], ai cI rw 1200 f]) fl_Mod_40 fs_4_8 0 rfl rfl rfl (Nat.le_of_ble_eq_true rfl) rfl dq_Mod_exactly_2 ?_
    refine qv_aload_n C rfl dq_Mod_exactly_5 ?_
    refine qv_iconst C dq_Mod_exactly_6 ?_
    refine qv_put C (ws' := [oc y 4 [vi er, vi (b2 mi), .ref dg, vi ((nd : Nat) : Int), vi pl, vi ((zr : Nat) : Int), vi bh, .ref rw, vi 0, vi 0, vj fo, .ref bt, .ref wz, .ref lw, .ref hg, vi ((ls : Nat) : Int), vi lp, vi ((hs : Nat) : Int), vi hq], ai cI rw 1200 f]) fl_Mod_43 fs_4_9 0 rfl rfl rfl (Nat.le_of_ble_eq_true rfl) rfl dq_Mod_exactly_7 ?_
    refine qv_lload_n C rfl dq_Mod_exactly_10 ?_
    refine qv_lstore C (lv' := [(4, vj ((M : Nat) : Int)), (0, .ref y), (1, vj ((M : Nat) : Int)), (3, vi (-((q : Nat) : Int)))]) (by decide) rfl dq_Mod_exactly_11 ?_
    refine qv_lv [1, 2, 3, 0] (lv' := [(0, .ref y), (1, vj ((M : Nat) : Int)), (3, vi (-((q : Nat) : Int))), (4, vj ((M : Nat) : Int))]) rfl ?_
    exact cnt M M 0 (Nat.le_refl _) (Nat.le_refl _) (fun j hj => by rw [Nat.zero_add]; exact hj)

