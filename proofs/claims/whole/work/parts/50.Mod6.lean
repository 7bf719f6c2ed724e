theorem c_Mod_set (cI cJ : ClassId) (y dg rw bt wz lw hg : Nat) (er : Int) (mi : Bool) (nd : Nat) (pl : Int) (zr : Nat) (bh : Int) (mn : Nat) (fr fo : Int) (ls : Nat) (lp : Int) (hs : Nat) (hq : Int) (f d : Nat → Nat) (B : Nat) (hB : B < 18446744073709551616) (hf : ∀ i, f i ≤ 9) (hd : ∀ i, d i ≤ 9) : MtI cI cJ ky_Mod_set kb_Mod_set 10 .int rm_Mod_set Xt [.ref y, vj ((B : Nat) : Int)] [oc y 4 [vi er, vi (b2 mi), .ref dg, vi ((nd : Nat) : Int), vi pl, vi ((zr : Nat) : Int), vi bh, .ref rw, vi ((mn : Nat) : Int), vi fr, vj fo, .ref bt, .ref wz, .ref lw, .ref hg, vi ((ls : Nat) : Int), vi lp, vi ((hs : Nat) : Int), vi hq], ai cI rw 1200 f, ai cI dg 800 d] (fun z u => (INF ≤ (B % 9223372036854775808) ∧ z = 0 ∧ u = [mo y dg rw bt wz lw hg 1 mi nd pl zr bh mn fr fo ls lp hs hq, ai cI rw 1200 f, ai cI dg 800 d]) ∨ ((B % 9223372036854775808) < INF ∧ ∃ (nd2 : Nat) (pl2 : Int) (d2 f2 : Nat → Nat) (mn2 : Nat) (fr2 : Int), z = ((nd2 : Nat) : Int) ∧ u = [mo y dg rw bt wz lw hg 0 (decide (9223372036854775808 ≤ B)) nd2 pl2 0 0 mn2 fr2 fo ls lp hs hq, ai cI rw 1200 f2, ai cI dg 800 d2] ∧ Sp (fc (B % 9223372036854775808)) (((pw (B % 9223372036854775808) : Nat) : Int) - 1074) nd2 pl2 d2 ∧ (∀ i, f2 i ≤ 9))) := by
  refine MtI_in (by decide) (Nat.le_of_ble_eq_true rfl) (fun K C hR hX hN => ?_)
  show V K 10 [oc y 4 [vi er, vi (b2 mi), .ref dg, vi ((nd : Nat) : Int), vi pl, vi ((zr : Nat) : Int), vi bh, .ref rw, vi ((mn : Nat) : Int), vi fr, vj fo, .ref bt, .ref wz, .ref lw, .ref hg, vi ((ls : Nat) : Int), vi lp, vi ((hs : Nat) : Int), vi hq], ai cI rw 1200 f, ai cI dg 800 d] 0 0 0 [(0, .ref y), (1, vj ((B : Nat) : Int))] []
  have hI : INF = 9218868437227405312 := rfl
  obtain ⟨r, hr⟩ : ∃ r, r = (B % 9223372036854775808) := ⟨_, rfl⟩
  obtain ⟨e, he⟩ : ∃ e, e = B / 4503599627370496 % 2048 := ⟨_, rfl⟩
  have her : e = r / 4503599627370496 := by omega
  obtain ⟨M, hM⟩ : ∃ M, M = fc r := ⟨_, rfl⟩
  have hMe : e ≠ 0 → M = 1 * 2 ^ 52 + B % 4503599627370496 := by
    intro q
    rw [hM]; unfold fc; rw [if_neg (by omega)]; omega
  have hMz : e = 0 → M = B % 4503599627370496 := by
    intro q
    rw [hM]; unfold fc; rw [if_pos (by omega)]; omega
  have hM53 : M < 9007199254740992 := by rw [hM]; exact fc_lt r
  obtain ⟨p, hp⟩ : ∃ p : Int, p = ((pw r : Nat) : Int) - 1074 := ⟨_, rfl⟩
  have hpe : pw r = max e 1 - 1 := by unfold pw; rw [her]
  rw [← hr, ← hM, ← hp] at hR
  have tail : r < INF → ∀ (f2 : Nat → Nat) (n2 fr2 : Nat), (∀ i, f2 i ≤ 9) → n2 ≤ 1200 → (0 < n2 → f2 0 ≠ 0) → dz f2 n2 ≤ 800 → (∀ g : Nat → Nat, (∀ i, g i ≤ 9) → (∀ i, i < dz f2 n2 → g i = f2 i) → Sp M p (dz f2 n2) (if dz f2 n2 = 0 then 0 else (n2 : Int) - fr2) g) → V K 10 [oc y 4 [vi 0, vi (b2 mi), .ref dg, vi ((nd : Nat) : Int), vi pl, vi ((zr : Nat) : Int), vi bh, .ref rw, vi ((n2 : Nat) : Int), vi ((fr2 : Nat) : Int), vj fo, .ref bt, .ref wz, .ref lw, .ref hg, vi ((ls : Nat) : Int), vi lp, vi ((hs : Nat) : Int), vi hq], ai cI rw 1200 f2, ai cI dg 800 d] 0 0 202 [(0, .ref y), (1, vj ((B : Nat) : Int))] [] := by
    intro hrI f2 n2 fr2 h9 hn2 h02 h8 hS
    have hsn := sj_neg hB
    have hsr := sj_rj hB
    refine qv_aload_n C rfl dq_Mod_set_202 ?_
    refine qv_lload_n C rfl dq_Mod_set_203 ?_
    refine qv_tjw (r := sj B) (by have h := zj_sj B; rw [Nat.mod_eq_of_lt hB] at h; exact h) ?_
    refine qv_lconst C (z := 0) (by decide) dq_Mod_set_204 ?_
    refine qv_lcge C (by omega) (by omega) dq_Mod_set_205 (tgt := 213) (by decide) dq_Mod_set_206 (fun h205 => ?_) (fun h205 => ?_)
    · skip
      refine qv_iconst C dq_Mod_set_213 ?_
      refine qv_ti (r := b2 false) rfl ?_
      refine qv_put C (ws' := [oc y 4 [vi 0, vi (b2 false), .ref dg, vi ((nd : Nat) : Int), vi pl, vi ((zr : Nat) : Int), vi bh, .ref rw, vi ((n2 : Nat) : Int), vi ((fr2 : Nat) : Int), vj fo, .ref bt, .ref wz, .ref lw, .ref hg, vi ((ls : Nat) : Int), vi lp, vi ((hs : Nat) : Int), vi hq], ai cI rw 1200 f2, ai cI dg 800 d]) fl_Mod_54 fs_4_1 0 rfl (nz_b2 _) (fz_b2 _) (Nat.le_of_ble_eq_true rfl) rfl dq_Mod_set_214 ?_
      refine qv_aload_n C rfl dq_Mod_set_217 ?_
      refine qc_vV (wr := []) (st := []) C cl_Mod_58 cd_Mod_keep (c_Mod_keep cI cJ y dg rw bt wz lw hg 0 false nd pl zr bh n2 ((fr2 : Nat) : Int) fo ls lp hs hq f2 d h9 hd hn2 h02 h8) (Xok_t K) Xbl_t [0, 1, 2] [] rfl rfl (by decide) (by decide) (by decide) 0 rfl rfl rfl rfl rfl (Nat.le_of_ble_eq_true rfl) (by decide) (by decide) dq_Mod_set_218 (fun u hu => ?_)
      obtain rfl := hu
      show V K 10 [oc y 4 [vi 0, vi (b2 false), .ref dg, vi ((dz f2 n2 : Nat) : Int), vi (if dz f2 n2 = 0 then 0 else ((n2 : Nat) : Int) - ((fr2 : Nat) : Int)), vi 0, vi 0, .ref rw, vi ((n2 : Nat) : Int), vi ((fr2 : Nat) : Int), vj fo, .ref bt, .ref wz, .ref lw, .ref hg, vi ((ls : Nat) : Int), vi lp, vi ((hs : Nat) : Int), vi hq], ai cI rw 1200 f2, ai cI dg 800 (cpd d f2 (dz f2 n2))] 0 0 221 [(0, .ref y), (1, vj ((B : Nat) : Int))] []
      refine qv_aload_n C rfl dq_Mod_set_221 ?_
      refine qv_get C fl_Mod_61 0 rfl rfl dq_Mod_set_222 ?_
      refine qv_iret C hR ?_ dq_Mod_set_225 (by decide) (by decide)
      have em : decide (9223372036854775808 ≤ B) = false := decide_eq_false (by omega)
      refine Or.inr ⟨by omega, dz f2 n2, _, _, f2, n2, (fr2 : Int), rfl, ?_, hS _ (cpd_9 hd h9 _) (fun i hi => cpd_lt hi), h9⟩
      rw [em]; rfl
    · skip
      refine qv_iconst C dq_Mod_set_209 ?_
      refine qv_goto C (tgt := 214) (by decide) dq_Mod_set_210 ?_
      refine qv_ti (r := b2 true) rfl ?_
      refine qv_put C (ws' := [oc y 4 [vi 0, vi (b2 true), .ref dg, vi ((nd : Nat) : Int), vi pl, vi ((zr : Nat) : Int), vi bh, .ref rw, vi ((n2 : Nat) : Int), vi ((fr2 : Nat) : Int), vj fo, .ref bt, .ref wz, .ref lw, .ref hg, vi ((ls : Nat) : Int), vi lp, vi ((hs : Nat) : Int), vi hq], ai cI rw 1200 f2, ai cI dg 800 d]) fl_Mod_54 fs_4_1 0 rfl (nz_b2 _) (fz_b2 _) (Nat.le_of_ble_eq_true rfl) rfl dq_Mod_set_214 ?_
      refine qv_aload_n C rfl dq_Mod_set_217 ?_
      refine qc_vV (wr := []) (st := []) C cl_Mod_58 cd_Mod_keep (c_Mod_keep cI cJ y dg rw bt wz lw hg 0 true nd pl zr bh n2 ((fr2 : Nat) : Int) fo ls lp hs hq f2 d h9 hd hn2 h02 h8) (Xok_t K) Xbl_t [0, 1, 2] [] rfl rfl (by decide) (by decide) (by decide) 0 rfl rfl rfl rfl rfl (Nat.le_of_ble_eq_true rfl) (by decide) (by decide) dq_Mod_set_218 (fun u hu => ?_)
      obtain rfl := hu
      show V K 10 [oc y 4 [vi 0, vi (b2 true), .ref dg, vi ((dz f2 n2 : Nat) : Int), vi (if dz f2 n2 = 0 then 0 else ((n2 : Nat) : Int) - ((fr2 : Nat) : Int)), vi 0, vi 0, .ref rw, vi ((n2 : Nat) : Int), vi ((fr2 : Nat) : Int), vj fo, .ref bt, .ref wz, .ref lw, .ref hg, vi ((ls : Nat) : Int), vi lp, vi ((hs : Nat) : Int), vi hq], ai cI rw 1200 f2, ai cI dg 800 (cpd d f2 (dz f2 n2))] 0 0 221 [(0, .ref y), (1, vj ((B : Nat) : Int))] []
      refine qv_aload_n C rfl dq_Mod_set_221 ?_
      refine qv_get C fl_Mod_61 0 rfl rfl dq_Mod_set_222 ?_
      refine qv_iret C hR ?_ dq_Mod_set_225 (by decide) (by decide)
      have em : decide (9223372036854775808 ≤ B) = true := decide_eq_true (by omega)
      refine Or.inr ⟨by omega, dz f2 n2, _, _, f2, n2, (fr2 : Int), rfl, ?_, hS _ (cpd_9 hd h9 _) (fun i hi => cpd_lt hi), h9⟩
      rw [em]; rfl
  have tailR : r < INF → ∀ (f2 : Nat → Nat) (n2 fr2 : Nat), n2 ≤ 1200 → Rw f2 n2 fr2 M (p + 1076).toNat → fr2 ≤ 1076 - (p + 1076).toNat → V K 10 [oc y 4 [vi 0, vi (b2 mi), .ref dg, vi ((nd : Nat) : Int), vi pl, vi ((zr : Nat) : Int), vi bh, .ref rw, vi ((n2 : Nat) : Int), vi ((fr2 : Nat) : Int), vj fo, .ref bt, .ref wz, .ref lw, .ref hg, vi ((ls : Nat) : Int), vi lp, vi ((hs : Nat) : Int), vi hq], ai cI rw 1200 f2, ai cI dg 800 d] 0 0 202 [(0, .ref y), (1, vj ((B : Nat) : Int))] [] := by
    intro hrI f2 n2 fr2 hn2 hR1 hfr
    have hp1 : -1074 ≤ p ∧ p ≤ 971 := by omega
    exact tail hrI f2 n2 fr2 hR1.1 hn2 (fun _ => hR1.2.2.1) (by have := Rw_768 hR1 hM53 (by omega) (by omega) hfr; omega) (fun g hg hgf => Rw_Sp hR1 hM53 rfl hp1.1 hp1.2 hfr hg hgf)
  have lpP : r < INF → ∀ q : Nat, p = (q : Int) → ∀ s (n : Nat) (f : Nat → Nat), s ≤ q → Rw f n 0 M (1076 + (q - s)) → n ≤ 17 + (q - s) → V K 10 [oc y 4 [vi 0, vi (b2 mi), .ref dg, vi ((nd : Nat) : Int), vi pl, vi ((zr : Nat) : Int), vi bh, .ref rw, vi ((n : Nat) : Int), vi 0, vj fo, .ref bt, .ref wz, .ref lw, .ref hg, vi ((ls : Nat) : Int), vi lp, vi ((hs : Nat) : Int), vi hq], ai cI rw 1200 f, ai cI dg 800 d] 0 0 158 [(0, .ref y), (1, vj ((B : Nat) : Int)), (6, vi ((s : Nat) : Int))] [] := by
    intro hrI q hqq s
    induction s with
    | zero =>
      intro n f hsq hR1 hn
      refine qv_iload C rfl dq_Mod_set_158 ?_
      refine qv_ifle C (by omega) (tgt := 180) (by decide) dq_Mod_set_160 (fun h160 => ?_) (fun h160 => ?_)
      · skip
        refine qv_iload C rfl dq_Mod_set_180 ?_
        refine qv_ifge C (by omega) (tgt := 202) (by decide) dq_Mod_set_182 (fun h182 => ?_) (fun h182 => ?_)
        · skip
          refine qv_lv [0, 1] (lv' := [(0, .ref y), (1, vj ((B : Nat) : Int))]) rfl ?_
          exact tailR hrI f n 0 (by omega) (by rw [show (p + 1076).toNat = 1076 + (q - 0) by omega]; exact hR1) (by omega)
        · exfalso; omega
      · exfalso; omega
    | succ s ih =>
      intro n f hsq hR1 hn
      have hn0 := hR1.2.1
      refine qv_iload C rfl dq_Mod_set_158 ?_
      refine qv_ifle C (by omega) (tgt := 180) (by decide) dq_Mod_set_160 (fun h160 => ?_) (fun h160 => ?_)
      · exfalso; omega
      · skip
        refine qv_aload_n C rfl dq_Mod_set_163 ?_
        refine qv_get C fl_Mod_40 0 rfl rfl dq_Mod_set_164 ?_
        refine qv_ifle C (by omega) (tgt := 180) (by decide) dq_Mod_set_167 (fun h167 => ?_) (fun h167 => ?_)
        · exfalso; omega
        · skip
          refine qv_aload_n C rfl dq_Mod_set_170 ?_
          refine qc_vV (wr := [ai cI dg 800 d]) (st := []) C cl_Mod_48 cd_Mod_twice (c_Mod_twice cI cJ y dg rw bt wz lw hg 0 mi nd pl zr bh n 0 fo ls lp hs hq f hR1.1 (by omega)) (Xok_t K) Xbl_t [0, 1] [2] rfl rfl (by decide) (by decide) (by decide) 0 rfl rfl rfl rfl rfl (Nat.le_of_ble_eq_true rfl) (by decide) (by decide) dq_Mod_set_171 (fun u hu => ?_)
          obtain ⟨f2, n2, rfl, hT⟩ := hu
          show V K 10 [ai cI dg 800 d, oc y 4 [vi 0, vi (b2 mi), .ref dg, vi ((nd : Nat) : Int), vi pl, vi ((zr : Nat) : Int), vi bh, .ref rw, vi ((n2 : Nat) : Int), vi 0, vj fo, .ref bt, .ref wz, .ref lw, .ref hg, vi ((ls : Nat) : Int), vi lp, vi ((hs : Nat) : Int), vi hq], ai cI rw 1200 f2] 0 0 174 [(0, .ref y), (1, vj ((B : Nat) : Int)), (6, vi (((s + 1) : Nat) : Int))] []
          refine qv_iinc C (j := 2) (lv' := [(6, vi ((s : Nat) : Int)), (0, .ref y), (1, vj ((B : Nat) : Int))]) (by omega) rfl (by decide) rfl dq_Mod_set_174 ?_
          refine qv_goto C (tgt := 158) (by decide) dq_Mod_set_177 ?_
          refine qv_ws [1, 2, 0] (ws' := [oc y 4 [vi 0, vi (b2 mi), .ref dg, vi ((nd : Nat) : Int), vi pl, vi ((zr : Nat) : Int), vi bh, .ref rw, vi ((n2 : Nat) : Int), vi 0, vj fo, .ref bt, .ref wz, .ref lw, .ref hg, vi ((ls : Nat) : Int), vi lp, vi ((hs : Nat) : Int), vi hq], ai cI rw 1200 f2, ai cI dg 800 d]) (by decide) rfl ?_
          refine qv_lv [1, 2, 0] (lv' := [(0, .ref y), (1, vj ((B : Nat) : Int)), (6, vi ((s : Nat) : Int))]) rfl ?_
          have hR2 := Rw_tw hR1 hT
          rw [show 1076 + (q - (s + 1)) + 1 = 1076 + (q - s) by omega] at hR2
          exact ih n2 f2 (by omega) hR2 (by have := hT.2.2.1; omega)
  have lpN : r < INF → ∀ q : Nat, p = -(q : Int) → ∀ s (n fr1 : Nat) (f : Nat → Nat), s ≤ q → Rw f n fr1 M (1076 - (q - s)) → n ≤ 17 + (q - s) → fr1 ≤ q - s → V K 10 [oc y 4 [vi 0, vi (b2 mi), .ref dg, vi ((nd : Nat) : Int), vi pl, vi ((zr : Nat) : Int), vi bh, .ref rw, vi ((n : Nat) : Int), vi ((fr1 : Nat) : Int), vj fo, .ref bt, .ref wz, .ref lw, .ref hg, vi ((ls : Nat) : Int), vi lp, vi ((hs : Nat) : Int), vi hq], ai cI rw 1200 f, ai cI dg 800 d] 0 0 180 [(0, .ref y), (1, vj ((B : Nat) : Int)), (6, vi (-((s : Nat) : Int)))] [] := by
    intro hrI q hqq s
    have hq4 : q ≤ 1074 := by omega
    induction s with
    | zero =>
      intro n fr1 f hsq hR1 hn hfr
      refine qv_iload C rfl dq_Mod_set_180 ?_
      refine qv_ifge C (by omega) (tgt := 202) (by decide) dq_Mod_set_182 (fun h182 => ?_) (fun h182 => ?_)
      · skip
        refine qv_lv [0, 1] (lv' := [(0, .ref y), (1, vj ((B : Nat) : Int))]) rfl ?_
        exact tailR hrI f n fr1 (by omega) (by rw [show (p + 1076).toNat = 1076 - (q - 0) by omega]; exact hR1) (by omega)
      · exfalso; omega
    | succ s ih =>
      intro n fr1 f hsq hR1 hn hfr
      have hn0 := hR1.2.1
      refine qv_iload C rfl dq_Mod_set_180 ?_
      refine qv_ifge C (by omega) (tgt := 202) (by decide) dq_Mod_set_182 (fun h182 => ?_) (fun h182 => ?_)
      · exfalso; omega
      · skip
        refine qv_aload_n C rfl dq_Mod_set_185 ?_
        refine qv_get C fl_Mod_40 0 rfl rfl dq_Mod_set_186 ?_
        refine qv_ifle C (by omega) (tgt := 202) (by decide) dq_Mod_set_189 (fun h189 => ?_) (fun h189 => ?_)
        · exfalso; omega
        · skip
          refine qv_aload_n C rfl dq_Mod_set_192 ?_
          refine qc_vV (wr := [ai cI dg 800 d]) (st := []) C cl_Mod_51 cd_Mod_half (c_Mod_half cI cJ y dg rw bt wz lw hg 0 mi nd pl zr bh n ((fr1 : Nat) : Int) fo ls lp hs hq f hR1.1 (by omega) hR1.2.1 hR1.2.2.1) (Xok_t K) Xbl_t [0, 1] [2] rfl rfl (by decide) (by decide) (by decide) 0 rfl rfl rfl rfl rfl (Nat.le_of_ble_eq_true rfl) (by decide) (by decide) dq_Mod_set_193 (fun u hu => ?_)
          obtain ⟨f2, n2, x, rfl, hT⟩ := hu
          show V K 10 [ai cI dg 800 d, oc y 4 [vi 0, vi (b2 mi), .ref dg, vi ((nd : Nat) : Int), vi pl, vi ((zr : Nat) : Int), vi bh, .ref rw, vi ((n2 : Nat) : Int), vi (((fr1 : Nat) : Int) + ((x : Nat) : Int)), vj fo, .ref bt, .ref wz, .ref lw, .ref hg, vi ((ls : Nat) : Int), vi lp, vi ((hs : Nat) : Int), vi hq], ai cI rw 1200 f2] 0 0 196 [(0, .ref y), (1, vj ((B : Nat) : Int)), (6, vi (-(((s + 1) : Nat) : Int)))] []
          refine qv_iinc C (j := 2) (lv' := [(6, vi (-((s : Nat) : Int))), (0, .ref y), (1, vj ((B : Nat) : Int))]) (by omega) rfl (by decide) rfl dq_Mod_set_196 ?_
          refine qv_goto C (tgt := 180) (by decide) dq_Mod_set_199 ?_
          refine qv_ws [1, 2, 0] (ws' := [oc y 4 [vi 0, vi (b2 mi), .ref dg, vi ((nd : Nat) : Int), vi pl, vi ((zr : Nat) : Int), vi bh, .ref rw, vi ((n2 : Nat) : Int), vi (((fr1 : Nat) : Int) + ((x : Nat) : Int)), vj fo, .ref bt, .ref wz, .ref lw, .ref hg, vi ((ls : Nat) : Int), vi lp, vi ((hs : Nat) : Int), vi hq], ai cI rw 1200 f2, ai cI dg 800 d]) (by decide) rfl ?_
          refine qv_lv [1, 2, 0] (lv' := [(0, .ref y), (1, vj ((B : Nat) : Int)), (6, vi (-((s : Nat) : Int)))]) rfl ?_
          rw [show 1076 - (q - (s + 1)) = (1076 - (q - s)) + 1 by omega] at hR1
          have hR2 := Rw_hf hR1 hT
          have hT2 := hT.2.1
          have hT3 := hT.2.2.1
          exact ih n2 (fr1 + x) f2 (by omega) hR2 (by omega) (by omega)
  have fil : r < INF → M ≠ 0 → ∀ n, Nd M n → n ≤ 17 → ∀ t (f : Nat → Nat), t ≤ n → Fi M n t f → V K 10 [oc y 4 [vi 0, vi (b2 mi), .ref dg, vi ((nd : Nat) : Int), vi pl, vi ((zr : Nat) : Int), vi bh, .ref rw, vi ((n : Nat) : Int), vi 0, vj fo, .ref bt, .ref wz, .ref lw, .ref hg, vi ((ls : Nat) : Int), vi lp, vi ((hs : Nat) : Int), vi hq], ai cI rw 1200 f, ai cI dg 800 d] 0 0 125 [(0, .ref y), (1, vj ((B : Nat) : Int)), (6, vi p), (7, vj (((M / 10 ^ (n - t)) : Nat) : Int)), (9, vi (((t : Nat) : Int) - 1))] [] := by
    intro hrI hM0 n hN hn t
    induction t with
    | zero =>
      intro f ht hF
      have hR1 := Rw_0 hF hN (by omega)
      have hvM := Nat.div_le_self M (10 ^ (n - 0))
      refine qv_iload C rfl dq_Mod_set_125 ?_
      refine qv_iflt C (by omega) (tgt := 158) (by decide) dq_Mod_set_127 (fun h127 => ?_) (fun h127 => ?_)
      · skip
        refine qv_lv [0, 1, 2] (lv' := [(0, .ref y), (1, vj ((B : Nat) : Int)), (6, vi p)]) rfl ?_
        rcases (show ∃ q : Nat, p = (q : Int) ∨ p = -(q : Int) from ⟨p.natAbs, by omega⟩) with ⟨q, hqq | hqq⟩
        · rw [show vi p = vi ((q : Nat) : Int) by rw [hqq]]
          exact lpP hrI q hqq q n f (Nat.le_refl _) (by rw [Nat.sub_self]; exact hR1) (by omega)
        · skip
          refine qv_iload C rfl dq_Mod_set_158 ?_
          refine qv_ifle C (by omega) (tgt := 180) (by decide) dq_Mod_set_160 (fun h160 => ?_) (fun h160 => ?_)
          · skip
            rw [show vi p = vi (-((q : Nat) : Int)) by rw [hqq]]
            exact lpN hrI q hqq q n 0 f (Nat.le_refl _) (by rw [Nat.sub_self]; exact hR1) (by omega) (by omega)
          · exfalso; omega
      · exfalso; omega
    | succ t ih =>
      intro f ht hF
      have et : (((t + 1 : Nat) : Int) - 1) = ((t : Nat) : Int) := by omega
      rw [et]
      obtain ⟨v, hv⟩ : ∃ v, v = M / 10 ^ (n - (t + 1)) := ⟨_, rfl⟩
      have hvM : v ≤ M := by rw [hv]; exact Nat.div_le_self _ _
      have hv10 : v / 10 = M / 10 ^ (n - t) := by rw [hv, Nat.div_div_eq_div_mul, ← Nat.pow_succ]; congr 2; omega
      rw [← hv]
      refine qv_iload C rfl dq_Mod_set_125 ?_
      refine qv_iflt C (by omega) (tgt := 158) (by decide) dq_Mod_set_127 (fun h127 => ?_) (fun h127 => ?_)
      · exfalso; omega
      · skip
        refine qv_aload_n C rfl dq_Mod_set_130 ?_
        refine qv_get C fl_Mod_13 0 rfl rfl dq_Mod_set_131 ?_
        refine qv_iload C rfl dq_Mod_set_134 ?_
        refine qv_lload C rfl dq_Mod_set_136 ?_
        refine qv_ldc2 C (z := 10) wk_Mod_46 dq_Mod_set_138 ?_
        refine qv_lrem C (r := (((v % 10) : Nat) : Int)) (by omega) (by omega) (by omega) (by omega) (by omega) dq_Mod_set_141 ?_
        refine qv_l2i C dq_Mod_set_142 ?_
        refine qv_iast C (ws' := [oc y 4 [vi 0, vi (b2 mi), .ref dg, vi ((nd : Nat) : Int), vi pl, vi ((zr : Nat) : Int), vi bh, .ref rw, vi ((n : Nat) : Int), vi 0, vj fo, .ref bt, .ref wz, .ref lw, .ref hg, vi ((ls : Nat) : Int), vi lp, vi ((hs : Nat) : Int), vi hq], ai cI rw 1200 (un f t (v % 10)), ai cI dg 800 d]) 1 t (v % 10) rfl (by omega) (by omega) (by omega) (by omega) rfl dq_Mod_set_143 ?_
        refine qv_lload C rfl dq_Mod_set_144 ?_
        refine qv_ldc2 C (z := 10) wk_Mod_46 dq_Mod_set_146 ?_
        refine qv_ldiv C (r := (((v / 10) : Nat) : Int)) (by omega) (by omega) (by omega) (by omega) (by omega) dq_Mod_set_149 ?_
        refine qv_lstore C (lv' := [(7, vj (((v / 10) : Nat) : Int)), (0, .ref y), (1, vj ((B : Nat) : Int)), (6, vi p), (9, vi ((t : Nat) : Int))]) (by decide) rfl dq_Mod_set_150 ?_
        refine qv_iinc C (j := 4) (lv' := [(9, vi (((t : Nat) : Int) - 1)), (7, vj (((v / 10) : Nat) : Int)), (0, .ref y), (1, vj ((B : Nat) : Int)), (6, vi p)]) (by omega) rfl (by decide) rfl dq_Mod_set_152 ?_
        refine qv_goto C (tgt := 125) (by decide) dq_Mod_set_155 ?_
        refine qv_lv [2, 3, 4, 1, 0] (lv' := [(0, .ref y), (1, vj ((B : Nat) : Int)), (6, vi p), (7, vj (((v / 10) : Nat) : Int)), (9, vi (((t : Nat) : Int) - 1))]) rfl ?_
        rw [hv10]
        have hF2 := Fi_s hF (by omega)
        rw [← hv] at hF2
        exact ih _ (by omega) hF2
  have cnt : r < INF → M ≠ 0 → ∀ k (v c : Nat), v ≤ k → v ≤ M → (∀ j, Nd v j → Nd M (c + j)) → V K 10 [oc y 4 [vi 0, vi (b2 mi), .ref dg, vi ((nd : Nat) : Int), vi pl, vi ((zr : Nat) : Int), vi bh, .ref rw, vi ((c : Nat) : Int), vi 0, vj fo, .ref bt, .ref wz, .ref lw, .ref hg, vi ((ls : Nat) : Int), vi lp, vi ((hs : Nat) : Int), vi hq], ai cI rw 1200 f, ai cI dg 800 d] 0 0 85 [(0, .ref y), (1, vj ((B : Nat) : Int)), (4, vj ((M : Nat) : Int)), (6, vi p), (7, vj ((v : Nat) : Int))] [] := by
    intro hrI hM0 k
    induction k with
    | zero =>
      intro v c hv hvM hN
      have ev : v = 0 := by omega
      subst ev
      refine qv_lload C rfl dq_Mod_set_85 ?_
      refine qv_lconst C (z := 0) (by decide) dq_Mod_set_87 ?_
      refine qv_lcle C (by omega) (by omega) dq_Mod_set_88 (tgt := 113) (by decide) dq_Mod_set_89 (fun h88 => ?_) (fun h88 => ?_)
      · skip
        refine qv_lload C rfl dq_Mod_set_113 ?_
        refine qv_lstore C (lv' := [(7, vj ((M : Nat) : Int)), (0, .ref y), (1, vj ((B : Nat) : Int)), (4, vj ((M : Nat) : Int)), (6, vi p)]) (by decide) rfl dq_Mod_set_115 ?_
        refine qv_aload_n C rfl dq_Mod_set_117 ?_
        refine qv_get C fl_Mod_40 0 rfl rfl dq_Mod_set_118 ?_
        refine qv_iconst C dq_Mod_set_121 ?_
        refine qv_isub C (r := (((c : Nat) : Int) - 1)) rfl dq_Mod_set_122 ?_
        refine qv_istore C (lv' := [(9, vi (((c : Nat) : Int) - 1)), (7, vj ((M : Nat) : Int)), (0, .ref y), (1, vj ((B : Nat) : Int)), (4, vj ((M : Nat) : Int)), (6, vi p)]) (by decide) rfl dq_Mod_set_123 ?_
        refine qv_lv [2, 3, 5, 1, 0] (lv' := [(0, .ref y), (1, vj ((B : Nat) : Int)), (6, vi p), (7, vj ((M : Nat) : Int)), (9, vi (((c : Nat) : Int) - 1))]) rfl ?_
        have hN0 := hN 0 Nd_0
        rw [Nat.add_zero] at hN0
        have l0 := fil hrI hM0 c hN0 (Nd_le hN0 (by omega)) c f (Nat.le_refl _) (Fi_0 hf)
        rw [Nat.sub_self, Nat.pow_zero, Nat.div_one] at l0
        exact l0
      · exfalso; omega
    | succ k ih =>
      intro v c hv hvM hN
      by_cases hv0 : v = 0
      · subst hv0
        refine qv_lload C rfl dq_Mod_set_85 ?_
        refine qv_lconst C (z := 0) (by decide) dq_Mod_set_87 ?_
        refine qv_lcle C (by omega) (by omega) dq_Mod_set_88 (tgt := 113) (by decide) dq_Mod_set_89 (fun h88 => ?_) (fun h88 => ?_)
        · skip
          refine qv_lload C rfl dq_Mod_set_113 ?_
          refine qv_lstore C (lv' := [(7, vj ((M : Nat) : Int)), (0, .ref y), (1, vj ((B : Nat) : Int)), (4, vj ((M : Nat) : Int)), (6, vi p)]) (by decide) rfl dq_Mod_set_115 ?_
          refine qv_aload_n C rfl dq_Mod_set_117 ?_
          refine qv_get C fl_Mod_40 0 rfl rfl dq_Mod_set_118 ?_
          refine qv_iconst C dq_Mod_set_121 ?_
          refine qv_isub C (r := (((c : Nat) : Int) - 1)) rfl dq_Mod_set_122 ?_
          refine qv_istore C (lv' := [(9, vi (((c : Nat) : Int) - 1)), (7, vj ((M : Nat) : Int)), (0, .ref y), (1, vj ((B : Nat) : Int)), (4, vj ((M : Nat) : Int)), (6, vi p)]) (by decide) rfl dq_Mod_set_123 ?_
          refine qv_lv [2, 3, 5, 1, 0] (lv' := [(0, .ref y), (1, vj ((B : Nat) : Int)), (6, vi p), (7, vj ((M : Nat) : Int)), (9, vi (((c : Nat) : Int) - 1))]) rfl ?_
          have hN0 := hN 0 Nd_0
          rw [Nat.add_zero] at hN0
          have l0 := fil hrI hM0 c hN0 (Nd_le hN0 (by omega)) c f (Nat.le_refl _) (Fi_0 hf)
          rw [Nat.sub_self, Nat.pow_zero, Nat.div_one] at l0
          exact l0
        · exfalso; omega
      · skip
        refine qv_lload C rfl dq_Mod_set_85 ?_
        refine qv_lconst C (z := 0) (by decide) dq_Mod_set_87 ?_
        refine qv_lcle C (by omega) (by omega) dq_Mod_set_88 (tgt := 113) (by decide) dq_Mod_set_89 (fun h88 => ?_) (fun h88 => ?_)
        · exfalso; omega
        · skip
          refine qv_aload_n C rfl dq_Mod_set_92 ?_
          refine qv_dup C rfl dq_Mod_set_93 ?_
          refine qv_get C fl_Mod_40 0 rfl rfl dq_Mod_set_94 ?_
          refine qv_iconst C dq_Mod_set_97 ?_
          refine qv_iadd C (r := (((c + 1) : Nat) : Int)) (by omega) dq_Mod_set_98 ?_
          refine qv_put C (ws' := [oc y 4 [vi 0, vi (b2 mi), .ref dg, vi ((nd : Nat) : Int), vi pl, vi ((zr : Nat) : Int), vi bh, .ref rw, vi (((c + 1) : Nat) : Int), vi 0, vj fo, .ref bt, .ref wz, .ref lw, .ref hg, vi ((ls : Nat) : Int), vi lp, vi ((hs : Nat) : Int), vi hq], ai cI rw 1200 f, ai cI dg 800 d]) fl_Mod_40 fs_4_8 0 rfl rfl rfl (Nat.le_of_ble_eq_true rfl) rfl dq_Mod_set_99 ?_
          refine qv_lload C rfl dq_Mod_set_102 ?_
          refine qv_ldc2 C (z := 10) wk_Mod_46 dq_Mod_set_104 ?_
          refine qv_ldiv C (r := (((v / 10) : Nat) : Int)) (by omega) (by omega) (by omega) (by omega) (by omega) dq_Mod_set_107 ?_
          refine qv_lstore C (lv' := [(7, vj (((v / 10) : Nat) : Int)), (0, .ref y), (1, vj ((B : Nat) : Int)), (4, vj ((M : Nat) : Int)), (6, vi p)]) (by decide) rfl dq_Mod_set_108 ?_
          refine qv_goto C (tgt := 85) (by decide) dq_Mod_set_110 ?_
          refine qv_lv [1, 2, 3, 4, 0] (lv' := [(0, .ref y), (1, vj ((B : Nat) : Int)), (4, vj ((M : Nat) : Int)), (6, vi p), (7, vj (((v / 10) : Nat) : Int))]) rfl ?_
          exact ih (v / 10) (c + 1) (by omega) (by omega) (fun j hj => by
            have h := hN (j + 1) (Nd_s (by omega) hj)
            rw [show c + 1 + j = c + (j + 1) by omega]
            exact h)
  refine qv_aload_n C rfl dq_Mod_set_0 ?_
  refine qv_iconst C dq_Mod_set_1 ?_
  refine qv_put C (ws' := [oc y 4 [vi 0, vi (b2 mi), .ref dg, vi ((nd : Nat) : Int), vi pl, vi ((zr : Nat) : Int), vi bh, .ref rw, vi ((mn : Nat) : Int), vi fr, vj fo, .ref bt, .ref wz, .ref lw, .ref hg, vi ((ls : Nat) : Int), vi lp, vi ((hs : Nat) : Int), vi hq], ai cI rw 1200 f, ai cI dg 800 d]) fl_Mod_28 fs_4_0 0 rfl rfl rfl (Nat.le_of_ble_eq_true rfl) rfl dq_Mod_set_2 ?_
  refine qv_lload_n C rfl dq_Mod_set_5 ?_
  refine qv_bipush C (by decide) dq_Mod_set_6 ?_
  refine qv_lushr C B 52 (by omega) (by omega) (by omega) (by omega) dq_Mod_set_8 ?_
  refine qv_l2i C dq_Mod_set_9 ?_
  refine qv_sipush C (by decide) dq_Mod_set_10 ?_
  refine qv_iand C (r := (((B / 2 ^ 52 % 2048) : Nat) : Int)) (zi_and (a := B / 2 ^ 52) (b := 11) (by omega)) dq_Mod_set_13 ?_
  refine qv_ti (r := ((e : Nat) : Int)) (by rw [he]) ?_
  refine qv_istore_n C (lv' := [(3, vi ((e : Nat) : Int)), (0, .ref y), (1, vj ((B : Nat) : Int))]) (by decide) rfl dq_Mod_set_14 ?_
  refine qv_aload_n C rfl dq_Mod_set_15 ?_
  refine qv_iload_n C rfl dq_Mod_set_16 ?_
  refine qv_sipush C (by decide) dq_Mod_set_17 ?_
  refine qv_icne C (by omega) (by omega) (tgt := 27) (by decide) dq_Mod_set_20 (fun h20 => ?_) (fun h20 => ?_)
  · skip
    refine qv_iconst C dq_Mod_set_27 ?_
    refine qv_iconst C dq_Mod_set_28 ?_
    refine qc_vI (wr := [ai cI rw 1200 f, ai cI dg 800 d]) (st := []) C cl_Mod_32 cd_Mod_fails (c_Mod_fails cI cJ y dg rw bt wz lw hg mi nd pl zr bh mn fr fo ls lp hs hq false 1 (by omega)) (Xok_t K) Xbl_t [0] [1, 2] rfl rfl (by decide) (by decide) (by decide) 0 rfl rfl rfl rfl rfl (Nat.le_of_ble_eq_true rfl) (by decide) (by decide) dq_Mod_set_29 (fun z u hu => ?_)
    obtain ⟨rfl, rfl⟩ := hu
    show V K 10 [ai cI rw 1200 f, ai cI dg 800 d, oc y 4 [vi 0, vi (b2 mi), .ref dg, vi ((nd : Nat) : Int), vi pl, vi ((zr : Nat) : Int), vi bh, .ref rw, vi ((mn : Nat) : Int), vi fr, vj fo, .ref bt, .ref wz, .ref lw, .ref hg, vi ((ls : Nat) : Int), vi lp, vi ((hs : Nat) : Int), vi hq]] 0 0 32 [(3, vi ((e : Nat) : Int)), (0, .ref y), (1, vj ((B : Nat) : Int))] [vi 0]
    refine qv_ifeq C (by omega) (tgt := 37) (by decide) dq_Mod_set_32 (fun h32 => ?_) (fun h32 => ?_)
    · skip
      refine qv_lload_n C rfl dq_Mod_set_37 ?_
      refine qv_ldc2 C (z := 4503599627370495) wk_Mod_36 dq_Mod_set_38 ?_
      refine qv_land C (r := (((B % 4503599627370496) : Nat) : Int)) (zj_and (a := B) (b := 52) (by omega)) dq_Mod_set_41 ?_
      refine qv_iload_n C rfl dq_Mod_set_42 ?_
      refine qv_ifle C (by omega) (tgt := 52) (by decide) dq_Mod_set_43 (fun h43 => ?_) (fun h43 => ?_)
      · skip
        refine qv_lconst C (z := 0) (by decide) dq_Mod_set_52 ?_
        refine qv_lor C (r := ((M : Nat) : Int)) (by rw [zj_0, Int64.or_zero, hMz (by omega)]) dq_Mod_set_53 ?_
        refine qv_lstore C (lv' := [(4, vj ((M : Nat) : Int)), (3, vi ((e : Nat) : Int)), (0, .ref y), (1, vj ((B : Nat) : Int))]) (by decide) rfl dq_Mod_set_54 ?_
        refine qv_iload_n C rfl dq_Mod_set_56 ?_
        refine qv_ifle C (by omega) (tgt := 64) (by decide) dq_Mod_set_57 (fun h57 => ?_) (fun h57 => ?_)
        · skip
          refine qv_iconst C dq_Mod_set_64 ?_
          refine qv_sipush C (by decide) dq_Mod_set_65 ?_
          refine qv_isub C (r := p) (by omega) dq_Mod_set_68 ?_
          refine qv_istore C (lv' := [(6, vi p), (4, vj ((M : Nat) : Int)), (3, vi ((e : Nat) : Int)), (0, .ref y), (1, vj ((B : Nat) : Int))]) (by decide) rfl dq_Mod_set_69 ?_
          refine qv_aload_n C rfl dq_Mod_set_71 ?_
          refine qv_iconst C dq_Mod_set_72 ?_
          refine qv_put C (ws' := [ai cI rw 1200 f, ai cI dg 800 d, oc y 4 [vi 0, vi (b2 mi), .ref dg, vi ((nd : Nat) : Int), vi pl, vi ((zr : Nat) : Int), vi bh, .ref rw, vi 0, vi fr, vj fo, .ref bt, .ref wz, .ref lw, .ref hg, vi ((ls : Nat) : Int), vi lp, vi ((hs : Nat) : Int), vi hq]]) fl_Mod_40 fs_4_8 2 rfl rfl rfl (Nat.le_of_ble_eq_true rfl) rfl dq_Mod_set_73 ?_
          refine qv_aload_n C rfl dq_Mod_set_76 ?_
          refine qv_iconst C dq_Mod_set_77 ?_
          refine qv_put C (ws' := [ai cI rw 1200 f, ai cI dg 800 d, oc y 4 [vi 0, vi (b2 mi), .ref dg, vi ((nd : Nat) : Int), vi pl, vi ((zr : Nat) : Int), vi bh, .ref rw, vi 0, vi 0, vj fo, .ref bt, .ref wz, .ref lw, .ref hg, vi ((ls : Nat) : Int), vi lp, vi ((hs : Nat) : Int), vi hq]]) fl_Mod_43 fs_4_9 2 rfl rfl rfl (Nat.le_of_ble_eq_true rfl) rfl dq_Mod_set_78 ?_
          refine qv_lload C rfl dq_Mod_set_81 ?_
          refine qv_lstore C (lv' := [(7, vj ((M : Nat) : Int)), (6, vi p), (4, vj ((M : Nat) : Int)), (3, vi ((e : Nat) : Int)), (0, .ref y), (1, vj ((B : Nat) : Int))]) (by decide) rfl dq_Mod_set_83 ?_
          refine qv_ws [2, 0, 1] (ws' := [oc y 4 [vi 0, vi (b2 mi), .ref dg, vi ((nd : Nat) : Int), vi pl, vi ((zr : Nat) : Int), vi bh, .ref rw, vi 0, vi 0, vj fo, .ref bt, .ref wz, .ref lw, .ref hg, vi ((ls : Nat) : Int), vi lp, vi ((hs : Nat) : Int), vi hq], ai cI rw 1200 f, ai cI dg 800 d]) (by decide) rfl ?_
          refine qv_lv [4, 5, 2, 1, 0] (lv' := [(0, .ref y), (1, vj ((B : Nat) : Int)), (4, vj ((M : Nat) : Int)), (6, vi p), (7, vj ((M : Nat) : Int))]) rfl ?_
          have hrI : r < INF := by omega
          by_cases hM0 : M = 0
          · have er0 : r = 0 := by
              rw [hM] at hM0; unfold fc at hM0; split at hM0 <;> omega
            have ep : p = -1074 := by omega
            rw [show vj ((M : Nat) : Int) = vj ((0 : Nat) : Int) by rw [hM0]]
            refine qv_lload C rfl dq_Mod_set_85 ?_
            refine qv_lconst C (z := 0) (by decide) dq_Mod_set_87 ?_
            refine qv_lcle C (by omega) (by omega) dq_Mod_set_88 (tgt := 113) (by decide) dq_Mod_set_89 (fun h88 => ?_) (fun h88 => ?_)
            · skip
              refine qv_lload C rfl dq_Mod_set_113 ?_
              refine qv_lstore C (lv' := [(7, vj ((0 : Nat) : Int)), (0, .ref y), (1, vj ((B : Nat) : Int)), (4, vj ((0 : Nat) : Int)), (6, vi p)]) (by decide) rfl dq_Mod_set_115 ?_
              refine qv_aload_n C rfl dq_Mod_set_117 ?_
              refine qv_get C fl_Mod_40 0 rfl rfl dq_Mod_set_118 ?_
              refine qv_iconst C dq_Mod_set_121 ?_
              refine qv_isub C (r := (-1)) rfl dq_Mod_set_122 ?_
              refine qv_istore C (lv' := [(9, vi (-1)), (7, vj ((0 : Nat) : Int)), (0, .ref y), (1, vj ((B : Nat) : Int)), (4, vj ((0 : Nat) : Int)), (6, vi p)]) (by decide) rfl dq_Mod_set_123 ?_
              refine qv_iload C rfl dq_Mod_set_125 ?_
              refine qv_iflt C (by omega) (tgt := 158) (by decide) dq_Mod_set_127 (fun h127 => ?_) (fun h127 => ?_)
              · skip
                refine qv_iload C rfl dq_Mod_set_158 ?_
                refine qv_ifle C (by omega) (tgt := 180) (by decide) dq_Mod_set_160 (fun h160 => ?_) (fun h160 => ?_)
                · skip
                  refine qv_iload C rfl dq_Mod_set_180 ?_
                  refine qv_ifge C (by omega) (tgt := 202) (by decide) dq_Mod_set_182 (fun h182 => ?_) (fun h182 => ?_)
                  · exfalso; omega
                  · skip
                    refine qv_aload_n C rfl dq_Mod_set_185 ?_
                    refine qv_get C fl_Mod_40 0 rfl rfl dq_Mod_set_186 ?_
                    refine qv_ifle C (by omega) (tgt := 202) (by decide) dq_Mod_set_189 (fun h189 => ?_) (fun h189 => ?_)
                    · skip
                      refine qv_lv [2, 3] (lv' := [(0, .ref y), (1, vj ((B : Nat) : Int))]) rfl ?_
                      exact tail hrI f 0 0 hf (by omega) (fun q => by omega) (by show (0 : Nat) ≤ 800; omega) (fun g hg _ => by rw [hM0]; exact Sp_0 p hg)
                    · exfalso; omega
                · exfalso; omega
              · exfalso; omega
            · exfalso; omega
          · exact cnt hrI hM0 M M 0 (Nat.le_refl _) (Nat.le_refl _) (fun j hj => by rw [Nat.zero_add]; exact hj)
        · exfalso; omega
      · skip
        refine qv_ldc2 C (z := 4503599627370496) wk_Mod_38 dq_Mod_set_46 ?_
        refine qv_goto C (tgt := 53) (by decide) dq_Mod_set_49 ?_
        refine qv_lor C (r := ((M : Nat) : Int)) (by rw [hMe (by omega)]; exact zj_or' (a := 1) (k := 52) (by omega) (by omega)) dq_Mod_set_53 ?_
        refine qv_lstore C (lv' := [(4, vj ((M : Nat) : Int)), (3, vi ((e : Nat) : Int)), (0, .ref y), (1, vj ((B : Nat) : Int))]) (by decide) rfl dq_Mod_set_54 ?_
        refine qv_iload_n C rfl dq_Mod_set_56 ?_
        refine qv_ifle C (by omega) (tgt := 64) (by decide) dq_Mod_set_57 (fun h57 => ?_) (fun h57 => ?_)
        · exfalso; omega
        · skip
          refine qv_iload_n C rfl dq_Mod_set_60 ?_
          refine qv_goto C (tgt := 65) (by decide) dq_Mod_set_61 ?_
          refine qv_sipush C (by decide) dq_Mod_set_65 ?_
          refine qv_isub C (r := p) (by omega) dq_Mod_set_68 ?_
          refine qv_istore C (lv' := [(6, vi p), (4, vj ((M : Nat) : Int)), (3, vi ((e : Nat) : Int)), (0, .ref y), (1, vj ((B : Nat) : Int))]) (by decide) rfl dq_Mod_set_69 ?_
          refine qv_aload_n C rfl dq_Mod_set_71 ?_
          refine qv_iconst C dq_Mod_set_72 ?_
          refine qv_put C (ws' := [ai cI rw 1200 f, ai cI dg 800 d, oc y 4 [vi 0, vi (b2 mi), .ref dg, vi ((nd : Nat) : Int), vi pl, vi ((zr : Nat) : Int), vi bh, .ref rw, vi 0, vi fr, vj fo, .ref bt, .ref wz, .ref lw, .ref hg, vi ((ls : Nat) : Int), vi lp, vi ((hs : Nat) : Int), vi hq]]) fl_Mod_40 fs_4_8 2 rfl rfl rfl (Nat.le_of_ble_eq_true rfl) rfl dq_Mod_set_73 ?_
          refine qv_aload_n C rfl dq_Mod_set_76 ?_
          refine qv_iconst C dq_Mod_set_77 ?_
          refine qv_put C (ws' := [ai cI rw 1200 f, ai cI dg 800 d, oc y 4 [vi 0, vi (b2 mi), .ref dg, vi ((nd : Nat) : Int), vi pl, vi ((zr : Nat) : Int), vi bh, .ref rw, vi 0, vi 0, vj fo, .ref bt, .ref wz, .ref lw, .ref hg, vi ((ls : Nat) : Int), vi lp, vi ((hs : Nat) : Int), vi hq]]) fl_Mod_43 fs_4_9 2 rfl rfl rfl (Nat.le_of_ble_eq_true rfl) rfl dq_Mod_set_78 ?_
          refine qv_lload C rfl dq_Mod_set_81 ?_
          refine qv_lstore C (lv' := [(7, vj ((M : Nat) : Int)), (6, vi p), (4, vj ((M : Nat) : Int)), (3, vi ((e : Nat) : Int)), (0, .ref y), (1, vj ((B : Nat) : Int))]) (by decide) rfl dq_Mod_set_83 ?_
          refine qv_ws [2, 0, 1] (ws' := [oc y 4 [vi 0, vi (b2 mi), .ref dg, vi ((nd : Nat) : Int), vi pl, vi ((zr : Nat) : Int), vi bh, .ref rw, vi 0, vi 0, vj fo, .ref bt, .ref wz, .ref lw, .ref hg, vi ((ls : Nat) : Int), vi lp, vi ((hs : Nat) : Int), vi hq], ai cI rw 1200 f, ai cI dg 800 d]) (by decide) rfl ?_
          refine qv_lv [4, 5, 2, 1, 0] (lv' := [(0, .ref y), (1, vj ((B : Nat) : Int)), (4, vj ((M : Nat) : Int)), (6, vi p), (7, vj ((M : Nat) : Int))]) rfl ?_
          have hrI : r < INF := by omega
          by_cases hM0 : M = 0
          · have er0 : r = 0 := by
              rw [hM] at hM0; unfold fc at hM0; split at hM0 <;> omega
            have ep : p = -1074 := by omega
            rw [show vj ((M : Nat) : Int) = vj ((0 : Nat) : Int) by rw [hM0]]
            refine qv_lload C rfl dq_Mod_set_85 ?_
            refine qv_lconst C (z := 0) (by decide) dq_Mod_set_87 ?_
            refine qv_lcle C (by omega) (by omega) dq_Mod_set_88 (tgt := 113) (by decide) dq_Mod_set_89 (fun h88 => ?_) (fun h88 => ?_)
            · skip
              refine qv_lload C rfl dq_Mod_set_113 ?_
              refine qv_lstore C (lv' := [(7, vj ((0 : Nat) : Int)), (0, .ref y), (1, vj ((B : Nat) : Int)), (4, vj ((0 : Nat) : Int)), (6, vi p)]) (by decide) rfl dq_Mod_set_115 ?_
              refine qv_aload_n C rfl dq_Mod_set_117 ?_
              refine qv_get C fl_Mod_40 0 rfl rfl dq_Mod_set_118 ?_
              refine qv_iconst C dq_Mod_set_121 ?_
              refine qv_isub C (r := (-1)) rfl dq_Mod_set_122 ?_
              refine qv_istore C (lv' := [(9, vi (-1)), (7, vj ((0 : Nat) : Int)), (0, .ref y), (1, vj ((B : Nat) : Int)), (4, vj ((0 : Nat) : Int)), (6, vi p)]) (by decide) rfl dq_Mod_set_123 ?_
              refine qv_iload C rfl dq_Mod_set_125 ?_
              refine qv_iflt C (by omega) (tgt := 158) (by decide) dq_Mod_set_127 (fun h127 => ?_) (fun h127 => ?_)
              · skip
                refine qv_iload C rfl dq_Mod_set_158 ?_
                refine qv_ifle C (by omega) (tgt := 180) (by decide) dq_Mod_set_160 (fun h160 => ?_) (fun h160 => ?_)
                · skip
                  refine qv_iload C rfl dq_Mod_set_180 ?_
                  refine qv_ifge C (by omega) (tgt := 202) (by decide) dq_Mod_set_182 (fun h182 => ?_) (fun h182 => ?_)
                  · exfalso; omega
                  · skip
                    refine qv_aload_n C rfl dq_Mod_set_185 ?_
                    refine qv_get C fl_Mod_40 0 rfl rfl dq_Mod_set_186 ?_
                    refine qv_ifle C (by omega) (tgt := 202) (by decide) dq_Mod_set_189 (fun h189 => ?_) (fun h189 => ?_)
                    · skip
                      refine qv_lv [2, 3] (lv' := [(0, .ref y), (1, vj ((B : Nat) : Int))]) rfl ?_
                      exact tail hrI f 0 0 hf (by omega) (fun q => by omega) (by show (0 : Nat) ≤ 800; omega) (fun g hg _ => by rw [hM0]; exact Sp_0 p hg)
                    · exfalso; omega
                · exfalso; omega
              · exfalso; omega
            · exfalso; omega
          · exact cnt hrI hM0 M M 0 (Nat.le_refl _) (Nat.le_refl _) (fun j hj => by rw [Nat.zero_add]; exact hj)
    · exfalso; omega
  · skip
    refine qv_iconst C dq_Mod_set_23 ?_
    refine qv_goto C (tgt := 28) (by decide) dq_Mod_set_24 ?_
    refine qv_iconst C dq_Mod_set_28 ?_
    refine qc_vI (wr := [ai cI rw 1200 f, ai cI dg 800 d]) (st := []) C cl_Mod_32 cd_Mod_fails (c_Mod_fails cI cJ y dg rw bt wz lw hg mi nd pl zr bh mn fr fo ls lp hs hq true 1 (by omega)) (Xok_t K) Xbl_t [0] [1, 2] rfl rfl (by decide) (by decide) (by decide) 0 rfl rfl rfl rfl rfl (Nat.le_of_ble_eq_true rfl) (by decide) (by decide) dq_Mod_set_29 (fun z u hu => ?_)
    obtain ⟨rfl, rfl⟩ := hu
    show V K 10 [ai cI rw 1200 f, ai cI dg 800 d, oc y 4 [vi 1, vi (b2 mi), .ref dg, vi ((nd : Nat) : Int), vi pl, vi ((zr : Nat) : Int), vi bh, .ref rw, vi ((mn : Nat) : Int), vi fr, vj fo, .ref bt, .ref wz, .ref lw, .ref hg, vi ((ls : Nat) : Int), vi lp, vi ((hs : Nat) : Int), vi hq]] 0 0 32 [(3, vi ((e : Nat) : Int)), (0, .ref y), (1, vj ((B : Nat) : Int))] [vi 1]
    refine qv_ifeq C (by omega) (tgt := 37) (by decide) dq_Mod_set_32 (fun h32 => ?_) (fun h32 => ?_)
    · exfalso; omega
    · skip
      refine qv_iconst C dq_Mod_set_35 ?_
      refine qv_ws [2, 0, 1] (ws' := [oc y 4 [vi 1, vi (b2 mi), .ref dg, vi ((nd : Nat) : Int), vi pl, vi ((zr : Nat) : Int), vi bh, .ref rw, vi ((mn : Nat) : Int), vi fr, vj fo, .ref bt, .ref wz, .ref lw, .ref hg, vi ((ls : Nat) : Int), vi lp, vi ((hs : Nat) : Int), vi hq], ai cI rw 1200 f, ai cI dg 800 d]) (by decide) rfl ?_
      refine qv_iret C hR ?_ dq_Mod_set_36 (by decide) (by decide)
      exact Or.inl ⟨by omega, rfl, rfl⟩

