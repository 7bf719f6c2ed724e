theorem c_Grp_multiply (cI cJ : ClassId) (g b fi en : Nat) (R : Nat → Nat) (fr bt : Nat) (hG : Gd R fi en) (hfr : fr ≤ 160) (hbt : bt ≤ 32) : MtJ cI cJ ky_Grp_multiply kb_Grp_multiply 8 rm_Grp_multiply Xt [.ref g, vi ((fr : Nat) : Int), vi ((bt : Nat) : Int)] [oc g 1 [.ref b, vi ((fi : Nat) : Int), vi ((en : Nat) : Int)], aj cJ b 160 R] (fun z u => ∃ (R2 : Nat → Nat) (fi2 en2 o : Nat), z = ((o : Nat) : Int) ∧ u = gw cJ g b fi2 en2 R2 ∧ Mpo fr R fi en (2 ^ bt) R2 fi2 en2 o) := by
  refine MtJ_in (by decide) (Nat.le_of_ble_eq_true rfl) (fun K C hR hX hN => ?_)
  show V K 8 [oc g 1 [.ref b, vi ((fi : Nat) : Int), vi ((en : Nat) : Int)], aj cJ b 160 R] 0 0 0 [(0, .ref g), (1, vi ((fr : Nat) : Int)), (2, vi ((bt : Nat) : Int))] []
  obtain ⟨g1, g2, g3, g4, g5⟩ := id hG
  have hz0 : 0 < 2 ^ bt := Nat.pow_pos (by omega)
  have hz32 : 2 ^ bt ≤ 4294967296 := Nat.le_trans (Nat.pow_le_pow_right (by omega) hbt) (by decide)
  have trim : ∀ (R2 : Nat → Nat) (fi2 o : Nat), (∀ i, R2 i < 1000000000) → (∀ i, i < fi2 → R2 i = 0) → fi2 ≤ fi → o < 2 ^ bt → (∀ j, j < fr → R2 j = R j) → ts 1000000000 R2 fr (160 - fr) + o * 1000000000 ^ (160 - fr) = ts 1000000000 R fr (160 - fr) * 2 ^ bt → ∀ e, e ≤ en → (∀ j, e ≤ j → j < 160 → R2 j = 0) → V K 8 [oc g 1 [.ref b, vi ((fi2 : Nat) : Int), vi ((e : Nat) : Int)], aj cJ b 160 R2] 0 0 83 [(0, .ref g), (1, vi ((fr : Nat) : Int)), (2, vi ((bt : Nat) : Int)), (3, vj ((o : Nat) : Int))] [] := by
    intro R2 fi2 o b1 b2 b3 b4 b5 b6 e
    induction e with
    | zero =>
      intro c1 c2
      refine qv_aload_n C rfl dq_Grp_multiply_83 ?_
      refine qv_get C fl_Grp_19 0 rfl rfl dq_Grp_multiply_84 ?_
      refine qv_iload_n C rfl dq_Grp_multiply_87 ?_
      refine qv_icle C (by omega) (by omega) (tgt := 120) (by decide) dq_Grp_multiply_88 (fun h88 => ?_) (fun h88 => ?_)
      · skip
        refine qv_lload_n C rfl dq_Grp_multiply_120 ?_
        refine qv_lret C hR ?_ dq_Grp_multiply_121 (by decide) (by decide)
        exact ⟨R2, fi2, 0, o, rfl, rfl, ⟨b1, b2, c2, by omega, by omega⟩, by omega, b3, Or.inl (by omega), b5, b6, b4⟩
      · exfalso; omega
    | succ e ih =>
      intro c1 c2
      have b9 := b1 e
      refine qv_aload_n C rfl dq_Grp_multiply_83 ?_
      refine qv_get C fl_Grp_19 0 rfl rfl dq_Grp_multiply_84 ?_
      refine qv_iload_n C rfl dq_Grp_multiply_87 ?_
      refine qv_icle C (by omega) (by omega) (tgt := 120) (by decide) dq_Grp_multiply_88 (fun h88 => ?_) (fun h88 => ?_)
      · skip
        refine qv_lload_n C rfl dq_Grp_multiply_120 ?_
        refine qv_lret C hR ?_ dq_Grp_multiply_121 (by decide) (by decide)
        exact ⟨R2, fi2, (e + 1), o, rfl, rfl, ⟨b1, b2, c2, by omega, by omega⟩, by omega, b3, Or.inl (by omega), b5, b6, b4⟩
      · skip
        refine qv_aload_n C rfl dq_Grp_multiply_91 ?_
        refine qv_get C fl_Grp_11 0 rfl rfl dq_Grp_multiply_92 ?_
        refine qv_aload_n C rfl dq_Grp_multiply_95 ?_
        refine qv_get C fl_Grp_19 0 rfl rfl dq_Grp_multiply_96 ?_
        refine qv_iconst C dq_Grp_multiply_99 ?_
        refine qv_isub C (r := ((e : Nat) : Int)) (by omega) dq_Grp_multiply_100 ?_
        refine qv_lald C 1 e rfl (by omega) (by omega) (by omega) dq_Grp_multiply_101 ?_
        refine qv_lconst C (z := 0) (by decide) dq_Grp_multiply_102 ?_
        refine qv_lcne C (by omega) (by omega) dq_Grp_multiply_103 (tgt := 120) (by decide) dq_Grp_multiply_104 (fun h103 => ?_) (fun h103 => ?_)
        · skip
          refine qv_lload_n C rfl dq_Grp_multiply_120 ?_
          refine qv_lret C hR ?_ dq_Grp_multiply_121 (by decide) (by decide)
          exact ⟨R2, fi2, (e + 1), o, rfl, rfl, ⟨b1, b2, c2, by omega, by omega⟩, by omega, b3, Or.inr (by show R2 e ≠ 0; omega), b5, b6, b4⟩
        · skip
          refine qv_aload_n C rfl dq_Grp_multiply_107 ?_
          refine qv_dup C rfl dq_Grp_multiply_108 ?_
          refine qv_get C fl_Grp_19 0 rfl rfl dq_Grp_multiply_109 ?_
          refine qv_iconst C dq_Grp_multiply_112 ?_
          refine qv_isub C (r := ((e : Nat) : Int)) (by omega) dq_Grp_multiply_113 ?_
          refine qv_put C (ws' := [oc g 1 [.ref b, vi ((fi2 : Nat) : Int), vi ((e : Nat) : Int)], aj cJ b 160 R2]) fl_Grp_19 fs_1_2 0 rfl rfl rfl (Nat.le_of_ble_eq_true rfl) rfl dq_Grp_multiply_114 ?_
          refine qv_goto C (tgt := 83) (by decide) dq_Grp_multiply_117 ?_
          exact ih (by omega) (fun j hj hj2 => by
            by_cases q : j = e
            · rw [q]; omega
            · exact c2 j (by omega) hj2)
  have loop : ∀ t (R2 : Nat → Nat) (fi2 o : Nat), MI fr R R2 fi fi2 en t o (2 ^ bt) → V K 8 [oc g 1 [.ref b, vi ((fi2 : Nat) : Int), vi ((en : Nat) : Int)], aj cJ b 160 R2] 0 0 10 [(0, .ref g), (1, vi ((fr : Nat) : Int)), (2, vi ((bt : Nat) : Int)), (3, vj ((o : Nat) : Int)), (5, vi (((t : Nat) : Int) - 1))] [] := by
    intro t
    induction t with
    | zero =>
      intro R2 fi2 o hM
      obtain ⟨m1, m2, m3, m4, m5, m6, m7, m8, m9⟩ := id hM
      obtain ⟨e1, e2, e3⟩ := MI_e hM hG hfr (Or.inl (by omega))
      refine qv_iload C rfl dq_Grp_multiply_10 ?_
      refine qv_iload_n C rfl dq_Grp_multiply_12 ?_
      refine qv_iclt C (by omega) (by omega) (tgt := 83) (by decide) dq_Grp_multiply_13 (fun h13 => ?_) (fun h13 => ?_)
      · skip
        refine qv_lv [0, 1, 2, 3] (lv' := [(0, .ref g), (1, vi ((fr : Nat) : Int)), (2, vi ((bt : Nat) : Int)), (3, vj ((o : Nat) : Int))]) rfl ?_
        exact trim R2 fi2 o m1 m4 m5 m7 e2 e1 en (Nat.le_refl _) e3
      · exfalso; omega
    | succ t ih =>
      intro R2 fi2 o hM
      obtain ⟨m1, m2, m3, m4, m5, m6, m7, m8, m9⟩ := id hM
      have hRt := m1 t
      have hpr : R2 t * 2 ^ bt + o < 4294967296000000000 := by
        have q1 : R2 t * 2 ^ bt ≤ 999999999 * 2 ^ bt := Nat.mul_le_mul_right _ (by omega)
        omega
      have et : (((t + 1 : Nat) : Int) - 1) = ((t : Nat) : Int) := by omega
      rw [et]
      refine qv_iload C rfl dq_Grp_multiply_10 ?_
      refine qv_iload_n C rfl dq_Grp_multiply_12 ?_
      refine qv_iclt C (by omega) (by omega) (tgt := 83) (by decide) dq_Grp_multiply_13 (fun h13 => ?_) (fun h13 => ?_)
      · skip
        refine qv_lv [0, 1, 2, 3] (lv' := [(0, .ref g), (1, vi ((fr : Nat) : Int)), (2, vi ((bt : Nat) : Int)), (3, vj ((o : Nat) : Int))]) rfl ?_
        obtain ⟨e1, e2, e3⟩ := MI_e hM hG hfr (Or.inl (by omega))
        exact trim R2 fi2 o m1 m4 m5 m7 e2 e1 en (Nat.le_refl _) e3
      · skip
        refine qv_iload C rfl dq_Grp_multiply_16 ?_
        refine qv_aload_n C rfl dq_Grp_multiply_18 ?_
        refine qv_get C fl_Grp_15 0 rfl rfl dq_Grp_multiply_19 ?_
        refine qv_icge C (by omega) (by omega) (tgt := 31) (by decide) dq_Grp_multiply_22 (fun h22 => ?_) (fun h22 => ?_)
        · skip
          refine qv_aload_n C rfl dq_Grp_multiply_31 ?_
          refine qv_get C fl_Grp_11 0 rfl rfl dq_Grp_multiply_32 ?_
          refine qv_iload C rfl dq_Grp_multiply_35 ?_
          refine qv_lald C 1 t rfl (by omega) (by omega) (by omega) dq_Grp_multiply_37 ?_
          refine qv_iload_n C rfl dq_Grp_multiply_38 ?_
          refine qv_lshl C (R2 t) bt (by omega) (by omega) (by omega) dq_Grp_multiply_39 ?_
          refine qv_lload_n C rfl dq_Grp_multiply_40 ?_
          refine qv_ladd C (r := ((((R2 t) * 2 ^ bt + o) : Nat) : Int)) (by omega) dq_Grp_multiply_41 ?_
          refine qv_lstore C (lv' := [(6, vj ((((R2 t) * 2 ^ bt + o) : Nat) : Int)), (0, .ref g), (1, vi ((fr : Nat) : Int)), (2, vi ((bt : Nat) : Int)), (3, vj ((o : Nat) : Int)), (5, vi ((t : Nat) : Int))]) (by decide) rfl dq_Grp_multiply_42 ?_
          refine qv_aload_n C rfl dq_Grp_multiply_44 ?_
          refine qv_get C fl_Grp_11 0 rfl rfl dq_Grp_multiply_45 ?_
          refine qv_iload C rfl dq_Grp_multiply_48 ?_
          refine qv_lload C rfl dq_Grp_multiply_50 ?_
          refine qv_ldc2 C (z := 1000000000) wk_Grp_28 dq_Grp_multiply_52 ?_
          refine qv_lrem C (r := (((((R2 t) * 2 ^ bt + o) % 1000000000) : Nat) : Int)) (by omega) (by omega) (by omega) (by omega) (by omega) dq_Grp_multiply_55 ?_
          refine qv_last C (ws' := [oc g 1 [.ref b, vi ((fi2 : Nat) : Int), vi ((en : Nat) : Int)], aj cJ b 160 (un R2 t (((R2 t) * 2 ^ bt + o) % 1000000000))]) 1 t (((R2 t) * 2 ^ bt + o) % 1000000000) rfl (by omega) (by omega) (by omega) (by omega) rfl dq_Grp_multiply_56 ?_
          refine qv_lload C rfl dq_Grp_multiply_57 ?_
          refine qv_ldc2 C (z := 1000000000) wk_Grp_28 dq_Grp_multiply_59 ?_
          refine qv_ldiv C (r := (((((R2 t) * 2 ^ bt + o) / 1000000000) : Nat) : Int)) (by omega) (by omega) (by omega) (by omega) (by omega) dq_Grp_multiply_62 ?_
          refine qv_lstore_n C (lv' := [(3, vj (((((R2 t) * 2 ^ bt + o) / 1000000000) : Nat) : Int)), (6, vj ((((R2 t) * 2 ^ bt + o) : Nat) : Int)), (0, .ref g), (1, vi ((fr : Nat) : Int)), (2, vi ((bt : Nat) : Int)), (5, vi ((t : Nat) : Int))]) (by decide) rfl dq_Grp_multiply_63 ?_
          refine qv_aload_n C rfl dq_Grp_multiply_64 ?_
          refine qv_aload_n C rfl dq_Grp_multiply_65 ?_
          refine qv_get C fl_Grp_15 0 rfl rfl dq_Grp_multiply_66 ?_
          refine qv_iload C rfl dq_Grp_multiply_69 ?_
          refine qv_mmin (r := ((min fi2 t : Nat) : Int)) C cl_Grp_30 wm_min_s wm_init wm_min_c (by omega) (by omega) (by decide) (Nat.le_of_ble_eq_true rfl) (by decide) (by decide) (by omega) dq_Grp_multiply_71 ?_
          refine qv_put C (ws' := [oc g 1 [.ref b, vi ((min fi2 t : Nat) : Int), vi ((en : Nat) : Int)], aj cJ b 160 (un R2 t (((R2 t) * 2 ^ bt + o) % 1000000000))]) fl_Grp_15 fs_1_1 0 rfl rfl rfl (Nat.le_of_ble_eq_true rfl) rfl dq_Grp_multiply_74 ?_
          refine qv_iinc C (j := 5) (lv' := [(5, vi (((t : Nat) : Int) - 1)), (3, vj (((((R2 t) * 2 ^ bt + o) / 1000000000) : Nat) : Int)), (6, vj ((((R2 t) * 2 ^ bt + o) : Nat) : Int)), (0, .ref g), (1, vi ((fr : Nat) : Int)), (2, vi ((bt : Nat) : Int))]) (by omega) rfl (by decide) rfl dq_Grp_multiply_77 ?_
          refine qv_goto C (tgt := 10) (by decide) dq_Grp_multiply_80 ?_
          refine qv_lv [3, 4, 5, 1, 0] (lv' := [(0, .ref g), (1, vi ((fr : Nat) : Int)), (2, vi ((bt : Nat) : Int)), (3, vj (((((R2 t) * 2 ^ bt + o) / 1000000000) : Nat) : Int)), (5, vi (((t : Nat) : Int) - 1))]) rfl ?_
          exact ih _ _ _ (MI_s hM (by omega) (by omega))
        · skip
          refine qv_lload_n C rfl dq_Grp_multiply_25 ?_
          refine qv_lconst C (z := 0) (by decide) dq_Grp_multiply_26 ?_
          refine qv_lceq C (by omega) (by omega) dq_Grp_multiply_27 (tgt := 83) (by decide) dq_Grp_multiply_28 (fun h27 => ?_) (fun h27 => ?_)
          · skip
            refine qv_lv [0, 1, 2, 3] (lv' := [(0, .ref g), (1, vi ((fr : Nat) : Int)), (2, vi ((bt : Nat) : Int)), (3, vj ((o : Nat) : Int))]) rfl ?_
            obtain ⟨e1, e2, e3⟩ := MI_e hM hG hfr (Or.inr ⟨by omega, by omega⟩)
            exact trim R2 fi2 o m1 m4 m5 m7 e2 e1 en (Nat.le_refl _) e3
          · skip
            refine qv_aload_n C rfl dq_Grp_multiply_31 ?_
            refine qv_get C fl_Grp_11 0 rfl rfl dq_Grp_multiply_32 ?_
            refine qv_iload C rfl dq_Grp_multiply_35 ?_
            refine qv_lald C 1 t rfl (by omega) (by omega) (by omega) dq_Grp_multiply_37 ?_
            refine qv_iload_n C rfl dq_Grp_multiply_38 ?_
            refine qv_lshl C (R2 t) bt (by omega) (by omega) (by omega) dq_Grp_multiply_39 ?_
            refine qv_lload_n C rfl dq_Grp_multiply_40 ?_
            refine qv_ladd C (r := ((((R2 t) * 2 ^ bt + o) : Nat) : Int)) (by omega) dq_Grp_multiply_41 ?_
            refine qv_lstore C (lv' := [(6, vj ((((R2 t) * 2 ^ bt + o) : Nat) : Int)), (0, .ref g), (1, vi ((fr : Nat) : Int)), (2, vi ((bt : Nat) : Int)), (3, vj ((o : Nat) : Int)), (5, vi ((t : Nat) : Int))]) (by decide) rfl dq_Grp_multiply_42 ?_
            refine qv_aload_n C rfl dq_Grp_multiply_44 ?_
            refine qv_get C fl_Grp_11 0 rfl rfl dq_Grp_multiply_45 ?_
            refine qv_iload C rfl dq_Grp_multiply_48 ?_
            refine qv_lload C rfl dq_Grp_multiply_50 ?_
            refine qv_ldc2 C (z := 1000000000) wk_Grp_28 dq_Grp_multiply_52 ?_
            refine qv_lrem C (r := (((((R2 t) * 2 ^ bt + o) % 1000000000) : Nat) : Int)) (by omega) (by omega) (by omega) (by omega) (by omega) dq_Grp_multiply_55 ?_
            refine qv_last C (ws' := [oc g 1 [.ref b, vi ((fi2 : Nat) : Int), vi ((en : Nat) : Int)], aj cJ b 160 (un R2 t (((R2 t) * 2 ^ bt + o) % 1000000000))]) 1 t (((R2 t) * 2 ^ bt + o) % 1000000000) rfl (by omega) (by omega) (by omega) (by omega) rfl dq_Grp_multiply_56 ?_
            refine qv_lload C rfl dq_Grp_multiply_57 ?_
            refine qv_ldc2 C (z := 1000000000) wk_Grp_28 dq_Grp_multiply_59 ?_
            refine qv_ldiv C (r := (((((R2 t) * 2 ^ bt + o) / 1000000000) : Nat) : Int)) (by omega) (by omega) (by omega) (by omega) (by omega) dq_Grp_multiply_62 ?_
            refine qv_lstore_n C (lv' := [(3, vj (((((R2 t) * 2 ^ bt + o) / 1000000000) : Nat) : Int)), (6, vj ((((R2 t) * 2 ^ bt + o) : Nat) : Int)), (0, .ref g), (1, vi ((fr : Nat) : Int)), (2, vi ((bt : Nat) : Int)), (5, vi ((t : Nat) : Int))]) (by decide) rfl dq_Grp_multiply_63 ?_
            refine qv_aload_n C rfl dq_Grp_multiply_64 ?_
            refine qv_aload_n C rfl dq_Grp_multiply_65 ?_
            refine qv_get C fl_Grp_15 0 rfl rfl dq_Grp_multiply_66 ?_
            refine qv_iload C rfl dq_Grp_multiply_69 ?_
            refine qv_mmin (r := ((min fi2 t : Nat) : Int)) C cl_Grp_30 wm_min_s wm_init wm_min_c (by omega) (by omega) (by decide) (Nat.le_of_ble_eq_true rfl) (by decide) (by decide) (by omega) dq_Grp_multiply_71 ?_
            refine qv_put C (ws' := [oc g 1 [.ref b, vi ((min fi2 t : Nat) : Int), vi ((en : Nat) : Int)], aj cJ b 160 (un R2 t (((R2 t) * 2 ^ bt + o) % 1000000000))]) fl_Grp_15 fs_1_1 0 rfl rfl rfl (Nat.le_of_ble_eq_true rfl) rfl dq_Grp_multiply_74 ?_
            refine qv_iinc C (j := 5) (lv' := [(5, vi (((t : Nat) : Int) - 1)), (3, vj (((((R2 t) * 2 ^ bt + o) / 1000000000) : Nat) : Int)), (6, vj ((((R2 t) * 2 ^ bt + o) : Nat) : Int)), (0, .ref g), (1, vi ((fr : Nat) : Int)), (2, vi ((bt : Nat) : Int))]) (by omega) rfl (by decide) rfl dq_Grp_multiply_77 ?_
            refine qv_goto C (tgt := 10) (by decide) dq_Grp_multiply_80 ?_
            refine qv_lv [3, 4, 5, 1, 0] (lv' := [(0, .ref g), (1, vi ((fr : Nat) : Int)), (2, vi ((bt : Nat) : Int)), (3, vj (((((R2 t) * 2 ^ bt + o) / 1000000000) : Nat) : Int)), (5, vi (((t : Nat) : Int) - 1))]) rfl ?_
            exact ih _ _ _ (MI_s hM (by omega) (by omega))
  refine qv_lconst C (z := 0) (by decide) dq_Grp_multiply_0 ?_
  refine qv_lstore_n C (lv' := [(3, vj 0), (0, .ref g), (1, vi ((fr : Nat) : Int)), (2, vi ((bt : Nat) : Int))]) (by decide) rfl dq_Grp_multiply_1 ?_
  refine qv_aload_n C rfl dq_Grp_multiply_2 ?_
  refine qv_get C fl_Grp_19 0 rfl rfl dq_Grp_multiply_3 ?_
  refine qv_iconst C dq_Grp_multiply_6 ?_
  refine qv_isub C (r := (((en : Nat) : Int) - 1)) rfl dq_Grp_multiply_7 ?_
  refine qv_istore C (lv' := [(5, vi (((en : Nat) : Int) - 1)), (3, vj 0), (0, .ref g), (1, vi ((fr : Nat) : Int)), (2, vi ((bt : Nat) : Int))]) (by decide) rfl dq_Grp_multiply_8 ?_
  refine qv_lv [2, 3, 4, 1, 0] (lv' := [(0, .ref g), (1, vi ((fr : Nat) : Int)), (2, vi ((bt : Nat) : Int)), (3, vj 0), (5, vi (((en : Nat) : Int) - 1))]) rfl ?_
  exact loop en R fi 0 (MI_0 hG hz0)

theorem c_Grp_divide (cI cJ : ClassId) (g b fi en : Nat) (R : Nat → Nat) (lim bt : Nat) (hG : Gd R fi en) (hlim : lim ≤ 160) (hbt : bt ≤ 32) : MtJ cI cJ ky_Grp_divide kb_Grp_divide 10 rm_Grp_divide Xt [.ref g, vi ((lim : Nat) : Int), vi ((bt : Nat) : Int)] [oc g 1 [.ref b, vi ((fi : Nat) : Int), vi ((en : Nat) : Int)], aj cJ b 160 R] (fun z u => ∃ (R2 : Nat → Nat) (fi2 en2 o : Nat), z = ((o : Nat) : Int) ∧ u = gw cJ g b fi2 en2 R2 ∧ Dvo lim R fi en (2 ^ bt) R2 fi2 en2 o) := by
  refine MtJ_in (by decide) (Nat.le_of_ble_eq_true rfl) (fun K C hR hX hN => ?_)
  show V K 10 [oc g 1 [.ref b, vi ((fi : Nat) : Int), vi ((en : Nat) : Int)], aj cJ b 160 R] 0 0 0 [(0, .ref g), (1, vi ((lim : Nat) : Int)), (2, vi ((bt : Nat) : Int))] []
  obtain ⟨g1, g2, g3, g4, g5⟩ := id hG
  have hz0 : 0 < 2 ^ bt := Nat.pow_pos (by omega)
  have hz32 : 2 ^ bt ≤ 4294967296 := Nat.le_trans (Nat.pow_le_pow_right (by omega) hbt) (by decide)
  have trim : ∀ (R2 : Nat → Nat) (en2 l : Nat), (∀ i, R2 i < 1000000000) → (∀ e, (∀ j, j < e → R2 j = 0) → fi ≤ e → e ≤ 160 → Dvo lim R fi en (2 ^ bt) R2 e en2 l) → ∀ k e, e + k = max fi lim → (∀ j, j < e → R2 j = 0) → fi ≤ e → V K 10 [oc g 1 [.ref b, vi ((e : Nat) : Int), vi ((en2 : Nat) : Int)], aj cJ b 160 R2] 0 0 91 [(0, .ref g), (1, vi ((lim : Nat) : Int)), (5, vj ((l : Nat) : Int))] [] := by
    intro R2 en2 l b1 b2 k
    induction k with
    | zero =>
      intro e c0 c1 c2
      refine qv_aload_n C rfl dq_Grp_divide_91 ?_
      refine qv_get C fl_Grp_15 0 rfl rfl dq_Grp_divide_92 ?_
      refine qv_iload_n C rfl dq_Grp_divide_95 ?_
      refine qv_icge C (by omega) (by omega) (tgt := 126) (by decide) dq_Grp_divide_96 (fun h96 => ?_) (fun h96 => ?_)
      · skip
        refine qv_lload C rfl dq_Grp_divide_126 ?_
        refine qv_lret C hR ?_ dq_Grp_divide_128 (by decide) (by decide)
        exact ⟨R2, e, en2, l, rfl, rfl, b2 e c1 c2 (by omega)⟩
      · exfalso; omega
    | succ k ih =>
      intro e c0 c1 c2
      have b9 := b1 e
      refine qv_aload_n C rfl dq_Grp_divide_91 ?_
      refine qv_get C fl_Grp_15 0 rfl rfl dq_Grp_divide_92 ?_
      refine qv_iload_n C rfl dq_Grp_divide_95 ?_
      refine qv_icge C (by omega) (by omega) (tgt := 126) (by decide) dq_Grp_divide_96 (fun h96 => ?_) (fun h96 => ?_)
      · exfalso; omega
      · skip
        refine qv_aload_n C rfl dq_Grp_divide_99 ?_
        refine qv_get C fl_Grp_11 0 rfl rfl dq_Grp_divide_100 ?_
        refine qv_aload_n C rfl dq_Grp_divide_103 ?_
        refine qv_get C fl_Grp_15 0 rfl rfl dq_Grp_divide_104 ?_
        refine qv_lald C 1 e rfl (by omega) (by omega) (by omega) dq_Grp_divide_107 ?_
        refine qv_lconst C (z := 0) (by decide) dq_Grp_divide_108 ?_
        refine qv_lcne C (by omega) (by omega) dq_Grp_divide_109 (tgt := 126) (by decide) dq_Grp_divide_110 (fun h109 => ?_) (fun h109 => ?_)
        · skip
          refine qv_lload C rfl dq_Grp_divide_126 ?_
          refine qv_lret C hR ?_ dq_Grp_divide_128 (by decide) (by decide)
          exact ⟨R2, e, en2, l, rfl, rfl, b2 e c1 c2 (by omega)⟩
        · skip
          refine qv_aload_n C rfl dq_Grp_divide_113 ?_
          refine qv_dup C rfl dq_Grp_divide_114 ?_
          refine qv_get C fl_Grp_15 0 rfl rfl dq_Grp_divide_115 ?_
          refine qv_iconst C dq_Grp_divide_118 ?_
          refine qv_iadd C (r := (((e + 1) : Nat) : Int)) (by omega) dq_Grp_divide_119 ?_
          refine qv_put C (ws' := [oc g 1 [.ref b, vi (((e + 1) : Nat) : Int), vi ((en2 : Nat) : Int)], aj cJ b 160 R2]) fl_Grp_15 fs_1_1 0 rfl rfl rfl (Nat.le_of_ble_eq_true rfl) rfl dq_Grp_divide_120 ?_
          refine qv_goto C (tgt := 91) (by decide) dq_Grp_divide_123 ?_
          exact ih (e + 1) (by omega) (fun j hj => by
            by_cases q : j = e
            · rw [q]; omega
            · exact c1 j (by omega)) (by omega)
  have loop : ∀ k i (R2 : Nat → Nat) (en2 l : Nat), i + k = max fi lim → DI R R2 fi en en2 i l (2 ^ bt) → (en2 = en ∨ en2 ≤ i) → (i ≤ lim ∨ (i = fi ∧ l = 0)) → V K 10 [oc g 1 [.ref b, vi ((fi : Nat) : Int), vi ((en2 : Nat) : Int)], aj cJ b 160 R2] 0 0 15 [(0, .ref g), (1, vi ((lim : Nat) : Int)), (2, vi ((bt : Nat) : Int)), (3, vj (((1 * 2 ^ bt - 1) : Nat) : Int)), (5, vj ((l : Nat) : Int)), (7, vi ((i : Nat) : Int))] [] := by
    intro k
    induction k with
    | zero =>
      intro i R2 en2 l hi hD hE2 hil
      obtain ⟨m1, m2, m3, m4, m5, m6, m7, m8, m9, m10⟩ := id hD
      refine qv_iload C rfl dq_Grp_divide_15 ?_
      refine qv_iload_n C rfl dq_Grp_divide_17 ?_
      refine qv_icge C (by omega) (by omega) (tgt := 91) (by decide) dq_Grp_divide_18 (fun h18 => ?_) (fun h18 => ?_)
      · skip
        refine qv_lv [0, 1, 4] (lv' := [(0, .ref g), (1, vi ((lim : Nat) : Int)), (5, vj ((l : Nat) : Int))]) rfl ?_
        exact trim R2 en2 l m1 (fun e q1 q2 q3 => Dvo_of hG hD hE2 hlim hil (Or.inl (by omega)) q1 q2 q3) (max fi lim - fi) fi (by omega) m3 (Nat.le_refl _)
      · exfalso; omega
    | succ k ih =>
      intro i R2 en2 l hi hD hE2 hil
      obtain ⟨m1, m2, m3, m4, m5, m6, m7, m8, m9, m10⟩ := id hD
      have hRi := m1 i
      have hpr : l * 1000000000 + R2 i < 4294967296000000000 := by omega
      refine qv_iload C rfl dq_Grp_divide_15 ?_
      refine qv_iload_n C rfl dq_Grp_divide_17 ?_
      refine qv_icge C (by omega) (by omega) (tgt := 91) (by decide) dq_Grp_divide_18 (fun h18 => ?_) (fun h18 => ?_)
      · exfalso; omega
      · skip
        refine qv_iload C rfl dq_Grp_divide_21 ?_
        refine qv_aload_n C rfl dq_Grp_divide_23 ?_
        refine qv_get C fl_Grp_19 0 rfl rfl dq_Grp_divide_24 ?_
        refine qv_iclt C (by omega) (by omega) (tgt := 37) (by decide) dq_Grp_divide_27 (fun h27 => ?_) (fun h27 => ?_)
        · skip
          refine qv_lload C rfl dq_Grp_divide_37 ?_
          refine qv_ldc2 C (z := 1000000000) wk_Grp_28 dq_Grp_divide_39 ?_
          refine qv_lmul C (r := (((l * 1000000000) : Nat) : Int)) (by omega) dq_Grp_divide_42 ?_
          refine qv_aload_n C rfl dq_Grp_divide_43 ?_
          refine qv_get C fl_Grp_11 0 rfl rfl dq_Grp_divide_44 ?_
          refine qv_iload C rfl dq_Grp_divide_47 ?_
          refine qv_lald C 1 i rfl (by omega) (by omega) (by omega) dq_Grp_divide_49 ?_
          refine qv_ladd C (r := ((((l * 1000000000) + R2 i) : Nat) : Int)) (by omega) dq_Grp_divide_50 ?_
          refine qv_lstore C (lv' := [(8, vj ((((l * 1000000000) + R2 i) : Nat) : Int)), (0, .ref g), (1, vi ((lim : Nat) : Int)), (2, vi ((bt : Nat) : Int)), (3, vj (((1 * 2 ^ bt - 1) : Nat) : Int)), (5, vj ((l : Nat) : Int)), (7, vi ((i : Nat) : Int))]) (by decide) rfl dq_Grp_divide_51 ?_
          refine qv_aload_n C rfl dq_Grp_divide_53 ?_
          refine qv_get C fl_Grp_11 0 rfl rfl dq_Grp_divide_54 ?_
          refine qv_iload C rfl dq_Grp_divide_57 ?_
          refine qv_lload C rfl dq_Grp_divide_59 ?_
          refine qv_iload_n C rfl dq_Grp_divide_61 ?_
          refine qv_lushr C ((l * 1000000000) + R2 i) bt (by omega) (by omega) (by omega) (by omega) dq_Grp_divide_62 ?_
          refine qv_last C (ws' := [oc g 1 [.ref b, vi ((fi : Nat) : Int), vi ((en2 : Nat) : Int)], aj cJ b 160 (un R2 i (((l * 1000000000) + R2 i) / 2 ^ bt))]) 1 i (((l * 1000000000) + R2 i) / 2 ^ bt) rfl (by omega) (by omega) (by omega) (by omega) rfl dq_Grp_divide_63 ?_
          refine qv_lload C rfl dq_Grp_divide_64 ?_
          refine qv_lload_n C rfl dq_Grp_divide_66 ?_
          refine qv_land C (r := (((((l * 1000000000) + R2 i) % 2 ^ bt) : Nat) : Int)) (by rw [Nat.one_mul]; exact zj_and (by omega)) dq_Grp_divide_67 ?_
          refine qv_lstore C (lv' := [(5, vj (((((l * 1000000000) + R2 i) % 2 ^ bt) : Nat) : Int)), (8, vj ((((l * 1000000000) + R2 i) : Nat) : Int)), (0, .ref g), (1, vi ((lim : Nat) : Int)), (2, vi ((bt : Nat) : Int)), (3, vj (((1 * 2 ^ bt - 1) : Nat) : Int)), (7, vi ((i : Nat) : Int))]) (by decide) rfl dq_Grp_divide_68 ?_
          refine qv_aload_n C rfl dq_Grp_divide_70 ?_
          refine qv_aload_n C rfl dq_Grp_divide_71 ?_
          refine qv_get C fl_Grp_19 0 rfl rfl dq_Grp_divide_72 ?_
          refine qv_iload C rfl dq_Grp_divide_75 ?_
          refine qv_iconst C dq_Grp_divide_77 ?_
          refine qv_iadd C (r := (((i + 1) : Nat) : Int)) (by omega) dq_Grp_divide_78 ?_
          refine qv_mmax (r := ((max en2 (i + 1) : Nat) : Int)) C cl_Grp_58 wm_max_s wm_init wm_max_c (by omega) (by omega) (by decide) (Nat.le_of_ble_eq_true rfl) (by decide) (by decide) (by omega) dq_Grp_divide_79 ?_
          refine qv_put C (ws' := [oc g 1 [.ref b, vi ((fi : Nat) : Int), vi ((max en2 (i + 1) : Nat) : Int)], aj cJ b 160 (un R2 i (((l * 1000000000) + R2 i) / 2 ^ bt))]) fl_Grp_19 fs_1_2 0 rfl rfl rfl (Nat.le_of_ble_eq_true rfl) rfl dq_Grp_divide_82 ?_
          refine qv_iinc C (j := 6) (lv' := [(7, vi (((i + 1) : Nat) : Int)), (5, vj (((((l * 1000000000) + R2 i) % 2 ^ bt) : Nat) : Int)), (8, vj ((((l * 1000000000) + R2 i) : Nat) : Int)), (0, .ref g), (1, vi ((lim : Nat) : Int)), (2, vi ((bt : Nat) : Int)), (3, vj (((1 * 2 ^ bt - 1) : Nat) : Int))]) (by omega) rfl (by decide) rfl dq_Grp_divide_85 ?_
          refine qv_goto C (tgt := 15) (by decide) dq_Grp_divide_88 ?_
          refine qv_lv [3, 4, 5, 6, 1, 0] (lv' := [(0, .ref g), (1, vi ((lim : Nat) : Int)), (2, vi ((bt : Nat) : Int)), (3, vj (((1 * 2 ^ bt - 1) : Nat) : Int)), (5, vj (((((l * 1000000000) + R2 i) % 2 ^ bt) : Nat) : Int)), (7, vi (((i + 1) : Nat) : Int))]) rfl ?_
          exact ih (i + 1) _ _ _ (by omega) (DI_s hD (by omega) (Or.inl (by omega))) (by omega) (by omega)
        · skip
          refine qv_lload C rfl dq_Grp_divide_30 ?_
          refine qv_lconst C (z := 0) (by decide) dq_Grp_divide_32 ?_
          refine qv_lceq C (by omega) (by omega) dq_Grp_divide_33 (tgt := 91) (by decide) dq_Grp_divide_34 (fun h33 => ?_) (fun h33 => ?_)
          · skip
            refine qv_lv [0, 1, 4] (lv' := [(0, .ref g), (1, vi ((lim : Nat) : Int)), (5, vj ((l : Nat) : Int))]) rfl ?_
            exact trim R2 en2 l m1 (fun e q1 q2 q3 => Dvo_of hG hD hE2 hlim hil (Or.inr ⟨by omega, by omega⟩) q1 q2 q3) (max fi lim - fi) fi (by omega) m3 (Nat.le_refl _)
          · skip
            refine qv_lload C rfl dq_Grp_divide_37 ?_
            refine qv_ldc2 C (z := 1000000000) wk_Grp_28 dq_Grp_divide_39 ?_
            refine qv_lmul C (r := (((l * 1000000000) : Nat) : Int)) (by omega) dq_Grp_divide_42 ?_
            refine qv_aload_n C rfl dq_Grp_divide_43 ?_
            refine qv_get C fl_Grp_11 0 rfl rfl dq_Grp_divide_44 ?_
            refine qv_iload C rfl dq_Grp_divide_47 ?_
            refine qv_lald C 1 i rfl (by omega) (by omega) (by omega) dq_Grp_divide_49 ?_
            refine qv_ladd C (r := ((((l * 1000000000) + R2 i) : Nat) : Int)) (by omega) dq_Grp_divide_50 ?_
            refine qv_lstore C (lv' := [(8, vj ((((l * 1000000000) + R2 i) : Nat) : Int)), (0, .ref g), (1, vi ((lim : Nat) : Int)), (2, vi ((bt : Nat) : Int)), (3, vj (((1 * 2 ^ bt - 1) : Nat) : Int)), (5, vj ((l : Nat) : Int)), (7, vi ((i : Nat) : Int))]) (by decide) rfl dq_Grp_divide_51 ?_
            refine qv_aload_n C rfl dq_Grp_divide_53 ?_
            refine qv_get C fl_Grp_11 0 rfl rfl dq_Grp_divide_54 ?_
            refine qv_iload C rfl dq_Grp_divide_57 ?_
            refine qv_lload C rfl dq_Grp_divide_59 ?_
            refine qv_iload_n C rfl dq_Grp_divide_61 ?_
            refine qv_lushr C ((l * 1000000000) + R2 i) bt (by omega) (by omega) (by omega) (by omega) dq_Grp_divide_62 ?_
            refine qv_last C (ws' := [oc g 1 [.ref b, vi ((fi : Nat) : Int), vi ((en2 : Nat) : Int)], aj cJ b 160 (un R2 i (((l * 1000000000) + R2 i) / 2 ^ bt))]) 1 i (((l * 1000000000) + R2 i) / 2 ^ bt) rfl (by omega) (by omega) (by omega) (by omega) rfl dq_Grp_divide_63 ?_
            refine qv_lload C rfl dq_Grp_divide_64 ?_
            refine qv_lload_n C rfl dq_Grp_divide_66 ?_
            refine qv_land C (r := (((((l * 1000000000) + R2 i) % 2 ^ bt) : Nat) : Int)) (by rw [Nat.one_mul]; exact zj_and (by omega)) dq_Grp_divide_67 ?_
            refine qv_lstore C (lv' := [(5, vj (((((l * 1000000000) + R2 i) % 2 ^ bt) : Nat) : Int)), (8, vj ((((l * 1000000000) + R2 i) : Nat) : Int)), (0, .ref g), (1, vi ((lim : Nat) : Int)), (2, vi ((bt : Nat) : Int)), (3, vj (((1 * 2 ^ bt - 1) : Nat) : Int)), (7, vi ((i : Nat) : Int))]) (by decide) rfl dq_Grp_divide_68 ?_
            refine qv_aload_n C rfl dq_Grp_divide_70 ?_
            refine qv_aload_n C rfl dq_Grp_divide_71 ?_
            refine qv_get C fl_Grp_19 0 rfl rfl dq_Grp_divide_72 ?_
            refine qv_iload C rfl dq_Grp_divide_75 ?_
            refine qv_iconst C dq_Grp_divide_77 ?_
            refine qv_iadd C (r := (((i + 1) : Nat) : Int)) (by omega) dq_Grp_divide_78 ?_
            refine qv_mmax (r := ((max en2 (i + 1) : Nat) : Int)) C cl_Grp_58 wm_max_s wm_init wm_max_c (by omega) (by omega) (by decide) (Nat.le_of_ble_eq_true rfl) (by decide) (by decide) (by omega) dq_Grp_divide_79 ?_
            refine qv_put C (ws' := [oc g 1 [.ref b, vi ((fi : Nat) : Int), vi ((max en2 (i + 1) : Nat) : Int)], aj cJ b 160 (un R2 i (((l * 1000000000) + R2 i) / 2 ^ bt))]) fl_Grp_19 fs_1_2 0 rfl rfl rfl (Nat.le_of_ble_eq_true rfl) rfl dq_Grp_divide_82 ?_
            refine qv_iinc C (j := 6) (lv' := [(7, vi (((i + 1) : Nat) : Int)), (5, vj (((((l * 1000000000) + R2 i) % 2 ^ bt) : Nat) : Int)), (8, vj ((((l * 1000000000) + R2 i) : Nat) : Int)), (0, .ref g), (1, vi ((lim : Nat) : Int)), (2, vi ((bt : Nat) : Int)), (3, vj (((1 * 2 ^ bt - 1) : Nat) : Int))]) (by omega) rfl (by decide) rfl dq_Grp_divide_85 ?_
            refine qv_goto C (tgt := 15) (by decide) dq_Grp_divide_88 ?_
            refine qv_lv [3, 4, 5, 6, 1, 0] (lv' := [(0, .ref g), (1, vi ((lim : Nat) : Int)), (2, vi ((bt : Nat) : Int)), (3, vj (((1 * 2 ^ bt - 1) : Nat) : Int)), (5, vj (((((l * 1000000000) + R2 i) % 2 ^ bt) : Nat) : Int)), (7, vi (((i + 1) : Nat) : Int))]) rfl ?_
            exact ih (i + 1) _ _ _ (by omega) (DI_s hD (by omega) (Or.inr (by omega))) (by omega) (by omega)
  refine qv_lconst C (z := 1) (by decide) dq_Grp_divide_0 ?_
  refine qv_iload_n C rfl dq_Grp_divide_1 ?_
  refine qv_lshl C 1 bt (by omega) (by omega) (by omega) dq_Grp_divide_2 ?_
  refine qv_lconst C (z := 1) (by decide) dq_Grp_divide_3 ?_
  refine qv_lsub C (r := (((1 * 2 ^ bt - 1) : Nat) : Int)) (by omega) dq_Grp_divide_4 ?_
  refine qv_lstore_n C (lv' := [(3, vj (((1 * 2 ^ bt - 1) : Nat) : Int)), (0, .ref g), (1, vi ((lim : Nat) : Int)), (2, vi ((bt : Nat) : Int))]) (by decide) rfl dq_Grp_divide_5 ?_
  refine qv_lconst C (z := 0) (by decide) dq_Grp_divide_6 ?_
  refine qv_lstore C (lv' := [(5, vj 0), (3, vj (((1 * 2 ^ bt - 1) : Nat) : Int)), (0, .ref g), (1, vi ((lim : Nat) : Int)), (2, vi ((bt : Nat) : Int))]) (by decide) rfl dq_Grp_divide_7 ?_
  refine qv_aload_n C rfl dq_Grp_divide_9 ?_
  refine qv_get C fl_Grp_15 0 rfl rfl dq_Grp_divide_10 ?_
  refine qv_istore C (lv' := [(7, vi ((fi : Nat) : Int)), (5, vj 0), (3, vj (((1 * 2 ^ bt - 1) : Nat) : Int)), (0, .ref g), (1, vi ((lim : Nat) : Int)), (2, vi ((bt : Nat) : Int))]) (by decide) rfl dq_Grp_divide_13 ?_
  refine qv_lv [3, 4, 5, 2, 1, 0] (lv' := [(0, .ref g), (1, vi ((lim : Nat) : Int)), (2, vi ((bt : Nat) : Int)), (3, vj (((1 * 2 ^ bt - 1) : Nat) : Int)), (5, vj 0), (7, vi ((fi : Nat) : Int))]) rfl ?_
  exact loop (max fi lim - fi) fi R en 0 (by omega) (DI_0 hG hz0) (Or.inl rfl) (by omega)

theorem c_Grp_hasSomethingBehindPoint (cI cJ : ClassId) (g b fi en : Nat) (R : Nat → Nat) (hen : en ≤ 160) : MtI cI cJ ky_Grp_hasSomethingBehindPoint kb_Grp_hasSomethingBehindPoint 1 .boolean rm_Grp_hasSomethingBehindPoint Xt [.ref g] [oc g 1 [.ref b, vi ((fi : Nat) : Int), vi ((en : Nat) : Int)], aj cJ b 160 R] (fun z u => z = b2 (decide (35 < en)) ∧ u = gw cJ g b fi en R) := by
  refine MtI_in (by decide) (Nat.le_of_ble_eq_true rfl) (fun K C hR hX hN => ?_)
  show V K 1 [oc g 1 [.ref b, vi ((fi : Nat) : Int), vi ((en : Nat) : Int)], aj cJ b 160 R] 0 0 0 [(0, .ref g)] []
  refine qv_aload_n C rfl dq_Grp_hasSomethingBehindPoint_0 ?_
  refine qv_get C fl_Grp_19 0 rfl rfl dq_Grp_hasSomethingBehindPoint_1 ?_
  refine qv_bipush C (by decide) dq_Grp_hasSomethingBehindPoint_4 ?_
  refine qv_icle C (by omega) (by omega) (tgt := 13) (by decide) dq_Grp_hasSomethingBehindPoint_6 (fun h6 => ?_) (fun h6 => ?_)
  · skip
    refine qv_iconst C dq_Grp_hasSomethingBehindPoint_13 ?_
    refine qv_zret (b := false) C hR ?_ dq_Grp_hasSomethingBehindPoint_14 (by decide) (by decide)
    refine ⟨congrArg b2 ?_, rfl⟩
    symm
    first | exact decide_eq_true (by omega) | exact decide_eq_false (by omega)
  · skip
    refine qv_iconst C dq_Grp_hasSomethingBehindPoint_9 ?_
    refine qv_goto C (tgt := 14) (by decide) dq_Grp_hasSomethingBehindPoint_10 ?_
    refine qv_zret (b := true) C hR ?_ dq_Grp_hasSomethingBehindPoint_14 (by decide) (by decide)
    refine ⟨congrArg b2 ?_, rfl⟩
    symm
    first | exact decide_eq_true (by omega) | exact decide_eq_false (by omega)

theorem c_Grp_beProduct (cI cJ : ClassId) (g b fi en : Nat) (R : Nat → Nat) (m : Nat) (p : Int) (hm : m < 2 ^ 54) (hp1 : -1075 ≤ p) (hp2 : p ≤ 971) : MtV cI cJ ky_Grp_beProduct kb_Grp_beProduct 5 rm_Grp_beProduct Xt [.ref g, vj ((m : Nat) : Int), vi p] [oc g 1 [.ref b, vi ((fi : Nat) : Int), vi ((en : Nat) : Int)], aj cJ b 160 R] (fun u => ∃ (R2 : Nat → Nat) (fi2 en2 : Nat), u = gw cJ g b fi2 en2 R2 ∧ Pd m p R2 fi2 en2) := by
  refine MtV_in (by decide) (Nat.le_of_ble_eq_true rfl) (fun K C hR hX hN => ?_)
  show V K 5 [oc g 1 [.ref b, vi ((fi : Nat) : Int), vi ((en : Nat) : Int)], aj cJ b 160 R] 0 0 0 [(0, .ref g), (1, vj ((m : Nat) : Int)), (3, vi p)] []
  have hm2 : m < 18014398509481984 := hm
  rcases (show ∃ q : Nat, p = (q : Int) ∨ p = -(q : Int) from ⟨p.natAbs, by omega⟩) with ⟨q, rfl | rfl⟩
  · skip
    have ex : ∀ (lf : Int) (R : Nat → Nat) (fi en : Nat), lf ≤ 0 → -100 ≤ lf → Gd R fi en → en ≤ 35 → dv 1000000000 R 160 = m * 2 ^ q * 10 ^ 1125 → V K 5 [oc g 1 [.ref b, vi ((fi : Nat) : Int), vi ((en : Nat) : Int)], aj cJ b 160 R] 0 0 47 [(0, .ref g), (1, vj ((m : Nat) : Int)), (3, vi ((q : Nat) : Int)), (4, vi lf)] [] := by
      intro lf R fi en h0 h1 hG hs hv
      refine qv_iload C rfl dq_Grp_beProduct_47 ?_
      refine qv_ifle C (by omega) (tgt := 71) (by decide) dq_Grp_beProduct_49 (fun h49 => ?_) (fun h49 => ?_)
      · skip
        refine qv_iload_n C rfl dq_Grp_beProduct_71 ?_
        refine qv_ineg C dq_Grp_beProduct_72 ?_
        refine qv_istore C (lv' := [(4, vi (-((q : Nat) : Int))), (0, .ref g), (1, vj ((m : Nat) : Int)), (3, vi ((q : Nat) : Int))]) (by decide) rfl dq_Grp_beProduct_73 ?_
        refine qv_iload C rfl dq_Grp_beProduct_75 ?_
        refine qv_ifle C (by omega) (tgt := 101) (by decide) dq_Grp_beProduct_77 (fun h77 => ?_) (fun h77 => ?_)
        · skip
          refine qv_vret C hR ?_ dq_Grp_beProduct_101 (by decide) (by decide)
          exact ⟨R, fi, en, rfl, Pd_mul hG hs hv⟩
        · exfalso; omega
      · exfalso; omega
    have loop : ∀ n (r : Nat) (R : Nat → Nat) (fi en : Nat), r ≤ n → r ≤ q → Gd R fi en → en ≤ 35 → dv 1000000000 R 160 = m * 2 ^ (q - r) * 10 ^ 1125 → V K 5 [oc g 1 [.ref b, vi ((fi : Nat) : Int), vi ((en : Nat) : Int)], aj cJ b 160 R] 0 0 47 [(0, .ref g), (1, vj ((m : Nat) : Int)), (3, vi ((q : Nat) : Int)), (4, vi ((r : Nat) : Int))] [] := by
      intro n
      induction n with
      | zero =>
        intro r R fi en h0 hrq hG hs hv
        have er : r = 0 := by omega
        subst er
        exact ex 0 R fi en (by omega) (by omega) hG hs hv
      | succ n ih =>
        intro r R fi en h0 hrq hG hs hv
        by_cases hr0 : r = 0
        · subst hr0
          exact ex 0 R fi en (by omega) (by omega) hG hs hv
        · skip
          refine qv_iload C rfl dq_Grp_beProduct_47 ?_
          refine qv_ifle C (by omega) (tgt := 71) (by decide) dq_Grp_beProduct_49 (fun h49 => ?_) (fun h49 => ?_)
          · exfalso; omega
          · skip
            refine qv_aload_n C rfl dq_Grp_beProduct_52 ?_
            refine qv_iconst C dq_Grp_beProduct_53 ?_
            refine qv_iload C rfl dq_Grp_beProduct_54 ?_
            refine qv_bipush C (by decide) dq_Grp_beProduct_56 ?_
            refine qv_mmin (r := ((min r 32 : Nat) : Int)) C cl_Grp_30 wm_min_s wm_init wm_min_c (by omega) (by omega) (by decide) (Nat.le_of_ble_eq_true rfl) (by decide) (by decide) (by omega) dq_Grp_beProduct_58 ?_
            refine qc_vJ (wr := []) (st := []) C cl_Grp_36 cd_Grp_multiply (c_Grp_multiply cI cJ g b fi en R 0 (min r 32) hG (by omega) (by omega)) (Xok_t K) Xbl_t [0, 1] [] rfl rfl (by decide) (by decide) (by decide) 0 rfl rfl rfl rfl rfl (Nat.le_of_ble_eq_true rfl) (by decide) (by decide) dq_Grp_beProduct_61 (fun z u hu => ?_)
            obtain ⟨R2, fi2, en2, o, rfl, rfl, hM⟩ := hu
            show V K 5 [oc g 1 [.ref b, vi ((fi2 : Nat) : Int), vi ((en2 : Nat) : Int)], aj cJ b 160 R2] 0 0 64 [(0, .ref g), (1, vj ((m : Nat) : Int)), (3, vi ((q : Nat) : Int)), (4, vi ((r : Nat) : Int))] [vj ((o : Nat) : Int)]
            refine qv_pop2 C rfl dq_Grp_beProduct_64 ?_
            refine qv_iinc C (j := 3) (lv' := [(4, vi (((r : Nat) : Int) - 32)), (0, .ref g), (1, vj ((m : Nat) : Int)), (3, vi ((q : Nat) : Int))]) (by omega) rfl (by decide) rfl dq_Grp_beProduct_65 ?_
            refine qv_goto C (tgt := 47) (by decide) dq_Grp_beProduct_68 ?_
            refine qv_lv [1, 2, 3, 0] (lv' := [(0, .ref g), (1, vj ((m : Nat) : Int)), (3, vi ((q : Nat) : Int)), (4, vi (((r : Nat) : Int) - 32))]) rfl ?_
            have hw := pr_mul hv hm (by omega) hM
            by_cases q32 : 32 ≤ r
            · rw [show q - r + min r 32 = q - (r - 32) by omega] at hw
              have e : (((r : Nat) : Int) - 32) = ((r - 32 : Nat) : Int) := by omega
              rw [e]
              exact ih (r - 32) R2 fi2 en2 (by omega) (by omega) hM.1 (by have := hM.2.1; omega) hw
            · rw [show q - r + min r 32 = q by omega] at hw
              exact ex _ R2 fi2 en2 (by omega) (by omega) hM.1 (by have := hM.2.1; omega) hw
    refine qv_aload_n C rfl dq_Grp_beProduct_0 ?_
    refine qv_get C fl_Grp_11 0 rfl rfl dq_Grp_beProduct_1 ?_
    refine qv_lconst C (z := 0) (by decide) dq_Grp_beProduct_4 ?_
    refine qc_sV (wr := [oc g 1 [.ref b, vi ((fi : Nat) : Int), vi ((en : Nat) : Int)]]) (st := []) C cl_Grp_22 cd_JArr_fill (c_JArr_fill cI cJ b 160 0 R (by omega)) (Xok_t K) Xbl_t [1] [0] rfl rfl (by decide) (by decide) (by decide) rfl rfl (Nat.le_of_ble_eq_true rfl) (by decide) (by decide) dq_Grp_beProduct_5 (fun u hu => ?_)
    obtain rfl := hu
    show V K 5 [oc g 1 [.ref b, vi ((fi : Nat) : Int), vi ((en : Nat) : Int)], aj cJ b 160 (fun _ => 0)] 0 0 8 [(0, .ref g), (1, vj ((m : Nat) : Int)), (3, vi ((q : Nat) : Int))] []
    refine qv_aload_n C rfl dq_Grp_beProduct_8 ?_
    refine qv_get C fl_Grp_11 0 rfl rfl dq_Grp_beProduct_9 ?_
    refine qv_bipush C (by decide) dq_Grp_beProduct_12 ?_
    refine qv_lload_n C rfl dq_Grp_beProduct_14 ?_
    refine qv_ldc2 C (z := 1000000000) wk_Grp_28 dq_Grp_beProduct_15 ?_
    refine qv_ldiv C (r := (((m / 1000000000) : Nat) : Int)) (by omega) (by omega) (by omega) (by omega) (by omega) dq_Grp_beProduct_18 ?_
    refine qv_last C (ws' := [oc g 1 [.ref b, vi ((fi : Nat) : Int), vi ((en : Nat) : Int)], aj cJ b 160 (un (fun _ => 0) 33 (m / 1000000000))]) 1 33 (m / 1000000000) rfl (by omega) (by omega) (by omega) (by omega) rfl dq_Grp_beProduct_19 ?_
    refine qv_aload_n C rfl dq_Grp_beProduct_20 ?_
    refine qv_get C fl_Grp_11 0 rfl rfl dq_Grp_beProduct_21 ?_
    refine qv_bipush C (by decide) dq_Grp_beProduct_24 ?_
    refine qv_lload_n C rfl dq_Grp_beProduct_26 ?_
    refine qv_ldc2 C (z := 1000000000) wk_Grp_28 dq_Grp_beProduct_27 ?_
    refine qv_lrem C (r := (((m % 1000000000) : Nat) : Int)) (by omega) (by omega) (by omega) (by omega) (by omega) dq_Grp_beProduct_30 ?_
    refine qv_last C (ws' := [oc g 1 [.ref b, vi ((fi : Nat) : Int), vi ((en : Nat) : Int)], aj cJ b 160 (un (un (fun _ => 0) 33 (m / 1000000000)) 34 (m % 1000000000))]) 1 34 (m % 1000000000) rfl (by omega) (by omega) (by omega) (by omega) rfl dq_Grp_beProduct_31 ?_
    refine qv_aload_n C rfl dq_Grp_beProduct_32 ?_
    refine qv_bipush C (by decide) dq_Grp_beProduct_33 ?_
    refine qv_put C (ws' := [oc g 1 [.ref b, vi 33, vi ((en : Nat) : Int)], aj cJ b 160 (un (un (fun _ => 0) 33 (m / 1000000000)) 34 (m % 1000000000))]) fl_Grp_15 fs_1_1 0 rfl rfl rfl (Nat.le_of_ble_eq_true rfl) rfl dq_Grp_beProduct_35 ?_
    refine qv_aload_n C rfl dq_Grp_beProduct_38 ?_
    refine qv_bipush C (by decide) dq_Grp_beProduct_39 ?_
    refine qv_put C (ws' := [oc g 1 [.ref b, vi 33, vi 35], aj cJ b 160 (un (un (fun _ => 0) 33 (m / 1000000000)) 34 (m % 1000000000))]) fl_Grp_19 fs_1_2 0 rfl rfl rfl (Nat.le_of_ble_eq_true rfl) rfl dq_Grp_beProduct_41 ?_
    refine qv_iload_n C rfl dq_Grp_beProduct_44 ?_
    refine qv_istore C (lv' := [(4, vi ((q : Nat) : Int)), (0, .ref g), (1, vj ((m : Nat) : Int)), (3, vi ((q : Nat) : Int))]) (by decide) rfl dq_Grp_beProduct_45 ?_
    refine qv_lv [1, 2, 3, 0] (lv' := [(0, .ref g), (1, vj ((m : Nat) : Int)), (3, vi ((q : Nat) : Int)), (4, vi ((q : Nat) : Int))]) rfl ?_
    obtain ⟨p1, p2⟩ := pr_0 (m := m) (by omega)
    exact loop q q _ 33 35 (Nat.le_refl _) (Nat.le_refl _) p1 (by omega) (by rw [Nat.sub_self, Nat.pow_zero, Nat.mul_one]; exact p2)
  · skip
    have ex : ∀ (lf : Int) (R : Nat → Nat) (fi en : Nat), lf ≤ 0 → -100 ≤ lf → Gd R fi en → LN R en → dv 1000000000 R 160 * 2 ^ q = m * 10 ^ 1125 → V K 5 [oc g 1 [.ref b, vi ((fi : Nat) : Int), vi ((en : Nat) : Int)], aj cJ b 160 R] 0 0 75 [(0, .ref g), (1, vj ((m : Nat) : Int)), (3, vi (-((q : Nat) : Int))), (4, vi lf)] [] := by
      intro lf R fi en h0 h1 hG hs hv
      refine qv_iload C rfl dq_Grp_beProduct_75 ?_
      refine qv_ifle C (by omega) (tgt := 101) (by decide) dq_Grp_beProduct_77 (fun h77 => ?_) (fun h77 => ?_)
      · skip
        refine qv_vret C hR ?_ dq_Grp_beProduct_101 (by decide) (by decide)
        exact ⟨R, fi, en, rfl, Pd_div hG hs hm (by omega) hv⟩
      · exfalso; omega
    have loop : ∀ n (r : Nat) (R : Nat → Nat) (fi en : Nat), r ≤ n → r ≤ q → Gd R fi en → LN R en → dv 1000000000 R 160 * 2 ^ (q - r) = m * 10 ^ 1125 → V K 5 [oc g 1 [.ref b, vi ((fi : Nat) : Int), vi ((en : Nat) : Int)], aj cJ b 160 R] 0 0 75 [(0, .ref g), (1, vj ((m : Nat) : Int)), (3, vi (-((q : Nat) : Int))), (4, vi ((r : Nat) : Int))] [] := by
      intro n
      induction n with
      | zero =>
        intro r R fi en h0 hrq hG hs hv
        have er : r = 0 := by omega
        subst er
        exact ex 0 R fi en (by omega) (by omega) hG hs hv
      | succ n ih =>
        intro r R fi en h0 hrq hG hs hv
        by_cases hr0 : r = 0
        · subst hr0
          exact ex 0 R fi en (by omega) (by omega) hG hs hv
        · skip
          refine qv_iload C rfl dq_Grp_beProduct_75 ?_
          refine qv_ifle C (by omega) (tgt := 101) (by decide) dq_Grp_beProduct_77 (fun h77 => ?_) (fun h77 => ?_)
          · exfalso; omega
          · skip
            refine qv_aload_n C rfl dq_Grp_beProduct_80 ?_
            refine qv_sipush C (by decide) dq_Grp_beProduct_81 ?_
            refine qv_iload C rfl dq_Grp_beProduct_84 ?_
            refine qv_bipush C (by decide) dq_Grp_beProduct_86 ?_
            refine qv_mmin (r := ((min r 32 : Nat) : Int)) C cl_Grp_30 wm_min_s wm_init wm_min_c (by omega) (by omega) (by decide) (Nat.le_of_ble_eq_true rfl) (by decide) (by decide) (by omega) dq_Grp_beProduct_88 ?_
            refine qc_vJ (wr := []) (st := []) C cl_Grp_40 cd_Grp_divide (c_Grp_divide cI cJ g b fi en R 160 (min r 32) hG (by omega) (by omega)) (Xok_t K) Xbl_t [0, 1] [] rfl rfl (by decide) (by decide) (by decide) 0 rfl rfl rfl rfl rfl (Nat.le_of_ble_eq_true rfl) (by decide) (by decide) dq_Grp_beProduct_91 (fun z u hu => ?_)
            obtain ⟨R2, fi2, en2, o, rfl, rfl, hM⟩ := hu
            show V K 5 [oc g 1 [.ref b, vi ((fi2 : Nat) : Int), vi ((en2 : Nat) : Int)], aj cJ b 160 R2] 0 0 94 [(0, .ref g), (1, vj ((m : Nat) : Int)), (3, vi (-((q : Nat) : Int))), (4, vi ((r : Nat) : Int))] [vj ((o : Nat) : Int)]
            refine qv_pop2 C rfl dq_Grp_beProduct_94 ?_
            refine qv_iinc C (j := 3) (lv' := [(4, vi (((r : Nat) : Int) - 32)), (0, .ref g), (1, vj ((m : Nat) : Int)), (3, vi (-((q : Nat) : Int)))]) (by omega) rfl (by decide) rfl dq_Grp_beProduct_95 ?_
            refine qv_goto C (tgt := 75) (by decide) dq_Grp_beProduct_98 ?_
            refine qv_lv [1, 2, 3, 0] (lv' := [(0, .ref g), (1, vj ((m : Nat) : Int)), (3, vi (-((q : Nat) : Int))), (4, vi (((r : Nat) : Int) - 32))]) rfl ?_
            obtain ⟨ho, hw⟩ := pr_div hv (by omega) hM
            have hL2 := hM.2.2.2.2.2.2 hs (Or.inr ho)
            by_cases q32 : 32 ≤ r
            · rw [show q - r + min r 32 = q - (r - 32) by omega] at hw
              have e : (((r : Nat) : Int) - 32) = ((r - 32 : Nat) : Int) := by omega
              rw [e]
              exact ih (r - 32) R2 fi2 en2 (by omega) (by omega) hM.1 hL2 hw
            · rw [show q - r + min r 32 = q by omega] at hw
              exact ex _ R2 fi2 en2 (by omega) (by omega) hM.1 hL2 hw
    refine qv_aload_n C rfl dq_Grp_beProduct_0 ?_
    refine qv_get C fl_Grp_11 0 rfl rfl dq_Grp_beProduct_1 ?_
    refine qv_lconst C (z := 0) (by decide) dq_Grp_beProduct_4 ?_
    refine qc_sV (wr := [oc g 1 [.ref b, vi ((fi : Nat) : Int), vi ((en : Nat) : Int)]]) (st := []) C cl_Grp_22 cd_JArr_fill (c_JArr_fill cI cJ b 160 0 R (by omega)) (Xok_t K) Xbl_t [1] [0] rfl rfl (by decide) (by decide) (by decide) rfl rfl (Nat.le_of_ble_eq_true rfl) (by decide) (by decide) dq_Grp_beProduct_5 (fun u hu => ?_)
    obtain rfl := hu
    show V K 5 [oc g 1 [.ref b, vi ((fi : Nat) : Int), vi ((en : Nat) : Int)], aj cJ b 160 (fun _ => 0)] 0 0 8 [(0, .ref g), (1, vj ((m : Nat) : Int)), (3, vi (-((q : Nat) : Int)))] []
    refine qv_aload_n C rfl dq_Grp_beProduct_8 ?_
    refine qv_get C fl_Grp_11 0 rfl rfl dq_Grp_beProduct_9 ?_
    refine qv_bipush C (by decide) dq_Grp_beProduct_12 ?_
    refine qv_lload_n C rfl dq_Grp_beProduct_14 ?_
    refine qv_ldc2 C (z := 1000000000) wk_Grp_28 dq_Grp_beProduct_15 ?_
    refine qv_ldiv C (r := (((m / 1000000000) : Nat) : Int)) (by omega) (by omega) (by omega) (by omega) (by omega) dq_Grp_beProduct_18 ?_
    refine qv_last C (ws' := [oc g 1 [.ref b, vi ((fi : Nat) : Int), vi ((en : Nat) : Int)], aj cJ b 160 (un (fun _ => 0) 33 (m / 1000000000))]) 1 33 (m / 1000000000) rfl (by omega) (by omega) (by omega) (by omega) rfl dq_Grp_beProduct_19 ?_
    refine qv_aload_n C rfl dq_Grp_beProduct_20 ?_
    refine qv_get C fl_Grp_11 0 rfl rfl dq_Grp_beProduct_21 ?_
    refine qv_bipush C (by decide) dq_Grp_beProduct_24 ?_
    refine qv_lload_n C rfl dq_Grp_beProduct_26 ?_
    refine qv_ldc2 C (z := 1000000000) wk_Grp_28 dq_Grp_beProduct_27 ?_
    refine qv_lrem C (r := (((m % 1000000000) : Nat) : Int)) (by omega) (by omega) (by omega) (by omega) (by omega) dq_Grp_beProduct_30 ?_
    refine qv_last C (ws' := [oc g 1 [.ref b, vi ((fi : Nat) : Int), vi ((en : Nat) : Int)], aj cJ b 160 (un (un (fun _ => 0) 33 (m / 1000000000)) 34 (m % 1000000000))]) 1 34 (m % 1000000000) rfl (by omega) (by omega) (by omega) (by omega) rfl dq_Grp_beProduct_31 ?_
    refine qv_aload_n C rfl dq_Grp_beProduct_32 ?_
    refine qv_bipush C (by decide) dq_Grp_beProduct_33 ?_
    refine qv_put C (ws' := [oc g 1 [.ref b, vi 33, vi ((en : Nat) : Int)], aj cJ b 160 (un (un (fun _ => 0) 33 (m / 1000000000)) 34 (m % 1000000000))]) fl_Grp_15 fs_1_1 0 rfl rfl rfl (Nat.le_of_ble_eq_true rfl) rfl dq_Grp_beProduct_35 ?_
    refine qv_aload_n C rfl dq_Grp_beProduct_38 ?_
    refine qv_bipush C (by decide) dq_Grp_beProduct_39 ?_
    refine qv_put C (ws' := [oc g 1 [.ref b, vi 33, vi 35], aj cJ b 160 (un (un (fun _ => 0) 33 (m / 1000000000)) 34 (m % 1000000000))]) fl_Grp_19 fs_1_2 0 rfl rfl rfl (Nat.le_of_ble_eq_true rfl) rfl dq_Grp_beProduct_41 ?_
    refine qv_iload_n C rfl dq_Grp_beProduct_44 ?_
    refine qv_istore C (lv' := [(4, vi (-((q : Nat) : Int))), (0, .ref g), (1, vj ((m : Nat) : Int)), (3, vi (-((q : Nat) : Int)))]) (by decide) rfl dq_Grp_beProduct_45 ?_
    refine qv_iload C rfl dq_Grp_beProduct_47 ?_
    refine qv_ifle C (by omega) (tgt := 71) (by decide) dq_Grp_beProduct_49 (fun h49 => ?_) (fun h49 => ?_)
    · skip
      refine qv_iload_n C rfl dq_Grp_beProduct_71 ?_
      refine qv_ineg C dq_Grp_beProduct_72 ?_
      refine qv_ti (r := ((q : Nat) : Int)) (by omega) ?_
      refine qv_istore C (lv' := [(4, vi ((q : Nat) : Int)), (0, .ref g), (1, vj ((m : Nat) : Int)), (3, vi (-((q : Nat) : Int)))]) (by decide) rfl dq_Grp_beProduct_73 ?_
      refine qv_lv [1, 2, 3, 0] (lv' := [(0, .ref g), (1, vj ((m : Nat) : Int)), (3, vi (-((q : Nat) : Int))), (4, vi ((q : Nat) : Int))]) rfl ?_
      obtain ⟨p1, p2⟩ := pr_0 (m := m) (by omega)
      exact loop q q _ 33 35 (Nat.le_refl _) (Nat.le_refl _) p1 (Or.inl (by omega)) (by rw [Nat.sub_self, Nat.pow_zero, Nat.mul_one]; exact p2)
    · exfalso; omega

