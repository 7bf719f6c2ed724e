theorem c_Dec_init (cI cJ : ClassId) (h : Nat) : MtV cI cJ ky_Dec_init kb_Dec_init 1 rm_Dec_init Xt [.ref h] [oc h 0 [.null, vi 0, vi 0]] (fun u => ∃ a, u = dw cI h a 0 0 (fun _ => 0)) := by
  refine MtV_in (by decide) (Nat.le_of_ble_eq_true rfl) (fun K C hR hX hN => ?_)
  show V K 1 [oc h 0 [.null, vi 0, vi 0]] 0 0 0 [(0, .ref h)] []
  refine qv_aload_n C rfl dq_Dec_init_0 ?_
  refine qv_objI C (wl (i := 30) rfl rfl) (by decide) (Nat.le_of_ble_eq_true rfl) (by decide) dq_Dec_init_1 ?_
  refine qv_aload_n C rfl dq_Dec_init_4 ?_
  refine qv_sipush C (by decide) dq_Dec_init_5 ?_
  refine qv_newI C 800 (by decide) (by decide) (by decide) (by decide) dq_Dec_init_8 (fun q8 => ?_)
  show V K 1 [oc h 0 [.null, vi 0, vi 0], ai cI q8 800 (fun _ => 0)] 1 800 10 [(0, .ref h)] [.ref q8, .ref h]
  refine qv_putF C hN (ws' := [oc h 0 [.ref q8, vi 0, vi 0], ai cI q8 800 (fun _ => 0)]) (F := TF0) (N := 3) (j := 0) (wl (i := 31) rfl rfl) tu_0 rfl (by decide) rfl fs_0_0 0 rfl rfl rfl (Nat.le_of_ble_eq_true rfl) rfl dq_Dec_init_10 ?_
  refine qv_vret C hR ?_ dq_Dec_init_13 (by decide) (by decide)
  exact ⟨_, rfl⟩

theorem c_Grp_init (cI cJ : ClassId) (h : Nat) : MtV cI cJ ky_Grp_init kb_Grp_init 1 rm_Grp_init Xt [.ref h] [oc h 1 [.null, vi 0, vi 0]] (fun u => ∃ a, u = gw cJ h a 0 0 (fun _ => 0)) := by
  refine MtV_in (by decide) (Nat.le_of_ble_eq_true rfl) (fun K C hR hX hN => ?_)
  show V K 1 [oc h 1 [.null, vi 0, vi 0]] 0 0 0 [(0, .ref h)] []
  refine qv_aload_n C rfl dq_Grp_init_0 ?_
  refine qv_objI C (wl (i := 53) rfl rfl) (by decide) (Nat.le_of_ble_eq_true rfl) (by decide) dq_Grp_init_1 ?_
  refine qv_aload_n C rfl dq_Grp_init_4 ?_
  refine qv_sipush C (by decide) dq_Grp_init_5 ?_
  refine qv_newJ C 160 (by decide) (by decide) (by decide) (by decide) dq_Grp_init_8 (fun q8 => ?_)
  show V K 1 [oc h 1 [.null, vi 0, vi 0], aj cJ q8 160 (fun _ => 0)] 1 160 10 [(0, .ref h)] [.ref q8, .ref h]
  refine qv_putF C hN (ws' := [oc h 1 [.ref q8, vi 0, vi 0], aj cJ q8 160 (fun _ => 0)]) (F := TF1) (N := 3) (j := 0) (wl (i := 54) rfl rfl) tu_1 rfl (by decide) rfl fs_1_0 0 rfl rfl rfl (Nat.le_of_ble_eq_true rfl) rfl dq_Grp_init_10 ?_
  refine qv_vret C hR ?_ dq_Grp_init_13 (by decide) (by decide)
  exact ⟨_, rfl⟩

theorem c_Wrd_init (cI cJ : ClassId) (h : Nat) : MtV cI cJ ky_Wrd_init kb_Wrd_init 1 rm_Wrd_init Xt [.ref h] [oc h 2 [.null, vi 0]] (fun u => ∃ a, u = ww cJ h a false (fun _ => 0)) := by
  refine MtV_in (by decide) (Nat.le_of_ble_eq_true rfl) (fun K C hR hX hN => ?_)
  show V K 1 [oc h 2 [.null, vi 0]] 0 0 0 [(0, .ref h)] []
  refine qv_aload_n C rfl dq_Wrd_init_0 ?_
  refine qv_objI C (wl (i := 73) rfl rfl) (by decide) (Nat.le_of_ble_eq_true rfl) (by decide) dq_Wrd_init_1 ?_
  refine qv_aload_n C rfl dq_Wrd_init_4 ?_
  refine qv_bipush C (by decide) dq_Wrd_init_5 ?_
  refine qv_newJ C 70 (by decide) (by decide) (by decide) (by decide) dq_Wrd_init_7 (fun q7 => ?_)
  show V K 1 [oc h 2 [.null, vi 0], aj cJ q7 70 (fun _ => 0)] 1 70 9 [(0, .ref h)] [.ref q7, .ref h]
  refine qv_putF C hN (ws' := [oc h 2 [.ref q7, vi 0], aj cJ q7 70 (fun _ => 0)]) (F := TF2) (N := 2) (j := 0) (wl (i := 74) rfl rfl) tu_2 rfl (by decide) rfl fs_2_0 0 rfl rfl rfl (Nat.le_of_ble_eq_true rfl) rfl dq_Wrd_init_9 ?_
  refine qv_vret C hR ?_ dq_Wrd_init_12 (by decide) (by decide)
  exact ⟨_, rfl⟩

set_option maxRecDepth 10000 in
theorem c_Mod_init (cI cJ : ClassId) (y : Nat) : MtV cI cJ ky_Mod_init kb_Mod_init 1 rm_Mod_init Xt [.ref y] [oc y 4 [vi 0, vi 0, .null, vi 0, vi 0, vi 0, vi 0, .null, vi 0, vi 0, vj 0, .null, .null, .null, .null, vi 0, vi 0, vi 0, vi 0]] (fun u => ∃ (dg rw bt wz lw hg : Nat), u = [mo y dg rw bt wz lw hg 0 false 0 0 0 0 0 0 0 0 0 0 0, ai cI dg 800 (fun _ => 0), ai cI rw 1200 (fun _ => 0), ai cI bt 1100 (fun _ => 0), ai cI wz 800 (fun _ => 0), ai cI lw 1200 (fun _ => 0), ai cI hg 1200 (fun _ => 0)]) := by
  refine MtV_in (by decide) (Nat.le_of_ble_eq_true rfl) (fun K C hR hX hN => ?_)
  show V K 1 [oc y 4 [vi 0, vi 0, .null, vi 0, vi 0, vi 0, vi 0, .null, vi 0, vi 0, vj 0, .null, .null, .null, .null, vi 0, vi 0, vi 0, vi 0]] 0 0 0 [(0, .ref y)] []
  refine qv_aload_n C rfl dq_Mod_init_0 ?_
  refine qv_objI C (wl (i := 458) rfl rfl) (by decide) (Nat.le_of_ble_eq_true rfl) (by decide) dq_Mod_init_1 ?_
  refine qv_aload_n C rfl dq_Mod_init_4 ?_
  refine qv_sipush C (by decide) dq_Mod_init_5 ?_
  refine qv_newI C 800 (by decide) (by decide) (by decide) (by decide) dq_Mod_init_8 (fun q8 => ?_)
  show V K 1 [oc y 4 [vi 0, vi 0, .null, vi 0, vi 0, vi 0, vi 0, .null, vi 0, vi 0, vj 0, .null, .null, .null, .null, vi 0, vi 0, vi 0, vi 0], ai cI q8 800 (fun _ => 0)] 1 800 10 [(0, .ref y)] [.ref q8, .ref y]
  refine qv_putF C hN (ws' := [oc y 4 [vi 0, vi 0, .ref q8, vi 0, vi 0, vi 0, vi 0, .null, vi 0, vi 0, vj 0, .null, .null, .null, .null, vi 0, vi 0, vi 0, vi 0], ai cI q8 800 (fun _ => 0)]) (F := TF4) (N := 19) (j := 2) (wl (i := 461) rfl rfl) tu_4 rfl (by decide) rfl fs_4_2 0 rfl rfl rfl (Nat.le_of_ble_eq_true rfl) rfl dq_Mod_init_10 ?_
  refine qv_aload_n C rfl dq_Mod_init_13 ?_
  refine qv_sipush C (by decide) dq_Mod_init_14 ?_
  refine qv_newI C 1200 (by decide) (by decide) (by decide) (by decide) dq_Mod_init_17 (fun q17 => ?_)
  show V K 1 [oc y 4 [vi 0, vi 0, .ref q8, vi 0, vi 0, vi 0, vi 0, .null, vi 0, vi 0, vj 0, .null, .null, .null, .null, vi 0, vi 0, vi 0, vi 0], ai cI q8 800 (fun _ => 0), ai cI q17 1200 (fun _ => 0)] 2 2000 19 [(0, .ref y)] [.ref q17, .ref y]
  refine qv_putF C hN (ws' := [oc y 4 [vi 0, vi 0, .ref q8, vi 0, vi 0, vi 0, vi 0, .ref q17, vi 0, vi 0, vj 0, .null, .null, .null, .null, vi 0, vi 0, vi 0, vi 0], ai cI q8 800 (fun _ => 0), ai cI q17 1200 (fun _ => 0)]) (F := TF4) (N := 19) (j := 7) (wl (i := 466) rfl rfl) tu_4 rfl (by decide) rfl fs_4_7 0 rfl rfl rfl (Nat.le_of_ble_eq_true rfl) rfl dq_Mod_init_19 ?_
  refine qv_aload_n C rfl dq_Mod_init_22 ?_
  refine qv_sipush C (by decide) dq_Mod_init_23 ?_
  refine qv_newI C 1100 (by decide) (by decide) (by decide) (by decide) dq_Mod_init_26 (fun q26 => ?_)
  show V K 1 [oc y 4 [vi 0, vi 0, .ref q8, vi 0, vi 0, vi 0, vi 0, .ref q17, vi 0, vi 0, vj 0, .null, .null, .null, .null, vi 0, vi 0, vi 0, vi 0], ai cI q8 800 (fun _ => 0), ai cI q17 1200 (fun _ => 0), ai cI q26 1100 (fun _ => 0)] 3 3100 28 [(0, .ref y)] [.ref q26, .ref y]
  refine qv_putF C hN (ws' := [oc y 4 [vi 0, vi 0, .ref q8, vi 0, vi 0, vi 0, vi 0, .ref q17, vi 0, vi 0, vj 0, .ref q26, .null, .null, .null, vi 0, vi 0, vi 0, vi 0], ai cI q8 800 (fun _ => 0), ai cI q17 1200 (fun _ => 0), ai cI q26 1100 (fun _ => 0)]) (F := TF4) (N := 19) (j := 11) (wl (i := 470) rfl rfl) tu_4 rfl (by decide) rfl fs_4_11 0 rfl rfl rfl (Nat.le_of_ble_eq_true rfl) rfl dq_Mod_init_28 ?_
  refine qv_aload_n C rfl dq_Mod_init_31 ?_
  refine qv_sipush C (by decide) dq_Mod_init_32 ?_
  refine qv_newI C 800 (by decide) (by decide) (by decide) (by decide) dq_Mod_init_35 (fun q35 => ?_)
  show V K 1 [oc y 4 [vi 0, vi 0, .ref q8, vi 0, vi 0, vi 0, vi 0, .ref q17, vi 0, vi 0, vj 0, .ref q26, .null, .null, .null, vi 0, vi 0, vi 0, vi 0], ai cI q8 800 (fun _ => 0), ai cI q17 1200 (fun _ => 0), ai cI q26 1100 (fun _ => 0), ai cI q35 800 (fun _ => 0)] 4 3900 37 [(0, .ref y)] [.ref q35, .ref y]
  refine qv_putF C hN (ws' := [oc y 4 [vi 0, vi 0, .ref q8, vi 0, vi 0, vi 0, vi 0, .ref q17, vi 0, vi 0, vj 0, .ref q26, .ref q35, .null, .null, vi 0, vi 0, vi 0, vi 0], ai cI q8 800 (fun _ => 0), ai cI q17 1200 (fun _ => 0), ai cI q26 1100 (fun _ => 0), ai cI q35 800 (fun _ => 0)]) (F := TF4) (N := 19) (j := 12) (wl (i := 471) rfl rfl) tu_4 rfl (by decide) rfl fs_4_12 0 rfl rfl rfl (Nat.le_of_ble_eq_true rfl) rfl dq_Mod_init_37 ?_
  refine qv_aload_n C rfl dq_Mod_init_40 ?_
  refine qv_sipush C (by decide) dq_Mod_init_41 ?_
  refine qv_newI C 1200 (by decide) (by decide) (by decide) (by decide) dq_Mod_init_44 (fun q44 => ?_)
  show V K 1 [oc y 4 [vi 0, vi 0, .ref q8, vi 0, vi 0, vi 0, vi 0, .ref q17, vi 0, vi 0, vj 0, .ref q26, .ref q35, .null, .null, vi 0, vi 0, vi 0, vi 0], ai cI q8 800 (fun _ => 0), ai cI q17 1200 (fun _ => 0), ai cI q26 1100 (fun _ => 0), ai cI q35 800 (fun _ => 0), ai cI q44 1200 (fun _ => 0)] 5 5100 46 [(0, .ref y)] [.ref q44, .ref y]
  refine qv_putF C hN (ws' := [oc y 4 [vi 0, vi 0, .ref q8, vi 0, vi 0, vi 0, vi 0, .ref q17, vi 0, vi 0, vj 0, .ref q26, .ref q35, .ref q44, .null, vi 0, vi 0, vi 0, vi 0], ai cI q8 800 (fun _ => 0), ai cI q17 1200 (fun _ => 0), ai cI q26 1100 (fun _ => 0), ai cI q35 800 (fun _ => 0), ai cI q44 1200 (fun _ => 0)]) (F := TF4) (N := 19) (j := 13) (wl (i := 472) rfl rfl) tu_4 rfl (by decide) rfl fs_4_13 0 rfl rfl rfl (Nat.le_of_ble_eq_true rfl) rfl dq_Mod_init_46 ?_
  refine qv_aload_n C rfl dq_Mod_init_49 ?_
  refine qv_sipush C (by decide) dq_Mod_init_50 ?_
  refine qv_newI C 1200 (by decide) (by decide) (by decide) (by decide) dq_Mod_init_53 (fun q53 => ?_)
  show V K 1 [oc y 4 [vi 0, vi 0, .ref q8, vi 0, vi 0, vi 0, vi 0, .ref q17, vi 0, vi 0, vj 0, .ref q26, .ref q35, .ref q44, .null, vi 0, vi 0, vi 0, vi 0], ai cI q8 800 (fun _ => 0), ai cI q17 1200 (fun _ => 0), ai cI q26 1100 (fun _ => 0), ai cI q35 800 (fun _ => 0), ai cI q44 1200 (fun _ => 0), ai cI q53 1200 (fun _ => 0)] 6 6300 55 [(0, .ref y)] [.ref q53, .ref y]
  refine qv_putF C hN (ws' := [oc y 4 [vi 0, vi 0, .ref q8, vi 0, vi 0, vi 0, vi 0, .ref q17, vi 0, vi 0, vj 0, .ref q26, .ref q35, .ref q44, .ref q53, vi 0, vi 0, vi 0, vi 0], ai cI q8 800 (fun _ => 0), ai cI q17 1200 (fun _ => 0), ai cI q26 1100 (fun _ => 0), ai cI q35 800 (fun _ => 0), ai cI q44 1200 (fun _ => 0), ai cI q53 1200 (fun _ => 0)]) (F := TF4) (N := 19) (j := 14) (wl (i := 473) rfl rfl) tu_4 rfl (by decide) rfl fs_4_14 0 rfl rfl rfl (Nat.le_of_ble_eq_true rfl) rfl dq_Mod_init_55 ?_
  refine qv_vret C hR ?_ dq_Mod_init_58 (by decide) (by decide)
  exact ⟨_, _, _, _, _, _, rfl⟩

theorem c_Tru_init (cI cJ : ClassId) (x : Nat) : MtV cI cJ ky_Tru_init kb_Tru_init 1 rm_Tru_init Xt [.ref x] [oc x 3 [.null, vi 0, vi 0, vi 0, .null, .null, .null, .null, .null]] (fun u => ∃ (k ka g b w wa t ta l la hi ha : Nat), u = xo x k g w t l hi false 0 0 :: (dw cI k ka 0 0 (fun _ => 0) ++ gw cJ g b 0 0 (fun _ => 0) ++ ww cJ w wa false (fun _ => 0) ++ dw cI t ta 0 0 (fun _ => 0) ++ dw cI l la 0 0 (fun _ => 0) ++ dw cI hi ha 0 0 (fun _ => 0))) := by
  refine MtV_in (by decide) (Nat.le_of_ble_eq_true rfl) (fun K C hR hX hN => ?_)
  show V K 1 [oc x 3 [.null, vi 0, vi 0, vi 0, .null, .null, .null, .null, .null]] 0 0 0 [(0, .ref x)] []
  refine qv_aload_n C rfl dq_Tru_init_0 ?_
  refine qv_objI C (wl (i := 22) rfl rfl) (by decide) (Nat.le_of_ble_eq_true rfl) (by decide) dq_Tru_init_1 ?_
  refine qv_aload_n C rfl dq_Tru_init_4 ?_
  refine qv_new C (ci := 0) (Nf := 3) (fs := [.null, vi 0, vi 0]) ty0_ tt_0 tu_0 (wl (i := 25) rfl rfl) (wl (i := 26) rfl rfl) (wl (i := 2) rfl rfl) rfl (fun j hj => by rcases (show j = 0 ∨ j = 1 ∨ j = 2 by omega) with rfl | rfl | rfl <;> rfl) (by decide) (by decide) dq_Tru_init_5 (fun q5 => ?_)
  show V K 1 [oc x 3 [.null, vi 0, vi 0, vi 0, .null, .null, .null, .null, .null], oc q5 0 [.null, vi 0, vi 0]] 1 3 8 [(0, .ref x)] [.ref q5, .ref x]
  refine qv_dup C rfl dq_Tru_init_8 ?_
  refine qc_iV (wr := [oc x 3 [.null, vi 0, vi 0, vi 0, .null, .null, .null, .null, .null]]) (st := [.ref q5, .ref x]) (As := []) C cl_Tru_11 cd_Dec_init (c_Dec_init cI cJ q5) (Xok_t K) Xbl_t [1] [0] rfl rfl (by decide) (by decide) (by decide) rfl rfl (Nat.le_of_ble_eq_true rfl) (by decide) (by decide) dq_Tru_init_9 (fun u hu => ?_)
  obtain ⟨a9, rfl⟩ := hu
  show V K 1 [oc x 3 [.null, vi 0, vi 0, vi 0, .null, .null, .null, .null, .null], oc q5 0 [.ref a9, vi 0, vi 0], ai cI a9 800 (fun _ => 0)] 2 803 12 [(0, .ref x)] [.ref q5, .ref x]
  refine qv_putF C hN (ws' := [oc x 3 [.ref q5, vi 0, vi 0, vi 0, .null, .null, .null, .null, .null], oc q5 0 [.ref a9, vi 0, vi 0], ai cI a9 800 (fun _ => 0)]) (F := TF3) (N := 9) (j := 0) (wl (i := 81) rfl rfl) tu_3 rfl (by decide) rfl fs_3_0 0 rfl rfl rfl (Nat.le_of_ble_eq_true rfl) rfl dq_Tru_init_12 ?_
  refine qv_aload_n C rfl dq_Tru_init_15 ?_
  refine qv_new C (ci := 1) (Nf := 3) (fs := [.null, vi 0, vi 0]) ty1_ tt_1 tu_1 (wl (i := 48) rfl rfl) (wl (i := 49) rfl rfl) (wl (i := 3) rfl rfl) rfl (fun j hj => by rcases (show j = 0 ∨ j = 1 ∨ j = 2 by omega) with rfl | rfl | rfl <;> rfl) (by decide) (by decide) dq_Tru_init_16 (fun q16 => ?_)
  show V K 1 [oc x 3 [.ref q5, vi 0, vi 0, vi 0, .null, .null, .null, .null, .null], oc q5 0 [.ref a9, vi 0, vi 0], ai cI a9 800 (fun _ => 0), oc q16 1 [.null, vi 0, vi 0]] 3 806 19 [(0, .ref x)] [.ref q16, .ref x]
  refine qv_dup C rfl dq_Tru_init_19 ?_
  refine qc_iV (wr := [oc x 3 [.ref q5, vi 0, vi 0, vi 0, .null, .null, .null, .null, .null], oc q5 0 [.ref a9, vi 0, vi 0], ai cI a9 800 (fun _ => 0)]) (st := [.ref q16, .ref x]) (As := []) C cl_Tru_18 cd_Grp_init (c_Grp_init cI cJ q16) (Xok_t K) Xbl_t [3] [0, 1, 2] rfl rfl (by decide) (by decide) (by decide) rfl rfl (Nat.le_of_ble_eq_true rfl) (by decide) (by decide) dq_Tru_init_20 (fun u hu => ?_)
  obtain ⟨a20, rfl⟩ := hu
  show V K 1 [oc x 3 [.ref q5, vi 0, vi 0, vi 0, .null, .null, .null, .null, .null], oc q5 0 [.ref a9, vi 0, vi 0], ai cI a9 800 (fun _ => 0), oc q16 1 [.ref a20, vi 0, vi 0], aj cJ a20 160 (fun _ => 0)] 4 966 23 [(0, .ref x)] [.ref q16, .ref x]
  refine qv_putF C hN (ws' := [oc x 3 [.ref q5, vi 0, vi 0, vi 0, .ref q16, .null, .null, .null, .null], oc q5 0 [.ref a9, vi 0, vi 0], ai cI a9 800 (fun _ => 0), oc q16 1 [.ref a20, vi 0, vi 0], aj cJ a20 160 (fun _ => 0)]) (F := TF3) (N := 9) (j := 4) (wl (i := 85) rfl rfl) tu_3 rfl (by decide) rfl fs_3_4 0 rfl rfl rfl (Nat.le_of_ble_eq_true rfl) rfl dq_Tru_init_23 ?_
  refine qv_aload_n C rfl dq_Tru_init_26 ?_
  refine qv_new C (ci := 2) (Nf := 2) (fs := [.null, vi 0]) ty2_ tt_2 tu_2 (wl (i := 68) rfl rfl) (wl (i := 69) rfl rfl) (wl (i := 4) rfl rfl) rfl (fun j hj => by rcases (show j = 0 ∨ j = 1 by omega) with rfl | rfl <;> rfl) (by decide) (by decide) dq_Tru_init_27 (fun q27 => ?_)
  show V K 1 [oc x 3 [.ref q5, vi 0, vi 0, vi 0, .ref q16, .null, .null, .null, .null], oc q5 0 [.ref a9, vi 0, vi 0], ai cI a9 800 (fun _ => 0), oc q16 1 [.ref a20, vi 0, vi 0], aj cJ a20 160 (fun _ => 0), oc q27 2 [.null, vi 0]] 5 968 30 [(0, .ref x)] [.ref q27, .ref x]
  refine qv_dup C rfl dq_Tru_init_30 ?_
  refine qc_iV (wr := [oc x 3 [.ref q5, vi 0, vi 0, vi 0, .ref q16, .null, .null, .null, .null], oc q5 0 [.ref a9, vi 0, vi 0], ai cI a9 800 (fun _ => 0), oc q16 1 [.ref a20, vi 0, vi 0], aj cJ a20 160 (fun _ => 0)]) (st := [.ref q27, .ref x]) (As := []) C cl_Tru_25 cd_Wrd_init (c_Wrd_init cI cJ q27) (Xok_t K) Xbl_t [5] [0, 1, 2, 3, 4] rfl rfl (by decide) (by decide) (by decide) rfl rfl (Nat.le_of_ble_eq_true rfl) (by decide) (by decide) dq_Tru_init_31 (fun u hu => ?_)
  obtain ⟨a31, rfl⟩ := hu
  show V K 1 [oc x 3 [.ref q5, vi 0, vi 0, vi 0, .ref q16, .null, .null, .null, .null], oc q5 0 [.ref a9, vi 0, vi 0], ai cI a9 800 (fun _ => 0), oc q16 1 [.ref a20, vi 0, vi 0], aj cJ a20 160 (fun _ => 0), oc q27 2 [.ref a31, vi (b2 false)], aj cJ a31 70 (fun _ => 0)] 6 1038 34 [(0, .ref x)] [.ref q27, .ref x]
  refine qv_putF C hN (ws' := [oc x 3 [.ref q5, vi 0, vi 0, vi 0, .ref q16, .ref q27, .null, .null, .null], oc q5 0 [.ref a9, vi 0, vi 0], ai cI a9 800 (fun _ => 0), oc q16 1 [.ref a20, vi 0, vi 0], aj cJ a20 160 (fun _ => 0), oc q27 2 [.ref a31, vi (b2 false)], aj cJ a31 70 (fun _ => 0)]) (F := TF3) (N := 9) (j := 5) (wl (i := 86) rfl rfl) tu_3 rfl (by decide) rfl fs_3_5 0 rfl rfl rfl (Nat.le_of_ble_eq_true rfl) rfl dq_Tru_init_34 ?_
  refine qv_aload_n C rfl dq_Tru_init_37 ?_
  refine qv_new C (ci := 0) (Nf := 3) (fs := [.null, vi 0, vi 0]) ty0_ tt_0 tu_0 (wl (i := 25) rfl rfl) (wl (i := 26) rfl rfl) (wl (i := 2) rfl rfl) rfl (fun j hj => by rcases (show j = 0 ∨ j = 1 ∨ j = 2 by omega) with rfl | rfl | rfl <;> rfl) (by decide) (by decide) dq_Tru_init_38 (fun q38 => ?_)
  show V K 1 [oc x 3 [.ref q5, vi 0, vi 0, vi 0, .ref q16, .ref q27, .null, .null, .null], oc q5 0 [.ref a9, vi 0, vi 0], ai cI a9 800 (fun _ => 0), oc q16 1 [.ref a20, vi 0, vi 0], aj cJ a20 160 (fun _ => 0), oc q27 2 [.ref a31, vi (b2 false)], aj cJ a31 70 (fun _ => 0), oc q38 0 [.null, vi 0, vi 0]] 7 1041 41 [(0, .ref x)] [.ref q38, .ref x]
  refine qv_dup C rfl dq_Tru_init_41 ?_
  refine qc_iV (wr := [oc x 3 [.ref q5, vi 0, vi 0, vi 0, .ref q16, .ref q27, .null, .null, .null], oc q5 0 [.ref a9, vi 0, vi 0], ai cI a9 800 (fun _ => 0), oc q16 1 [.ref a20, vi 0, vi 0], aj cJ a20 160 (fun _ => 0), oc q27 2 [.ref a31, vi (b2 false)], aj cJ a31 70 (fun _ => 0)]) (st := [.ref q38, .ref x]) (As := []) C cl_Tru_11 cd_Dec_init (c_Dec_init cI cJ q38) (Xok_t K) Xbl_t [7] [0, 1, 2, 3, 4, 5, 6] rfl rfl (by decide) (by decide) (by decide) rfl rfl (Nat.le_of_ble_eq_true rfl) (by decide) (by decide) dq_Tru_init_42 (fun u hu => ?_)
  obtain ⟨a42, rfl⟩ := hu
  show V K 1 [oc x 3 [.ref q5, vi 0, vi 0, vi 0, .ref q16, .ref q27, .null, .null, .null], oc q5 0 [.ref a9, vi 0, vi 0], ai cI a9 800 (fun _ => 0), oc q16 1 [.ref a20, vi 0, vi 0], aj cJ a20 160 (fun _ => 0), oc q27 2 [.ref a31, vi (b2 false)], aj cJ a31 70 (fun _ => 0), oc q38 0 [.ref a42, vi 0, vi 0], ai cI a42 800 (fun _ => 0)] 8 1841 45 [(0, .ref x)] [.ref q38, .ref x]
  refine qv_putF C hN (ws' := [oc x 3 [.ref q5, vi 0, vi 0, vi 0, .ref q16, .ref q27, .ref q38, .null, .null], oc q5 0 [.ref a9, vi 0, vi 0], ai cI a9 800 (fun _ => 0), oc q16 1 [.ref a20, vi 0, vi 0], aj cJ a20 160 (fun _ => 0), oc q27 2 [.ref a31, vi (b2 false)], aj cJ a31 70 (fun _ => 0), oc q38 0 [.ref a42, vi 0, vi 0], ai cI a42 800 (fun _ => 0)]) (F := TF3) (N := 9) (j := 6) (wl (i := 87) rfl rfl) tu_3 rfl (by decide) rfl fs_3_6 0 rfl rfl rfl (Nat.le_of_ble_eq_true rfl) rfl dq_Tru_init_45 ?_
  refine qv_aload_n C rfl dq_Tru_init_48 ?_
  refine qv_new C (ci := 0) (Nf := 3) (fs := [.null, vi 0, vi 0]) ty0_ tt_0 tu_0 (wl (i := 25) rfl rfl) (wl (i := 26) rfl rfl) (wl (i := 2) rfl rfl) rfl (fun j hj => by rcases (show j = 0 ∨ j = 1 ∨ j = 2 by omega) with rfl | rfl | rfl <;> rfl) (by decide) (by decide) dq_Tru_init_49 (fun q49 => ?_)
  show V K 1 [oc x 3 [.ref q5, vi 0, vi 0, vi 0, .ref q16, .ref q27, .ref q38, .null, .null], oc q5 0 [.ref a9, vi 0, vi 0], ai cI a9 800 (fun _ => 0), oc q16 1 [.ref a20, vi 0, vi 0], aj cJ a20 160 (fun _ => 0), oc q27 2 [.ref a31, vi (b2 false)], aj cJ a31 70 (fun _ => 0), oc q38 0 [.ref a42, vi 0, vi 0], ai cI a42 800 (fun _ => 0), oc q49 0 [.null, vi 0, vi 0]] 9 1844 52 [(0, .ref x)] [.ref q49, .ref x]
  refine qv_dup C rfl dq_Tru_init_52 ?_
  refine qc_iV (wr := [oc x 3 [.ref q5, vi 0, vi 0, vi 0, .ref q16, .ref q27, .ref q38, .null, .null], oc q5 0 [.ref a9, vi 0, vi 0], ai cI a9 800 (fun _ => 0), oc q16 1 [.ref a20, vi 0, vi 0], aj cJ a20 160 (fun _ => 0), oc q27 2 [.ref a31, vi (b2 false)], aj cJ a31 70 (fun _ => 0), oc q38 0 [.ref a42, vi 0, vi 0], ai cI a42 800 (fun _ => 0)]) (st := [.ref q49, .ref x]) (As := []) C cl_Tru_11 cd_Dec_init (c_Dec_init cI cJ q49) (Xok_t K) Xbl_t [9] [0, 1, 2, 3, 4, 5, 6, 7, 8] rfl rfl (by decide) (by decide) (by decide) rfl rfl (Nat.le_of_ble_eq_true rfl) (by decide) (by decide) dq_Tru_init_53 (fun u hu => ?_)
  obtain ⟨a53, rfl⟩ := hu
  show V K 1 [oc x 3 [.ref q5, vi 0, vi 0, vi 0, .ref q16, .ref q27, .ref q38, .null, .null], oc q5 0 [.ref a9, vi 0, vi 0], ai cI a9 800 (fun _ => 0), oc q16 1 [.ref a20, vi 0, vi 0], aj cJ a20 160 (fun _ => 0), oc q27 2 [.ref a31, vi (b2 false)], aj cJ a31 70 (fun _ => 0), oc q38 0 [.ref a42, vi 0, vi 0], ai cI a42 800 (fun _ => 0), oc q49 0 [.ref a53, vi 0, vi 0], ai cI a53 800 (fun _ => 0)] 10 2644 56 [(0, .ref x)] [.ref q49, .ref x]
  refine qv_putF C hN (ws' := [oc x 3 [.ref q5, vi 0, vi 0, vi 0, .ref q16, .ref q27, .ref q38, .ref q49, .null], oc q5 0 [.ref a9, vi 0, vi 0], ai cI a9 800 (fun _ => 0), oc q16 1 [.ref a20, vi 0, vi 0], aj cJ a20 160 (fun _ => 0), oc q27 2 [.ref a31, vi (b2 false)], aj cJ a31 70 (fun _ => 0), oc q38 0 [.ref a42, vi 0, vi 0], ai cI a42 800 (fun _ => 0), oc q49 0 [.ref a53, vi 0, vi 0], ai cI a53 800 (fun _ => 0)]) (F := TF3) (N := 9) (j := 7) (wl (i := 88) rfl rfl) tu_3 rfl (by decide) rfl fs_3_7 0 rfl rfl rfl (Nat.le_of_ble_eq_true rfl) rfl dq_Tru_init_56 ?_
  refine qv_aload_n C rfl dq_Tru_init_59 ?_
  refine qv_new C (ci := 0) (Nf := 3) (fs := [.null, vi 0, vi 0]) ty0_ tt_0 tu_0 (wl (i := 25) rfl rfl) (wl (i := 26) rfl rfl) (wl (i := 2) rfl rfl) rfl (fun j hj => by rcases (show j = 0 ∨ j = 1 ∨ j = 2 by omega) with rfl | rfl | rfl <;> rfl) (by decide) (by decide) dq_Tru_init_60 (fun q60 => ?_)
  show V K 1 [oc x 3 [.ref q5, vi 0, vi 0, vi 0, .ref q16, .ref q27, .ref q38, .ref q49, .null], oc q5 0 [.ref a9, vi 0, vi 0], ai cI a9 800 (fun _ => 0), oc q16 1 [.ref a20, vi 0, vi 0], aj cJ a20 160 (fun _ => 0), oc q27 2 [.ref a31, vi (b2 false)], aj cJ a31 70 (fun _ => 0), oc q38 0 [.ref a42, vi 0, vi 0], ai cI a42 800 (fun _ => 0), oc q49 0 [.ref a53, vi 0, vi 0], ai cI a53 800 (fun _ => 0), oc q60 0 [.null, vi 0, vi 0]] 11 2647 63 [(0, .ref x)] [.ref q60, .ref x]
  refine qv_dup C rfl dq_Tru_init_63 ?_
  refine qc_iV (wr := [oc x 3 [.ref q5, vi 0, vi 0, vi 0, .ref q16, .ref q27, .ref q38, .ref q49, .null], oc q5 0 [.ref a9, vi 0, vi 0], ai cI a9 800 (fun _ => 0), oc q16 1 [.ref a20, vi 0, vi 0], aj cJ a20 160 (fun _ => 0), oc q27 2 [.ref a31, vi (b2 false)], aj cJ a31 70 (fun _ => 0), oc q38 0 [.ref a42, vi 0, vi 0], ai cI a42 800 (fun _ => 0), oc q49 0 [.ref a53, vi 0, vi 0], ai cI a53 800 (fun _ => 0)]) (st := [.ref q60, .ref x]) (As := []) C cl_Tru_11 cd_Dec_init (c_Dec_init cI cJ q60) (Xok_t K) Xbl_t [11] [0, 1, 2, 3, 4, 5, 6, 7, 8, 9, 10] rfl rfl (by decide) (by decide) (by decide) rfl rfl (Nat.le_of_ble_eq_true rfl) (by decide) (by decide) dq_Tru_init_64 (fun u hu => ?_)
  obtain ⟨a64, rfl⟩ := hu
  show V K 1 [oc x 3 [.ref q5, vi 0, vi 0, vi 0, .ref q16, .ref q27, .ref q38, .ref q49, .null], oc q5 0 [.ref a9, vi 0, vi 0], ai cI a9 800 (fun _ => 0), oc q16 1 [.ref a20, vi 0, vi 0], aj cJ a20 160 (fun _ => 0), oc q27 2 [.ref a31, vi (b2 false)], aj cJ a31 70 (fun _ => 0), oc q38 0 [.ref a42, vi 0, vi 0], ai cI a42 800 (fun _ => 0), oc q49 0 [.ref a53, vi 0, vi 0], ai cI a53 800 (fun _ => 0), oc q60 0 [.ref a64, vi 0, vi 0], ai cI a64 800 (fun _ => 0)] 12 3447 67 [(0, .ref x)] [.ref q60, .ref x]
  refine qv_putF C hN (ws' := [oc x 3 [.ref q5, vi 0, vi 0, vi 0, .ref q16, .ref q27, .ref q38, .ref q49, .ref q60], oc q5 0 [.ref a9, vi 0, vi 0], ai cI a9 800 (fun _ => 0), oc q16 1 [.ref a20, vi 0, vi 0], aj cJ a20 160 (fun _ => 0), oc q27 2 [.ref a31, vi (b2 false)], aj cJ a31 70 (fun _ => 0), oc q38 0 [.ref a42, vi 0, vi 0], ai cI a42 800 (fun _ => 0), oc q49 0 [.ref a53, vi 0, vi 0], ai cI a53 800 (fun _ => 0), oc q60 0 [.ref a64, vi 0, vi 0], ai cI a64 800 (fun _ => 0)]) (F := TF3) (N := 9) (j := 8) (wl (i := 89) rfl rfl) tu_3 rfl (by decide) rfl fs_3_8 0 rfl rfl rfl (Nat.le_of_ble_eq_true rfl) rfl dq_Tru_init_67 ?_
  refine qv_vret C hR ?_ dq_Tru_init_70 (by decide) (by decide)
  exact ⟨_, _, _, _, _, _, _, _, _, _, _, _, rfl⟩

