theorem c_Wrd_load (cI cJ : ClassId) (w wa : Nat) (hm : Bool) (W : Nat → Nat) (g b fi en : Nat) (R : Nat → Nat) (hG : Gd R fi en) (hL : LN R en) (hI : dv 1000000000 R 35 < 4294967296 ^ 33) : MtV cI cJ ky_Wrd_load kb_Wrd_load 4 rm_Wrd_load Xt [.ref w, .ref g] [oc w 2 [.ref wa, vi (b2 hm)], aj cJ wa 70 W, oc g 1 [.ref b, vi ((fi : Nat) : Int), vi ((en : Nat) : Int)], aj cJ b 160 R] (fun u => ∃ (R2 : Nat → Nat) (fi2 en2 : Nat) (W2 : Nat → Nat) (mo : Bool) (T top F : Nat), u = ww cJ w wa mo W2 ++ gw cJ g b fi2 en2 R2 ∧ Wl (dv 1000000000 R 160) W2 mo T top F) := by
  refine MtV_in (by decide) (Nat.le_of_ble_eq_true rfl) (fun K C hR hX hN => ?_)
  show V K 4 [oc w 2 [.ref wa, vi (b2 hm)], aj cJ wa 70 W, oc g 1 [.ref b, vi ((fi : Nat) : Int), vi ((en : Nat) : Int)], aj cJ b 160 R] 0 0 0 [(0, .ref w), (1, .ref g)] []
  have loopB : ∀ n i top (W2 R2 : Nat → Nat) (fi2 en2 : Nat), i + n = 67 → 33 ≤ i → Gd R2 fi2 en2 → LN R2 en2 → (∀ i, W2 i < 4294967296) → (∀ j, i ≤ j → W2 j = 0) → WB (dv 1000000000 R 160) R2 W2 i → Tp W2 i top → V K 4 [oc w 2 [.ref wa, vi (b2 hm)], aj cJ wa 70 W2, oc g 1 [.ref b, vi ((fi2 : Nat) : Int), vi ((en2 : Nat) : Int)], aj cJ b 160 R2] 0 0 45 [(0, .ref w), (1, .ref g), (2, vi ((top : Nat) : Int)), (3, vi ((i : Nat) : Int))] [] := by
    intro n
    induction n with
    | zero =>
      intro i top W2 R2 fi2 en2 hin h33 y1 y2 y3 y4 y5 y6
      have y7 := y6.1
      have y8 := y1.2.2.2.1
      refine qv_iload_n C rfl dq_Wrd_load_45 ?_
      refine qv_bipush C (by decide) dq_Wrd_load_46 ?_
      refine qv_icge C (by omega) (by omega) (tgt := 97) (by decide) dq_Wrd_load_48 (fun h48 => ?_) (fun h48 => ?_)
      · skip
        refine qv_aload_n C rfl dq_Wrd_load_97 ?_
        refine qv_aload_n C rfl dq_Wrd_load_98 ?_
        refine qc_vI (wr := [oc w 2 [.ref wa, vi (b2 hm)], aj cJ wa 70 W2]) (st := [.ref w]) C cl_Wrd_34 cd_Grp_hasSomethingBehindPoint (c_Grp_hasSomethingBehindPoint cI cJ g b fi2 en2 R2 y8) (Xok_t K) Xbl_t [2, 3] [0, 1] rfl rfl (by decide) (by decide) (by decide) 0 rfl rfl rfl rfl rfl (Nat.le_of_ble_eq_true rfl) (by decide) (by decide) dq_Wrd_load_99 (fun z u hu => ?_)
        obtain ⟨rfl, rfl⟩ := hu
        show V K 4 [oc w 2 [.ref wa, vi (b2 hm)], aj cJ wa 70 W2, oc g 1 [.ref b, vi ((fi2 : Nat) : Int), vi ((en2 : Nat) : Int)], aj cJ b 160 R2] 0 0 102 [(0, .ref w), (1, .ref g), (2, vi ((top : Nat) : Int)), (3, vi ((i : Nat) : Int))] [vi (b2 (decide (35 < en2))), .ref w]
        refine qv_put C (ws' := [oc w 2 [.ref wa, vi (b2 (decide (35 < en2)))], aj cJ wa 70 W2, oc g 1 [.ref b, vi ((fi2 : Nat) : Int), vi ((en2 : Nat) : Int)], aj cJ b 160 R2]) fl_Wrd_38 fs_2_1 0 rfl (nz_b2 _) (fz_b2 _) (Nat.le_of_ble_eq_true rfl) rfl dq_Wrd_load_102 ?_
        refine qv_vret C hR ?_ dq_Wrd_load_105 (by decide) (by decide)
        exact ⟨R2, fi2, en2, W2, decide (35 < en2), i, top, ts 1000000000 R2 35 125, rfl, ⟨y3, fun j a _ => y4 j a, by omega, by omega, WB_F y1.1, y5, decide_eq_true_iff.trans (WB_more y1 y2), y6, by omega⟩⟩
      · exfalso; omega
    | succ n ih =>
      intro i top W2 R2 fi2 en2 hin h33 y1 y2 y3 y4 y5 y6
      have y7 := y6.1
      have y8 := y1.2.2.2.1
      refine qv_iload_n C rfl dq_Wrd_load_45 ?_
      refine qv_bipush C (by decide) dq_Wrd_load_46 ?_
      refine qv_icge C (by omega) (by omega) (tgt := 97) (by decide) dq_Wrd_load_48 (fun h48 => ?_) (fun h48 => ?_)
      · exfalso; omega
      · skip
        refine qv_iload_n C rfl dq_Wrd_load_51 ?_
        refine qv_iload_n C rfl dq_Wrd_load_52 ?_
        refine qv_iconst C dq_Wrd_load_53 ?_
        refine qv_iadd C (r := (((top + 3) : Nat) : Int)) (by omega) dq_Wrd_load_54 ?_
        refine qv_icge C (by omega) (by omega) (tgt := 97) (by decide) dq_Wrd_load_55 (fun h55 => ?_) (fun h55 => ?_)
        · skip
          refine qv_aload_n C rfl dq_Wrd_load_97 ?_
          refine qv_aload_n C rfl dq_Wrd_load_98 ?_
          refine qc_vI (wr := [oc w 2 [.ref wa, vi (b2 hm)], aj cJ wa 70 W2]) (st := [.ref w]) C cl_Wrd_34 cd_Grp_hasSomethingBehindPoint (c_Grp_hasSomethingBehindPoint cI cJ g b fi2 en2 R2 y8) (Xok_t K) Xbl_t [2, 3] [0, 1] rfl rfl (by decide) (by decide) (by decide) 0 rfl rfl rfl rfl rfl (Nat.le_of_ble_eq_true rfl) (by decide) (by decide) dq_Wrd_load_99 (fun z u hu => ?_)
          obtain ⟨rfl, rfl⟩ := hu
          show V K 4 [oc w 2 [.ref wa, vi (b2 hm)], aj cJ wa 70 W2, oc g 1 [.ref b, vi ((fi2 : Nat) : Int), vi ((en2 : Nat) : Int)], aj cJ b 160 R2] 0 0 102 [(0, .ref w), (1, .ref g), (2, vi ((top : Nat) : Int)), (3, vi ((i : Nat) : Int))] [vi (b2 (decide (35 < en2))), .ref w]
          refine qv_put C (ws' := [oc w 2 [.ref wa, vi (b2 (decide (35 < en2)))], aj cJ wa 70 W2, oc g 1 [.ref b, vi ((fi2 : Nat) : Int), vi ((en2 : Nat) : Int)], aj cJ b 160 R2]) fl_Wrd_38 fs_2_1 0 rfl (nz_b2 _) (fz_b2 _) (Nat.le_of_ble_eq_true rfl) rfl dq_Wrd_load_102 ?_
          refine qv_vret C hR ?_ dq_Wrd_load_105 (by decide) (by decide)
          exact ⟨R2, fi2, en2, W2, decide (35 < en2), i, top, ts 1000000000 R2 35 125, rfl, ⟨y3, fun j a _ => y4 j a, by omega, by omega, WB_F y1.1, y5, decide_eq_true_iff.trans (WB_more y1 y2), y6, by omega⟩⟩
        · skip
          refine qv_aload_n C rfl dq_Wrd_load_58 ?_
          refine qv_get C fl_Wrd_11 0 rfl rfl dq_Wrd_load_59 ?_
          refine qv_iload_n C rfl dq_Wrd_load_62 ?_
          refine qv_aload_n C rfl dq_Wrd_load_63 ?_
          refine qv_bipush C (by decide) dq_Wrd_load_64 ?_
          refine qv_bipush C (by decide) dq_Wrd_load_66 ?_
          refine qc_vJ (wr := [oc w 2 [.ref wa, vi (b2 hm)], aj cJ wa 70 W2]) (st := [vi ((i : Nat) : Int), .ref wa]) C cl_Wrd_31 cd_Grp_multiply (c_Grp_multiply cI cJ g b fi2 en2 R2 35 32 y1 (by omega) (by omega)) (Xok_t K) Xbl_t [2, 3] [0, 1] rfl rfl (by decide) (by decide) (by decide) 0 rfl rfl rfl rfl rfl (Nat.le_of_ble_eq_true rfl) (by decide) (by decide) dq_Wrd_load_68 (fun z u hu => ?_)
          obtain ⟨R3, fi3, en3, o, rfl, rfl, hM⟩ := hu
          obtain ⟨m1, m2, m3, m4, m5, m6, m7⟩ := id hM
          have ho : o < 4294967296 := m7
          show V K 4 [oc w 2 [.ref wa, vi (b2 hm)], aj cJ wa 70 W2, oc g 1 [.ref b, vi ((fi3 : Nat) : Int), vi ((en3 : Nat) : Int)], aj cJ b 160 R3] 0 0 71 [(0, .ref w), (1, .ref g), (2, vi ((top : Nat) : Int)), (3, vi ((i : Nat) : Int))] [vj ((o : Nat) : Int), vi ((i : Nat) : Int), .ref wa]
          refine qv_last C (ws' := [oc w 2 [.ref wa, vi (b2 hm)], aj cJ wa 70 (un W2 i o), oc g 1 [.ref b, vi ((fi3 : Nat) : Int), vi ((en3 : Nat) : Int)], aj cJ b 160 R3]) 1 i o rfl (by omega) (by omega) (by omega) (by omega) rfl dq_Wrd_load_71 ?_
          refine qv_aload_n C rfl dq_Wrd_load_72 ?_
          refine qv_get C fl_Wrd_11 0 rfl rfl dq_Wrd_load_73 ?_
          refine qv_iload_n C rfl dq_Wrd_load_76 ?_
          refine qv_lald C 1 i rfl (by omega) (by omega) (by omega) dq_Wrd_load_77 ?_
          refine qv_tj (r := ((o : Nat) : Int)) (by rw [un_at]) ?_
          refine qv_lconst C (z := 0) (by decide) dq_Wrd_load_78 ?_
          refine qv_lcne C (by omega) (by omega) dq_Wrd_load_79 (tgt := 91) (by decide) dq_Wrd_load_80 (fun h79 => ?_) (fun h79 => ?_)
          · skip
            refine qv_iinc C (j := 3) (lv' := [(3, vi (((i + 1) : Nat) : Int)), (0, .ref w), (1, .ref g), (2, vi ((top : Nat) : Int))]) (by omega) rfl (by decide) rfl dq_Wrd_load_91 ?_
            refine qv_goto C (tgt := 45) (by decide) dq_Wrd_load_94 ?_
            refine qv_lv [1, 2, 3, 0] (lv' := [(0, .ref w), (1, .ref g), (2, vi ((top : Nat) : Int)), (3, vi (((i + 1) : Nat) : Int))]) rfl ?_
            refine qv_eq (ih (i + 1) top _ R3 fi3 en3 (by omega) (by omega) m1 m4 (un_lt y3 ho) (fun j hj => by rw [un_ne _ (by omega)]; exact y4 j (by omega)) (WB_s h33 y5 m6) (Tp_a y6 (Or.inr (by omega)))) rfl rfl rfl
          · skip
            refine qv_iload_n C rfl dq_Wrd_load_83 ?_
            refine qv_iload_n C rfl dq_Wrd_load_84 ?_
            refine qv_icne C (by omega) (by omega) (tgt := 91) (by decide) dq_Wrd_load_85 (fun h85 => ?_) (fun h85 => ?_)
            · skip
              refine qv_iinc C (j := 3) (lv' := [(3, vi (((i + 1) : Nat) : Int)), (0, .ref w), (1, .ref g), (2, vi ((top : Nat) : Int))]) (by omega) rfl (by decide) rfl dq_Wrd_load_91 ?_
              refine qv_goto C (tgt := 45) (by decide) dq_Wrd_load_94 ?_
              refine qv_lv [1, 2, 3, 0] (lv' := [(0, .ref w), (1, .ref g), (2, vi ((top : Nat) : Int)), (3, vi (((i + 1) : Nat) : Int))]) rfl ?_
              refine qv_eq (ih (i + 1) top _ R3 fi3 en3 (by omega) (by omega) m1 m4 (un_lt y3 ho) (fun j hj => by rw [un_ne _ (by omega)]; exact y4 j (by omega)) (WB_s h33 y5 m6) (Tp_a y6 (Or.inl (by omega)))) rfl rfl rfl
            · skip
              refine qv_iinc C (j := 2) (lv' := [(2, vi (((top + 1) : Nat) : Int)), (0, .ref w), (1, .ref g), (3, vi ((i : Nat) : Int))]) (by omega) rfl (by decide) rfl dq_Wrd_load_88 ?_
              refine qv_iinc C (j := 3) (lv' := [(3, vi (((i + 1) : Nat) : Int)), (2, vi (((top + 1) : Nat) : Int)), (0, .ref w), (1, .ref g)]) (by omega) rfl (by decide) rfl dq_Wrd_load_91 ?_
              refine qv_goto C (tgt := 45) (by decide) dq_Wrd_load_94 ?_
              refine qv_lv [2, 3, 1, 0] (lv' := [(0, .ref w), (1, .ref g), (2, vi (((top + 1) : Nat) : Int)), (3, vi (((i + 1) : Nat) : Int))]) rfl ?_
              refine qv_eq (ih (i + 1) (i + 1) _ R3 fi3 en3 (by omega) (by omega) m1 m4 (un_lt y3 ho) (fun j hj => by rw [un_ne _ (by omega)]; exact y4 j (by omega)) (WB_s h33 y5 m6) (by
                have e1 : top = i := by omega
                have e2 : o = 0 := by omega
                rw [e2]
                rw [e1] at y6
                exact Tp_b y6)) rfl (by
                have e1 : top = i := by omega
                rw [e1]) rfl
  have loopA : ∀ c (W2 R2 : Nat → Nat) (fi2 en2 : Nat), c ≤ 33 → Gd R2 fi2 en2 → LN R2 en2 → (∀ i, W2 i < 4294967296) → (∀ j, 33 ≤ j → W2 j = 0) → WA R R2 W2 c → (∀ j, 35 ≤ j → R2 j = R j) → V K 4 [oc w 2 [.ref wa, vi (b2 hm)], aj cJ wa 70 W2, oc g 1 [.ref b, vi ((fi2 : Nat) : Int), vi ((en2 : Nat) : Int)], aj cJ b 160 R2] 0 0 11 [(0, .ref w), (1, .ref g), (2, vi (((c : Nat) : Int) - 1))] [] := by
    intro c
    induction c with
    | zero =>
      intro W2 R2 fi2 en2 hc y1 y2 y3 y4 y5 y6
      obtain ⟨e1, e2⟩ := WA_e y5 hI
      refine qv_iload_n C rfl dq_Wrd_load_11 ?_
      refine qv_iflt C (by omega) (tgt := 35) (by decide) dq_Wrd_load_12 (fun h12 => ?_) (fun h12 => ?_)
      · skip
        refine qv_aload_n C rfl dq_Wrd_load_35 ?_
        refine qv_bipush C (by decide) dq_Wrd_load_36 ?_
        refine qc_vI (wr := [oc g 1 [.ref b, vi ((fi2 : Nat) : Int), vi ((en2 : Nat) : Int)], aj cJ b 160 R2]) (st := []) C cl_Wrd_27 cd_Wrd_firstThatIsNotZero (c_Wrd_firstThatIsNotZero cI cJ w wa hm W2 33 y3 (by omega)) (Xok_t K) Xbl_t [0, 1] [2, 3] rfl rfl (by decide) (by decide) (by decide) 0 rfl rfl rfl rfl rfl (Nat.le_of_ble_eq_true rfl) (by decide) (by decide) dq_Wrd_load_38 (fun z u hu => ?_)
        obtain ⟨top, rfl, hWf, rfl⟩ := hu
        show V K 4 [oc g 1 [.ref b, vi ((fi2 : Nat) : Int), vi ((en2 : Nat) : Int)], aj cJ b 160 R2, oc w 2 [.ref wa, vi (b2 hm)], aj cJ wa 70 W2] 0 0 41 [(0, .ref w), (1, .ref g), (2, vi (((0 : Nat) : Int) - 1))] [vi ((top : Nat) : Int)]
        refine qv_istore_n C (lv' := [(2, vi ((top : Nat) : Int)), (0, .ref w), (1, .ref g)]) (by decide) rfl dq_Wrd_load_41 ?_
        refine qv_bipush C (by decide) dq_Wrd_load_42 ?_
        refine qv_istore_n C (lv' := [(3, vi 33), (2, vi ((top : Nat) : Int)), (0, .ref w), (1, .ref g)]) (by decide) rfl dq_Wrd_load_44 ?_
        refine qv_ws [2, 3, 0, 1] (ws' := [oc w 2 [.ref wa, vi (b2 hm)], aj cJ wa 70 W2, oc g 1 [.ref b, vi ((fi2 : Nat) : Int), vi ((en2 : Nat) : Int)], aj cJ b 160 R2]) (by decide) rfl ?_
        refine qv_lv [2, 3, 1, 0] (lv' := [(0, .ref w), (1, .ref g), (2, vi ((top : Nat) : Int)), (3, vi 33)]) rfl ?_
        exact loopB 34 33 top W2 R2 fi2 en2 (by omega) (by omega) y1 y2 y3 y4 (WB_0 rfl e2 y6) hWf
      · exfalso; omega
    | succ c ih =>
      intro W2 R2 fi2 en2 hc y1 y2 y3 y4 y5 y6
      have et : (((c + 1 : Nat) : Int) - 1) = ((c : Nat) : Int) := by omega
      rw [et]
      refine qv_iload_n C rfl dq_Wrd_load_11 ?_
      refine qv_iflt C (by omega) (tgt := 35) (by decide) dq_Wrd_load_12 (fun h12 => ?_) (fun h12 => ?_)
      · exfalso; omega
      · skip
        refine qv_aload_n C rfl dq_Wrd_load_15 ?_
        refine qv_get C fl_Wrd_11 0 rfl rfl dq_Wrd_load_16 ?_
        refine qv_iload_n C rfl dq_Wrd_load_19 ?_
        refine qv_aload_n C rfl dq_Wrd_load_20 ?_
        refine qv_bipush C (by decide) dq_Wrd_load_21 ?_
        refine qv_bipush C (by decide) dq_Wrd_load_23 ?_
        refine qc_vJ (wr := [oc w 2 [.ref wa, vi (b2 hm)], aj cJ wa 70 W2]) (st := [vi ((c : Nat) : Int), .ref wa]) C cl_Wrd_23 cd_Grp_divide (c_Grp_divide cI cJ g b fi2 en2 R2 35 32 y1 (by omega) (by omega)) (Xok_t K) Xbl_t [2, 3] [0, 1] rfl rfl (by decide) (by decide) (by decide) 0 rfl rfl rfl rfl rfl (Nat.le_of_ble_eq_true rfl) (by decide) (by decide) dq_Wrd_load_25 (fun z u hu => ?_)
        obtain ⟨R3, fi3, en3, o, rfl, rfl, hM⟩ := hu
        obtain ⟨m1, m2, m3, m4, m5, m6, m7⟩ := id hM
        have ho : o < 4294967296 := m4
        show V K 4 [oc w 2 [.ref wa, vi (b2 hm)], aj cJ wa 70 W2, oc g 1 [.ref b, vi ((fi3 : Nat) : Int), vi ((en3 : Nat) : Int)], aj cJ b 160 R3] 0 0 28 [(0, .ref w), (1, .ref g), (2, vi ((c : Nat) : Int))] [vj ((o : Nat) : Int), vi ((c : Nat) : Int), .ref wa]
        refine qv_last C (ws' := [oc w 2 [.ref wa, vi (b2 hm)], aj cJ wa 70 (un W2 c o), oc g 1 [.ref b, vi ((fi3 : Nat) : Int), vi ((en3 : Nat) : Int)], aj cJ b 160 R3]) 1 c o rfl (by omega) (by omega) (by omega) (by omega) rfl dq_Wrd_load_28 ?_
        refine qv_iinc C (j := 2) (lv' := [(2, vi (((c : Nat) : Int) - 1)), (0, .ref w), (1, .ref g)]) (by omega) rfl (by decide) rfl dq_Wrd_load_29 ?_
        refine qv_goto C (tgt := 11) (by decide) dq_Wrd_load_32 ?_
        refine qv_lv [1, 2, 0] (lv' := [(0, .ref w), (1, .ref g), (2, vi (((c : Nat) : Int) - 1))]) rfl ?_
        exact ih _ R3 fi3 en3 (by omega) m1 (m7 y2 (Or.inl (by omega))) (un_lt y3 ho) (fun j hj => by rw [un_ne _ (by omega)]; exact y4 j hj) (WA_s (by omega) y5 m3) (fun j hj => by rw [m2 j hj]; exact y6 j hj)
  refine qv_aload_n C rfl dq_Wrd_load_0 ?_
  refine qv_get C fl_Wrd_11 0 rfl rfl dq_Wrd_load_1 ?_
  refine qv_lconst C (z := 0) (by decide) dq_Wrd_load_4 ?_
  refine qc_sV (wr := [oc w 2 [.ref wa, vi (b2 hm)], oc g 1 [.ref b, vi ((fi : Nat) : Int), vi ((en : Nat) : Int)], aj cJ b 160 R]) (st := []) C cl_Wrd_15 cd_JArr_fill (c_JArr_fill cI cJ wa 70 0 W (by omega)) (Xok_t K) Xbl_t [1] [0, 2, 3] rfl rfl (by decide) (by decide) (by decide) rfl rfl (Nat.le_of_ble_eq_true rfl) (by decide) (by decide) dq_Wrd_load_5 (fun u hu => ?_)
  obtain rfl := hu
  show V K 4 [oc w 2 [.ref wa, vi (b2 hm)], oc g 1 [.ref b, vi ((fi : Nat) : Int), vi ((en : Nat) : Int)], aj cJ b 160 R, aj cJ wa 70 (fun _ => 0)] 0 0 8 [(0, .ref w), (1, .ref g)] []
  refine qv_bipush C (by decide) dq_Wrd_load_8 ?_
  refine qv_istore_n C (lv' := [(2, vi 32), (0, .ref w), (1, .ref g)]) (by decide) rfl dq_Wrd_load_10 ?_
  refine qv_ws [0, 3, 1, 2] (ws' := [oc w 2 [.ref wa, vi (b2 hm)], aj cJ wa 70 (fun _ => 0), oc g 1 [.ref b, vi ((fi : Nat) : Int), vi ((en : Nat) : Int)], aj cJ b 160 R]) (by decide) rfl ?_
  refine qv_lv [1, 2, 0] (lv' := [(0, .ref w), (1, .ref g), (2, vi 32)]) rfl ?_
  exact loopA 33 (fun _ => 0) R fi en (by omega) hG hL (fun _ => by omega) (fun _ _ => rfl) (WA_0 R _) (fun _ _ => rfl)

theorem c_Wrd_roundHead (cI cJ : ClassId) (head : Nat) (more : Bool) (tb : Int) (hh1 : 9223372036854775808 ≤ head) (hh2 : head < 18446744073709551616) (ht1 : -1088 ≤ tb) (ht2 : tb ≤ 1023) : MtJ cI cJ ky_Wrd_roundHead kb_Wrd_roundHead 13 rm_Wrd_roundHead Xt [vj ((head : Nat) : Int), vi (b2 more), vi tb] [] (fun z u => Rh head more tb z ∧ u = []) := by
  refine MtJ_in (by decide) (Nat.le_of_ble_eq_true rfl) (fun K C hR hX hN => ?_)
  show V K 13 [] 0 0 0 [(0, vj ((head : Nat) : Int)), (2, vi (b2 more)), (3, vi tb)] []
  obtain ⟨P, hP⟩ : ∃ P : Int, P = max (tb - 52) (-1074) := ⟨_, rfl⟩
  by_cases hneg : tb - P + 1 < 0
  · skip
    refine qv_iload_n C rfl dq_Wrd_roundHead_0 ?_
    refine qv_bipush C (by decide) dq_Wrd_roundHead_1 ?_
    refine qv_isub C (r := (tb - 52)) rfl dq_Wrd_roundHead_3 ?_
    refine qv_sipush C (by decide) dq_Wrd_roundHead_4 ?_
    refine qv_mmax (r := P) C cl_Wrd_58 wm_max_s wm_init wm_max_c (by omega) (by omega) (by decide) (Nat.le_of_ble_eq_true rfl) (by decide) (by decide) (by omega) dq_Wrd_roundHead_7 ?_
    refine qv_istore C (lv' := [(4, vi P), (0, vj ((head : Nat) : Int)), (2, vi (b2 more)), (3, vi tb)]) (by decide) rfl dq_Wrd_roundHead_10 ?_
    refine qv_iload_n C rfl dq_Wrd_roundHead_12 ?_
    refine qv_iload C rfl dq_Wrd_roundHead_13 ?_
    refine qv_isub C (r := (tb - P)) rfl dq_Wrd_roundHead_15 ?_
    refine qv_iconst C dq_Wrd_roundHead_16 ?_
    refine qv_iadd C (r := (tb - P + 1)) rfl dq_Wrd_roundHead_17 ?_
    refine qv_istore C (lv' := [(5, vi (tb - P + 1)), (4, vi P), (0, vj ((head : Nat) : Int)), (2, vi (b2 more)), (3, vi tb)]) (by decide) rfl dq_Wrd_roundHead_18 ?_
    refine qv_iload C rfl dq_Wrd_roundHead_20 ?_
    refine qv_ifge C (by omega) (tgt := 27) (by decide) dq_Wrd_roundHead_22 (fun h22 => ?_) (fun h22 => ?_)
    · exfalso; omega
    · skip
      refine qv_lconst C (z := 0) (by decide) dq_Wrd_roundHead_25 ?_
      refine qv_lret C hR ?_ dq_Wrd_roundHead_26 (by decide) (by decide)
      exact ⟨Or.inl ⟨by omega, rfl⟩, rfl⟩
  · obtain ⟨b, hb⟩ : ∃ b : Nat, tb - P + 1 = (b : Int) := ⟨(tb - P + 1).toNat, by omega⟩
    obtain ⟨q, hq⟩ : ∃ q : Nat, P + 1074 = (q : Int) := ⟨(P + 1074).toNat, by omega⟩
    have hb53 : b ≤ 53 := by omega
    obtain ⟨hA, hB⟩ := hd_bits (head := head) (b := b) (by omega)
    obtain ⟨f, hf⟩ : ∃ f, f = head / 2 ^ (64 - b) := ⟨_, rfl⟩
    obtain ⟨h1, hh1e⟩ : ∃ x, x = head / 2 ^ (63 - b) % 2 := ⟨_, rfl⟩
    obtain ⟨lo, hlo⟩ : ∃ x, x = head % 2 ^ (63 - b) := ⟨_, rfl⟩
    have hf53 : f < 9007199254740992 := by
      rw [hf, Nat.div_lt_iff_lt_mul (Nat.pow_pos (by omega))]
      have e : (18446744073709551616 : Nat) = 2 ^ b * 2 ^ (64 - b) := by rw [← Nat.pow_add, show b + (64 - b) = 64 by omega]
      have e2 : 2 ^ b * 2 ^ (64 - b) ≤ 9007199254740992 * 2 ^ (64 - b) := Nat.mul_le_mul_right _ (Nat.le_trans (Nat.pow_le_pow_right (by omega) hb53) (by decide))
      omega
    obtain ⟨Y, hY⟩ : ∃ Y, Y = sj (head * 2 ^ b % 18446744073709551616) := ⟨_, rfl⟩
    obtain ⟨Y2, hY2⟩ : ∃ Y, Y = sj (head * 2 ^ b * 2 ^ 1 % 18446744073709551616) := ⟨_, rfl⟩
    have hYr : rj Y := by rw [hY]; exact sj_rj (Nat.mod_lt _ (by omega))
    have hY2r : rj Y2 := by rw [hY2]; exact sj_rj (Nat.mod_lt _ (by omega))
    have hYn : Y < 0 ↔ h1 = 1 := by rw [hY, hh1e, sj_neg (Nat.mod_lt _ (by omega))]; exact hA
    have hY20 : Y2 = 0 ↔ lo = 0 := by rw [hY2, hlo, sj_0 (Nat.mod_lt _ (by omega))]; exact hB
    have hh12 : h1 < 2 := by rw [hh1e]; omega
    have goal : ∀ (z : Int) (up : Bool), z = ((q * 4503599627370496 + f + (if up = true then 1 else 0) : Nat) : Int) → (up = true ↔ h1 = 1 ∧ (lo ≠ 0 ∨ more = true ∨ f % 2 = 1)) → Rh head more tb z := by
      intro z up e1 e2
      refine Or.inr ⟨b, q, up, by omega, by omega, ?_, ?_⟩
      · rw [e1, hf]
      · rw [e2, hf, hh1e, hlo]
    have hmo : b2 more = 0 → more = false := b2_f
    have hmo2 : b2 more ≠ 0 → more = true := b2_t
    refine qv_iload_n C rfl dq_Wrd_roundHead_0 ?_
    refine qv_bipush C (by decide) dq_Wrd_roundHead_1 ?_
    refine qv_isub C (r := (tb - 52)) rfl dq_Wrd_roundHead_3 ?_
    refine qv_sipush C (by decide) dq_Wrd_roundHead_4 ?_
    refine qv_mmax (r := P) C cl_Wrd_58 wm_max_s wm_init wm_max_c (by omega) (by omega) (by decide) (Nat.le_of_ble_eq_true rfl) (by decide) (by decide) (by omega) dq_Wrd_roundHead_7 ?_
    refine qv_istore C (lv' := [(4, vi P), (0, vj ((head : Nat) : Int)), (2, vi (b2 more)), (3, vi tb)]) (by decide) rfl dq_Wrd_roundHead_10 ?_
    refine qv_iload_n C rfl dq_Wrd_roundHead_12 ?_
    refine qv_iload C rfl dq_Wrd_roundHead_13 ?_
    refine qv_isub C (r := (tb - P)) rfl dq_Wrd_roundHead_15 ?_
    refine qv_iconst C dq_Wrd_roundHead_16 ?_
    refine qv_iadd C (r := ((b : Nat) : Int)) (by omega) dq_Wrd_roundHead_17 ?_
    refine qv_istore C (lv' := [(5, vi ((b : Nat) : Int)), (4, vi P), (0, vj ((head : Nat) : Int)), (2, vi (b2 more)), (3, vi tb)]) (by decide) rfl dq_Wrd_roundHead_18 ?_
    refine qv_iload C rfl dq_Wrd_roundHead_20 ?_
    refine qv_ifge C (by omega) (tgt := 27) (by decide) dq_Wrd_roundHead_22 (fun h22 => ?_) (fun h22 => ?_)
    · skip
      refine qv_iload C rfl dq_Wrd_roundHead_27 ?_
      refine qv_ifne C (by omega) (tgt := 36) (by decide) dq_Wrd_roundHead_29 (fun h29 => ?_) (fun h29 => ?_)
      · skip
        refine qv_lload_n C rfl dq_Wrd_roundHead_36 ?_
        refine qv_bipush C (by decide) dq_Wrd_roundHead_37 ?_
        refine qv_iload C rfl dq_Wrd_roundHead_39 ?_
        refine qv_isub C (r := (((64 - b) : Nat) : Int)) (by omega) dq_Wrd_roundHead_41 ?_
        refine qv_lushr C head (64 - b) (by omega) (by omega) (by omega) (by omega) dq_Wrd_roundHead_42 ?_
        refine qv_tj (r := ((f : Nat) : Int)) (by rw [hf]) ?_
        refine qv_lstore C (lv' := [(6, vj ((f : Nat) : Int)), (5, vi ((b : Nat) : Int)), (4, vi P), (0, vj ((head : Nat) : Int)), (2, vi (b2 more)), (3, vi tb)]) (by decide) rfl dq_Wrd_roundHead_43 ?_
        refine qv_lload_n C rfl dq_Wrd_roundHead_45 ?_
        refine qv_iload C rfl dq_Wrd_roundHead_46 ?_
        refine qv_lshl C head b (by omega) (by omega) (by omega) dq_Wrd_roundHead_48 ?_
        refine qv_lstore C (lv' := [(8, vj ((head * 2 ^ b : Nat) : Int)), (6, vj ((f : Nat) : Int)), (5, vi ((b : Nat) : Int)), (4, vi P), (0, vj ((head : Nat) : Int)), (2, vi (b2 more)), (3, vi tb)]) (by decide) rfl dq_Wrd_roundHead_49 ?_
        refine qv_lload C rfl dq_Wrd_roundHead_51 ?_
        refine qv_tjw (r := Y) (by rw [hY]; exact zj_sj _) ?_
        refine qv_lconst C (z := 0) (by decide) dq_Wrd_roundHead_53 ?_
        refine qv_lcge C (by omega) (by omega) dq_Wrd_roundHead_54 (tgt := 62) (by decide) dq_Wrd_roundHead_55 (fun h54 => ?_) (fun h54 => ?_)
        · skip
          refine qv_iconst C dq_Wrd_roundHead_62 ?_
          refine qv_istore C (lv' := [(10, vi 0), (8, vj ((head * 2 ^ b : Nat) : Int)), (6, vj ((f : Nat) : Int)), (5, vi ((b : Nat) : Int)), (4, vi P), (0, vj ((head : Nat) : Int)), (2, vi (b2 more)), (3, vi tb)]) (by decide) rfl dq_Wrd_roundHead_63 ?_
          refine qv_iload C rfl dq_Wrd_roundHead_65 ?_
          refine qv_ifeq C (by omega) (tgt := 87) (by decide) dq_Wrd_roundHead_67 (fun h67 => ?_) (fun h67 => ?_)
          · skip
            refine qv_iconst C dq_Wrd_roundHead_87 ?_
            refine qv_istore C (lv' := [(11, vi 0), (10, vi 0), (8, vj ((head * 2 ^ b : Nat) : Int)), (6, vj ((f : Nat) : Int)), (5, vi ((b : Nat) : Int)), (4, vi P), (0, vj ((head : Nat) : Int)), (2, vi (b2 more)), (3, vi tb)]) (by decide) rfl dq_Wrd_roundHead_88 ?_
            refine qv_iload C rfl dq_Wrd_roundHead_90 ?_
            refine qv_ifeq C (by omega) (tgt := 112) (by decide) dq_Wrd_roundHead_92 (fun h92 => ?_) (fun h92 => ?_)
            · skip
              refine qv_iload C rfl dq_Wrd_roundHead_112 ?_
              refine qv_istore C (lv' := [(12, vi 0), (11, vi 0), (10, vi 0), (8, vj ((head * 2 ^ b : Nat) : Int)), (6, vj ((f : Nat) : Int)), (5, vi ((b : Nat) : Int)), (4, vi P), (0, vj ((head : Nat) : Int)), (2, vi (b2 more)), (3, vi tb)]) (by decide) rfl dq_Wrd_roundHead_114 ?_
              refine qv_iload C rfl dq_Wrd_roundHead_116 ?_
              refine qv_sipush C (by decide) dq_Wrd_roundHead_118 ?_
              refine qv_isub C (r := ((q : Nat) : Int)) (by omega) dq_Wrd_roundHead_121 ?_
              refine qv_i2l C (by omega) dq_Wrd_roundHead_122 ?_
              refine qv_bipush C (by decide) dq_Wrd_roundHead_123 ?_
              refine qv_lshl C q 52 (by omega) (by omega) (by omega) dq_Wrd_roundHead_125 ?_
              refine qv_lload C rfl dq_Wrd_roundHead_126 ?_
              refine qv_ladd C (r := (((q * 2 ^ 52 + f) : Nat) : Int)) (by omega) dq_Wrd_roundHead_128 ?_
              refine qv_iload C rfl dq_Wrd_roundHead_129 ?_
              refine qv_ifeq C (by omega) (tgt := 138) (by decide) dq_Wrd_roundHead_131 (fun h131 => ?_) (fun h131 => ?_)
              · skip
                refine qv_iconst C dq_Wrd_roundHead_138 ?_
                refine qv_i2l C (by omega) dq_Wrd_roundHead_139 ?_
                refine qv_ladd C (r := (((q * 2 ^ 52 + f) : Nat) : Int)) (by omega) dq_Wrd_roundHead_140 ?_
                refine qv_lret C hR ?_ dq_Wrd_roundHead_141 (by decide) (by decide)
                refine ⟨goal _ false (by simp) ⟨fun q => (by cases q), fun q => ?_⟩, rfl⟩
                exfalso
                omega
              · exfalso; omega
            · exfalso; omega
          · exfalso; omega
        · skip
          refine qv_iconst C dq_Wrd_roundHead_58 ?_
          refine qv_goto C (tgt := 63) (by decide) dq_Wrd_roundHead_59 ?_
          refine qv_istore C (lv' := [(10, vi 1), (8, vj ((head * 2 ^ b : Nat) : Int)), (6, vj ((f : Nat) : Int)), (5, vi ((b : Nat) : Int)), (4, vi P), (0, vj ((head : Nat) : Int)), (2, vi (b2 more)), (3, vi tb)]) (by decide) rfl dq_Wrd_roundHead_63 ?_
          refine qv_iload C rfl dq_Wrd_roundHead_65 ?_
          refine qv_ifeq C (by omega) (tgt := 87) (by decide) dq_Wrd_roundHead_67 (fun h67 => ?_) (fun h67 => ?_)
          · exfalso; omega
          · skip
            refine qv_lload C rfl dq_Wrd_roundHead_70 ?_
            refine qv_iconst C dq_Wrd_roundHead_72 ?_
            refine qv_lshl C (head * 2 ^ b) 1 (by omega) (by omega) (by omega) dq_Wrd_roundHead_73 ?_
            refine qv_tjw (r := Y2) (by rw [hY2]; exact zj_sj _) ?_
            refine qv_lconst C (z := 0) (by decide) dq_Wrd_roundHead_74 ?_
            refine qv_lcne C (by omega) (by omega) dq_Wrd_roundHead_75 (tgt := 87) (by decide) dq_Wrd_roundHead_76 (fun h75 => ?_) (fun h75 => ?_)
            · skip
              refine qv_iconst C dq_Wrd_roundHead_87 ?_
              refine qv_istore C (lv' := [(11, vi 0), (10, vi 1), (8, vj ((head * 2 ^ b : Nat) : Int)), (6, vj ((f : Nat) : Int)), (5, vi ((b : Nat) : Int)), (4, vi P), (0, vj ((head : Nat) : Int)), (2, vi (b2 more)), (3, vi tb)]) (by decide) rfl dq_Wrd_roundHead_88 ?_
              refine qv_iload C rfl dq_Wrd_roundHead_90 ?_
              refine qv_ifeq C (by omega) (tgt := 112) (by decide) dq_Wrd_roundHead_92 (fun h92 => ?_) (fun h92 => ?_)
              · skip
                refine qv_iload C rfl dq_Wrd_roundHead_112 ?_
                refine qv_istore C (lv' := [(12, vi 1), (11, vi 0), (10, vi 1), (8, vj ((head * 2 ^ b : Nat) : Int)), (6, vj ((f : Nat) : Int)), (5, vi ((b : Nat) : Int)), (4, vi P), (0, vj ((head : Nat) : Int)), (2, vi (b2 more)), (3, vi tb)]) (by decide) rfl dq_Wrd_roundHead_114 ?_
                refine qv_iload C rfl dq_Wrd_roundHead_116 ?_
                refine qv_sipush C (by decide) dq_Wrd_roundHead_118 ?_
                refine qv_isub C (r := ((q : Nat) : Int)) (by omega) dq_Wrd_roundHead_121 ?_
                refine qv_i2l C (by omega) dq_Wrd_roundHead_122 ?_
                refine qv_bipush C (by decide) dq_Wrd_roundHead_123 ?_
                refine qv_lshl C q 52 (by omega) (by omega) (by omega) dq_Wrd_roundHead_125 ?_
                refine qv_lload C rfl dq_Wrd_roundHead_126 ?_
                refine qv_ladd C (r := (((q * 2 ^ 52 + f) : Nat) : Int)) (by omega) dq_Wrd_roundHead_128 ?_
                refine qv_iload C rfl dq_Wrd_roundHead_129 ?_
                refine qv_ifeq C (by omega) (tgt := 138) (by decide) dq_Wrd_roundHead_131 (fun h131 => ?_) (fun h131 => ?_)
                · exfalso; omega
                · skip
                  refine qv_iconst C dq_Wrd_roundHead_134 ?_
                  refine qv_goto C (tgt := 139) (by decide) dq_Wrd_roundHead_135 ?_
                  refine qv_i2l C (by omega) dq_Wrd_roundHead_139 ?_
                  refine qv_ladd C (r := ((((q * 2 ^ 52 + f) + 1) : Nat) : Int)) (by omega) dq_Wrd_roundHead_140 ?_
                  refine qv_lret C hR ?_ dq_Wrd_roundHead_141 (by decide) (by decide)
                  refine ⟨goal _ true (by simp) ⟨fun _ => ⟨by omega, ?_⟩, fun _ => rfl⟩, rfl⟩
                  first | exact Or.inl (by omega) | exact Or.inr (Or.inr (by omega))
              · exfalso; omega
            · skip
              refine qv_iload_n C rfl dq_Wrd_roundHead_79 ?_
              refine qv_ifne C (rb_b2 more) (tgt := 87) (by decide) dq_Wrd_roundHead_80 (fun h80 => ?_) (fun h80 => ?_)
              · skip
                refine qv_iconst C dq_Wrd_roundHead_87 ?_
                refine qv_istore C (lv' := [(11, vi 0), (10, vi 1), (8, vj ((head * 2 ^ b : Nat) : Int)), (6, vj ((f : Nat) : Int)), (5, vi ((b : Nat) : Int)), (4, vi P), (0, vj ((head : Nat) : Int)), (2, vi (b2 more)), (3, vi tb)]) (by decide) rfl dq_Wrd_roundHead_88 ?_
                refine qv_iload C rfl dq_Wrd_roundHead_90 ?_
                refine qv_ifeq C (by omega) (tgt := 112) (by decide) dq_Wrd_roundHead_92 (fun h92 => ?_) (fun h92 => ?_)
                · skip
                  refine qv_iload C rfl dq_Wrd_roundHead_112 ?_
                  refine qv_istore C (lv' := [(12, vi 1), (11, vi 0), (10, vi 1), (8, vj ((head * 2 ^ b : Nat) : Int)), (6, vj ((f : Nat) : Int)), (5, vi ((b : Nat) : Int)), (4, vi P), (0, vj ((head : Nat) : Int)), (2, vi (b2 more)), (3, vi tb)]) (by decide) rfl dq_Wrd_roundHead_114 ?_
                  refine qv_iload C rfl dq_Wrd_roundHead_116 ?_
                  refine qv_sipush C (by decide) dq_Wrd_roundHead_118 ?_
                  refine qv_isub C (r := ((q : Nat) : Int)) (by omega) dq_Wrd_roundHead_121 ?_
                  refine qv_i2l C (by omega) dq_Wrd_roundHead_122 ?_
                  refine qv_bipush C (by decide) dq_Wrd_roundHead_123 ?_
                  refine qv_lshl C q 52 (by omega) (by omega) (by omega) dq_Wrd_roundHead_125 ?_
                  refine qv_lload C rfl dq_Wrd_roundHead_126 ?_
                  refine qv_ladd C (r := (((q * 2 ^ 52 + f) : Nat) : Int)) (by omega) dq_Wrd_roundHead_128 ?_
                  refine qv_iload C rfl dq_Wrd_roundHead_129 ?_
                  refine qv_ifeq C (by omega) (tgt := 138) (by decide) dq_Wrd_roundHead_131 (fun h131 => ?_) (fun h131 => ?_)
                  · exfalso; omega
                  · skip
                    refine qv_iconst C dq_Wrd_roundHead_134 ?_
                    refine qv_goto C (tgt := 139) (by decide) dq_Wrd_roundHead_135 ?_
                    refine qv_i2l C (by omega) dq_Wrd_roundHead_139 ?_
                    refine qv_ladd C (r := ((((q * 2 ^ 52 + f) + 1) : Nat) : Int)) (by omega) dq_Wrd_roundHead_140 ?_
                    refine qv_lret C hR ?_ dq_Wrd_roundHead_141 (by decide) (by decide)
                    have em := hmo2 h80
                    refine ⟨goal _ true (by simp) ⟨fun _ => ⟨by omega, ?_⟩, fun _ => rfl⟩, rfl⟩
                    exact Or.inr (Or.inl em)
                · exfalso; omega
              · skip
                refine qv_iconst C dq_Wrd_roundHead_83 ?_
                refine qv_goto C (tgt := 88) (by decide) dq_Wrd_roundHead_84 ?_
                refine qv_istore C (lv' := [(11, vi 1), (10, vi 1), (8, vj ((head * 2 ^ b : Nat) : Int)), (6, vj ((f : Nat) : Int)), (5, vi ((b : Nat) : Int)), (4, vi P), (0, vj ((head : Nat) : Int)), (2, vi (b2 more)), (3, vi tb)]) (by decide) rfl dq_Wrd_roundHead_88 ?_
                refine qv_iload C rfl dq_Wrd_roundHead_90 ?_
                refine qv_ifeq C (by omega) (tgt := 112) (by decide) dq_Wrd_roundHead_92 (fun h92 => ?_) (fun h92 => ?_)
                · exfalso; omega
                · skip
                  refine qv_lload C rfl dq_Wrd_roundHead_95 ?_
                  refine qv_lconst C (z := 1) (by decide) dq_Wrd_roundHead_97 ?_
                  refine qv_land C (r := (((f % 2) : Nat) : Int)) (zj_and (a := f) (b := 1) (by omega)) dq_Wrd_roundHead_98 ?_
                  refine qv_lconst C (z := 1) (by decide) dq_Wrd_roundHead_99 ?_
                  refine qv_lcne C (by omega) (by omega) dq_Wrd_roundHead_100 (tgt := 108) (by decide) dq_Wrd_roundHead_101 (fun h100 => ?_) (fun h100 => ?_)
                  · skip
                    refine qv_iconst C dq_Wrd_roundHead_108 ?_
                    refine qv_goto C (tgt := 114) (by decide) dq_Wrd_roundHead_109 ?_
                    refine qv_istore C (lv' := [(12, vi 0), (11, vi 1), (10, vi 1), (8, vj ((head * 2 ^ b : Nat) : Int)), (6, vj ((f : Nat) : Int)), (5, vi ((b : Nat) : Int)), (4, vi P), (0, vj ((head : Nat) : Int)), (2, vi (b2 more)), (3, vi tb)]) (by decide) rfl dq_Wrd_roundHead_114 ?_
                    refine qv_iload C rfl dq_Wrd_roundHead_116 ?_
                    refine qv_sipush C (by decide) dq_Wrd_roundHead_118 ?_
                    refine qv_isub C (r := ((q : Nat) : Int)) (by omega) dq_Wrd_roundHead_121 ?_
                    refine qv_i2l C (by omega) dq_Wrd_roundHead_122 ?_
                    refine qv_bipush C (by decide) dq_Wrd_roundHead_123 ?_
                    refine qv_lshl C q 52 (by omega) (by omega) (by omega) dq_Wrd_roundHead_125 ?_
                    refine qv_lload C rfl dq_Wrd_roundHead_126 ?_
                    refine qv_ladd C (r := (((q * 2 ^ 52 + f) : Nat) : Int)) (by omega) dq_Wrd_roundHead_128 ?_
                    refine qv_iload C rfl dq_Wrd_roundHead_129 ?_
                    refine qv_ifeq C (by omega) (tgt := 138) (by decide) dq_Wrd_roundHead_131 (fun h131 => ?_) (fun h131 => ?_)
                    · skip
                      refine qv_iconst C dq_Wrd_roundHead_138 ?_
                      refine qv_i2l C (by omega) dq_Wrd_roundHead_139 ?_
                      refine qv_ladd C (r := (((q * 2 ^ 52 + f) : Nat) : Int)) (by omega) dq_Wrd_roundHead_140 ?_
                      refine qv_lret C hR ?_ dq_Wrd_roundHead_141 (by decide) (by decide)
                      have em := hmo h80
                      refine ⟨goal _ false (by simp) ⟨fun q => (by cases q), fun q => ?_⟩, rfl⟩
                      exfalso
                      rcases q with ⟨q1, q2 | q2 | q2⟩ <;> first | omega | (rw [em] at q2; cases q2)
                    · exfalso; omega
                  · skip
                    refine qv_iconst C dq_Wrd_roundHead_104 ?_
                    refine qv_goto C (tgt := 114) (by decide) dq_Wrd_roundHead_105 ?_
                    refine qv_istore C (lv' := [(12, vi 1), (11, vi 1), (10, vi 1), (8, vj ((head * 2 ^ b : Nat) : Int)), (6, vj ((f : Nat) : Int)), (5, vi ((b : Nat) : Int)), (4, vi P), (0, vj ((head : Nat) : Int)), (2, vi (b2 more)), (3, vi tb)]) (by decide) rfl dq_Wrd_roundHead_114 ?_
                    refine qv_iload C rfl dq_Wrd_roundHead_116 ?_
                    refine qv_sipush C (by decide) dq_Wrd_roundHead_118 ?_
                    refine qv_isub C (r := ((q : Nat) : Int)) (by omega) dq_Wrd_roundHead_121 ?_
                    refine qv_i2l C (by omega) dq_Wrd_roundHead_122 ?_
                    refine qv_bipush C (by decide) dq_Wrd_roundHead_123 ?_
                    refine qv_lshl C q 52 (by omega) (by omega) (by omega) dq_Wrd_roundHead_125 ?_
                    refine qv_lload C rfl dq_Wrd_roundHead_126 ?_
                    refine qv_ladd C (r := (((q * 2 ^ 52 + f) : Nat) : Int)) (by omega) dq_Wrd_roundHead_128 ?_
                    refine qv_iload C rfl dq_Wrd_roundHead_129 ?_
                    refine qv_ifeq C (by omega) (tgt := 138) (by decide) dq_Wrd_roundHead_131 (fun h131 => ?_) (fun h131 => ?_)
                    · exfalso; omega
                    · skip
                      refine qv_iconst C dq_Wrd_roundHead_134 ?_
                      refine qv_goto C (tgt := 139) (by decide) dq_Wrd_roundHead_135 ?_
                      refine qv_i2l C (by omega) dq_Wrd_roundHead_139 ?_
                      refine qv_ladd C (r := ((((q * 2 ^ 52 + f) + 1) : Nat) : Int)) (by omega) dq_Wrd_roundHead_140 ?_
                      refine qv_lret C hR ?_ dq_Wrd_roundHead_141 (by decide) (by decide)
                      have em := hmo h80
                      refine ⟨goal _ true (by simp) ⟨fun _ => ⟨by omega, ?_⟩, fun _ => rfl⟩, rfl⟩
                      first | exact Or.inl (by omega) | exact Or.inr (Or.inr (by omega))
      · skip
        refine qv_lconst C (z := 0) (by decide) dq_Wrd_roundHead_32 ?_
        refine qv_goto C (tgt := 43) (by decide) dq_Wrd_roundHead_33 ?_
        refine qv_tj (r := ((f : Nat) : Int)) (by
          have e0 : b = 0 := by omega
          rw [hf, e0, Nat.div_eq_of_lt (by rw [Nat.sub_zero]; exact hh2)]; rfl) ?_
        refine qv_lstore C (lv' := [(6, vj ((f : Nat) : Int)), (5, vi ((b : Nat) : Int)), (4, vi P), (0, vj ((head : Nat) : Int)), (2, vi (b2 more)), (3, vi tb)]) (by decide) rfl dq_Wrd_roundHead_43 ?_
        refine qv_lload_n C rfl dq_Wrd_roundHead_45 ?_
        refine qv_iload C rfl dq_Wrd_roundHead_46 ?_
        refine qv_lshl C head b (by omega) (by omega) (by omega) dq_Wrd_roundHead_48 ?_
        refine qv_lstore C (lv' := [(8, vj ((head * 2 ^ b : Nat) : Int)), (6, vj ((f : Nat) : Int)), (5, vi ((b : Nat) : Int)), (4, vi P), (0, vj ((head : Nat) : Int)), (2, vi (b2 more)), (3, vi tb)]) (by decide) rfl dq_Wrd_roundHead_49 ?_
        refine qv_lload C rfl dq_Wrd_roundHead_51 ?_
        refine qv_tjw (r := Y) (by rw [hY]; exact zj_sj _) ?_
        refine qv_lconst C (z := 0) (by decide) dq_Wrd_roundHead_53 ?_
        refine qv_lcge C (by omega) (by omega) dq_Wrd_roundHead_54 (tgt := 62) (by decide) dq_Wrd_roundHead_55 (fun h54 => ?_) (fun h54 => ?_)
        · skip
          refine qv_iconst C dq_Wrd_roundHead_62 ?_
          refine qv_istore C (lv' := [(10, vi 0), (8, vj ((head * 2 ^ b : Nat) : Int)), (6, vj ((f : Nat) : Int)), (5, vi ((b : Nat) : Int)), (4, vi P), (0, vj ((head : Nat) : Int)), (2, vi (b2 more)), (3, vi tb)]) (by decide) rfl dq_Wrd_roundHead_63 ?_
          refine qv_iload C rfl dq_Wrd_roundHead_65 ?_
          refine qv_ifeq C (by omega) (tgt := 87) (by decide) dq_Wrd_roundHead_67 (fun h67 => ?_) (fun h67 => ?_)
          · skip
            refine qv_iconst C dq_Wrd_roundHead_87 ?_
            refine qv_istore C (lv' := [(11, vi 0), (10, vi 0), (8, vj ((head * 2 ^ b : Nat) : Int)), (6, vj ((f : Nat) : Int)), (5, vi ((b : Nat) : Int)), (4, vi P), (0, vj ((head : Nat) : Int)), (2, vi (b2 more)), (3, vi tb)]) (by decide) rfl dq_Wrd_roundHead_88 ?_
            refine qv_iload C rfl dq_Wrd_roundHead_90 ?_
            refine qv_ifeq C (by omega) (tgt := 112) (by decide) dq_Wrd_roundHead_92 (fun h92 => ?_) (fun h92 => ?_)
            · skip
              refine qv_iload C rfl dq_Wrd_roundHead_112 ?_
              refine qv_istore C (lv' := [(12, vi 0), (11, vi 0), (10, vi 0), (8, vj ((head * 2 ^ b : Nat) : Int)), (6, vj ((f : Nat) : Int)), (5, vi ((b : Nat) : Int)), (4, vi P), (0, vj ((head : Nat) : Int)), (2, vi (b2 more)), (3, vi tb)]) (by decide) rfl dq_Wrd_roundHead_114 ?_
              refine qv_iload C rfl dq_Wrd_roundHead_116 ?_
              refine qv_sipush C (by decide) dq_Wrd_roundHead_118 ?_
              refine qv_isub C (r := ((q : Nat) : Int)) (by omega) dq_Wrd_roundHead_121 ?_
              refine qv_i2l C (by omega) dq_Wrd_roundHead_122 ?_
              refine qv_bipush C (by decide) dq_Wrd_roundHead_123 ?_
              refine qv_lshl C q 52 (by omega) (by omega) (by omega) dq_Wrd_roundHead_125 ?_
              refine qv_lload C rfl dq_Wrd_roundHead_126 ?_
              refine qv_ladd C (r := (((q * 2 ^ 52 + f) : Nat) : Int)) (by omega) dq_Wrd_roundHead_128 ?_
              refine qv_iload C rfl dq_Wrd_roundHead_129 ?_
              refine qv_ifeq C (by omega) (tgt := 138) (by decide) dq_Wrd_roundHead_131 (fun h131 => ?_) (fun h131 => ?_)
              · skip
                refine qv_iconst C dq_Wrd_roundHead_138 ?_
                refine qv_i2l C (by omega) dq_Wrd_roundHead_139 ?_
                refine qv_ladd C (r := (((q * 2 ^ 52 + f) : Nat) : Int)) (by omega) dq_Wrd_roundHead_140 ?_
                refine qv_lret C hR ?_ dq_Wrd_roundHead_141 (by decide) (by decide)
                refine ⟨goal _ false (by simp) ⟨fun q => (by cases q), fun q => ?_⟩, rfl⟩
                exfalso
                omega
              · exfalso; omega
            · exfalso; omega
          · exfalso; omega
        · skip
          refine qv_iconst C dq_Wrd_roundHead_58 ?_
          refine qv_goto C (tgt := 63) (by decide) dq_Wrd_roundHead_59 ?_
          refine qv_istore C (lv' := [(10, vi 1), (8, vj ((head * 2 ^ b : Nat) : Int)), (6, vj ((f : Nat) : Int)), (5, vi ((b : Nat) : Int)), (4, vi P), (0, vj ((head : Nat) : Int)), (2, vi (b2 more)), (3, vi tb)]) (by decide) rfl dq_Wrd_roundHead_63 ?_
          refine qv_iload C rfl dq_Wrd_roundHead_65 ?_
          refine qv_ifeq C (by omega) (tgt := 87) (by decide) dq_Wrd_roundHead_67 (fun h67 => ?_) (fun h67 => ?_)
          · exfalso; omega
          · skip
            refine qv_lload C rfl dq_Wrd_roundHead_70 ?_
            refine qv_iconst C dq_Wrd_roundHead_72 ?_
            refine qv_lshl C (head * 2 ^ b) 1 (by omega) (by omega) (by omega) dq_Wrd_roundHead_73 ?_
            refine qv_tjw (r := Y2) (by rw [hY2]; exact zj_sj _) ?_
            refine qv_lconst C (z := 0) (by decide) dq_Wrd_roundHead_74 ?_
            refine qv_lcne C (by omega) (by omega) dq_Wrd_roundHead_75 (tgt := 87) (by decide) dq_Wrd_roundHead_76 (fun h75 => ?_) (fun h75 => ?_)
            · skip
              refine qv_iconst C dq_Wrd_roundHead_87 ?_
              refine qv_istore C (lv' := [(11, vi 0), (10, vi 1), (8, vj ((head * 2 ^ b : Nat) : Int)), (6, vj ((f : Nat) : Int)), (5, vi ((b : Nat) : Int)), (4, vi P), (0, vj ((head : Nat) : Int)), (2, vi (b2 more)), (3, vi tb)]) (by decide) rfl dq_Wrd_roundHead_88 ?_
              refine qv_iload C rfl dq_Wrd_roundHead_90 ?_
              refine qv_ifeq C (by omega) (tgt := 112) (by decide) dq_Wrd_roundHead_92 (fun h92 => ?_) (fun h92 => ?_)
              · skip
                refine qv_iload C rfl dq_Wrd_roundHead_112 ?_
                refine qv_istore C (lv' := [(12, vi 1), (11, vi 0), (10, vi 1), (8, vj ((head * 2 ^ b : Nat) : Int)), (6, vj ((f : Nat) : Int)), (5, vi ((b : Nat) : Int)), (4, vi P), (0, vj ((head : Nat) : Int)), (2, vi (b2 more)), (3, vi tb)]) (by decide) rfl dq_Wrd_roundHead_114 ?_
                refine qv_iload C rfl dq_Wrd_roundHead_116 ?_
                refine qv_sipush C (by decide) dq_Wrd_roundHead_118 ?_
                refine qv_isub C (r := ((q : Nat) : Int)) (by omega) dq_Wrd_roundHead_121 ?_
                refine qv_i2l C (by omega) dq_Wrd_roundHead_122 ?_
                refine qv_bipush C (by decide) dq_Wrd_roundHead_123 ?_
                refine qv_lshl C q 52 (by omega) (by omega) (by omega) dq_Wrd_roundHead_125 ?_
                refine qv_lload C rfl dq_Wrd_roundHead_126 ?_
                refine qv_ladd C (r := (((q * 2 ^ 52 + f) : Nat) : Int)) (by omega) dq_Wrd_roundHead_128 ?_
                refine qv_iload C rfl dq_Wrd_roundHead_129 ?_
                refine qv_ifeq C (by omega) (tgt := 138) (by decide) dq_Wrd_roundHead_131 (fun h131 => ?_) (fun h131 => ?_)
                · exfalso; omega
                · skip
                  refine qv_iconst C dq_Wrd_roundHead_134 ?_
                  refine qv_goto C (tgt := 139) (by decide) dq_Wrd_roundHead_135 ?_
                  refine qv_i2l C (by omega) dq_Wrd_roundHead_139 ?_
                  refine qv_ladd C (r := ((((q * 2 ^ 52 + f) + 1) : Nat) : Int)) (by omega) dq_Wrd_roundHead_140 ?_
                  refine qv_lret C hR ?_ dq_Wrd_roundHead_141 (by decide) (by decide)
                  refine ⟨goal _ true (by simp) ⟨fun _ => ⟨by omega, ?_⟩, fun _ => rfl⟩, rfl⟩
                  first | exact Or.inl (by omega) | exact Or.inr (Or.inr (by omega))
              · exfalso; omega
            · skip
              refine qv_iload_n C rfl dq_Wrd_roundHead_79 ?_
              refine qv_ifne C (rb_b2 more) (tgt := 87) (by decide) dq_Wrd_roundHead_80 (fun h80 => ?_) (fun h80 => ?_)
              · skip
                refine qv_iconst C dq_Wrd_roundHead_87 ?_
                refine qv_istore C (lv' := [(11, vi 0), (10, vi 1), (8, vj ((head * 2 ^ b : Nat) : Int)), (6, vj ((f : Nat) : Int)), (5, vi ((b : Nat) : Int)), (4, vi P), (0, vj ((head : Nat) : Int)), (2, vi (b2 more)), (3, vi tb)]) (by decide) rfl dq_Wrd_roundHead_88 ?_
                refine qv_iload C rfl dq_Wrd_roundHead_90 ?_
                refine qv_ifeq C (by omega) (tgt := 112) (by decide) dq_Wrd_roundHead_92 (fun h92 => ?_) (fun h92 => ?_)
                · skip
                  refine qv_iload C rfl dq_Wrd_roundHead_112 ?_
                  refine qv_istore C (lv' := [(12, vi 1), (11, vi 0), (10, vi 1), (8, vj ((head * 2 ^ b : Nat) : Int)), (6, vj ((f : Nat) : Int)), (5, vi ((b : Nat) : Int)), (4, vi P), (0, vj ((head : Nat) : Int)), (2, vi (b2 more)), (3, vi tb)]) (by decide) rfl dq_Wrd_roundHead_114 ?_
                  refine qv_iload C rfl dq_Wrd_roundHead_116 ?_
                  refine qv_sipush C (by decide) dq_Wrd_roundHead_118 ?_
                  refine qv_isub C (r := ((q : Nat) : Int)) (by omega) dq_Wrd_roundHead_121 ?_
                  refine qv_i2l C (by omega) dq_Wrd_roundHead_122 ?_
                  refine qv_bipush C (by decide) dq_Wrd_roundHead_123 ?_
                  refine qv_lshl C q 52 (by omega) (by omega) (by omega) dq_Wrd_roundHead_125 ?_
                  refine qv_lload C rfl dq_Wrd_roundHead_126 ?_
                  refine qv_ladd C (r := (((q * 2 ^ 52 + f) : Nat) : Int)) (by omega) dq_Wrd_roundHead_128 ?_
                  refine qv_iload C rfl dq_Wrd_roundHead_129 ?_
                  refine qv_ifeq C (by omega) (tgt := 138) (by decide) dq_Wrd_roundHead_131 (fun h131 => ?_) (fun h131 => ?_)
                  · exfalso; omega
                  · skip
                    refine qv_iconst C dq_Wrd_roundHead_134 ?_
                    refine qv_goto C (tgt := 139) (by decide) dq_Wrd_roundHead_135 ?_
                    refine qv_i2l C (by omega) dq_Wrd_roundHead_139 ?_
                    refine qv_ladd C (r := ((((q * 2 ^ 52 + f) + 1) : Nat) : Int)) (by omega) dq_Wrd_roundHead_140 ?_
                    refine qv_lret C hR ?_ dq_Wrd_roundHead_141 (by decide) (by decide)
                    have em := hmo2 h80
                    refine ⟨goal _ true (by simp) ⟨fun _ => ⟨by omega, ?_⟩, fun _ => rfl⟩, rfl⟩
                    exact Or.inr (Or.inl em)
                · exfalso; omega
              · skip
                refine qv_iconst C dq_Wrd_roundHead_83 ?_
                refine qv_goto C (tgt := 88) (by decide) dq_Wrd_roundHead_84 ?_
                refine qv_istore C (lv' := [(11, vi 1), (10, vi 1), (8, vj ((head * 2 ^ b : Nat) : Int)), (6, vj ((f : Nat) : Int)), (5, vi ((b : Nat) : Int)), (4, vi P), (0, vj ((head : Nat) : Int)), (2, vi (b2 more)), (3, vi tb)]) (by decide) rfl dq_Wrd_roundHead_88 ?_
                refine qv_iload C rfl dq_Wrd_roundHead_90 ?_
                refine qv_ifeq C (by omega) (tgt := 112) (by decide) dq_Wrd_roundHead_92 (fun h92 => ?_) (fun h92 => ?_)
                · exfalso; omega
                · skip
                  refine qv_lload C rfl dq_Wrd_roundHead_95 ?_
                  refine qv_lconst C (z := 1) (by decide) dq_Wrd_roundHead_97 ?_
                  refine qv_land C (r := (((f % 2) : Nat) : Int)) (zj_and (a := f) (b := 1) (by omega)) dq_Wrd_roundHead_98 ?_
                  refine qv_lconst C (z := 1) (by decide) dq_Wrd_roundHead_99 ?_
                  refine qv_lcne C (by omega) (by omega) dq_Wrd_roundHead_100 (tgt := 108) (by decide) dq_Wrd_roundHead_101 (fun h100 => ?_) (fun h100 => ?_)
                  · skip
                    refine qv_iconst C dq_Wrd_roundHead_108 ?_
                    refine qv_goto C (tgt := 114) (by decide) dq_Wrd_roundHead_109 ?_
                    refine qv_istore C (lv' := [(12, vi 0), (11, vi 1), (10, vi 1), (8, vj ((head * 2 ^ b : Nat) : Int)), (6, vj ((f : Nat) : Int)), (5, vi ((b : Nat) : Int)), (4, vi P), (0, vj ((head : Nat) : Int)), (2, vi (b2 more)), (3, vi tb)]) (by decide) rfl dq_Wrd_roundHead_114 ?_
                    refine qv_iload C rfl dq_Wrd_roundHead_116 ?_
                    refine qv_sipush C (by decide) dq_Wrd_roundHead_118 ?_
                    refine qv_isub C (r := ((q : Nat) : Int)) (by omega) dq_Wrd_roundHead_121 ?_
                    refine qv_i2l C (by omega) dq_Wrd_roundHead_122 ?_
                    refine qv_bipush C (by decide) dq_Wrd_roundHead_123 ?_
                    refine qv_lshl C q 52 (by omega) (by omega) (by omega) dq_Wrd_roundHead_125 ?_
                    refine qv_lload C rfl dq_Wrd_roundHead_126 ?_
                    refine qv_ladd C (r := (((q * 2 ^ 52 + f) : Nat) : Int)) (by omega) dq_Wrd_roundHead_128 ?_
                    refine qv_iload C rfl dq_Wrd_roundHead_129 ?_
                    refine qv_ifeq C (by omega) (tgt := 138) (by decide) dq_Wrd_roundHead_131 (fun h131 => ?_) (fun h131 => ?_)
                    · skip
                      refine qv_iconst C dq_Wrd_roundHead_138 ?_
                      refine qv_i2l C (by omega) dq_Wrd_roundHead_139 ?_
                      refine qv_ladd C (r := (((q * 2 ^ 52 + f) : Nat) : Int)) (by omega) dq_Wrd_roundHead_140 ?_
                      refine qv_lret C hR ?_ dq_Wrd_roundHead_141 (by decide) (by decide)
                      have em := hmo h80
                      refine ⟨goal _ false (by simp) ⟨fun q => (by cases q), fun q => ?_⟩, rfl⟩
                      exfalso
                      rcases q with ⟨q1, q2 | q2 | q2⟩ <;> first | omega | (rw [em] at q2; cases q2)
                    · exfalso; omega
                  · skip
                    refine qv_iconst C dq_Wrd_roundHead_104 ?_
                    refine qv_goto C (tgt := 114) (by decide) dq_Wrd_roundHead_105 ?_
                    refine qv_istore C (lv' := [(12, vi 1), (11, vi 1), (10, vi 1), (8, vj ((head * 2 ^ b : Nat) : Int)), (6, vj ((f : Nat) : Int)), (5, vi ((b : Nat) : Int)), (4, vi P), (0, vj ((head : Nat) : Int)), (2, vi (b2 more)), (3, vi tb)]) (by decide) rfl dq_Wrd_roundHead_114 ?_
                    refine qv_iload C rfl dq_Wrd_roundHead_116 ?_
                    refine qv_sipush C (by decide) dq_Wrd_roundHead_118 ?_
                    refine qv_isub C (r := ((q : Nat) : Int)) (by omega) dq_Wrd_roundHead_121 ?_
                    refine qv_i2l C (by omega) dq_Wrd_roundHead_122 ?_
                    refine qv_bipush C (by decide) dq_Wrd_roundHead_123 ?_
                    refine qv_lshl C q 52 (by omega) (by omega) (by omega) dq_Wrd_roundHead_125 ?_
                    refine qv_lload C rfl dq_Wrd_roundHead_126 ?_
                    refine qv_ladd C (r := (((q * 2 ^ 52 + f) : Nat) : Int)) (by omega) dq_Wrd_roundHead_128 ?_
                    refine qv_iload C rfl dq_Wrd_roundHead_129 ?_
                    refine qv_ifeq C (by omega) (tgt := 138) (by decide) dq_Wrd_roundHead_131 (fun h131 => ?_) (fun h131 => ?_)
                    · exfalso; omega
                    · skip
                      refine qv_iconst C dq_Wrd_roundHead_134 ?_
                      refine qv_goto C (tgt := 139) (by decide) dq_Wrd_roundHead_135 ?_
                      refine qv_i2l C (by omega) dq_Wrd_roundHead_139 ?_
                      refine qv_ladd C (r := ((((q * 2 ^ 52 + f) + 1) : Nat) : Int)) (by omega) dq_Wrd_roundHead_140 ?_
                      refine qv_lret C hR ?_ dq_Wrd_roundHead_141 (by decide) (by decide)
                      have em := hmo h80
                      refine ⟨goal _ true (by simp) ⟨fun _ => ⟨by omega, ?_⟩, fun _ => rfl⟩, rfl⟩
                      first | exact Or.inl (by omega) | exact Or.inr (Or.inr (by omega))
    · exfalso; omega

theorem hd_or {w0 w1 w2 sh : Nat} (hsh : sh ≤ 31) (h0 : w0 * 2 ^ sh < 4294967296) (h0' : 2147483648 ≤ w0 * 2 ^ sh) (h1 : w1 < 4294967296) (h2 : w2 < 4294967296) : (zj ((w0 * 2 ^ (32 + sh) : Nat) : Int) ||| zj ((w1 * 2 ^ sh : Nat) : Int) = zj ((w0 * 2 ^ (32 + sh) + w1 * 2 ^ sh : Nat) : Int)) ∧ (zj ((w0 * 2 ^ (32 + sh) + w1 * 2 ^ sh : Nat) : Int) ||| zj ((w2 * 2 ^ sh / 2 ^ 32 : Nat) : Int) = zj ((w0 * 2 ^ (32 + sh) + w1 * 2 ^ sh + w2 * 2 ^ sh / 4294967296 : Nat) : Int)) ∧ 9223372036854775808 ≤ w0 * 2 ^ (32 + sh) + w1 * 2 ^ sh + w2 * 2 ^ sh / 4294967296 ∧ w0 * 2 ^ (32 + sh) + w1 * 2 ^ sh + w2 * 2 ^ sh / 4294967296 < 18446744073709551616 ∧ w2 * 2 ^ sh < 18446744073709551616 := by
  have hp : 0 < 2 ^ sh := Nat.pow_pos (by omega)
  have hp31 : 2 ^ sh ≤ 2147483648 := Nat.le_trans (Nat.pow_le_pow_right (by omega) hsh) (by decide)
  have e32 : (2 : Nat) ^ (32 + sh) = 4294967296 * 2 ^ sh := by rw [Nat.pow_add]
  have e1 : w0 * 2 ^ (32 + sh) = w0 * 2 ^ sh * 4294967296 := by rw [e32, Nat.mul_comm 4294967296, Nat.mul_assoc]
  have h1s : w1 * 2 ^ sh < 4294967296 * 2 ^ sh := Nat.mul_lt_mul_of_pos_right h1 hp
  have h1t : w1 * 2 ^ sh ≤ 4294967295 * 2 ^ sh := Nat.mul_le_mul_right _ (by omega)
  have h2s : w2 * 2 ^ sh < 4294967296 * 2 ^ sh := Nat.mul_lt_mul_of_pos_right h2 hp
  have h2d : w2 * 2 ^ sh / 4294967296 < 2 ^ sh := by rw [Nat.div_lt_iff_lt_mul (by omega)]; omega
  have hs : 4294967296 * 2 ^ sh ≤ 9223372036854775808 := by omega
  have hw0 : w0 * 2 ^ sh + 2 ^ sh ≤ 4294967296 := by
    have q : (w0 + 1) * 2 ^ sh ≤ 2 ^ (32 - sh) * 2 ^ sh := by
      refine Nat.mul_le_mul_right _ ?_
      have q2 : w0 * 2 ^ sh < 2 ^ (32 - sh) * 2 ^ sh := by rw [← Nat.pow_add, show 32 - sh + sh = 32 by omega]; exact h0
      exact Nat.lt_of_mul_lt_mul_right q2
    rw [← Nat.pow_add, show 32 - sh + sh = 32 by omega, Nat.add_mul, Nat.one_mul] at q
    exact q
  have hsum : w0 * 2 ^ (32 + sh) + w1 * 2 ^ sh + w2 * 2 ^ sh / 4294967296 < 18446744073709551616 := by rw [e1]; omega
  refine ⟨zj_or (by rw [e32]; exact h1s) (by omega), ?_, by rw [e1]; omega, hsum, by omega⟩
  have e2 : w0 * 2 ^ (32 + sh) + w1 * 2 ^ sh = (w0 * 4294967296 + w1) * 2 ^ sh := by rw [e32, Nat.add_mul, Nat.mul_assoc]
  have e3 : w2 * 2 ^ sh / 2 ^ 32 = w2 * 2 ^ sh / 4294967296 := rfl
  rw [e3, e2]
  exact zj_or h2d (by rw [← e2]; exact hsum)
theorem c_Wrd_roundedSize (cI cJ : ClassId) (w wa : Nat) (hm : Bool) (W : Nat → Nat) (Gn T top F : Nat) (hWl : Wl Gn W hm T top F) : MtJ cI cJ ky_Wrd_roundedSize kb_Wrd_roundedSize 9 rm_Wrd_roundedSize Xt [.ref w] [oc w 2 [.ref wa, vi (b2 hm)], aj cJ wa 70 W] (fun z u => ∃ r : Nat, z = ((r : Nat) : Int) ∧ Nr Gn r ∧ u = ww cJ w wa hm W) := by
  refine MtJ_in (by decide) (Nat.le_of_ble_eq_true rfl) (fun K C hR hX hN => ?_)
  show V K 9 [oc w 2 [.ref wa, vi (b2 hm)], aj cJ wa 70 W] 0 0 0 [(0, .ref w)] []
  have hT67 : T ≤ 67 := hWl.2.2.2.1
  refine qv_aload_n C rfl dq_Wrd_roundedSize_0 ?_
  refine qv_bipush C (by decide) dq_Wrd_roundedSize_1 ?_
  refine qc_vI (wr := []) (st := []) C cl_Wrd_27 cd_Wrd_firstThatIsNotZero (c_Wrd_firstThatIsNotZero cI cJ w wa hm W 67 hWl.1 (by omega)) (Xok_t K) Xbl_t [0, 1] [] rfl rfl (by decide) (by decide) (by decide) 0 rfl rfl rfl rfl rfl (Nat.le_of_ble_eq_true rfl) (by decide) (by decide) dq_Wrd_roundedSize_3 (fun z u hu => ?_)
  obtain ⟨i, rfl, hWf, rfl⟩ := hu
  have hcase := Wl_top hWl hWf
  have hi67 := hWf.1
  show V K 9 [oc w 2 [.ref wa, vi (b2 hm)], aj cJ wa 70 W] 0 0 6 [(0, .ref w)] [vi ((i : Nat) : Int)]
  refine qv_istore_n C (lv' := [(1, vi ((i : Nat) : Int)), (0, .ref w)]) (by decide) rfl dq_Wrd_roundedSize_6 ?_
  refine qv_iload_n C rfl dq_Wrd_roundedSize_7 ?_
  refine qv_bipush C (by decide) dq_Wrd_roundedSize_8 ?_
  refine qv_icne C (by omega) (by omega) (tgt := 15) (by decide) dq_Wrd_roundedSize_10 (fun h10 => ?_) (fun h10 => ?_)
  · skip
    obtain ⟨hi6, htop, htT, hne⟩ := hcase.resolve_left (fun q => by omega)
    subst htop
    refine qv_aload_n C rfl dq_Wrd_roundedSize_15 ?_
    refine qv_get C fl_Wrd_11 0 rfl rfl dq_Wrd_roundedSize_16 ?_
    refine qv_iload_n C rfl dq_Wrd_roundedSize_19 ?_
    refine qv_lald C 1 top rfl (by omega) (by omega) (by omega) dq_Wrd_roundedSize_20 ?_
    refine qc_sI (wr := [oc w 2 [.ref wa, vi (b2 hm)], aj cJ wa 70 W]) (st := []) C cl_Wrd_42 cd_JLon_numberOfLeadingZeros (c_JLon_numberOfLeadingZeros cI cJ (W top) (by omega) (hWl.1 top)) (Xok_t K) Xbl_t [] [0, 1] rfl rfl (by decide) (by decide) (by decide) rfl rfl (Nat.le_of_ble_eq_true rfl) (by decide) (by decide) dq_Wrd_roundedSize_21 (fun z u hu => ?_)
    obtain ⟨sh, rfl, hs0, hs1, hs2, rfl⟩ := hu
    obtain ⟨or1, or2, hh1, hh2, hl2⟩ := hd_or hs0 hs2 hs1 (hWl.1 (top + 1)) (hWl.1 (top + 2))
    show V K 9 [oc w 2 [.ref wa, vi (b2 hm)], aj cJ wa 70 W] 0 0 24 [(1, vi ((top : Nat) : Int)), (0, .ref w)] [vi (((32 + sh) : Nat) : Int)]
    refine qv_bipush C (by decide) dq_Wrd_roundedSize_24 ?_
    refine qv_isub C (r := ((sh : Nat) : Int)) (by omega) dq_Wrd_roundedSize_26 ?_
    refine qv_istore_n C (lv' := [(2, vi ((sh : Nat) : Int)), (1, vi ((top : Nat) : Int)), (0, .ref w)]) (by decide) rfl dq_Wrd_roundedSize_27 ?_
    refine qv_bipush C (by decide) dq_Wrd_roundedSize_28 ?_
    refine qv_iload_n C rfl dq_Wrd_roundedSize_30 ?_
    refine qv_isub C (r := (33 - ((top : Nat) : Int))) rfl dq_Wrd_roundedSize_31 ?_
    refine qv_bipush C (by decide) dq_Wrd_roundedSize_32 ?_
    refine qv_imul C (r := ((33 - ((top : Nat) : Int)) * 32)) rfl dq_Wrd_roundedSize_34 ?_
    refine qv_iconst C dq_Wrd_roundedSize_35 ?_
    refine qv_isub C (r := (((33 - ((top : Nat) : Int)) * 32) - 1)) rfl dq_Wrd_roundedSize_36 ?_
    refine qv_iload_n C rfl dq_Wrd_roundedSize_37 ?_
    refine qv_isub C (r := ((((33 - ((top : Nat) : Int)) * 32) - 1) - ((sh : Nat) : Int))) rfl dq_Wrd_roundedSize_38 ?_
    obtain ⟨tb, htb⟩ : ∃ tb : Int, tb = (33 - (top : Int)) * 32 - 1 - sh := ⟨_, rfl⟩
    refine qv_ti (r := tb) (by omega) ?_
    refine qv_istore_n C (lv' := [(3, vi tb), (2, vi ((sh : Nat) : Int)), (1, vi ((top : Nat) : Int)), (0, .ref w)]) (by decide) rfl dq_Wrd_roundedSize_39 ?_
    refine qv_iload_n C rfl dq_Wrd_roundedSize_40 ?_
    refine qv_sipush C (by decide) dq_Wrd_roundedSize_41 ?_
    refine qv_icle C (by omega) (by omega) (tgt := 51) (by decide) dq_Wrd_roundedSize_44 (fun h44 => ?_) (fun h44 => ?_)
    · skip
      refine qv_aload_n C rfl dq_Wrd_roundedSize_51 ?_
      refine qv_get C fl_Wrd_11 0 rfl rfl dq_Wrd_roundedSize_52 ?_
      refine qv_iload_n C rfl dq_Wrd_roundedSize_55 ?_
      refine qv_iconst C dq_Wrd_roundedSize_56 ?_
      refine qv_iadd C (r := (((top + 2) : Nat) : Int)) (by omega) dq_Wrd_roundedSize_57 ?_
      refine qv_lald C 1 (top + 2) rfl (by omega) (by omega) (by omega) dq_Wrd_roundedSize_58 ?_
      refine qv_iload_n C rfl dq_Wrd_roundedSize_59 ?_
      refine qv_lshl C (W (top + 2)) sh (by omega) (by omega) (by omega) dq_Wrd_roundedSize_60 ?_
      refine qv_lstore C (lv' := [(4, vj (((W (top + 2)) * 2 ^ sh : Nat) : Int)), (3, vi tb), (2, vi ((sh : Nat) : Int)), (1, vi ((top : Nat) : Int)), (0, .ref w)]) (by decide) rfl dq_Wrd_roundedSize_61 ?_
      refine qv_aload_n C rfl dq_Wrd_roundedSize_63 ?_
      refine qv_get C fl_Wrd_11 0 rfl rfl dq_Wrd_roundedSize_64 ?_
      refine qv_iload_n C rfl dq_Wrd_roundedSize_67 ?_
      refine qv_lald C 1 top rfl (by omega) (by omega) (by omega) dq_Wrd_roundedSize_68 ?_
      refine qv_bipush C (by decide) dq_Wrd_roundedSize_69 ?_
      refine qv_iload_n C rfl dq_Wrd_roundedSize_71 ?_
      refine qv_iadd C (r := (((32 + sh) : Nat) : Int)) (by omega) dq_Wrd_roundedSize_72 ?_
      refine qv_lshl C (W top) (32 + sh) (by omega) (by omega) (by omega) dq_Wrd_roundedSize_73 ?_
      refine qv_aload_n C rfl dq_Wrd_roundedSize_74 ?_
      refine qv_get C fl_Wrd_11 0 rfl rfl dq_Wrd_roundedSize_75 ?_
      refine qv_iload_n C rfl dq_Wrd_roundedSize_78 ?_
      refine qv_iconst C dq_Wrd_roundedSize_79 ?_
      refine qv_iadd C (r := (((top + 1) : Nat) : Int)) (by omega) dq_Wrd_roundedSize_80 ?_
      refine qv_lald C 1 (top + 1) rfl (by omega) (by omega) (by omega) dq_Wrd_roundedSize_81 ?_
      refine qv_iload_n C rfl dq_Wrd_roundedSize_82 ?_
      refine qv_lshl C (W (top + 1)) sh (by omega) (by omega) (by omega) dq_Wrd_roundedSize_83 ?_
      refine qv_lor C (r := (((W top * 2 ^ (32 + sh) + W (top + 1) * 2 ^ sh) : Nat) : Int)) or1 dq_Wrd_roundedSize_84 ?_
      refine qv_lload C rfl dq_Wrd_roundedSize_85 ?_
      refine qv_bipush C (by decide) dq_Wrd_roundedSize_87 ?_
      refine qv_lushr C ((W (top + 2)) * 2 ^ sh) 32 (by omega) (by omega) (by omega) (by omega) dq_Wrd_roundedSize_89 ?_
      refine qv_lor C (r := (((W top * 2 ^ (32 + sh) + W (top + 1) * 2 ^ sh + W (top + 2) * 2 ^ sh / 4294967296) : Nat) : Int)) or2 dq_Wrd_roundedSize_90 ?_
      refine qv_lstore C (lv' := [(6, vj (((W top * 2 ^ (32 + sh) + W (top + 1) * 2 ^ sh + W (top + 2) * 2 ^ sh / 4294967296) : Nat) : Int)), (4, vj (((W (top + 2)) * 2 ^ sh : Nat) : Int)), (3, vi tb), (2, vi ((sh : Nat) : Int)), (1, vi ((top : Nat) : Int)), (0, .ref w)]) (by decide) rfl dq_Wrd_roundedSize_91 ?_
      refine qv_lload C rfl dq_Wrd_roundedSize_93 ?_
      refine qv_l2i C dq_Wrd_roundedSize_95 ?_
      refine qv_ifneW C (W (top + 2) * 2 ^ sh) (tgt := 109) (by decide) dq_Wrd_roundedSize_96 (fun h96 => ?_) (fun h96 => ?_)
      · skip
        refine qv_iconst C dq_Wrd_roundedSize_109 ?_
        refine qv_goto C (tgt := 114) (by decide) dq_Wrd_roundedSize_110 ?_
        refine qv_istore C (lv' := [(8, vi 1), (6, vj (((W top * 2 ^ (32 + sh) + W (top + 1) * 2 ^ sh + W (top + 2) * 2 ^ sh / 4294967296) : Nat) : Int)), (4, vj (((W (top + 2)) * 2 ^ sh : Nat) : Int)), (3, vi tb), (2, vi ((sh : Nat) : Int)), (1, vi ((top : Nat) : Int)), (0, .ref w)]) (by decide) rfl dq_Wrd_roundedSize_114 ?_
        refine qv_lload C rfl dq_Wrd_roundedSize_116 ?_
        refine qv_iload C rfl dq_Wrd_roundedSize_118 ?_
        refine qv_iload_n C rfl dq_Wrd_roundedSize_120 ?_
        refine qc_sJ (wr := [oc w 2 [.ref wa, vi (b2 hm)], aj cJ wa 70 W]) (st := []) C cl_Wrd_54 cd_Wrd_roundHead (c_Wrd_roundHead cI cJ (W top * 2 ^ (32 + sh) + W (top + 1) * 2 ^ sh + W (top + 2) * 2 ^ sh / 4294967296) true tb hh1 hh2 (by omega) (by omega)) (Xok_t K) Xbl_t [] [0, 1] rfl rfl (by decide) (by decide) (by decide) rfl rfl (Nat.le_of_ble_eq_true rfl) (by decide) (by decide) dq_Wrd_roundedSize_121 (fun z u hu => ?_)
        obtain ⟨hRh, rfl⟩ := hu
        show V K 9 [oc w 2 [.ref wa, vi (b2 hm)], aj cJ wa 70 W] 0 0 124 [(8, vi 1), (6, vj (((W top * 2 ^ (32 + sh) + W (top + 1) * 2 ^ sh + W (top + 2) * 2 ^ sh / 4294967296) : Nat) : Int)), (4, vj (((W (top + 2)) * 2 ^ sh : Nat) : Int)), (3, vi tb), (2, vi ((sh : Nat) : Int)), (1, vi ((top : Nat) : Int)), (0, .ref w)] [vj z]
        refine qv_lret C hR ?_ dq_Wrd_roundedSize_124 (by decide) (by decide)
        obtain ⟨r, rfl, hr⟩ := rs_near hWl htT hs0 hs1 hs2 rfl hh1 hh2 ⟨fun _ => Or.inl h96, fun _ => rfl⟩ htb (by omega) hRh
        exact ⟨r, rfl, hr, rfl⟩
      · skip
        refine qv_aload_n C rfl dq_Wrd_roundedSize_99 ?_
        refine qv_iload_n C rfl dq_Wrd_roundedSize_100 ?_
        refine qv_iconst C dq_Wrd_roundedSize_101 ?_
        refine qv_iadd C (r := (((top + 3) : Nat) : Int)) (by omega) dq_Wrd_roundedSize_102 ?_
        refine qc_vI (wr := []) (st := []) C cl_Wrd_50 cd_Wrd_isMoreFrom (c_Wrd_isMoreFrom cI cJ w wa hm W (top + 3) hWl.1 (by omega)) (Xok_t K) Xbl_t [0, 1] [] rfl rfl (by decide) (by decide) (by decide) 0 rfl rfl rfl rfl rfl (Nat.le_of_ble_eq_true rfl) (by decide) (by decide) dq_Wrd_roundedSize_103 (fun z u hu => ?_)
        obtain ⟨mo2, rfl, hmo2, rfl⟩ := hu
        show V K 9 [oc w 2 [.ref wa, vi (b2 hm)], aj cJ wa 70 W] 0 0 106 [(6, vj (((W top * 2 ^ (32 + sh) + W (top + 1) * 2 ^ sh + W (top + 2) * 2 ^ sh / 4294967296) : Nat) : Int)), (4, vj (((W (top + 2)) * 2 ^ sh : Nat) : Int)), (3, vi tb), (2, vi ((sh : Nat) : Int)), (1, vi ((top : Nat) : Int)), (0, .ref w)] [vi (b2 mo2)]
        refine qv_ifeq C (rb_b2 mo2) (tgt := 113) (by decide) dq_Wrd_roundedSize_106 (fun h106 => ?_) (fun h106 => ?_)
        · skip
          refine qv_iconst C dq_Wrd_roundedSize_113 ?_
          refine qv_istore C (lv' := [(8, vi 0), (6, vj (((W top * 2 ^ (32 + sh) + W (top + 1) * 2 ^ sh + W (top + 2) * 2 ^ sh / 4294967296) : Nat) : Int)), (4, vj (((W (top + 2)) * 2 ^ sh : Nat) : Int)), (3, vi tb), (2, vi ((sh : Nat) : Int)), (1, vi ((top : Nat) : Int)), (0, .ref w)]) (by decide) rfl dq_Wrd_roundedSize_114 ?_
          refine qv_lload C rfl dq_Wrd_roundedSize_116 ?_
          refine qv_iload C rfl dq_Wrd_roundedSize_118 ?_
          refine qv_iload_n C rfl dq_Wrd_roundedSize_120 ?_
          refine qc_sJ (wr := [oc w 2 [.ref wa, vi (b2 hm)], aj cJ wa 70 W]) (st := []) C cl_Wrd_54 cd_Wrd_roundHead (c_Wrd_roundHead cI cJ (W top * 2 ^ (32 + sh) + W (top + 1) * 2 ^ sh + W (top + 2) * 2 ^ sh / 4294967296) false tb hh1 hh2 (by omega) (by omega)) (Xok_t K) Xbl_t [] [0, 1] rfl rfl (by decide) (by decide) (by decide) rfl rfl (Nat.le_of_ble_eq_true rfl) (by decide) (by decide) dq_Wrd_roundedSize_121 (fun z u hu => ?_)
          obtain ⟨hRh, rfl⟩ := hu
          show V K 9 [oc w 2 [.ref wa, vi (b2 hm)], aj cJ wa 70 W] 0 0 124 [(8, vi 0), (6, vj (((W top * 2 ^ (32 + sh) + W (top + 1) * 2 ^ sh + W (top + 2) * 2 ^ sh / 4294967296) : Nat) : Int)), (4, vj (((W (top + 2)) * 2 ^ sh : Nat) : Int)), (3, vi tb), (2, vi ((sh : Nat) : Int)), (1, vi ((top : Nat) : Int)), (0, .ref w)] [vj z]
          refine qv_lret C hR ?_ dq_Wrd_roundedSize_124 (by decide) (by decide)
          have em := b2_f h106
          obtain ⟨r, rfl, hr⟩ := rs_near hWl htT hs0 hs1 hs2 rfl hh1 hh2 ⟨fun q => (by cases q), fun q => (by
            exfalso
            rcases q with q | q
            · exact q h96
            · rw [hmo2.mpr q] at em; cases em)⟩ htb (by omega) hRh
          exact ⟨r, rfl, hr, rfl⟩
        · skip
          refine qv_iconst C dq_Wrd_roundedSize_109 ?_
          refine qv_goto C (tgt := 114) (by decide) dq_Wrd_roundedSize_110 ?_
          refine qv_istore C (lv' := [(8, vi 1), (6, vj (((W top * 2 ^ (32 + sh) + W (top + 1) * 2 ^ sh + W (top + 2) * 2 ^ sh / 4294967296) : Nat) : Int)), (4, vj (((W (top + 2)) * 2 ^ sh : Nat) : Int)), (3, vi tb), (2, vi ((sh : Nat) : Int)), (1, vi ((top : Nat) : Int)), (0, .ref w)]) (by decide) rfl dq_Wrd_roundedSize_114 ?_
          refine qv_lload C rfl dq_Wrd_roundedSize_116 ?_
          refine qv_iload C rfl dq_Wrd_roundedSize_118 ?_
          refine qv_iload_n C rfl dq_Wrd_roundedSize_120 ?_
          refine qc_sJ (wr := [oc w 2 [.ref wa, vi (b2 hm)], aj cJ wa 70 W]) (st := []) C cl_Wrd_54 cd_Wrd_roundHead (c_Wrd_roundHead cI cJ (W top * 2 ^ (32 + sh) + W (top + 1) * 2 ^ sh + W (top + 2) * 2 ^ sh / 4294967296) true tb hh1 hh2 (by omega) (by omega)) (Xok_t K) Xbl_t [] [0, 1] rfl rfl (by decide) (by decide) (by decide) rfl rfl (Nat.le_of_ble_eq_true rfl) (by decide) (by decide) dq_Wrd_roundedSize_121 (fun z u hu => ?_)
          obtain ⟨hRh, rfl⟩ := hu
          show V K 9 [oc w 2 [.ref wa, vi (b2 hm)], aj cJ wa 70 W] 0 0 124 [(8, vi 1), (6, vj (((W top * 2 ^ (32 + sh) + W (top + 1) * 2 ^ sh + W (top + 2) * 2 ^ sh / 4294967296) : Nat) : Int)), (4, vj (((W (top + 2)) * 2 ^ sh : Nat) : Int)), (3, vi tb), (2, vi ((sh : Nat) : Int)), (1, vi ((top : Nat) : Int)), (0, .ref w)] [vj z]
          refine qv_lret C hR ?_ dq_Wrd_roundedSize_124 (by decide) (by decide)
          have em := b2_t h106
          obtain ⟨r, rfl, hr⟩ := rs_near hWl htT hs0 hs1 hs2 rfl hh1 hh2 ⟨fun _ => Or.inr (hmo2.mp em), fun _ => rfl⟩ htb (by omega) hRh
          exact ⟨r, rfl, hr, rfl⟩
    · skip
      refine qv_ldc2 C (z := 9218868437227405312) wk_Wrd_48 dq_Wrd_roundedSize_47 ?_
      refine qv_lret C hR ?_ dq_Wrd_roundedSize_50 (by decide) (by decide)
      have e0 : top = 0 := by omega
      subst e0
      exact ⟨INF, by decide, Wl_big hWl hne, rfl⟩
  · skip
    refine qv_lconst C (z := 0) (by decide) dq_Wrd_roundedSize_13 ?_
    refine qv_lret C hR ?_ dq_Wrd_roundedSize_14 (by decide) (by decide)
    rcases hcase with ⟨a, hz⟩ | ⟨a, -⟩
    · exact ⟨0, rfl, Wl_zero hWl hz, rfl⟩
    · exfalso; omega

