theorem c_Grp_load (cI cJ : ClassId) (g b fi en : Nat) (R : Nat → Nat) (k ka len : Nat) (pl : Int) (f : Nat → Nat) (hf : ∀ i, f i ≤ 9) (h0 : 0 < len) (hlast : f (len - 1) ≠ 0) (hl : len ≤ 800) (hp1 : -323 ≤ pl) (hp2 : pl ≤ 309) : MtV cI cJ ky_Grp_load kb_Grp_load 5 rm_Grp_load XU [.ref g, .ref k] [oc g 1 [.ref b, vi ((fi : Nat) : Int), vi ((en : Nat) : Int)], aj cJ b 160 R, oc k 0 [.ref ka, vi ((len : Nat) : Int), vi pl], ai cI ka 800 f] (fun u => ∃ (R2 : Nat → Nat) (fi2 en2 : Nat), u = gw cJ g b fi2 en2 R2 ++ dw cI k ka len pl f ∧ Gd R2 fi2 en2 ∧ LN R2 en2 ∧ dv 1000000000 R2 160 = sv 1125 f len pl) := by
  refine MtV_in (by decide) (Nat.le_of_ble_eq_true rfl) (fun K C hR hX hN => ?_)
  show V K 5 [oc g 1 [.ref b, vi ((fi : Nat) : Int), vi ((en : Nat) : Int)], aj cJ b 160 R, oc k 0 [.ref ka, vi ((len : Nat) : Int), vi pl], ai cI ka 800 f] 0 0 0 [(0, .ref g), (1, .ref k)] []
  obtain ⟨s, hs⟩ : ∃ s : Nat, 315 - pl = (s : Int) := ⟨(315 - pl).toNat, by omega⟩
  have hst : (315 - pl).toNat = s := by omega
  have loop : ∀ n i (R2 : Nat → Nat), i + n = len → Gl f s i R2 → V K 5 [oc g 1 [.ref b, vi ((fi : Nat) : Int), vi ((en : Nat) : Int)], aj cJ b 160 R2, oc k 0 [.ref ka, vi ((len : Nat) : Int), vi pl], ai cI ka 800 f] 0 0 19 [(0, .ref g), (1, .ref k), (2, vi ((s : Nat) : Int)), (3, vi ((i : Nat) : Int))] [] := by
    intro n
    induction n with
    | zero =>
      intro i R2 hin hG
      have ei : i = len := by omega
      subst ei
      refine qv_iload_n C rfl dq_Grp_load_19 ?_
      refine qv_aload_n C rfl dq_Grp_load_20 ?_
      refine qv_get C fl_Grp_48 2 rfl rfl dq_Grp_load_21 ?_
      refine qv_icge C (by omega) (by omega) (tgt := 68) (by decide) dq_Grp_load_24 (fun h24 => ?_) (fun h24 => ?_)
      · skip
        refine qv_aload_n C rfl dq_Grp_load_68 ?_
        refine qv_iload_n C rfl dq_Grp_load_69 ?_
        refine qv_bipush C (by decide) dq_Grp_load_70 ?_
        refine qv_idiv C (r := (((s / 9) : Nat) : Int)) (by omega) (by omega) (by omega) (by omega) (by omega) dq_Grp_load_72 ?_
        refine qv_put C (ws' := [oc g 1 [.ref b, vi (((s / 9) : Nat) : Int), vi ((en : Nat) : Int)], aj cJ b 160 R2, oc k 0 [.ref ka, vi ((i : Nat) : Int), vi pl], ai cI ka 800 f]) fl_Grp_15 fs_1_1 0 rfl rfl rfl (Nat.le_of_ble_eq_true rfl) rfl dq_Grp_load_73 ?_
        refine qv_aload_n C rfl dq_Grp_load_76 ?_
        refine qv_iload_n C rfl dq_Grp_load_77 ?_
        refine qv_aload_n C rfl dq_Grp_load_78 ?_
        refine qv_get C fl_Grp_48 2 rfl rfl dq_Grp_load_79 ?_
        refine qv_iadd C (r := (((s + i) : Nat) : Int)) (by omega) dq_Grp_load_82 ?_
        refine qv_iconst C dq_Grp_load_83 ?_
        refine qv_isub C (r := ((((s + i) - 1) : Nat) : Int)) (by omega) dq_Grp_load_84 ?_
        refine qv_bipush C (by decide) dq_Grp_load_85 ?_
        refine qv_idiv C (r := (((((s + i) - 1) / 9) : Nat) : Int)) (by omega) (by omega) (by omega) (by omega) (by omega) dq_Grp_load_87 ?_
        refine qv_iconst C dq_Grp_load_88 ?_
        refine qv_iadd C (r := ((((((s + i) - 1) / 9) + 1) : Nat) : Int)) (by omega) dq_Grp_load_89 ?_
        refine qv_put C (ws' := [oc g 1 [.ref b, vi (((s / 9) : Nat) : Int), vi ((((((s + i) - 1) / 9) + 1) : Nat) : Int)], aj cJ b 160 R2, oc k 0 [.ref ka, vi ((i : Nat) : Int), vi pl], ai cI ka 800 f]) fl_Grp_19 fs_1_2 0 rfl rfl rfl (Nat.le_of_ble_eq_true rfl) rfl dq_Grp_load_90 ?_
        refine qv_vret C hR ?_ dq_Grp_load_93 (by decide) (by decide)
        exact ⟨R2, _, _, rfl, Gl_Gd hf hG h0 (by omega), Gl_LN hG h0 hlast, Gl_v (by rw [hst]; exact hG) (by omega) (by omega)⟩
      · exfalso; omega
    | succ n ih =>
      intro i R2 hin hG
      have h9 := hf i
      refine qv_iload_n C rfl dq_Grp_load_19 ?_
      refine qv_aload_n C rfl dq_Grp_load_20 ?_
      refine qv_get C fl_Grp_48 2 rfl rfl dq_Grp_load_21 ?_
      refine qv_icge C (by omega) (by omega) (tgt := 68) (by decide) dq_Grp_load_24 (fun h24 => ?_) (fun h24 => ?_)
      · exfalso; omega
      · skip
        refine qv_iload_n C rfl dq_Grp_load_27 ?_
        refine qv_iload_n C rfl dq_Grp_load_28 ?_
        refine qv_iadd C (r := (((s + i) : Nat) : Int)) (by omega) dq_Grp_load_29 ?_
        refine qv_istore C (lv' := [(4, vi (((s + i) : Nat) : Int)), (0, .ref g), (1, .ref k), (2, vi ((s : Nat) : Int)), (3, vi ((i : Nat) : Int))]) (by decide) rfl dq_Grp_load_30 ?_
        refine qv_aload_n C rfl dq_Grp_load_32 ?_
        refine qv_get C fl_Grp_11 0 rfl rfl dq_Grp_load_33 ?_
        refine qv_iload C rfl dq_Grp_load_36 ?_
        refine qv_bipush C (by decide) dq_Grp_load_38 ?_
        refine qv_idiv C (r := ((((s + i) / 9) : Nat) : Int)) (by omega) (by omega) (by omega) (by omega) (by omega) dq_Grp_load_40 ?_
        refine qv_dup2 C rfl rfl dq_Grp_load_41 ?_
        refine qv_lald C 1 ((s + i) / 9) rfl (by omega) (by omega) (by omega) dq_Grp_load_42 ?_
        refine qv_aload_n C rfl dq_Grp_load_43 ?_
        refine qv_get C fl_Grp_51 2 rfl rfl dq_Grp_load_44 ?_
        refine qv_iload_n C rfl dq_Grp_load_47 ?_
        refine qv_iald C 3 i rfl (by omega) (by omega) (by omega) dq_Grp_load_48 ?_
        refine qv_i2l C (by omega) dq_Grp_load_49 ?_
        refine qv_units C hX wu_units dq_Grp_load_50 (fun ut hut => ?_)
        refine qv_iload C rfl dq_Grp_load_53 ?_
        refine qv_bipush C (by decide) dq_Grp_load_55 ?_
        refine qv_irem C (r := ((((s + i) % 9) : Nat) : Int)) (by omega) (by omega) (by omega) (by omega) (by omega) dq_Grp_load_57 ?_
        refine hut ((s + i) % 9) (by omega) (by omega) dq_Grp_load_58 ?_
        refine qv_lmul C (r := (((f i * 10 ^ (8 - ((s + i) % 9))) : Nat) : Int)) (Int.natCast_mul _ _).symm dq_Grp_load_59 ?_
        refine qv_ladd C (r := (((R2 ((s + i) / 9) + (f i * 10 ^ (8 - ((s + i) % 9)))) : Nat) : Int)) (Int.natCast_add _ _).symm dq_Grp_load_60 ?_
        refine qv_last C (ws' := [oc g 1 [.ref b, vi ((fi : Nat) : Int), vi ((en : Nat) : Int)], aj cJ b 160 (un R2 ((s + i) / 9) (R2 ((s + i) / 9) + (f i * 10 ^ (8 - ((s + i) % 9))))), oc k 0 [.ref ka, vi ((len : Nat) : Int), vi pl], ai cI ka 800 f]) 1 ((s + i) / 9) (R2 ((s + i) / 9) + (f i * 10 ^ (8 - ((s + i) % 9)))) rfl (by omega) (by omega) (by omega) rfl rfl dq_Grp_load_61 ?_
        refine qv_iinc C (j := 4) (lv' := [(3, vi (((i + 1) : Nat) : Int)), (4, vi (((s + i) : Nat) : Int)), (0, .ref g), (1, .ref k), (2, vi ((s : Nat) : Int))]) (by omega) rfl (by decide) rfl dq_Grp_load_62 ?_
        refine qv_goto C (tgt := 19) (by decide) dq_Grp_load_65 ?_
        refine qv_lv [2, 3, 4, 0] (lv' := [(0, .ref g), (1, .ref k), (2, vi ((s : Nat) : Int)), (3, vi (((i + 1) : Nat) : Int))]) rfl ?_
        exact ih (i + 1) _ (by omega) (Gl_s hG)
  refine qv_aload_n C rfl dq_Grp_load_0 ?_
  refine qv_get C fl_Grp_11 0 rfl rfl dq_Grp_load_1 ?_
  refine qv_lconst C (z := 0) (by decide) dq_Grp_load_4 ?_
  refine qc_sV (wr := [oc g 1 [.ref b, vi ((fi : Nat) : Int), vi ((en : Nat) : Int)], oc k 0 [.ref ka, vi ((len : Nat) : Int), vi pl], ai cI ka 800 f]) (st := []) C cl_Grp_22 cd_JArr_fill (c_JArr_fill cI cJ b 160 0 R (by omega)) (Xok_t K) Xbl_t [1] [0, 2, 3] rfl rfl (by decide) (by decide) (by decide) rfl rfl (Nat.le_of_ble_eq_true rfl) (by decide) (by decide) dq_Grp_load_5 (fun u hu => ?_)
  obtain rfl := hu
  show V K 5 [oc g 1 [.ref b, vi ((fi : Nat) : Int), vi ((en : Nat) : Int)], oc k 0 [.ref ka, vi ((len : Nat) : Int), vi pl], ai cI ka 800 f, aj cJ b 160 (fun _ => 0)] 0 0 8 [(0, .ref g), (1, .ref k)] []
  refine qv_sipush C (by decide) dq_Grp_load_8 ?_
  refine qv_aload_n C rfl dq_Grp_load_11 ?_
  refine qv_get C fl_Grp_43 1 rfl rfl dq_Grp_load_12 ?_
  refine qv_isub C (r := ((s : Nat) : Int)) (by omega) dq_Grp_load_15 ?_
  refine qv_istore_n C (lv' := [(2, vi ((s : Nat) : Int)), (0, .ref g), (1, .ref k)]) (by decide) rfl dq_Grp_load_16 ?_
  refine qv_iconst C dq_Grp_load_17 ?_
  refine qv_istore_n C (lv' := [(3, vi 0), (2, vi ((s : Nat) : Int)), (0, .ref g), (1, .ref k)]) (by decide) rfl dq_Grp_load_18 ?_
  refine qv_ws [0, 3, 1, 2] (ws' := [oc g 1 [.ref b, vi ((fi : Nat) : Int), vi ((en : Nat) : Int)], aj cJ b 160 (fun _ => 0), oc k 0 [.ref ka, vi ((len : Nat) : Int), vi pl], ai cI ka 800 f]) (by decide) rfl ?_
  refine qv_lv [2, 3, 1, 0] (lv' := [(0, .ref g), (1, .ref k), (2, vi ((s : Nat) : Int)), (3, vi 0)]) rfl ?_
  exact loop len 0 _ (by omega) (Gl_0 f s)

theorem c_Tru_nearestSize (cI cJ : ClassId) (x k g w t l hi : Nat) (mi : Bool) (zr : Nat) (pt : Int) (ka len : Nat) (pl : Int) (f : Nat → Nat) (b fi en : Nat) (R : Nat → Nat) (wa : Nat) (hm : Bool) (W : Nat → Nat) (hK : Kd f len pl) (hp : -10000 ≤ pl ∧ pl ≤ 10000) : MtJ cI cJ ky_Tru_nearestSize kb_Tru_nearestSize 1 rm_Tru_nearestSize XU [.ref x] [oc x 3 [.ref k, vi (b2 mi), vi ((zr : Nat) : Int), vi pt, .ref g, .ref w, .ref t, .ref l, .ref hi], oc k 0 [.ref ka, vi ((len : Nat) : Int), vi pl], ai cI ka 800 f, oc g 1 [.ref b, vi ((fi : Nat) : Int), vi ((en : Nat) : Int)], aj cJ b 160 R, oc w 2 [.ref wa, vi (b2 hm)], aj cJ wa 70 W] (fun z u => ∃ (r : Nat) (R2 : Nat → Nat) (fi2 en2 : Nat) (hm2 : Bool) (W2 : Nat → Nat), z = ((r : Nat) : Int) ∧ Ne f len pl r ∧ u = xo x k g w t l hi mi zr pt :: (dw cI k ka len pl f ++ gw cJ g b fi2 en2 R2 ++ ww cJ w wa hm2 W2)) := by
  refine MtJ_in (by decide) (Nat.le_of_ble_eq_true rfl) (fun K C hR hX hN => ?_)
  show V K 1 [oc x 3 [.ref k, vi (b2 mi), vi ((zr : Nat) : Int), vi pt, .ref g, .ref w, .ref t, .ref l, .ref hi], oc k 0 [.ref ka, vi ((len : Nat) : Int), vi pl], ai cI ka 800 f, oc g 1 [.ref b, vi ((fi : Nat) : Int), vi ((en : Nat) : Int)], aj cJ b 160 R, oc w 2 [.ref wa, vi (b2 hm)], aj cJ wa 70 W] 0 0 0 [(0, .ref x)] []
  obtain ⟨hf, hl, hn, hz⟩ := id hK
  have hN := Kd_nrm hK
  refine qv_aload_n C rfl dq_Tru_nearestSize_0 ?_
  refine qv_get C fl_Tru_12 0 rfl rfl dq_Tru_nearestSize_1 ?_
  refine qv_get C fl_Tru_69 1 rfl rfl dq_Tru_nearestSize_4 ?_
  refine qv_ifeq C (by omega) (tgt := 23) (by decide) dq_Tru_nearestSize_7 (fun h7 => ?_) (fun h7 => ?_)
  · skip
    refine qv_lconst C (z := 0) (by decide) dq_Tru_nearestSize_23 ?_
    refine qv_lret C hR ?_ dq_Tru_nearestSize_24 (by decide) (by decide)
    exact ⟨0, R, fi, en, hm, W, rfl, Or.inl ⟨by omega, rfl⟩, rfl⟩
  · skip
    refine qv_aload_n C rfl dq_Tru_nearestSize_10 ?_
    refine qv_get C fl_Tru_12 0 rfl rfl dq_Tru_nearestSize_11 ?_
    refine qv_get C fl_Tru_106 1 rfl rfl dq_Tru_nearestSize_14 ?_
    refine qv_sipush C (by decide) dq_Tru_nearestSize_17 ?_
    refine qv_icge C (by omega) (by omega) (tgt := 25) (by decide) dq_Tru_nearestSize_20 (fun h20 => ?_) (fun h20 => ?_)
    · skip
      refine qv_aload_n C rfl dq_Tru_nearestSize_25 ?_
      refine qv_get C fl_Tru_12 0 rfl rfl dq_Tru_nearestSize_26 ?_
      refine qv_get C fl_Tru_106 1 rfl rfl dq_Tru_nearestSize_29 ?_
      refine qv_sipush C (by decide) dq_Tru_nearestSize_32 ?_
      refine qv_icle C (by omega) (by omega) (tgt := 42) (by decide) dq_Tru_nearestSize_35 (fun h35 => ?_) (fun h35 => ?_)
      · skip
        refine qv_aload_n C rfl dq_Tru_nearestSize_42 ?_
        refine qv_get C fl_Tru_19 0 rfl rfl dq_Tru_nearestSize_43 ?_
        refine qv_aload_n C rfl dq_Tru_nearestSize_46 ?_
        refine qv_get C fl_Tru_12 0 rfl rfl dq_Tru_nearestSize_47 ?_
        refine qc_vV (wr := [oc x 3 [.ref k, vi (b2 mi), vi ((zr : Nat) : Int), vi pt, .ref g, .ref w, .ref t, .ref l, .ref hi], oc w 2 [.ref wa, vi (b2 hm)], aj cJ wa 70 W]) (st := []) C cl_Tru_137 cd_Grp_load (c_Grp_load cI cJ g b fi en R k ka len pl f hf (by omega) (hn (by omega)).2 hl (by omega) (by omega)) (XU_ok hX) XU_bl [3, 4, 1, 2] [0, 5, 6] rfl rfl (by decide) (by decide) (by decide) 0 rfl rfl rfl rfl rfl (Nat.le_of_ble_eq_true rfl) (by decide) (by decide) dq_Tru_nearestSize_50 (fun u hu => ?_)
        obtain ⟨R2, fi2, en2, rfl, hG2, hL2, hv⟩ := hu
        show V K 1 [oc x 3 [.ref k, vi (b2 mi), vi ((zr : Nat) : Int), vi pt, .ref g, .ref w, .ref t, .ref l, .ref hi], oc w 2 [.ref wa, vi (b2 hm)], aj cJ wa 70 W, oc g 1 [.ref b, vi ((fi2 : Nat) : Int), vi ((en2 : Nat) : Int)], aj cJ b 160 R2, oc k 0 [.ref ka, vi ((len : Nat) : Int), vi pl], ai cI ka 800 f] 0 0 53 [(0, .ref x)] []
        refine qv_aload_n C rfl dq_Tru_nearestSize_53 ?_
        refine qv_get C fl_Tru_26 0 rfl rfl dq_Tru_nearestSize_54 ?_
        refine qv_aload_n C rfl dq_Tru_nearestSize_57 ?_
        refine qv_get C fl_Tru_19 0 rfl rfl dq_Tru_nearestSize_58 ?_
        refine qc_vV (wr := [oc x 3 [.ref k, vi (b2 mi), vi ((zr : Nat) : Int), vi pt, .ref g, .ref w, .ref t, .ref l, .ref hi], oc k 0 [.ref ka, vi ((len : Nat) : Int), vi pl], ai cI ka 800 f]) (st := []) C cl_Tru_141 cd_Wrd_load (c_Wrd_load cI cJ w wa hm W g b fi2 en2 R2 hG2 hL2 (int_309 hG2.1 hN (by omega) (by omega) hv)) (Xok_t K) Xbl_t [1, 2, 3, 4] [0, 5, 6] rfl rfl (by decide) (by decide) (by decide) 0 rfl rfl rfl rfl rfl (Nat.le_of_ble_eq_true rfl) (by decide) (by decide) dq_Tru_nearestSize_61 (fun u hu => ?_)
        obtain ⟨R3, fi3, en3, W2, mo, T, top, F, rfl, hWl⟩ := hu
        show V K 1 [oc x 3 [.ref k, vi (b2 mi), vi ((zr : Nat) : Int), vi pt, .ref g, .ref w, .ref t, .ref l, .ref hi], oc k 0 [.ref ka, vi ((len : Nat) : Int), vi pl], ai cI ka 800 f, oc w 2 [.ref wa, vi (b2 mo)], aj cJ wa 70 W2, oc g 1 [.ref b, vi ((fi3 : Nat) : Int), vi ((en3 : Nat) : Int)], aj cJ b 160 R3] 0 0 64 [(0, .ref x)] []
        refine qv_aload_n C rfl dq_Tru_nearestSize_64 ?_
        refine qv_get C fl_Tru_26 0 rfl rfl dq_Tru_nearestSize_65 ?_
        refine qc_vJ (wr := [oc x 3 [.ref k, vi (b2 mi), vi ((zr : Nat) : Int), vi pt, .ref g, .ref w, .ref t, .ref l, .ref hi], oc k 0 [.ref ka, vi ((len : Nat) : Int), vi pl], ai cI ka 800 f, oc g 1 [.ref b, vi ((fi3 : Nat) : Int), vi ((en3 : Nat) : Int)], aj cJ b 160 R3]) (st := []) C cl_Tru_144 cd_Wrd_roundedSize (c_Wrd_roundedSize cI cJ w wa mo W2 (dv 1000000000 R2 160) T top F hWl) (Xok_t K) Xbl_t [3, 4] [0, 1, 2, 5, 6] rfl rfl (by decide) (by decide) (by decide) 0 rfl rfl rfl rfl rfl (Nat.le_of_ble_eq_true rfl) (by decide) (by decide) dq_Tru_nearestSize_68 (fun z u hu => ?_)
        obtain ⟨r, rfl, hr, rfl⟩ := hu
        show V K 1 [oc x 3 [.ref k, vi (b2 mi), vi ((zr : Nat) : Int), vi pt, .ref g, .ref w, .ref t, .ref l, .ref hi], oc k 0 [.ref ka, vi ((len : Nat) : Int), vi pl], ai cI ka 800 f, oc g 1 [.ref b, vi ((fi3 : Nat) : Int), vi ((en3 : Nat) : Int)], aj cJ b 160 R3, oc w 2 [.ref wa, vi (b2 mo)], aj cJ wa 70 W2] 0 0 71 [(0, .ref x)] [vj ((r : Nat) : Int)]
        refine qv_lret C hR ?_ dq_Tru_nearestSize_71 (by decide) (by decide)
        refine ⟨r, R3, fi3, en3, mo, W2, rfl, Or.inr (Or.inr (Or.inr ⟨by omega, by omega, by omega, ?_⟩)), rfl⟩
        have h := Ns_of hr
        rw [hv, ← sv_75 (by omega)] at h
        exact h
      · skip
        refine qv_ldc2 C (z := 9218868437227405312) wk_Tru_41 dq_Tru_nearestSize_38 ?_
        refine qv_lret C hR ?_ dq_Tru_nearestSize_41 (by decide) (by decide)
        refine ⟨INF, R, fi, en, hm, W, by decide, ?_, rfl⟩
        by_cases q : 310 < pl
        · exact Or.inr (Or.inr (Or.inl ⟨by omega, q, rfl⟩))
        · exact Or.inr (Or.inr (Or.inr ⟨by omega, by omega, by omega, Ns_high hN (by omega) (by omega) (by omega)⟩))
    · skip
      refine qv_lconst C (z := 0) (by decide) dq_Tru_nearestSize_23 ?_
      refine qv_lret C hR ?_ dq_Tru_nearestSize_24 (by decide) (by decide)
      refine ⟨0, R, fi, en, hm, W, rfl, ?_, rfl⟩
      by_cases q : pl < -330
      · exact Or.inr (Or.inl ⟨by omega, q, rfl⟩)
      · exact Or.inr (Or.inr (Or.inr ⟨by omega, by omega, by omega, Ns_low hN (by omega) (by omega)⟩))

