abbrev gw (cJ : ClassId) (g b fi en : Nat) (R : Nat → Nat) : va_W := [oc g 1 [.ref b, vi (fi : Nat), vi (en : Nat)], aj cJ b 160 R]
theorem c_JInt_compare (cI cJ : ClassId) (x y : Int) (hx : ri x) (hy : ri y) : MtI cI cJ ky_JInt_compare kb_JInt_compare 2 .int rm_JInt_compare Xt [vi x, vi y] [] (fun z u => z = (if x < y then -1 else if x = y then 0 else 1) ∧ u = []) := by
  refine MtI_in (by decide) (Nat.le_of_ble_eq_true rfl) (fun K C hR hX hN => ?_)
  show V K 2 [] 0 0 0 [(0, vi x), (1, vi y)] []
  refine qv_iload_n C rfl dq_JInt_compare_0 ?_
  refine qv_iload_n C rfl dq_JInt_compare_1 ?_
  refine qv_icge C (by omega) (by omega) (tgt := 9) (by decide) dq_JInt_compare_2 (fun h2 => ?_) (fun h2 => ?_)
  · skip
    refine qv_iload_n C rfl dq_JInt_compare_9 ?_
    refine qv_iload_n C rfl dq_JInt_compare_10 ?_
    refine qv_icne C (by omega) (by omega) (tgt := 18) (by decide) dq_JInt_compare_11 (fun h11 => ?_) (fun h11 => ?_)
    · skip
      refine qv_iconst C dq_JInt_compare_18 ?_
      refine qv_iret C hR ?_ dq_JInt_compare_19 (by decide) (by decide)
      refine ⟨?_, rfl⟩
      first | rw [if_pos (by omega)] | rw [if_neg (by omega), if_pos (by omega)] | rw [if_neg (by omega), if_neg (by omega)]
    · skip
      refine qv_iconst C dq_JInt_compare_14 ?_
      refine qv_goto C (tgt := 19) (by decide) dq_JInt_compare_15 ?_
      refine qv_iret C hR ?_ dq_JInt_compare_19 (by decide) (by decide)
      refine ⟨?_, rfl⟩
      first | rw [if_pos (by omega)] | rw [if_neg (by omega), if_pos (by omega)] | rw [if_neg (by omega), if_neg (by omega)]
  · skip
    refine qv_iconst C dq_JInt_compare_5 ?_
    refine qv_goto C (tgt := 19) (by decide) dq_JInt_compare_6 ?_
    refine qv_iret C hR ?_ dq_JInt_compare_19 (by decide) (by decide)
    refine ⟨?_, rfl⟩
    first | rw [if_pos (by omega)] | rw [if_neg (by omega), if_pos (by omega)] | rw [if_neg (by omega), if_neg (by omega)]

theorem c_JArr_fill (cI cJ : ClassId) (b n v : Nat) (f : Nat → Nat) (hn : n ≤ 2147483647) : MtV cI cJ ky_JArr_fill kb_JArr_fill 5 rm_JArr_fill Xt [.ref b, vj ((v : Nat) : Int)] [aj cJ b n f] (fun u => u = [aj cJ b n (fun _ => v)]) := by
  refine MtV_in (by decide) (Nat.le_of_ble_eq_true rfl) (fun K C hR hX hN => ?_)
  show V K 5 [aj cJ b n f] 0 0 0 [(0, .ref b), (1, vj ((v : Nat) : Int))] []
  have loop : ∀ k i, i + k = n → V K 5 [aj cJ b n (fl f v i)] 0 0 6 [(0, .ref b), (1, vj ((v : Nat) : Int)), (3, vi ((i : Nat) : Int)), (4, vi ((n : Nat) : Int))] [] := by
    intro k
    induction k with
    | zero =>
      intro i hi
      refine qv_iload_n C rfl dq_JArr_fill_6 ?_
      refine qv_iload C rfl dq_JArr_fill_7 ?_
      refine qv_icge C (by omega) (by omega) (tgt := 22) (by decide) dq_JArr_fill_9 (fun h9 => ?_) (fun h9 => ?_)
      · skip
        refine qv_cgj (cJ := cJ) (g := fun _ => v) (ws' := [aj cJ b n (fun _ => v)]) 0 rfl (fun j hj => if_pos (by omega)) rfl ?_
        refine qv_vret C hR ?_ dq_JArr_fill_22 (by decide) (by decide)
        rfl
      · exfalso; omega
    | succ k ih =>
      intro i hi
      refine qv_iload_n C rfl dq_JArr_fill_6 ?_
      refine qv_iload C rfl dq_JArr_fill_7 ?_
      refine qv_icge C (by omega) (by omega) (tgt := 22) (by decide) dq_JArr_fill_9 (fun h9 => ?_) (fun h9 => ?_)
      · exfalso; omega
      · skip
        refine qv_aload_n C rfl dq_JArr_fill_12 ?_
        refine qv_iload_n C rfl dq_JArr_fill_13 ?_
        refine qv_lload_n C rfl dq_JArr_fill_14 ?_
        refine qv_last C (ws' := [aj cJ b n (un (fl f v i) i v)]) 0 i v rfl (by omega) (by omega) (by omega) (by omega) rfl dq_JArr_fill_15 ?_
        refine qv_iinc C (j := 2) (lv' := [(3, vi (((i + 1) : Nat) : Int)), (0, .ref b), (1, vj ((v : Nat) : Int)), (4, vi ((n : Nat) : Int))]) (by omega) rfl (by decide) rfl dq_JArr_fill_16 ?_
        refine qv_goto C (tgt := 6) (by decide) dq_JArr_fill_19 ?_
        refine qv_lv [1, 2, 0, 3] (lv' := [(0, .ref b), (1, vj ((v : Nat) : Int)), (3, vi (((i + 1) : Nat) : Int)), (4, vi ((n : Nat) : Int))]) rfl ?_
        rw [fl_s]
        exact ih (i + 1) (by omega)
  refine qv_iconst C dq_JArr_fill_0 ?_
  refine qv_istore_n C (lv' := [(3, vi 0), (0, .ref b), (1, vj ((v : Nat) : Int))]) (by decide) rfl dq_JArr_fill_1 ?_
  refine qv_aload_n C rfl dq_JArr_fill_2 ?_
  refine qv_alenJ C 0 rfl dq_JArr_fill_3 ?_
  refine qv_istore C (lv' := [(4, vi ((n : Nat) : Int)), (3, vi 0), (0, .ref b), (1, vj ((v : Nat) : Int))]) (by decide) rfl dq_JArr_fill_4 ?_
  refine qv_lv [2, 3, 1, 0] (lv' := [(0, .ref b), (1, vj ((v : Nat) : Int)), (3, vi 0), (4, vi ((n : Nat) : Int))]) rfl ?_
  have l0 := loop n 0 (by omega)
  rw [fl_0] at l0
  exact l0

theorem c_Grp_placeOfFirst (cI cJ : ClassId) (g b fi en : Nat) (R : Nat → Nat) : MtI cI cJ ky_Grp_placeOfFirst kb_Grp_placeOfFirst 1 .int rm_Grp_placeOfFirst Xt [.ref g] [oc g 1 [.ref b, vi ((fi : Nat) : Int), vi ((en : Nat) : Int)], aj cJ b 160 R] (fun z u => z = (35 - (fi : Int)) * 9 ∧ u = gw cJ g b fi en R) := by
  refine MtI_in (by decide) (Nat.le_of_ble_eq_true rfl) (fun K C hR hX hN => ?_)
  show V K 1 [oc g 1 [.ref b, vi ((fi : Nat) : Int), vi ((en : Nat) : Int)], aj cJ b 160 R] 0 0 0 [(0, .ref g)] []
  refine qv_bipush C (by decide) dq_Grp_placeOfFirst_0 ?_
  refine qv_aload_n C rfl dq_Grp_placeOfFirst_2 ?_
  refine qv_get C fl_Grp_15 0 rfl rfl dq_Grp_placeOfFirst_3 ?_
  refine qv_isub C (r := (35 - ((fi : Nat) : Int))) rfl dq_Grp_placeOfFirst_6 ?_
  refine qv_bipush C (by decide) dq_Grp_placeOfFirst_7 ?_
  refine qv_imul C (r := ((35 - ((fi : Nat) : Int)) * 9)) rfl dq_Grp_placeOfFirst_9 ?_
  refine qv_iret C hR ?_ dq_Grp_placeOfFirst_10 (by decide) (by decide)
  exact ⟨rfl, rfl⟩

theorem c_Dec_against (cI cJ : ClassId) (h a h2 a2 l1 l2 : Nat) (p1 p2 : Int) (f1 f2 : Nat → Nat) (hk1 : Nrm f1 l1) (hk2 : Nrm f2 l2) (h01 : 0 < l1) (h02 : 0 < l2) (hl1 : l1 ≤ 800) (hl2 : l2 ≤ 800) (hf1 : ∀ i, f1 i ≤ 9) (hf2 : ∀ i, f2 i ≤ 9) (hp1 : -10000 ≤ p1 ∧ p1 ≤ 10000) (hp2 : -10000 ≤ p2 ∧ p2 ≤ 10000) (hq1 : (l1 : Int) ≤ p1 + 1200) (hq2 : (l2 : Int) ≤ p2 + 1200) : MtI cI cJ ky_Dec_against kb_Dec_against 4 .int rm_Dec_against Xt [.ref h, .ref h2] [oc h 0 [.ref a, vi ((l1 : Nat) : Int), vi p1], ai cI a 800 f1, oc h2 0 [.ref a2, vi ((l2 : Nat) : Int), vi p2], ai cI a2 800 f2] (fun z u => Cs z (sv 1200 f1 l1 p1) (sv 1200 f2 l2 p2) ∧ (-1 ≤ z ∧ z ≤ 1) ∧ u = dw cI h a l1 p1 f1 ++ dw cI h2 a2 l2 p2 f2) := by
  refine MtI_in (by decide) (Nat.le_of_ble_eq_true rfl) (fun K C hR hX hN => ?_)
  show V K 4 [oc h 0 [.ref a, vi ((l1 : Nat) : Int), vi p1], ai cI a 800 f1, oc h2 0 [.ref a2, vi ((l2 : Nat) : Int), vi p2], ai cI a2 800 f2] 0 0 0 [(0, .ref h), (1, .ref h2)] []
  have loop : p1 = p2 → ∀ k i, i + k = min l1 l2 → (∀ j, j < i → f1 j = f2 j) → V K 4 [oc h 0 [.ref a, vi ((l1 : Nat) : Int), vi p1], ai cI a 800 f1, oc h2 0 [.ref a2, vi ((l2 : Nat) : Int), vi p2], ai cI a2 800 f2] 0 0 37 [(0, .ref h), (1, .ref h2), (2, vi (((min l1 l2) : Nat) : Int)), (3, vi ((i : Nat) : Int))] [] := by
    intro hpp k
    induction k with
    | zero =>
      intro i hi hpre
      refine qv_iload_n C rfl dq_Dec_against_37 ?_
      refine qv_iload_n C rfl dq_Dec_against_38 ?_
      refine qv_icge C (by omega) (by omega) (tgt := 79) (by decide) dq_Dec_against_39 (fun h39 => ?_) (fun h39 => ?_)
      · skip
        refine qv_aload_n C rfl dq_Dec_against_79 ?_
        refine qv_get C fl_Dec_15 0 rfl rfl dq_Dec_against_80 ?_
        refine qv_aload_n C rfl dq_Dec_against_83 ?_
        refine qv_get C fl_Dec_15 2 rfl rfl dq_Dec_against_84 ?_
        refine qc_sI (wr := [oc h 0 [.ref a, vi ((l1 : Nat) : Int), vi p1], ai cI a 800 f1, oc h2 0 [.ref a2, vi ((l2 : Nat) : Int), vi p2], ai cI a2 800 f2]) (st := []) C cl_Dec_45 cd_JInt_compare (c_JInt_compare cI cJ ((l1 : Nat) : Int) ((l2 : Nat) : Int) (by omega) (by omega)) (Xok_t K) Xbl_t [] [0, 1, 2, 3] rfl rfl (by decide) (by decide) (by decide) rfl rfl (Nat.le_of_ble_eq_true rfl) (by decide) (by decide) dq_Dec_against_87 (fun z u hu => ?_)
        obtain ⟨rfl, rfl⟩ := hu
        show V K 4 [oc h 0 [.ref a, vi ((l1 : Nat) : Int), vi p1], ai cI a 800 f1, oc h2 0 [.ref a2, vi ((l2 : Nat) : Int), vi p2], ai cI a2 800 f2] 0 0 90 [(0, .ref h), (1, .ref h2), (2, vi (((min l1 l2) : Nat) : Int)), (3, vi ((i : Nat) : Int))] [vi (if ((l1 : Nat) : Int) < ((l2 : Nat) : Int) then -1 else if ((l1 : Nat) : Int) = ((l2 : Nat) : Int) then 0 else 1)]
        refine qv_iret C hR ?_ dq_Dec_against_90 (by decide) (by decide)
        refine ⟨?_, (by constructor <;> (repeat' split) <;> omega), rfl⟩
        subst hpp
        have hs : ∀ j, j < min l1 l2 → f1 j = f2 j := fun j hj => hpre j (by omega)
        by_cases q1 : l1 < l2
        · rw [if_pos (by omega)]
          exact Or.inl ⟨by omega, sv_pre q1 (fun j hj => hs j (by omega)) (by have := (hk2.2 h02).2; omega) (by omega)⟩
        · by_cases q2 : l1 = l2
          · rw [if_neg (by omega), if_pos (by omega)]
            subst q2
            exact Or.inr (Or.inl ⟨rfl, sv_eq (l := l1) (fun j hj => hs j (by omega))⟩)
          · rw [if_neg (by omega), if_neg (by omega)]
            exact Or.inr (Or.inr ⟨by omega, sv_pre (by omega) (fun j hj => (hs j (by omega)).symm) (by have := (hk1.2 h01).2; omega) (by omega)⟩)
      · exfalso; omega
    | succ k ih =>
      intro i hi hpre
      have b1 := hf1 i
      have b2 := hf2 i
      refine qv_iload_n C rfl dq_Dec_against_37 ?_
      refine qv_iload_n C rfl dq_Dec_against_38 ?_
      refine qv_icge C (by omega) (by omega) (tgt := 79) (by decide) dq_Dec_against_39 (fun h39 => ?_) (fun h39 => ?_)
      · exfalso; omega
      · skip
        refine qv_aload_n C rfl dq_Dec_against_42 ?_
        refine qv_get C fl_Dec_9 0 rfl rfl dq_Dec_against_43 ?_
        refine qv_iload_n C rfl dq_Dec_against_46 ?_
        refine qv_iald C 1 i rfl (by omega) (by omega) (by omega) dq_Dec_against_47 ?_
        refine qv_aload_n C rfl dq_Dec_against_48 ?_
        refine qv_get C fl_Dec_9 2 rfl rfl dq_Dec_against_49 ?_
        refine qv_iload_n C rfl dq_Dec_against_52 ?_
        refine qv_iald C 3 i rfl (by omega) (by omega) (by omega) dq_Dec_against_53 ?_
        refine qv_iceq C (by omega) (by omega) (tgt := 73) (by decide) dq_Dec_against_54 (fun h54 => ?_) (fun h54 => ?_)
        · skip
          refine qv_iinc C (j := 3) (lv' := [(3, vi (((i + 1) : Nat) : Int)), (0, .ref h), (1, .ref h2), (2, vi (((min l1 l2) : Nat) : Int))]) (by omega) rfl (by decide) rfl dq_Dec_against_73 ?_
          refine qv_goto C (tgt := 37) (by decide) dq_Dec_against_76 ?_
          refine qv_lv [1, 2, 3, 0] (lv' := [(0, .ref h), (1, .ref h2), (2, vi (((min l1 l2) : Nat) : Int)), (3, vi (((i + 1) : Nat) : Int))]) rfl ?_
          exact ih (i + 1) (by omega) (fun j hj => by
            by_cases q : j = i
            · rw [q]; omega
            · exact hpre j (by omega))
        · skip
          refine qv_aload_n C rfl dq_Dec_against_57 ?_
          refine qv_get C fl_Dec_9 0 rfl rfl dq_Dec_against_58 ?_
          refine qv_iload_n C rfl dq_Dec_against_61 ?_
          refine qv_iald C 1 i rfl (by omega) (by omega) (by omega) dq_Dec_against_62 ?_
          refine qv_aload_n C rfl dq_Dec_against_63 ?_
          refine qv_get C fl_Dec_9 2 rfl rfl dq_Dec_against_64 ?_
          refine qv_iload_n C rfl dq_Dec_against_67 ?_
          refine qv_iald C 3 i rfl (by omega) (by omega) (by omega) dq_Dec_against_68 ?_
          refine qc_sI (wr := [oc h 0 [.ref a, vi ((l1 : Nat) : Int), vi p1], ai cI a 800 f1, oc h2 0 [.ref a2, vi ((l2 : Nat) : Int), vi p2], ai cI a2 800 f2]) (st := []) C cl_Dec_45 cd_JInt_compare (c_JInt_compare cI cJ ((f1 i : Nat) : Int) ((f2 i : Nat) : Int) (by omega) (by omega)) (Xok_t K) Xbl_t [] [0, 1, 2, 3] rfl rfl (by decide) (by decide) (by decide) rfl rfl (Nat.le_of_ble_eq_true rfl) (by decide) (by decide) dq_Dec_against_69 (fun z u hu => ?_)
          obtain ⟨rfl, rfl⟩ := hu
          show V K 4 [oc h 0 [.ref a, vi ((l1 : Nat) : Int), vi p1], ai cI a 800 f1, oc h2 0 [.ref a2, vi ((l2 : Nat) : Int), vi p2], ai cI a2 800 f2] 0 0 72 [(0, .ref h), (1, .ref h2), (2, vi (((min l1 l2) : Nat) : Int)), (3, vi ((i : Nat) : Int))] [vi (if ((f1 i : Nat) : Int) < ((f2 i : Nat) : Int) then -1 else if ((f1 i : Nat) : Int) = ((f2 i : Nat) : Int) then 0 else 1)]
          refine qv_iret C hR ?_ dq_Dec_against_72 (by decide) (by decide)
          refine ⟨?_, (by constructor <;> (repeat' split) <;> omega), rfl⟩
          subst hpp
          have hs : ∀ j, j < i → f1 j = f2 j := hpre
          by_cases q1 : f1 i < f2 i
          · rw [if_pos (by omega)]
            exact Or.inl ⟨by omega, sv_dig hf1 (by omega) (by omega) (by omega) (by omega) hs q1⟩
          · rw [if_neg (by omega), if_neg (by omega)]
            exact Or.inr (Or.inr ⟨by omega, sv_dig hf2 (by omega) (by omega) (by omega) (by omega) (fun j hj => (hs j hj).symm) (by omega)⟩)
  refine qv_aload_n C rfl dq_Dec_against_0 ?_
  refine qv_get C fl_Dec_19 0 rfl rfl dq_Dec_against_1 ?_
  refine qv_aload_n C rfl dq_Dec_against_4 ?_
  refine qv_get C fl_Dec_19 2 rfl rfl dq_Dec_against_5 ?_
  refine qv_iceq C (by omega) (by omega) (tgt := 23) (by decide) dq_Dec_against_8 (fun h8 => ?_) (fun h8 => ?_)
  · skip
    refine qv_aload_n C rfl dq_Dec_against_23 ?_
    refine qv_get C fl_Dec_15 0 rfl rfl dq_Dec_against_24 ?_
    refine qv_aload_n C rfl dq_Dec_against_27 ?_
    refine qv_get C fl_Dec_15 2 rfl rfl dq_Dec_against_28 ?_
    refine qv_mmin (r := (((min l1 l2) : Nat) : Int)) C cl_Dec_51 wm_min_s wm_init wm_min_c (by omega) (by omega) (by decide) (Nat.le_of_ble_eq_true rfl) (by decide) (by decide) (by omega) dq_Dec_against_31 ?_
    refine qv_istore_n C (lv' := [(2, vi (((min l1 l2) : Nat) : Int)), (0, .ref h), (1, .ref h2)]) (by decide) rfl dq_Dec_against_34 ?_
    refine qv_iconst C dq_Dec_against_35 ?_
    refine qv_istore_n C (lv' := [(3, vi 0), (2, vi (((min l1 l2) : Nat) : Int)), (0, .ref h), (1, .ref h2)]) (by decide) rfl dq_Dec_against_36 ?_
    refine qv_lv [2, 3, 1, 0] (lv' := [(0, .ref h), (1, .ref h2), (2, vi (((min l1 l2) : Nat) : Int)), (3, vi 0)]) rfl ?_
    exact loop (by omega) (min l1 l2) 0 (by omega) (fun j hj => by omega)
  · skip
    refine qv_aload_n C rfl dq_Dec_against_11 ?_
    refine qv_get C fl_Dec_19 0 rfl rfl dq_Dec_against_12 ?_
    refine qv_aload_n C rfl dq_Dec_against_15 ?_
    refine qv_get C fl_Dec_19 2 rfl rfl dq_Dec_against_16 ?_
    refine qc_sI (wr := [oc h 0 [.ref a, vi ((l1 : Nat) : Int), vi p1], ai cI a 800 f1, oc h2 0 [.ref a2, vi ((l2 : Nat) : Int), vi p2], ai cI a2 800 f2]) (st := []) C cl_Dec_45 cd_JInt_compare (c_JInt_compare cI cJ p1 p2 (by omega) (by omega)) (Xok_t K) Xbl_t [] [0, 1, 2, 3] rfl rfl (by decide) (by decide) (by decide) rfl rfl (Nat.le_of_ble_eq_true rfl) (by decide) (by decide) dq_Dec_against_19 (fun z u hu => ?_)
    obtain ⟨rfl, rfl⟩ := hu
    show V K 4 [oc h 0 [.ref a, vi ((l1 : Nat) : Int), vi p1], ai cI a 800 f1, oc h2 0 [.ref a2, vi ((l2 : Nat) : Int), vi p2], ai cI a2 800 f2] 0 0 22 [(0, .ref h), (1, .ref h2)] [vi (if p1 < p2 then -1 else if p1 = p2 then 0 else 1)]
    refine qv_iret C hR ?_ dq_Dec_against_22 (by decide) (by decide)
    refine ⟨?_, (by constructor <;> (repeat' split) <;> omega), rfl⟩
    by_cases q1 : p1 < p2
    · rw [if_pos q1]
      exact Or.inl ⟨by omega, sv_place hk1 hk2 h02 hq1 hq2 q1⟩
    · rw [if_neg q1, if_neg (by omega)]
      exact Or.inr (Or.inr ⟨by omega, sv_place hk2 hk1 h01 hq2 hq1 (by omega)⟩)

theorem c_Dec_readGroup (cI cJ : ClassId) (h a len : Nat) (pl : Int) (f : Nat → Nat) (R : Nat → Nat) (s i x : Nat) (hR : R i < 1000000000) (hx : x = R i) (hi : i < 160) (hs : s ≤ 9 * i) (hRS : RS R s (9 * i) len pl f) : MtV cI cJ ky_Dec_readGroup kb_Dec_readGroup 6 rm_Dec_readGroup Xt [.ref h, vj ((x : Nat) : Int)] [oc h 0 [.ref a, vi ((len : Nat) : Int), vi pl], ai cI a 800 f] (fun u => ∃ (len2 : Nat) (pl2 : Int) (f2 : Nat → Nat), u = dw cI h a len2 pl2 f2 ∧ RS R s (9 * i + 9) len2 pl2 f2) := by
  refine MtV_in (by decide) (Nat.le_of_ble_eq_true rfl) (fun K C hR hX hN => ?_)
  show V K 6 [oc h 0 [.ref a, vi ((len : Nat) : Int), vi pl], ai cI a 800 f] 0 0 0 [(0, .ref h), (1, vj ((x : Nat) : Int))] []
  have loop : ∀ n k (len : Nat) (pl : Int) (f : Nat → Nat), k + n = 9 → RS R s (9 * i + k) len pl f → V K 6 [oc h 0 [.ref a, vi ((len : Nat) : Int), vi pl], ai cI a 800 f] 0 0 4 [(0, .ref h), (1, vj ((x : Nat) : Int)), (3, vj ((uk k : Nat) : Int))] [] := by
    intro n
    induction n with
    | zero =>
      intro k len pl f hk hRS
      have ek : k = 9 := by omega
      subst ek
      have u9 := uk_9
      refine qv_lload_n C rfl dq_Dec_readGroup_4 ?_
      refine qv_lconst C (z := 0) (by decide) dq_Dec_readGroup_5 ?_
      refine qv_lcle C (by omega) (by omega) dq_Dec_readGroup_6 (tgt := 60) (by decide) dq_Dec_readGroup_7 (fun h6 => ?_) (fun h6 => ?_)
      · skip
        refine qv_vret C hR ?_ dq_Dec_readGroup_60 (by decide) (by decide)
        exact ⟨len, pl, f, rfl, hRS⟩
      · exfalso; omega
    | succ n ih =>
      intro k len pl f hk hRS
      have u0 := uk_pos (show k < 9 by omega)
      have u1 := uk_le k
      have hlen := RS_len hRS
      have hd := uk_ge (R := R) (i := i) (show k < 9 by omega)
      rw [← hx] at hd
      obtain ⟨y, hy⟩ : ∃ y, y = x / uk k := ⟨_, rfl⟩
      have hyx : y ≤ x := by rw [hy]; exact Nat.div_le_self _ _
      rw [← hy] at hd
      have hd9 : y % 10 ≤ 9 := by omega
      refine qv_lload_n C rfl dq_Dec_readGroup_4 ?_
      refine qv_lconst C (z := 0) (by decide) dq_Dec_readGroup_5 ?_
      refine qv_lcle C (by omega) (by omega) dq_Dec_readGroup_6 (tgt := 60) (by decide) dq_Dec_readGroup_7 (fun h6 => ?_) (fun h6 => ?_)
      · exfalso; omega
      · skip
        refine qv_lload_n C rfl dq_Dec_readGroup_10 ?_
        refine qv_lload_n C rfl dq_Dec_readGroup_11 ?_
        refine qv_ldiv C (r := ((y : Nat) : Int)) (by omega) (by omega) (by omega) (by omega) (by rw [hy]; exact (Int.natCast_ediv _ _).symm) dq_Dec_readGroup_12 ?_
        refine qv_ldc2 C (z := 10) wk_Dec_78 dq_Dec_readGroup_13 ?_
        refine qv_lrem C (r := (((y % 10) : Nat) : Int)) (by omega) (by omega) (by omega) (by omega) (by omega) dq_Dec_readGroup_16 ?_
        refine qv_l2i C dq_Dec_readGroup_17 ?_
        refine qv_istore C (lv' := [(5, vi (((y % 10) : Nat) : Int)), (0, .ref h), (1, vj ((x : Nat) : Int)), (3, vj ((uk k : Nat) : Int))]) (by decide) rfl dq_Dec_readGroup_18 ?_
        refine qv_aload_n C rfl dq_Dec_readGroup_20 ?_
        refine qv_get C fl_Dec_15 0 rfl rfl dq_Dec_readGroup_21 ?_
        refine qv_ifne C (by omega) (tgt := 45) (by decide) dq_Dec_readGroup_24 (fun h24 => ?_) (fun h24 => ?_)
        · skip
          refine qv_aload_n C rfl dq_Dec_readGroup_45 ?_
          refine qv_iload C rfl dq_Dec_readGroup_46 ?_
          refine qc_vV (wr := []) (st := []) C cl_Dec_80 cd_Dec_append (c_Dec_append cI cJ h a len pl f (y % 10) hlen) (Xok_t K) Xbl_t [0, 1] [] rfl rfl (by decide) (by decide) (by decide) 0 rfl rfl rfl rfl rfl (Nat.le_of_ble_eq_true rfl) (by decide) (by decide) dq_Dec_readGroup_48 (fun u hu => ?_)
          obtain rfl := hu
          show V K 6 [oc h 0 [.ref a, vi ((apL len : Nat) : Int), vi pl], ai cI a 800 (apF f len (y % 10))] 0 0 51 [(5, vi (((y % 10) : Nat) : Int)), (0, .ref h), (1, vj ((x : Nat) : Int)), (3, vj ((uk k : Nat) : Int))] []
          refine qv_lload_n C rfl dq_Dec_readGroup_51 ?_
          refine qv_ldc2 C (z := 10) wk_Dec_78 dq_Dec_readGroup_52 ?_
          refine qv_ldiv C (r := ((uk (k + 1) : Nat) : Int)) (by omega) (by omega) (by omega) (by omega) (by rw [← uk_s]; omega) dq_Dec_readGroup_55 ?_
          refine qv_lstore_n C (lv' := [(3, vj ((uk (k + 1) : Nat) : Int)), (5, vi (((y % 10) : Nat) : Int)), (0, .ref h), (1, vj ((x : Nat) : Int))]) (by decide) rfl dq_Dec_readGroup_56 ?_
          refine qv_goto C (tgt := 4) (by decide) dq_Dec_readGroup_57 ?_
          refine qv_lv [2, 3, 0] (lv' := [(0, .ref h), (1, vj ((x : Nat) : Int)), (3, vj ((uk (k + 1) : Nat) : Int))]) rfl ?_
          exact ih (k + 1) _ _ _ (by omega) (by rw [hd]; exact RS_ap (j := 9 * i + k) (by omega) hRS (by omega))
        · skip
          refine qv_iload C rfl dq_Dec_readGroup_27 ?_
          refine qv_ifne C (by omega) (tgt := 45) (by decide) dq_Dec_readGroup_29 (fun h29 => ?_) (fun h29 => ?_)
          · skip
            refine qv_aload_n C rfl dq_Dec_readGroup_45 ?_
            refine qv_iload C rfl dq_Dec_readGroup_46 ?_
            refine qc_vV (wr := []) (st := []) C cl_Dec_80 cd_Dec_append (c_Dec_append cI cJ h a len pl f (y % 10) hlen) (Xok_t K) Xbl_t [0, 1] [] rfl rfl (by decide) (by decide) (by decide) 0 rfl rfl rfl rfl rfl (Nat.le_of_ble_eq_true rfl) (by decide) (by decide) dq_Dec_readGroup_48 (fun u hu => ?_)
            obtain rfl := hu
            show V K 6 [oc h 0 [.ref a, vi ((apL len : Nat) : Int), vi pl], ai cI a 800 (apF f len (y % 10))] 0 0 51 [(5, vi (((y % 10) : Nat) : Int)), (0, .ref h), (1, vj ((x : Nat) : Int)), (3, vj ((uk k : Nat) : Int))] []
            refine qv_lload_n C rfl dq_Dec_readGroup_51 ?_
            refine qv_ldc2 C (z := 10) wk_Dec_78 dq_Dec_readGroup_52 ?_
            refine qv_ldiv C (r := ((uk (k + 1) : Nat) : Int)) (by omega) (by omega) (by omega) (by omega) (by rw [← uk_s]; omega) dq_Dec_readGroup_55 ?_
            refine qv_lstore_n C (lv' := [(3, vj ((uk (k + 1) : Nat) : Int)), (5, vi (((y % 10) : Nat) : Int)), (0, .ref h), (1, vj ((x : Nat) : Int))]) (by decide) rfl dq_Dec_readGroup_56 ?_
            refine qv_goto C (tgt := 4) (by decide) dq_Dec_readGroup_57 ?_
            refine qv_lv [2, 3, 0] (lv' := [(0, .ref h), (1, vj ((x : Nat) : Int)), (3, vj ((uk (k + 1) : Nat) : Int))]) rfl ?_
            exact ih (k + 1) _ _ _ (by omega) (by rw [hd]; exact RS_ap (j := 9 * i + k) (by omega) hRS (by omega))
          · skip
            refine qv_aload_n C rfl dq_Dec_readGroup_32 ?_
            refine qv_dup C rfl dq_Dec_readGroup_33 ?_
            refine qv_get C fl_Dec_19 0 rfl rfl dq_Dec_readGroup_34 ?_
            refine qv_iconst C dq_Dec_readGroup_37 ?_
            refine qv_isub C (r := (pl - 1)) rfl dq_Dec_readGroup_38 ?_
            refine qv_put C (ws' := [oc h 0 [.ref a, vi ((len : Nat) : Int), vi (pl - 1)], ai cI a 800 f]) fl_Dec_19 fs_0_2 0 rfl rfl rfl (Nat.le_of_ble_eq_true rfl) rfl dq_Dec_readGroup_39 ?_
            refine qv_goto C (tgt := 51) (by decide) dq_Dec_readGroup_42 ?_
            refine qv_lload_n C rfl dq_Dec_readGroup_51 ?_
            refine qv_ldc2 C (z := 10) wk_Dec_78 dq_Dec_readGroup_52 ?_
            refine qv_ldiv C (r := ((uk (k + 1) : Nat) : Int)) (by omega) (by omega) (by omega) (by omega) (by rw [← uk_s]; omega) dq_Dec_readGroup_55 ?_
            refine qv_lstore_n C (lv' := [(3, vj ((uk (k + 1) : Nat) : Int)), (5, vi (((y % 10) : Nat) : Int)), (0, .ref h), (1, vj ((x : Nat) : Int))]) (by decide) rfl dq_Dec_readGroup_56 ?_
            refine qv_goto C (tgt := 4) (by decide) dq_Dec_readGroup_57 ?_
            refine qv_lv [2, 3, 0] (lv' := [(0, .ref h), (1, vj ((x : Nat) : Int)), (3, vj ((uk (k + 1) : Nat) : Int))]) rfl ?_
            have el : len = 0 := by omega
            subst el
            exact ih (k + 1) _ _ _ (by omega) (RS_skip (j := 9 * i + k) hRS (by omega))
  refine qv_ldc2 C (z := 100000000) wk_Dec_76 dq_Dec_readGroup_0 ?_
  refine qv_lstore_n C (lv' := [(3, vj 100000000), (0, .ref h), (1, vj ((x : Nat) : Int))]) (by decide) rfl dq_Dec_readGroup_3 ?_
  refine qv_lv [1, 2, 0] (lv' := [(0, .ref h), (1, vj ((x : Nat) : Int)), (3, vj 100000000)]) rfl ?_
  exact loop 9 0 len pl f rfl hRS

theorem c_Dec_read (cI cJ : ClassId) (h a len : Nat) (pl : Int) (f : Nat → Nat) (g b fi en : Nat) (R : Nat → Nat) (hf : ∀ i, f i ≤ 9) (hG : Gd R fi en) (hno : ∀ j0, ge R j0 ≠ 0 → (∀ i, i < j0 → ge R i = 0) → 9 * en ≤ j0 + 800) : MtV cI cJ ky_Dec_read kb_Dec_read 3 rm_Dec_read Xt [.ref h, .ref g] [oc h 0 [.ref a, vi ((len : Nat) : Int), vi pl], ai cI a 800 f, oc g 1 [.ref b, vi ((fi : Nat) : Int), vi ((en : Nat) : Int)], aj cJ b 160 R] (fun u => ∃ (len2 : Nat) (pl2 : Int) (f2 : Nat → Nat), u = dw cI h a len2 pl2 f2 ++ gw cJ g b fi en R ∧ Rd R len2 pl2 f2) := by
  refine MtV_in (by decide) (Nat.le_of_ble_eq_true rfl) (fun K C hR hX hN => ?_)
  show V K 3 [oc h 0 [.ref a, vi ((len : Nat) : Int), vi pl], ai cI a 800 f, oc g 1 [.ref b, vi ((fi : Nat) : Int), vi ((en : Nat) : Int)], aj cJ b 160 R] 0 0 0 [(0, .ref h), (1, .ref g)] []
  obtain ⟨g1, g2, g3, g4, g5⟩ := id hG
  have loop : ∀ k i (len : Nat) (pl : Int) (f : Nat → Nat), i + k = max fi en → fi ≤ i → RS R (9 * fi) (9 * i) len pl f → V K 3 [oc g 1 [.ref b, vi ((fi : Nat) : Int), vi ((en : Nat) : Int)], aj cJ b 160 R, oc h 0 [.ref a, vi ((len : Nat) : Int), vi pl], ai cI a 800 f] 0 0 18 [(0, .ref h), (1, .ref g), (2, vi ((i : Nat) : Int))] [] := by
    intro k
    induction k with
    | zero =>
      intro i len pl f hi hfi hRS
      refine qv_iload_n C rfl dq_Dec_read_18 ?_
      refine qv_aload_n C rfl dq_Dec_read_19 ?_
      refine qv_get C fl_Dec_65 0 rfl rfl dq_Dec_read_20 ?_
      refine qv_icge C (by omega) (by omega) (tgt := 42) (by decide) dq_Dec_read_23 (fun h23 => ?_) (fun h23 => ?_)
      · skip
        refine qv_aload_n C rfl dq_Dec_read_42 ?_
        refine qc_vV (wr := [oc g 1 [.ref b, vi ((fi : Nat) : Int), vi ((en : Nat) : Int)], aj cJ b 160 R]) (st := []) C cl_Dec_42 cd_Dec_dropZerosAtEnd (c_Dec_dropZerosAtEnd cI cJ h a len pl f (RS_len hRS) hRS.1) (Xok_t K) Xbl_t [2, 3] [0, 1] rfl rfl (by decide) (by decide) (by decide) 0 rfl rfl rfl rfl rfl (Nat.le_of_ble_eq_true rfl) (by decide) (by decide) dq_Dec_read_43 (fun u hu => ?_)
        obtain rfl := hu
        show V K 3 [oc g 1 [.ref b, vi ((fi : Nat) : Int), vi ((en : Nat) : Int)], aj cJ b 160 R, oc h 0 [.ref a, vi ((dz f len : Nat) : Int), vi (dnP f len pl)], ai cI a 800 f] 0 0 46 [(0, .ref h), (1, .ref g), (2, vi ((i : Nat) : Int))] []
        refine qv_ws [2, 3, 0, 1] (ws' := [oc h 0 [.ref a, vi ((dz f len : Nat) : Int), vi (dnP f len pl)], ai cI a 800 f, oc g 1 [.ref b, vi ((fi : Nat) : Int), vi ((en : Nat) : Int)], aj cJ b 160 R]) (by decide) rfl ?_
        refine qv_vret C hR ?_ dq_Dec_read_46 (by decide) (by decide)
        exact ⟨_, _, _, rfl, Rd_of hG (by omega) hRS hno⟩
      · exfalso; omega
    | succ k ih =>
      intro i len pl f hi hfi hRS
      refine qv_iload_n C rfl dq_Dec_read_18 ?_
      refine qv_aload_n C rfl dq_Dec_read_19 ?_
      refine qv_get C fl_Dec_65 0 rfl rfl dq_Dec_read_20 ?_
      refine qv_icge C (by omega) (by omega) (tgt := 42) (by decide) dq_Dec_read_23 (fun h23 => ?_) (fun h23 => ?_)
      · exfalso; omega
      · skip
        refine qv_aload_n C rfl dq_Dec_read_26 ?_
        refine qv_aload_n C rfl dq_Dec_read_27 ?_
        refine qv_get C fl_Dec_68 0 rfl rfl dq_Dec_read_28 ?_
        refine qv_iload_n C rfl dq_Dec_read_31 ?_
        refine qv_lald C 1 i rfl (by omega) (by omega) (by omega) dq_Dec_read_32 ?_
        refine qc_vV (wr := [oc g 1 [.ref b, vi ((fi : Nat) : Int), vi ((en : Nat) : Int)], aj cJ b 160 R]) (st := []) C cl_Dec_72 cd_Dec_readGroup (c_Dec_readGroup cI cJ h a len pl f R (9 * fi) i (R i) (hG.1 i) rfl (by omega) (by omega) hRS) (Xok_t K) Xbl_t [2, 3] [0, 1] rfl rfl (by decide) (by decide) (by decide) 0 rfl rfl rfl rfl rfl (Nat.le_of_ble_eq_true rfl) (by decide) (by decide) dq_Dec_read_33 (fun u hu => ?_)
        obtain ⟨len2, pl2, f2, rfl, hRS2⟩ := hu
        show V K 3 [oc g 1 [.ref b, vi ((fi : Nat) : Int), vi ((en : Nat) : Int)], aj cJ b 160 R, oc h 0 [.ref a, vi ((len2 : Nat) : Int), vi pl2], ai cI a 800 f2] 0 0 36 [(0, .ref h), (1, .ref g), (2, vi ((i : Nat) : Int))] []
        refine qv_iinc C (j := 2) (lv' := [(2, vi (((i + 1) : Nat) : Int)), (0, .ref h), (1, .ref g)]) (by omega) rfl (by decide) rfl dq_Dec_read_36 ?_
        refine qv_goto C (tgt := 18) (by decide) dq_Dec_read_39 ?_
        refine qv_lv [1, 2, 0] (lv' := [(0, .ref h), (1, .ref g), (2, vi (((i + 1) : Nat) : Int))]) rfl ?_
        exact ih (i + 1) len2 pl2 f2 (by omega) (by omega) hRS2
  refine qv_aload_n C rfl dq_Dec_read_0 ?_
  refine qv_iconst C dq_Dec_read_1 ?_
  refine qv_put C (ws' := [oc h 0 [.ref a, vi 0, vi pl], ai cI a 800 f, oc g 1 [.ref b, vi ((fi : Nat) : Int), vi ((en : Nat) : Int)], aj cJ b 160 R]) fl_Dec_15 fs_0_1 0 rfl rfl rfl (Nat.le_of_ble_eq_true rfl) rfl dq_Dec_read_2 ?_
  refine qv_aload_n C rfl dq_Dec_read_5 ?_
  refine qv_aload_n C rfl dq_Dec_read_6 ?_
  refine qc_vI (wr := [oc h 0 [.ref a, vi 0, vi pl], ai cI a 800 f]) (st := [.ref h]) C cl_Dec_56 cd_Grp_placeOfFirst (c_Grp_placeOfFirst cI cJ g b fi en R) (Xok_t K) Xbl_t [2, 3] [0, 1] rfl rfl (by decide) (by decide) (by decide) 0 rfl rfl rfl rfl rfl (Nat.le_of_ble_eq_true rfl) (by decide) (by decide) dq_Dec_read_7 (fun z u hu => ?_)
  obtain ⟨rfl, rfl⟩ := hu
  show V K 3 [oc h 0 [.ref a, vi 0, vi pl], ai cI a 800 f, oc g 1 [.ref b, vi ((fi : Nat) : Int), vi ((en : Nat) : Int)], aj cJ b 160 R] 0 0 10 [(0, .ref h), (1, .ref g)] [vi ((35 - ((fi : Nat) : Int)) * 9), .ref h]
  refine qv_put C (ws' := [oc h 0 [.ref a, vi 0, vi ((35 - ((fi : Nat) : Int)) * 9)], ai cI a 800 f, oc g 1 [.ref b, vi ((fi : Nat) : Int), vi ((en : Nat) : Int)], aj cJ b 160 R]) fl_Dec_19 fs_0_2 0 rfl rfl rfl (Nat.le_of_ble_eq_true rfl) rfl dq_Dec_read_10 ?_
  refine qv_aload_n C rfl dq_Dec_read_13 ?_
  refine qv_get C fl_Dec_62 2 rfl rfl dq_Dec_read_14 ?_
  refine qv_istore_n C (lv' := [(2, vi ((fi : Nat) : Int)), (0, .ref h), (1, .ref g)]) (by decide) rfl dq_Dec_read_17 ?_
  refine qv_ws [2, 3, 0, 1] (ws' := [oc g 1 [.ref b, vi ((fi : Nat) : Int), vi ((en : Nat) : Int)], aj cJ b 160 R, oc h 0 [.ref a, vi 0, vi ((35 - ((fi : Nat) : Int)) * 9)], ai cI a 800 f]) (by decide) rfl ?_
  refine qv_lv [1, 2, 0] (lv' := [(0, .ref h), (1, .ref g), (2, vi ((fi : Nat) : Int))]) rfl ?_
  refine qv_eq (loop (max fi en - fi) fi 0 ((35 - (fi : Int)) * 9) f (by omega) (Nat.le_refl _) ?_) rfl rfl rfl
  have e : (35 - (fi : Int)) * 9 = 315 - ((9 * fi : Nat) : Int) := by omega
  rw [e]
  exact RS_0 R (9 * fi) f hf

