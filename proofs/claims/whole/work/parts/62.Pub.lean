theorem c_Tru_set (cI cJ : ClassId) (x k g w t l hi : Nat) (mi : Bool) (zr : Nat) (pt : Int) (b fi en : Nat) (R : Nat → Nat) (ka len : Nat) (pl : Int) (f : Nat → Nat) (hf : ∀ i, f i ≤ 9) (B : Nat) (hB : B < 18446744073709551616) : MxI cI cJ ky_Tru_set kb_Tru_set 5 rX XT [.ref x, vj ((B : Nat) : Int)] [oc x 3 [.ref k, vi (b2 mi), vi ((zr : Nat) : Int), vi pt, .ref g, .ref w, .ref t, .ref l, .ref hi], oc g 1 [.ref b, vi ((fi : Nat) : Int), vi ((en : Nat) : Int)], aj cJ b 160 R, oc k 0 [.ref ka, vi ((len : Nat) : Int), vi pl], ai cI ka 800 f] (fun z u => (B % 9223372036854775808) < INF ∧ ∃ (R2 : Nat → Nat) (fi2 en2 len2 : Nat) (pl2 : Int) (f2 : Nat → Nat), z = ((len2 : Nat) : Int) ∧ u = xo x k g w t l hi (decide (9223372036854775808 ≤ B)) 0 0 :: (gw cJ g b fi2 en2 R2 ++ dw cI k ka len2 pl2 f2) ∧ Sp (fc (B % 9223372036854775808)) (((pw (B % 9223372036854775808) : Nat) : Int) - 1074) len2 pl2 f2) (fun E u => INF ≤ (B % 9223372036854775808) ∧ E = nIAE ∧ u = xo x k g w t l hi mi zr pt :: (gw cJ g b fi en R ++ dw cI k ka len pl f)) := by
  refine MxI_in (by decide) (Nat.le_of_ble_eq_true rfl) (fun K C hR hX => ?_)
  show V K 5 [oc x 3 [.ref k, vi (b2 mi), vi ((zr : Nat) : Int), vi pt, .ref g, .ref w, .ref t, .ref l, .ref hi], oc g 1 [.ref b, vi ((fi : Nat) : Int), vi ((en : Nat) : Int)], aj cJ b 160 R, oc k 0 [.ref ka, vi ((len : Nat) : Int), vi pl], ai cI ka 800 f] 0 0 0 [(0, .ref x), (1, vj ((B : Nat) : Int))] []
  have hI : INF = 9218868437227405312 := rfl
  obtain ⟨r, hr⟩ : ∃ r, r = (B % 9223372036854775808) := ⟨_, rfl⟩
  have hr1 : r < 9223372036854775808 := by omega
  rw [← hr] at hR
  have hsn := sj_neg hB
  have hsr := sj_rj hB
  have h1 := fc_lt r
  refine qv_lload_n C rfl dq_Tru_set_0 ?_
  refine qv_ldc2 C (z := 9223372036854775807) wk_Tru_39 dq_Tru_set_1 ?_
  refine qv_land C (r := ((r : Nat) : Int)) (by rw [hr]; exact zj_and (a := B) (b := 63) (by omega)) dq_Tru_set_4 ?_
  refine qv_lstore_n C (lv' := [(3, vj ((r : Nat) : Int)), (0, .ref x), (1, vj ((B : Nat) : Int))]) (by decide) rfl dq_Tru_set_5 ?_
  refine qv_lload_n C rfl dq_Tru_set_6 ?_
  refine qv_ldc2 C (z := 9218868437227405312) wk_Tru_41 dq_Tru_set_7 ?_
  refine qv_lclt C (by omega) (by omega) dq_Tru_set_10 (tgt := 24) (by decide) dq_Tru_set_11 (fun h10 => ?_) (fun h10 => ?_)
  · skip
    refine qv_aload_n C rfl dq_Tru_set_24 ?_
    refine qv_lload_n C rfl dq_Tru_set_25 ?_
    have h2 := pw_lt (r := r) (by omega)
    refine qv_tjw (r := sj B) (by have h := zj_sj B; rw [Nat.mod_eq_of_lt hB] at h; exact h) ?_
    refine qv_lconst C (z := 0) (by decide) dq_Tru_set_26 ?_
    refine qv_lcge C (by omega) (by omega) dq_Tru_set_27 (tgt := 35) (by decide) dq_Tru_set_28 (fun h27 => ?_) (fun h27 => ?_)
    · skip
      refine qv_iconst C dq_Tru_set_35 ?_
      refine qv_ti (r := b2 false) rfl ?_
      refine qv_put C (ws' := [oc x 3 [.ref k, vi (b2 false), vi ((zr : Nat) : Int), vi pt, .ref g, .ref w, .ref t, .ref l, .ref hi], oc g 1 [.ref b, vi ((fi : Nat) : Int), vi ((en : Nat) : Int)], aj cJ b 160 R, oc k 0 [.ref ka, vi ((len : Nat) : Int), vi pl], ai cI ka 800 f]) fl_Tru_50 fs_3_1 0 rfl (nz_b2 _) (fz_b2 _) (Nat.le_of_ble_eq_true rfl) rfl dq_Tru_set_36 ?_
      refine qv_aload_n C rfl dq_Tru_set_39 ?_
      refine qv_lload_n C rfl dq_Tru_set_40 ?_
      refine qc_sJ (wr := [oc x 3 [.ref k, vi (b2 false), vi ((zr : Nat) : Int), vi pt, .ref g, .ref w, .ref t, .ref l, .ref hi], oc g 1 [.ref b, vi ((fi : Nat) : Int), vi ((en : Nat) : Int)], aj cJ b 160 R, oc k 0 [.ref ka, vi ((len : Nat) : Int), vi pl], ai cI ka 800 f]) (st := [.ref x]) C cl_Tru_54 cd_Tru_factorOf (c_Tru_factorOf cI cJ r (by omega)) (Xok_t K) Xbl_t [] [0, 1, 2, 3, 4] rfl rfl (by decide) (by decide) (by decide) rfl rfl (Nat.le_of_ble_eq_true rfl) (by decide) (by decide) dq_Tru_set_41 (fun z u hu => ?_)
      obtain ⟨rfl, rfl⟩ := hu
      show V K 5 [oc x 3 [.ref k, vi (b2 false), vi ((zr : Nat) : Int), vi pt, .ref g, .ref w, .ref t, .ref l, .ref hi], oc g 1 [.ref b, vi ((fi : Nat) : Int), vi ((en : Nat) : Int)], aj cJ b 160 R, oc k 0 [.ref ka, vi ((len : Nat) : Int), vi pl], ai cI ka 800 f] 0 0 44 [(3, vj ((r : Nat) : Int)), (0, .ref x), (1, vj ((B : Nat) : Int))] [vj ((fc r : Nat) : Int), .ref x]
      refine qv_lload_n C rfl dq_Tru_set_44 ?_
      refine qc_sI (wr := [oc x 3 [.ref k, vi (b2 false), vi ((zr : Nat) : Int), vi pt, .ref g, .ref w, .ref t, .ref l, .ref hi], oc g 1 [.ref b, vi ((fi : Nat) : Int), vi ((en : Nat) : Int)], aj cJ b 160 R, oc k 0 [.ref ka, vi ((len : Nat) : Int), vi pl], ai cI ka 800 f]) (st := [vj ((fc r : Nat) : Int), .ref x]) C cl_Tru_58 cd_Tru_powerOf (c_Tru_powerOf cI cJ r (by omega)) (Xok_t K) Xbl_t [] [0, 1, 2, 3, 4] rfl rfl (by decide) (by decide) (by decide) rfl rfl (Nat.le_of_ble_eq_true rfl) (by decide) (by decide) dq_Tru_set_45 (fun z u hu => ?_)
      obtain ⟨rfl, rfl⟩ := hu
      show V K 5 [oc x 3 [.ref k, vi (b2 false), vi ((zr : Nat) : Int), vi pt, .ref g, .ref w, .ref t, .ref l, .ref hi], oc g 1 [.ref b, vi ((fi : Nat) : Int), vi ((en : Nat) : Int)], aj cJ b 160 R, oc k 0 [.ref ka, vi ((len : Nat) : Int), vi pl], ai cI ka 800 f] 0 0 48 [(3, vj ((r : Nat) : Int)), (0, .ref x), (1, vj ((B : Nat) : Int))] [vi (((pw r : Nat) : Int) - 1074), vj ((fc r : Nat) : Int), .ref x]
      refine qv_aload_n C rfl dq_Tru_set_48 ?_
      refine qv_get C fl_Tru_12 0 rfl rfl dq_Tru_set_49 ?_
      refine qc_vV (wr := []) (st := []) C cl_Tru_62 cd_Tru_spell (c_Tru_spell cI cJ x k g w t l hi false zr pt b fi en R k ka len pl f hf (fc r) (((pw r : Nat) : Int) - 1074) (by omega) (by omega) (by omega)) (Xok_t K) Xbl_t [0, 1, 2, 3, 4] [] rfl rfl (by decide) (by decide) (by decide) 0 rfl rfl rfl rfl rfl (Nat.le_of_ble_eq_true rfl) (by decide) (by decide) dq_Tru_set_52 (fun u hu => ?_)
      obtain ⟨R2, fi2, en2, len2, pl2, f2, rfl, hS⟩ := hu
      show V K 5 [oc x 3 [.ref k, vi (b2 false), vi ((zr : Nat) : Int), vi pt, .ref g, .ref w, .ref t, .ref l, .ref hi], oc g 1 [.ref b, vi ((fi2 : Nat) : Int), vi ((en2 : Nat) : Int)], aj cJ b 160 R2, oc k 0 [.ref ka, vi ((len2 : Nat) : Int), vi pl2], ai cI ka 800 f2] 0 0 55 [(3, vj ((r : Nat) : Int)), (0, .ref x), (1, vj ((B : Nat) : Int))] []
      refine qv_aload_n C rfl dq_Tru_set_55 ?_
      refine qc_vV (wr := [oc g 1 [.ref b, vi ((fi2 : Nat) : Int), vi ((en2 : Nat) : Int)], aj cJ b 160 R2, oc k 0 [.ref ka, vi ((len2 : Nat) : Int), vi pl2], ai cI ka 800 f2]) (st := []) C cl_Tru_66 cd_Tru_forgetWhatCame (c_Tru_forgetWhatCame cI cJ x k g w t l hi false zr pt) (Xok_t K) Xbl_t [0] [1, 2, 3, 4] rfl rfl (by decide) (by decide) (by decide) 0 rfl rfl rfl rfl rfl (Nat.le_of_ble_eq_true rfl) (by decide) (by decide) dq_Tru_set_56 (fun u hu => ?_)
      obtain rfl := hu
      show V K 5 [oc g 1 [.ref b, vi ((fi2 : Nat) : Int), vi ((en2 : Nat) : Int)], aj cJ b 160 R2, oc k 0 [.ref ka, vi ((len2 : Nat) : Int), vi pl2], ai cI ka 800 f2, oc x 3 [.ref k, vi (b2 false), vi 0, vi 0, .ref g, .ref w, .ref t, .ref l, .ref hi]] 0 0 59 [(3, vj ((r : Nat) : Int)), (0, .ref x), (1, vj ((B : Nat) : Int))] []
      refine qv_ws [4, 0, 1, 2, 3] (ws' := [oc x 3 [.ref k, vi (b2 false), vi 0, vi 0, .ref g, .ref w, .ref t, .ref l, .ref hi], oc g 1 [.ref b, vi ((fi2 : Nat) : Int), vi ((en2 : Nat) : Int)], aj cJ b 160 R2, oc k 0 [.ref ka, vi ((len2 : Nat) : Int), vi pl2], ai cI ka 800 f2]) (by decide) rfl ?_
      refine qv_aload_n C rfl dq_Tru_set_59 ?_
      refine qv_get C fl_Tru_12 0 rfl rfl dq_Tru_set_60 ?_
      refine qv_get C fl_Tru_69 3 rfl rfl dq_Tru_set_63 ?_
      refine qx_iret C hR ?_ dq_Tru_set_66 (by decide) (by decide)
      have em : decide (9223372036854775808 ≤ B) = false := decide_eq_false (by omega)
      refine ⟨by omega, R2, fi2, en2, len2, pl2, f2, rfl, ?_, hS⟩
      rw [em]; rfl
    · skip
      refine qv_iconst C dq_Tru_set_31 ?_
      refine qv_goto C (tgt := 36) (by decide) dq_Tru_set_32 ?_
      refine qv_ti (r := b2 true) rfl ?_
      refine qv_put C (ws' := [oc x 3 [.ref k, vi (b2 true), vi ((zr : Nat) : Int), vi pt, .ref g, .ref w, .ref t, .ref l, .ref hi], oc g 1 [.ref b, vi ((fi : Nat) : Int), vi ((en : Nat) : Int)], aj cJ b 160 R, oc k 0 [.ref ka, vi ((len : Nat) : Int), vi pl], ai cI ka 800 f]) fl_Tru_50 fs_3_1 0 rfl (nz_b2 _) (fz_b2 _) (Nat.le_of_ble_eq_true rfl) rfl dq_Tru_set_36 ?_
      refine qv_aload_n C rfl dq_Tru_set_39 ?_
      refine qv_lload_n C rfl dq_Tru_set_40 ?_
      refine qc_sJ (wr := [oc x 3 [.ref k, vi (b2 true), vi ((zr : Nat) : Int), vi pt, .ref g, .ref w, .ref t, .ref l, .ref hi], oc g 1 [.ref b, vi ((fi : Nat) : Int), vi ((en : Nat) : Int)], aj cJ b 160 R, oc k 0 [.ref ka, vi ((len : Nat) : Int), vi pl], ai cI ka 800 f]) (st := [.ref x]) C cl_Tru_54 cd_Tru_factorOf (c_Tru_factorOf cI cJ r (by omega)) (Xok_t K) Xbl_t [] [0, 1, 2, 3, 4] rfl rfl (by decide) (by decide) (by decide) rfl rfl (Nat.le_of_ble_eq_true rfl) (by decide) (by decide) dq_Tru_set_41 (fun z u hu => ?_)
      obtain ⟨rfl, rfl⟩ := hu
      show V K 5 [oc x 3 [.ref k, vi (b2 true), vi ((zr : Nat) : Int), vi pt, .ref g, .ref w, .ref t, .ref l, .ref hi], oc g 1 [.ref b, vi ((fi : Nat) : Int), vi ((en : Nat) : Int)], aj cJ b 160 R, oc k 0 [.ref ka, vi ((len : Nat) : Int), vi pl], ai cI ka 800 f] 0 0 44 [(3, vj ((r : Nat) : Int)), (0, .ref x), (1, vj ((B : Nat) : Int))] [vj ((fc r : Nat) : Int), .ref x]
      refine qv_lload_n C rfl dq_Tru_set_44 ?_
      refine qc_sI (wr := [oc x 3 [.ref k, vi (b2 true), vi ((zr : Nat) : Int), vi pt, .ref g, .ref w, .ref t, .ref l, .ref hi], oc g 1 [.ref b, vi ((fi : Nat) : Int), vi ((en : Nat) : Int)], aj cJ b 160 R, oc k 0 [.ref ka, vi ((len : Nat) : Int), vi pl], ai cI ka 800 f]) (st := [vj ((fc r : Nat) : Int), .ref x]) C cl_Tru_58 cd_Tru_powerOf (c_Tru_powerOf cI cJ r (by omega)) (Xok_t K) Xbl_t [] [0, 1, 2, 3, 4] rfl rfl (by decide) (by decide) (by decide) rfl rfl (Nat.le_of_ble_eq_true rfl) (by decide) (by decide) dq_Tru_set_45 (fun z u hu => ?_)
      obtain ⟨rfl, rfl⟩ := hu
      show V K 5 [oc x 3 [.ref k, vi (b2 true), vi ((zr : Nat) : Int), vi pt, .ref g, .ref w, .ref t, .ref l, .ref hi], oc g 1 [.ref b, vi ((fi : Nat) : Int), vi ((en : Nat) : Int)], aj cJ b 160 R, oc k 0 [.ref ka, vi ((len : Nat) : Int), vi pl], ai cI ka 800 f] 0 0 48 [(3, vj ((r : Nat) : Int)), (0, .ref x), (1, vj ((B : Nat) : Int))] [vi (((pw r : Nat) : Int) - 1074), vj ((fc r : Nat) : Int), .ref x]
      refine qv_aload_n C rfl dq_Tru_set_48 ?_
      refine qv_get C fl_Tru_12 0 rfl rfl dq_Tru_set_49 ?_
      refine qc_vV (wr := []) (st := []) C cl_Tru_62 cd_Tru_spell (c_Tru_spell cI cJ x k g w t l hi true zr pt b fi en R k ka len pl f hf (fc r) (((pw r : Nat) : Int) - 1074) (by omega) (by omega) (by omega)) (Xok_t K) Xbl_t [0, 1, 2, 3, 4] [] rfl rfl (by decide) (by decide) (by decide) 0 rfl rfl rfl rfl rfl (Nat.le_of_ble_eq_true rfl) (by decide) (by decide) dq_Tru_set_52 (fun u hu => ?_)
      obtain ⟨R2, fi2, en2, len2, pl2, f2, rfl, hS⟩ := hu
      show V K 5 [oc x 3 [.ref k, vi (b2 true), vi ((zr : Nat) : Int), vi pt, .ref g, .ref w, .ref t, .ref l, .ref hi], oc g 1 [.ref b, vi ((fi2 : Nat) : Int), vi ((en2 : Nat) : Int)], aj cJ b 160 R2, oc k 0 [.ref ka, vi ((len2 : Nat) : Int), vi pl2], ai cI ka 800 f2] 0 0 55 [(3, vj ((r : Nat) : Int)), (0, .ref x), (1, vj ((B : Nat) : Int))] []
      refine qv_aload_n C rfl dq_Tru_set_55 ?_
      refine qc_vV (wr := [oc g 1 [.ref b, vi ((fi2 : Nat) : Int), vi ((en2 : Nat) : Int)], aj cJ b 160 R2, oc k 0 [.ref ka, vi ((len2 : Nat) : Int), vi pl2], ai cI ka 800 f2]) (st := []) C cl_Tru_66 cd_Tru_forgetWhatCame (c_Tru_forgetWhatCame cI cJ x k g w t l hi true zr pt) (Xok_t K) Xbl_t [0] [1, 2, 3, 4] rfl rfl (by decide) (by decide) (by decide) 0 rfl rfl rfl rfl rfl (Nat.le_of_ble_eq_true rfl) (by decide) (by decide) dq_Tru_set_56 (fun u hu => ?_)
      obtain rfl := hu
      show V K 5 [oc g 1 [.ref b, vi ((fi2 : Nat) : Int), vi ((en2 : Nat) : Int)], aj cJ b 160 R2, oc k 0 [.ref ka, vi ((len2 : Nat) : Int), vi pl2], ai cI ka 800 f2, oc x 3 [.ref k, vi (b2 true), vi 0, vi 0, .ref g, .ref w, .ref t, .ref l, .ref hi]] 0 0 59 [(3, vj ((r : Nat) : Int)), (0, .ref x), (1, vj ((B : Nat) : Int))] []
      refine qv_ws [4, 0, 1, 2, 3] (ws' := [oc x 3 [.ref k, vi (b2 true), vi 0, vi 0, .ref g, .ref w, .ref t, .ref l, .ref hi], oc g 1 [.ref b, vi ((fi2 : Nat) : Int), vi ((en2 : Nat) : Int)], aj cJ b 160 R2, oc k 0 [.ref ka, vi ((len2 : Nat) : Int), vi pl2], ai cI ka 800 f2]) (by decide) rfl ?_
      refine qv_aload_n C rfl dq_Tru_set_59 ?_
      refine qv_get C fl_Tru_12 0 rfl rfl dq_Tru_set_60 ?_
      refine qv_get C fl_Tru_69 3 rfl rfl dq_Tru_set_63 ?_
      refine qx_iret C hR ?_ dq_Tru_set_66 (by decide) (by decide)
      have em : decide (9223372036854775808 ≤ B) = true := decide_eq_true (by omega)
      refine ⟨by omega, R2, fi2, en2, len2, pl2, f2, rfl, ?_, hS⟩
      rw [em]; rfl
  · skip
    refine qx_throw C hR.x hX (by decide) ak_I ai_I (is := 45) (text := "it is infinite or no number") (by decide) ax_I ?_ dq_Tru_set_14 dq_Tru_set_17 dq_Tru_set_18 dq_Tru_set_20 dq_Tru_set_23 (by decide) (by decide) (by decide) (by decide)
    exact ⟨by omega, rfl, rfl⟩

theorem c_Tru_digit (cI cJ : ClassId) (x k g w t l hi : Nat) (mi : Bool) (zr : Nat) (pt : Int) (ka len : Nat) (pl : Int) (f : Nat → Nat) (a : Int) (ha : ri a) (hl : len ≤ 800) (hz : zr ≤ 800) (hz0 : len = 0 → zr = 0) (hpt : -10000 ≤ pt ∧ pt ≤ 10000) : MxI cI cJ ky_Tru_digit kb_Tru_digit 2 rX XT [.ref x, vi a] [oc x 3 [.ref k, vi (b2 mi), vi ((zr : Nat) : Int), vi pt, .ref g, .ref w, .ref t, .ref l, .ref hi], oc k 0 [.ref ka, vi ((len : Nat) : Int), vi pl], ai cI ka 800 f] (fun z u => (0 ≤ a ∧ a ≤ 9) ∧ ((len = 0 ∧ a = 0 ∧ ¬ pt < -1000 ∧ z = 0 ∧ u = xo x k g w t l hi mi zr (pt - 1) :: dw cI k ka len pl f) ∨ (a ≠ 0 ∧ (len = 0 ∨ ¬ 800 ≤ len + zr) ∧ z = ((len + zr + 1 : Nat) : Int) ∧ u = xo x k g w t l hi mi 0 pt :: dw cI k ka (len + zr + 1) (if len = 0 then pt else pl) (un (zf f len zr) (len + zr) a.toNat)) ∨ (len ≠ 0 ∧ ¬ 800 ≤ len + zr ∧ a = 0 ∧ z = ((len : Nat) : Int) ∧ u = xo x k g w t l hi mi (zr + 1) pt :: dw cI k ka len pl f))) (fun E u => ((¬ (0 ≤ a ∧ a ≤ 9) ∧ E = nIAE) ∨ ((0 ≤ a ∧ a ≤ 9) ∧ ((len = 0 ∧ a = 0 ∧ pt < -1000) ∨ (len ≠ 0 ∧ 800 ≤ len + zr)) ∧ E = nIOB)) ∧ u = xo x k g w t l hi mi zr pt :: dw cI k ka len pl f) := by
  refine MxI_in (by decide) (Nat.le_of_ble_eq_true rfl) (fun K C hR hX => ?_)
  show V K 2 [oc x 3 [.ref k, vi (b2 mi), vi ((zr : Nat) : Int), vi pt, .ref g, .ref w, .ref t, .ref l, .ref hi], oc k 0 [.ref ka, vi ((len : Nat) : Int), vi pl], ai cI ka 800 f] 0 0 0 [(0, .ref x), (1, vi a)] []
  refine qv_iload_n C rfl dq_Tru_digit_0 ?_
  refine qv_iflt C (by omega) (tgt := 10) (by decide) dq_Tru_digit_1 (fun h1 => ?_) (fun h1 => ?_)
  · skip
    refine qx_throw C hR.x hX (by decide) ak_I ai_I (is := 73) (text := "no digit") (by decide) ax_I ?_ dq_Tru_digit_10 dq_Tru_digit_13 dq_Tru_digit_14 dq_Tru_digit_16 dq_Tru_digit_19 (by decide) (by decide) (by decide) (by decide)
    exact ⟨Or.inl ⟨by omega, rfl⟩, rfl⟩
  · skip
    refine qv_iload_n C rfl dq_Tru_digit_4 ?_
    refine qv_bipush C (by decide) dq_Tru_digit_5 ?_
    refine qv_icle C (by omega) (by omega) (tgt := 20) (by decide) dq_Tru_digit_7 (fun h7 => ?_) (fun h7 => ?_)
    · skip
      obtain ⟨q, rfl⟩ : ∃ q : Nat, a = (q : Int) := ⟨a.toNat, by omega⟩
      have etq : ((q : Nat) : Int).toNat = q := Int.toNat_natCast q
      refine qv_aload_n C rfl dq_Tru_digit_20 ?_
      refine qv_iload_n C rfl dq_Tru_digit_21 ?_
      refine qc_vI (wr := []) (st := []) C cl_Tru_75 cd_Tru_hasNoRoomFor (c_Tru_hasNoRoomFor cI cJ x k g w t l hi mi zr pt ka len pl f q hl hz hpt (by omega)) (Xok_t K) Xbl_t [0, 1, 2] [] rfl rfl (by decide) (by decide) (by decide) 0 rfl rfl rfl rfl rfl (Nat.le_of_ble_eq_true rfl) (by decide) (by decide) dq_Tru_digit_22 (fun z u hu => ?_)
      obtain ⟨nr, rfl, hnr, rfl⟩ := hu
      show V K 2 [oc x 3 [.ref k, vi (b2 mi), vi ((zr : Nat) : Int), vi pt, .ref g, .ref w, .ref t, .ref l, .ref hi], oc k 0 [.ref ka, vi ((len : Nat) : Int), vi pl], ai cI ka 800 f] 0 0 25 [(0, .ref x), (1, vi ((q : Nat) : Int))] [vi (b2 nr)]
      refine qv_ifeq C (rb_b2 _) (tgt := 38) (by decide) dq_Tru_digit_25 (fun h25 => ?_) (fun h25 => ?_)
      · skip
        have hn3 : ¬ ((len = 0 ∧ q = 0 ∧ pt < -1000) ∨ (len ≠ 0 ∧ 800 ≤ len + zr)) := fun h => by have h4 := hnr.mpr h; rw [b2_f h25] at h4; cases h4
        refine qv_iload_n C rfl dq_Tru_digit_38 ?_
        refine qv_ifeq C (by omega) (tgt := 50) (by decide) dq_Tru_digit_39 (fun h39 => ?_) (fun h39 => ?_)
        · skip
          refine qv_aload_n C rfl dq_Tru_digit_50 ?_
          refine qv_get C fl_Tru_12 0 rfl rfl dq_Tru_digit_51 ?_
          refine qv_get C fl_Tru_69 1 rfl rfl dq_Tru_digit_54 ?_
          refine qv_ifne C (by omega) (tgt := 73) (by decide) dq_Tru_digit_57 (fun h57 => ?_) (fun h57 => ?_)
          · skip
            refine qv_aload_n C rfl dq_Tru_digit_73 ?_
            refine qv_dup C rfl dq_Tru_digit_74 ?_
            refine qv_get C fl_Tru_91 0 rfl rfl dq_Tru_digit_75 ?_
            refine qv_iconst C dq_Tru_digit_78 ?_
            refine qv_iadd C (r := (((zr + 1) : Nat) : Int)) (by omega) dq_Tru_digit_79 ?_
            refine qv_put C (ws' := [oc x 3 [.ref k, vi (b2 mi), vi (((zr + 1) : Nat) : Int), vi pt, .ref g, .ref w, .ref t, .ref l, .ref hi], oc k 0 [.ref ka, vi ((len : Nat) : Int), vi pl], ai cI ka 800 f]) fl_Tru_91 fs_3_2 0 rfl rfl rfl (Nat.le_of_ble_eq_true rfl) rfl dq_Tru_digit_80 ?_
            refine qv_aload_n C rfl dq_Tru_digit_83 ?_
            refine qv_get C fl_Tru_12 0 rfl rfl dq_Tru_digit_84 ?_
            refine qv_get C fl_Tru_69 1 rfl rfl dq_Tru_digit_87 ?_
            refine qx_iret C hR ?_ dq_Tru_digit_90 (by decide) (by decide)
            exact ⟨by omega, Or.inr (Or.inr ⟨by omega, by omega, by omega, rfl, rfl⟩)⟩
          · skip
            refine qv_aload_n C rfl dq_Tru_digit_60 ?_
            refine qv_dup C rfl dq_Tru_digit_61 ?_
            refine qv_get C fl_Tru_88 0 rfl rfl dq_Tru_digit_62 ?_
            refine qv_iconst C dq_Tru_digit_65 ?_
            refine qv_isub C (r := (pt - 1)) rfl dq_Tru_digit_66 ?_
            refine qv_put C (ws' := [oc x 3 [.ref k, vi (b2 mi), vi ((zr : Nat) : Int), vi (pt - 1), .ref g, .ref w, .ref t, .ref l, .ref hi], oc k 0 [.ref ka, vi ((len : Nat) : Int), vi pl], ai cI ka 800 f]) fl_Tru_88 fs_3_3 0 rfl rfl rfl (Nat.le_of_ble_eq_true rfl) rfl dq_Tru_digit_67 ?_
            refine qv_goto C (tgt := 83) (by decide) dq_Tru_digit_70 ?_
            refine qv_aload_n C rfl dq_Tru_digit_83 ?_
            refine qv_get C fl_Tru_12 0 rfl rfl dq_Tru_digit_84 ?_
            refine qv_get C fl_Tru_69 1 rfl rfl dq_Tru_digit_87 ?_
            refine qx_iret C hR ?_ dq_Tru_digit_90 (by decide) (by decide)
            exact ⟨by omega, Or.inl ⟨by omega, by omega, by omega, by omega, rfl⟩⟩
        · skip
          refine qv_aload_n C rfl dq_Tru_digit_42 ?_
          refine qv_iload_n C rfl dq_Tru_digit_43 ?_
          refine qc_vV (wr := []) (st := []) C cl_Tru_84 cd_Tru_bringDigit (c_Tru_bringDigit cI cJ x k g w t l hi mi zr pt ka len pl f q (by omega) (by omega)) (Xok_t K) Xbl_t [0, 1, 2] [] rfl rfl (by decide) (by decide) (by decide) 0 rfl rfl rfl rfl rfl (Nat.le_of_ble_eq_true rfl) (by decide) (by decide) dq_Tru_digit_44 (fun u hu => ?_)
          obtain rfl := hu
          show V K 2 [oc x 3 [.ref k, vi (b2 mi), vi 0, vi pt, .ref g, .ref w, .ref t, .ref l, .ref hi], oc k 0 [.ref ka, vi (((len + zr + 1) : Nat) : Int), vi (if len = 0 then pt else pl)], ai cI ka 800 (un (zf f len zr) (len + zr) q)] 0 0 47 [(0, .ref x), (1, vi ((q : Nat) : Int))] []
          refine qv_goto C (tgt := 83) (by decide) dq_Tru_digit_47 ?_
          refine qv_aload_n C rfl dq_Tru_digit_83 ?_
          refine qv_get C fl_Tru_12 0 rfl rfl dq_Tru_digit_84 ?_
          refine qv_get C fl_Tru_69 1 rfl rfl dq_Tru_digit_87 ?_
          refine qx_iret C hR ?_ dq_Tru_digit_90 (by decide) (by decide)
          refine ⟨by omega, Or.inr (Or.inl ⟨by omega, by omega, rfl, ?_⟩)⟩
          rw [etq]; rfl
      · skip
        have hn3 := hnr.mp (b2_t h25)
        refine qx_throw C hR.x hX (by decide) ak_B ai_B (is := 81) (text := "too many digits") (by decide) ax_B ?_ dq_Tru_digit_28 dq_Tru_digit_31 dq_Tru_digit_32 dq_Tru_digit_34 dq_Tru_digit_37 (by decide) (by decide) (by decide) (by decide)
        exact ⟨Or.inr ⟨by omega, by omega, rfl⟩, rfl⟩
    · skip
      refine qx_throw C hR.x hX (by decide) ak_I ai_I (is := 73) (text := "no digit") (by decide) ax_I ?_ dq_Tru_digit_10 dq_Tru_digit_13 dq_Tru_digit_14 dq_Tru_digit_16 dq_Tru_digit_19 (by decide) (by decide) (by decide) (by decide)
      exact ⟨Or.inl ⟨by omega, rfl⟩, rfl⟩

theorem c_Tru_clear (cI cJ : ClassId) (x k g w t l hi : Nat) (mi : Bool) (zr : Nat) (pt : Int) (ka len : Nat) (pl : Int) (f : Nat → Nat) (a : Int) (ha : ri a) (sg : Bool) : MxV cI cJ ky_Tru_clear kb_Tru_clear 3 rX XT [.ref x, vi (b2 sg), vi a] [oc x 3 [.ref k, vi (b2 mi), vi ((zr : Nat) : Int), vi pt, .ref g, .ref w, .ref t, .ref l, .ref hi], oc k 0 [.ref ka, vi ((len : Nat) : Int), vi pl], ai cI ka 800 f] (fun u => (-1000 ≤ a ∧ a ≤ 1000) ∧ u = xo x k g w t l hi sg 0 a :: dw cI k ka 0 0 f) (fun E u => ¬ (-1000 ≤ a ∧ a ≤ 1000) ∧ E = nIAE ∧ u = xo x k g w t l hi mi zr pt :: dw cI k ka len pl f) := by
  refine MxV_in (by decide) (Nat.le_of_ble_eq_true rfl) (fun K C hR hX => ?_)
  show V K 3 [oc x 3 [.ref k, vi (b2 mi), vi ((zr : Nat) : Int), vi pt, .ref g, .ref w, .ref t, .ref l, .ref hi], oc k 0 [.ref ka, vi ((len : Nat) : Int), vi pl], ai cI ka 800 f] 0 0 0 [(0, .ref x), (1, vi (b2 sg)), (2, vi a)] []
  refine qv_iload_n C rfl dq_Tru_clear_0 ?_
  refine qv_sipush C (by decide) dq_Tru_clear_1 ?_
  refine qv_iclt C (by omega) (by omega) (tgt := 14) (by decide) dq_Tru_clear_4 (fun h4 => ?_) (fun h4 => ?_)
  · skip
    refine qx_throw C hR.x hX (by decide) ak_I ai_I (is := 94) (text := "place is not -1000..1000") (by decide) ax_I ?_ dq_Tru_clear_14 dq_Tru_clear_17 dq_Tru_clear_18 dq_Tru_clear_20 dq_Tru_clear_23 (by decide) (by decide) (by decide) (by decide)
    exact ⟨by omega, rfl, rfl⟩
  · skip
    refine qv_iload_n C rfl dq_Tru_clear_7 ?_
    refine qv_sipush C (by decide) dq_Tru_clear_8 ?_
    refine qv_icle C (by omega) (by omega) (tgt := 24) (by decide) dq_Tru_clear_11 (fun h11 => ?_) (fun h11 => ?_)
    · skip
      refine qv_aload_n C rfl dq_Tru_clear_24 ?_
      refine qv_iload_n C rfl dq_Tru_clear_25 ?_
      refine qv_put C (ws' := [oc x 3 [.ref k, vi (b2 sg), vi ((zr : Nat) : Int), vi pt, .ref g, .ref w, .ref t, .ref l, .ref hi], oc k 0 [.ref ka, vi ((len : Nat) : Int), vi pl], ai cI ka 800 f]) fl_Tru_50 fs_3_1 0 rfl (nz_b2 _) (fz_b2 _) (Nat.le_of_ble_eq_true rfl) rfl dq_Tru_clear_26 ?_
      refine qv_aload_n C rfl dq_Tru_clear_29 ?_
      refine qv_get C fl_Tru_12 0 rfl rfl dq_Tru_clear_30 ?_
      refine qc_vV (wr := [oc x 3 [.ref k, vi (b2 sg), vi ((zr : Nat) : Int), vi pt, .ref g, .ref w, .ref t, .ref l, .ref hi]]) (st := []) C cl_Tru_96 cd_Dec_beZero (c_Dec_beZero cI cJ k ka len pl f) (Xok_t K) Xbl_t [1, 2] [0] rfl rfl (by decide) (by decide) (by decide) 0 rfl rfl rfl rfl rfl (Nat.le_of_ble_eq_true rfl) (by decide) (by decide) dq_Tru_clear_33 (fun u hu => ?_)
      obtain rfl := hu
      show V K 3 [oc x 3 [.ref k, vi (b2 sg), vi ((zr : Nat) : Int), vi pt, .ref g, .ref w, .ref t, .ref l, .ref hi], oc k 0 [.ref ka, vi 0, vi 0], ai cI ka 800 f] 0 0 36 [(0, .ref x), (1, vi (b2 sg)), (2, vi a)] []
      refine qv_aload_n C rfl dq_Tru_clear_36 ?_
      refine qc_vV (wr := [oc k 0 [.ref ka, vi 0, vi 0], ai cI ka 800 f]) (st := []) C cl_Tru_66 cd_Tru_forgetWhatCame (c_Tru_forgetWhatCame cI cJ x k g w t l hi sg zr pt) (Xok_t K) Xbl_t [0] [1, 2] rfl rfl (by decide) (by decide) (by decide) 0 rfl rfl rfl rfl rfl (Nat.le_of_ble_eq_true rfl) (by decide) (by decide) dq_Tru_clear_37 (fun u hu => ?_)
      obtain rfl := hu
      show V K 3 [oc k 0 [.ref ka, vi 0, vi 0], ai cI ka 800 f, oc x 3 [.ref k, vi (b2 sg), vi 0, vi 0, .ref g, .ref w, .ref t, .ref l, .ref hi]] 0 0 40 [(0, .ref x), (1, vi (b2 sg)), (2, vi a)] []
      refine qv_aload_n C rfl dq_Tru_clear_40 ?_
      refine qv_iload_n C rfl dq_Tru_clear_41 ?_
      refine qv_put C (ws' := [oc k 0 [.ref ka, vi 0, vi 0], ai cI ka 800 f, oc x 3 [.ref k, vi (b2 sg), vi 0, vi a, .ref g, .ref w, .ref t, .ref l, .ref hi]]) fl_Tru_88 fs_3_3 2 rfl rfl rfl (Nat.le_of_ble_eq_true rfl) rfl dq_Tru_clear_42 ?_
      refine qv_ws [2, 0, 1] (ws' := [oc x 3 [.ref k, vi (b2 sg), vi 0, vi a, .ref g, .ref w, .ref t, .ref l, .ref hi], oc k 0 [.ref ka, vi 0, vi 0], ai cI ka 800 f]) (by decide) rfl ?_
      refine qx_vret C hR ?_ dq_Tru_clear_45 (by decide) (by decide)
      exact ⟨by omega, rfl⟩
    · skip
      refine qx_throw C hR.x hX (by decide) ak_I ai_I (is := 94) (text := "place is not -1000..1000") (by decide) ax_I ?_ dq_Tru_clear_14 dq_Tru_clear_17 dq_Tru_clear_18 dq_Tru_clear_20 dq_Tru_clear_23 (by decide) (by decide) (by decide) (by decide)
      exact ⟨by omega, rfl, rfl⟩

theorem c_Tru_round (cI cJ : ClassId) (x k g w t l hi : Nat) (mi : Bool) (zr : Nat) (pt : Int) (ka len : Nat) (pl : Int) (f : Nat → Nat) (a : Int) (ha : ri a) (hl : len ≤ 800) (hf : ∀ i, f i ≤ 9) : MxI cI cJ ky_Tru_round kb_Tru_round 2 rX XT [.ref x, vi a] [oc x 3 [.ref k, vi (b2 mi), vi ((zr : Nat) : Int), vi pt, .ref g, .ref w, .ref t, .ref l, .ref hi], oc k 0 [.ref ka, vi ((len : Nat) : Int), vi pl], ai cI ka 800 f] (fun z u => (0 ≤ a ∧ a ≤ 800) ∧ z = ((cL f len (rz a.toNat) : Nat) : Int) ∧ u = xo x k g w t l hi mi 0 0 :: dw cI k ka (cL f len (rz a.toNat)) (cP f len (rz a.toNat) pl) (cF f len (rz a.toNat))) (fun E u => ¬ (0 ≤ a ∧ a ≤ 800) ∧ E = nIAE ∧ u = xo x k g w t l hi mi zr pt :: dw cI k ka len pl f) := by
  refine MxI_in (by decide) (Nat.le_of_ble_eq_true rfl) (fun K C hR hX => ?_)
  show V K 2 [oc x 3 [.ref k, vi (b2 mi), vi ((zr : Nat) : Int), vi pt, .ref g, .ref w, .ref t, .ref l, .ref hi], oc k 0 [.ref ka, vi ((len : Nat) : Int), vi pl], ai cI ka 800 f] 0 0 0 [(0, .ref x), (1, vi a)] []
  refine qv_iload_n C rfl dq_Tru_round_0 ?_
  refine qv_iflt C (by omega) (tgt := 11) (by decide) dq_Tru_round_1 (fun h1 => ?_) (fun h1 => ?_)
  · skip
    refine qx_throw C hR.x hX (by decide) ak_I ai_I (is := 99) (text := "n is not 0..800") (by decide) ax_I ?_ dq_Tru_round_11 dq_Tru_round_14 dq_Tru_round_15 dq_Tru_round_17 dq_Tru_round_20 (by decide) (by decide) (by decide) (by decide)
    exact ⟨by omega, rfl, rfl⟩
  · skip
    refine qv_iload_n C rfl dq_Tru_round_4 ?_
    refine qv_sipush C (by decide) dq_Tru_round_5 ?_
    refine qv_icle C (by omega) (by omega) (tgt := 21) (by decide) dq_Tru_round_8 (fun h8 => ?_) (fun h8 => ?_)
    · skip
      obtain ⟨q, rfl⟩ : ∃ q : Nat, a = (q : Int) := ⟨a.toNat, by omega⟩
      have etq : ((q : Nat) : Int).toNat = q := Int.toNat_natCast q
      refine qv_aload_n C rfl dq_Tru_round_21 ?_
      refine qv_iload_n C rfl dq_Tru_round_22 ?_
      refine qc_vV (wr := []) (st := []) C cl_Tru_101 cd_Tru_roundToDigits (c_Tru_roundToDigits cI cJ x k g w t l hi mi zr pt ka len pl f q hl hf (by omega)) (Xok_t K) Xbl_t [0, 1, 2] [] rfl rfl (by decide) (by decide) (by decide) 0 rfl rfl rfl rfl rfl (Nat.le_of_ble_eq_true rfl) (by decide) (by decide) dq_Tru_round_23 (fun u hu => ?_)
      obtain rfl := hu
      show V K 2 [oc x 3 [.ref k, vi (b2 mi), vi 0, vi 0, .ref g, .ref w, .ref t, .ref l, .ref hi], oc k 0 [.ref ka, vi ((cL f len (rz q) : Nat) : Int), vi (cP f len (rz q) pl)], ai cI ka 800 (cF f len (rz q))] 0 0 26 [(0, .ref x), (1, vi ((q : Nat) : Int))] []
      refine qv_aload_n C rfl dq_Tru_round_26 ?_
      refine qv_get C fl_Tru_12 0 rfl rfl dq_Tru_round_27 ?_
      refine qv_get C fl_Tru_69 1 rfl rfl dq_Tru_round_30 ?_
      refine qx_iret C hR ?_ dq_Tru_round_33 (by decide) (by decide)
      refine ⟨by omega, ?_, ?_⟩
      · rw [etq]
      · rw [etq]; rfl
    · skip
      refine qx_throw C hR.x hX (by decide) ak_I ai_I (is := 99) (text := "n is not 0..800") (by decide) ax_I ?_ dq_Tru_round_11 dq_Tru_round_14 dq_Tru_round_15 dq_Tru_round_17 dq_Tru_round_20 (by decide) (by decide) (by decide) (by decide)
      exact ⟨by omega, rfl, rfl⟩

theorem c_Tru_places (cI cJ : ClassId) (x k g w t l hi : Nat) (mi : Bool) (zr : Nat) (pt : Int) (ka len : Nat) (pl : Int) (f : Nat → Nat) (a : Int) (ha : ri a) (hl : len ≤ 800) (hf : ∀ i, f i ≤ 9) (hpl : -10000 ≤ pl ∧ pl ≤ 10000) : MxI cI cJ ky_Tru_places kb_Tru_places 2 rX XT [.ref x, vi a] [oc x 3 [.ref k, vi (b2 mi), vi ((zr : Nat) : Int), vi pt, .ref g, .ref w, .ref t, .ref l, .ref hi], oc k 0 [.ref ka, vi ((len : Nat) : Int), vi pl], ai cI ka 800 f] (fun z u => (-1000 ≤ a ∧ a ≤ 2000) ∧ z = ((cL f len (pl + a) : Nat) : Int) ∧ u = xo x k g w t l hi mi 0 0 :: dw cI k ka (cL f len (pl + a)) (cP f len (pl + a) pl) (cF f len (pl + a))) (fun E u => ¬ (-1000 ≤ a ∧ a ≤ 2000) ∧ E = nIAE ∧ u = xo x k g w t l hi mi zr pt :: dw cI k ka len pl f) := by
  refine MxI_in (by decide) (Nat.le_of_ble_eq_true rfl) (fun K C hR hX => ?_)
  show V K 2 [oc x 3 [.ref k, vi (b2 mi), vi ((zr : Nat) : Int), vi pt, .ref g, .ref w, .ref t, .ref l, .ref hi], oc k 0 [.ref ka, vi ((len : Nat) : Int), vi pl], ai cI ka 800 f] 0 0 0 [(0, .ref x), (1, vi a)] []
  refine qv_iload_n C rfl dq_Tru_places_0 ?_
  refine qv_sipush C (by decide) dq_Tru_places_1 ?_
  refine qv_iclt C (by omega) (by omega) (tgt := 14) (by decide) dq_Tru_places_4 (fun h4 => ?_) (fun h4 => ?_)
  · skip
    refine qx_throw C hR.x hX (by decide) ak_I ai_I (is := 104) (text := "n is not -1000..2000") (by decide) ax_I ?_ dq_Tru_places_14 dq_Tru_places_17 dq_Tru_places_18 dq_Tru_places_20 dq_Tru_places_23 (by decide) (by decide) (by decide) (by decide)
    exact ⟨by omega, rfl, rfl⟩
  · skip
    refine qv_iload_n C rfl dq_Tru_places_7 ?_
    refine qv_sipush C (by decide) dq_Tru_places_8 ?_
    refine qv_icle C (by omega) (by omega) (tgt := 24) (by decide) dq_Tru_places_11 (fun h11 => ?_) (fun h11 => ?_)
    · skip
      refine qv_aload_n C rfl dq_Tru_places_24 ?_
      refine qv_get C fl_Tru_12 0 rfl rfl dq_Tru_places_25 ?_
      refine qv_aload_n C rfl dq_Tru_places_28 ?_
      refine qv_get C fl_Tru_12 0 rfl rfl dq_Tru_places_29 ?_
      refine qv_get C fl_Tru_106 1 rfl rfl dq_Tru_places_32 ?_
      refine qv_iload_n C rfl dq_Tru_places_35 ?_
      refine qv_iadd C (r := (pl + a)) rfl dq_Tru_places_36 ?_
      refine qc_vV (wr := [oc x 3 [.ref k, vi (b2 mi), vi ((zr : Nat) : Int), vi pt, .ref g, .ref w, .ref t, .ref l, .ref hi]]) (st := []) C cl_Tru_109 cd_Dec_cutBehind (c_Dec_cutBehind cI cJ k ka len pl f (pl + a) hl hf (by omega)) (Xok_t K) Xbl_t [1, 2] [0] rfl rfl (by decide) (by decide) (by decide) 0 rfl rfl rfl rfl rfl (Nat.le_of_ble_eq_true rfl) (by decide) (by decide) dq_Tru_places_37 (fun u hu => ?_)
      obtain rfl := hu
      show V K 2 [oc x 3 [.ref k, vi (b2 mi), vi ((zr : Nat) : Int), vi pt, .ref g, .ref w, .ref t, .ref l, .ref hi], oc k 0 [.ref ka, vi ((cL f len (pl + a) : Nat) : Int), vi (cP f len (pl + a) pl)], ai cI ka 800 (cF f len (pl + a))] 0 0 40 [(0, .ref x), (1, vi a)] []
      refine qv_aload_n C rfl dq_Tru_places_40 ?_
      refine qc_vV (wr := [oc k 0 [.ref ka, vi ((cL f len (pl + a) : Nat) : Int), vi (cP f len (pl + a) pl)], ai cI ka 800 (cF f len (pl + a))]) (st := []) C cl_Tru_66 cd_Tru_forgetWhatCame (c_Tru_forgetWhatCame cI cJ x k g w t l hi mi zr pt) (Xok_t K) Xbl_t [0] [1, 2] rfl rfl (by decide) (by decide) (by decide) 0 rfl rfl rfl rfl rfl (Nat.le_of_ble_eq_true rfl) (by decide) (by decide) dq_Tru_places_41 (fun u hu => ?_)
      obtain rfl := hu
      show V K 2 [oc k 0 [.ref ka, vi ((cL f len (pl + a) : Nat) : Int), vi (cP f len (pl + a) pl)], ai cI ka 800 (cF f len (pl + a)), oc x 3 [.ref k, vi (b2 mi), vi 0, vi 0, .ref g, .ref w, .ref t, .ref l, .ref hi]] 0 0 44 [(0, .ref x), (1, vi a)] []
      refine qv_ws [2, 0, 1] (ws' := [oc x 3 [.ref k, vi (b2 mi), vi 0, vi 0, .ref g, .ref w, .ref t, .ref l, .ref hi], oc k 0 [.ref ka, vi ((cL f len (pl + a) : Nat) : Int), vi (cP f len (pl + a) pl)], ai cI ka 800 (cF f len (pl + a))]) (by decide) rfl ?_
      refine qv_aload_n C rfl dq_Tru_places_44 ?_
      refine qv_get C fl_Tru_12 0 rfl rfl dq_Tru_places_45 ?_
      refine qv_get C fl_Tru_69 1 rfl rfl dq_Tru_places_48 ?_
      refine qx_iret C hR ?_ dq_Tru_places_51 (by decide) (by decide)
      exact ⟨by omega, rfl, rfl⟩
    · skip
      refine qx_throw C hR.x hX (by decide) ak_I ai_I (is := 104) (text := "n is not -1000..2000") (by decide) ax_I ?_ dq_Tru_places_14 dq_Tru_places_17 dq_Tru_places_18 dq_Tru_places_20 dq_Tru_places_23 (by decide) (by decide) (by decide) (by decide)
      exact ⟨by omega, rfl, rfl⟩

theorem c_Tru_look (cI cJ : ClassId) (x k g w t l hi : Nat) (mi : Bool) (zr : Nat) (pt : Int) (ka len : Nat) (pl : Int) (f : Nat → Nat) (a : Int) (ha : ri a) (hl : len ≤ 800) : MxI cI cJ ky_Tru_look kb_Tru_look 2 rX XT [.ref x, vi a] [oc x 3 [.ref k, vi (b2 mi), vi ((zr : Nat) : Int), vi pt, .ref g, .ref w, .ref t, .ref l, .ref hi], oc k 0 [.ref ka, vi ((len : Nat) : Int), vi pl], ai cI ka 800 f] (fun z u => (0 ≤ a ∧ a < ((len : Nat) : Int)) ∧ z = ((f a.toNat : Nat) : Int) ∧ u = xo x k g w t l hi mi zr pt :: dw cI k ka len pl f) (fun E u => ¬ (0 ≤ a ∧ a < ((len : Nat) : Int)) ∧ E = nIOB ∧ u = xo x k g w t l hi mi zr pt :: dw cI k ka len pl f) := by
  refine MxI_in (by decide) (Nat.le_of_ble_eq_true rfl) (fun K C hR hX => ?_)
  show V K 2 [oc x 3 [.ref k, vi (b2 mi), vi ((zr : Nat) : Int), vi pt, .ref g, .ref w, .ref t, .ref l, .ref hi], oc k 0 [.ref ka, vi ((len : Nat) : Int), vi pl], ai cI ka 800 f] 0 0 0 [(0, .ref x), (1, vi a)] []
  refine qv_iload_n C rfl dq_Tru_look_0 ?_
  refine qv_iflt C (by omega) (tgt := 15) (by decide) dq_Tru_look_1 (fun h1 => ?_) (fun h1 => ?_)
  · skip
    refine qx_throw C hR.x hX (by decide) ak_B ai_B (is := 126) (text := "there is no such digit") (by decide) ax_B ?_ dq_Tru_look_15 dq_Tru_look_18 dq_Tru_look_19 dq_Tru_look_21 dq_Tru_look_24 (by decide) (by decide) (by decide) (by decide)
    exact ⟨by omega, rfl, rfl⟩
  · skip
    refine qv_iload_n C rfl dq_Tru_look_4 ?_
    refine qv_aload_n C rfl dq_Tru_look_5 ?_
    refine qv_get C fl_Tru_12 0 rfl rfl dq_Tru_look_6 ?_
    refine qv_get C fl_Tru_69 1 rfl rfl dq_Tru_look_9 ?_
    refine qv_iclt C (by omega) (by omega) (tgt := 25) (by decide) dq_Tru_look_12 (fun h12 => ?_) (fun h12 => ?_)
    · skip
      obtain ⟨q, rfl⟩ : ∃ q : Nat, a = (q : Int) := ⟨a.toNat, by omega⟩
      have etq : ((q : Nat) : Int).toNat = q := Int.toNat_natCast q
      refine qv_aload_n C rfl dq_Tru_look_25 ?_
      refine qv_get C fl_Tru_12 0 rfl rfl dq_Tru_look_26 ?_
      refine qv_get C fl_Tru_128 1 rfl rfl dq_Tru_look_29 ?_
      refine qv_iload_n C rfl dq_Tru_look_32 ?_
      refine qv_iald C 2 q rfl (by omega) (by omega) (by omega) dq_Tru_look_33 ?_
      refine qx_iret C hR ?_ dq_Tru_look_34 (by decide) (by decide)
      refine ⟨by omega, ?_, rfl⟩
      rw [etq]
    · skip
      refine qx_throw C hR.x hX (by decide) ak_B ai_B (is := 126) (text := "there is no such digit") (by decide) ax_B ?_ dq_Tru_look_15 dq_Tru_look_18 dq_Tru_look_19 dq_Tru_look_21 dq_Tru_look_24 (by decide) (by decide) (by decide) (by decide)
      exact ⟨by omega, rfl, rfl⟩

theorem c_Tru_nearest (cI cJ : ClassId) (x k g w t l hi : Nat) (mi : Bool) (zr : Nat) (pt : Int) (ka len : Nat) (pl : Int) (f : Nat → Nat) (b fi en : Nat) (R : Nat → Nat) (wa : Nat) (hm : Bool) (W : Nat → Nat) (hK : Kd f len pl) (hp : -10000 ≤ pl ∧ pl ≤ 10000) : MxJ cI cJ ky_Tru_nearest kb_Tru_nearest 3 rX XT [.ref x] [oc x 3 [.ref k, vi (b2 mi), vi ((zr : Nat) : Int), vi pt, .ref g, .ref w, .ref t, .ref l, .ref hi], oc k 0 [.ref ka, vi ((len : Nat) : Int), vi pl], ai cI ka 800 f, oc g 1 [.ref b, vi ((fi : Nat) : Int), vi ((en : Nat) : Int)], aj cJ b 160 R, oc w 2 [.ref wa, vi (b2 hm)], aj cJ wa 70 W] (fun z u => ∃ (r : Nat) (R2 : Nat → Nat) (fi2 en2 : Nat) (hm2 : Bool) (W2 : Nat → Nat), Ne f len pl r ∧ r < INF ∧ z = ((r + (if mi = true then 9223372036854775808 else 0) : Nat) : Int) ∧ u = xo x k g w t l hi mi zr pt :: (dw cI k ka len pl f ++ gw cJ g b fi2 en2 R2 ++ ww cJ w wa hm2 W2)) (fun E u => E = nARI ∧ ∃ (r : Nat) (R2 : Nat → Nat) (fi2 en2 : Nat) (hm2 : Bool) (W2 : Nat → Nat), Ne f len pl r ∧ r = INF ∧ u = xo x k g w t l hi mi zr pt :: (dw cI k ka len pl f ++ gw cJ g b fi2 en2 R2 ++ ww cJ w wa hm2 W2)) := by
  refine MxJ_in (by decide) (Nat.le_of_ble_eq_true rfl) (fun K C hR hX => ?_)
  show V K 3 [oc x 3 [.ref k, vi (b2 mi), vi ((zr : Nat) : Int), vi pt, .ref g, .ref w, .ref t, .ref l, .ref hi], oc k 0 [.ref ka, vi ((len : Nat) : Int), vi pl], ai cI ka 800 f, oc g 1 [.ref b, vi ((fi : Nat) : Int), vi ((en : Nat) : Int)], aj cJ b 160 R, oc w 2 [.ref wa, vi (b2 hm)], aj cJ wa 70 W] 0 0 0 [(0, .ref x)] []
  have hI : INF = 9218868437227405312 := rfl
  refine qv_aload_n C rfl dq_Tru_nearest_0 ?_
  refine qc_vJ (wr := []) (st := []) C cl_Tru_112 cd_Tru_nearestSize (c_Tru_nearestSize cI cJ x k g w t l hi mi zr pt ka len pl f b fi en R wa hm W hK hp) (XU_ok (XT_U hX)) XU_bl [0, 1, 2, 3, 4, 5, 6] [] rfl rfl (by decide) (by decide) (by decide) 0 rfl rfl rfl rfl rfl (Nat.le_of_ble_eq_true rfl) (by decide) (by decide) dq_Tru_nearest_1 (fun z u hu => ?_)
  obtain ⟨r, R2, fi2, en2, hm2, W2, rfl, hNe, rfl⟩ := hu
  have hrI := Ne_le hNe
  show V K 3 [oc x 3 [.ref k, vi (b2 mi), vi ((zr : Nat) : Int), vi pt, .ref g, .ref w, .ref t, .ref l, .ref hi], oc k 0 [.ref ka, vi ((len : Nat) : Int), vi pl], ai cI ka 800 f, oc g 1 [.ref b, vi ((fi2 : Nat) : Int), vi ((en2 : Nat) : Int)], aj cJ b 160 R2, oc w 2 [.ref wa, vi (b2 hm2)], aj cJ wa 70 W2] 0 0 4 [(0, .ref x)] [vj ((r : Nat) : Int)]
  refine qv_lstore_n C (lv' := [(1, vj ((r : Nat) : Int)), (0, .ref x)]) (by decide) rfl dq_Tru_nearest_4 ?_
  refine qv_lload_n C rfl dq_Tru_nearest_5 ?_
  refine qv_ldc2 C (z := 9218868437227405312) wk_Tru_41 dq_Tru_nearest_6 ?_
  refine qv_lclt C (by omega) (by omega) dq_Tru_nearest_9 (tgt := 23) (by decide) dq_Tru_nearest_10 (fun h9 => ?_) (fun h9 => ?_)
  · skip
    refine qv_aload_n C rfl dq_Tru_nearest_23 ?_
    refine qv_get C fl_Tru_50 0 rfl rfl dq_Tru_nearest_24 ?_
    refine qv_ifeq C (rb_b2 mi) (tgt := 38) (by decide) dq_Tru_nearest_27 (fun h27 => ?_) (fun h27 => ?_)
    · skip
      refine qv_lload_n C rfl dq_Tru_nearest_38 ?_
      refine qx_lret C hR ?_ dq_Tru_nearest_39 (by decide) (by decide)
      refine ⟨r, R2, fi2, en2, hm2, W2, hNe, by omega, ?_, rfl⟩
      have em := b2_f h27
      rw [em]
      rw [if_neg (by decide)] <;> rfl
    · skip
      refine qv_lload_n C rfl dq_Tru_nearest_30 ?_
      refine qv_ldc2 C (z := (-9223372036854775808)) wk_Tru_121 dq_Tru_nearest_31 ?_
      refine qv_tjw (r := ((1 * 2 ^ 63 : Nat) : Int)) (by decide) ?_
      refine qv_lor C (r := (((1 * 2 ^ 63 + r) : Nat) : Int)) (zj_or' (by omega) (by omega)) dq_Tru_nearest_34 ?_
      refine qv_goto C (tgt := 39) (by decide) dq_Tru_nearest_35 ?_
      refine qx_lret C hR ?_ dq_Tru_nearest_39 (by decide) (by decide)
      refine ⟨r, R2, fi2, en2, hm2, W2, hNe, by omega, ?_, rfl⟩
      have em := b2_t h27
      rw [em]
      rw [if_pos rfl]; omega
  · skip
    refine qx_throw C hR.x hX (by decide) ak_A ai_A (is := 118) (text := "it is beyond") (by decide) ax_A ?_ dq_Tru_nearest_13 dq_Tru_nearest_16 dq_Tru_nearest_17 dq_Tru_nearest_19 dq_Tru_nearest_22 (by decide) (by decide) (by decide) (by decide)
    exact ⟨rfl, r, R2, fi2, en2, hm2, W2, hNe, by omega, rfl⟩

