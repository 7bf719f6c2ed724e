theorem c_Tru_factorOf (cI cJ : ClassId) (r : Nat) (hr : r < 9223372036854775808) : MtJ cI cJ ky_Tru_factorOf kb_Tru_factorOf 4 rm_Tru_factorOf Xt [vj ((r : Nat) : Int)] [] (fun z u => z = ((fc r : Nat) : Int) ∧ u = []) := by
  refine MtJ_in (by decide) (Nat.le_of_ble_eq_true rfl) (fun K C hR hX hN => ?_)
  show V K 4 [] 0 0 0 [(0, vj ((r : Nat) : Int))] []
  refine qv_lload_n C rfl dq_Tru_factorOf_0 ?_
  refine qv_ldc2 C (z := 4503599627370495) wk_Tru_179 dq_Tru_factorOf_1 ?_
  refine qv_land C (r := (((r % 4503599627370496) : Nat) : Int)) (zj_and (a := r) (b := 52) (by omega)) dq_Tru_factorOf_4 ?_
  refine qv_lstore_n C (lv' := [(2, vj (((r % 4503599627370496) : Nat) : Int)), (0, vj ((r : Nat) : Int))]) (by decide) rfl dq_Tru_factorOf_5 ?_
  refine qv_lload_n C rfl dq_Tru_factorOf_6 ?_
  refine qv_ldc2 C (z := 4503599627370495) wk_Tru_179 dq_Tru_factorOf_7 ?_
  refine qv_lcle C (by omega) (by omega) dq_Tru_factorOf_10 (tgt := 24) (by decide) dq_Tru_factorOf_11 (fun h10 => ?_) (fun h10 => ?_)
  · skip
    refine qv_lload_n C rfl dq_Tru_factorOf_24 ?_
    refine qv_lret C hR ?_ dq_Tru_factorOf_25 (by decide) (by decide)
    refine ⟨?_, rfl⟩
    unfold fc
    first | (rw [if_pos (by omega)] <;> omega) | (rw [if_neg (by omega)] <;> omega)
  · skip
    refine qv_lload_n C rfl dq_Tru_factorOf_14 ?_
    refine qv_ldc2 C (z := 4503599627370495) wk_Tru_179 dq_Tru_factorOf_15 ?_
    refine qv_ladd C (r := ((((r % 4503599627370496) + 4503599627370495) : Nat) : Int)) (by omega) dq_Tru_factorOf_18 ?_
    refine qv_lconst C (z := 1) (by decide) dq_Tru_factorOf_19 ?_
    refine qv_ladd C (r := ((((r % 4503599627370496) + 4503599627370496) : Nat) : Int)) (by omega) dq_Tru_factorOf_20 ?_
    refine qv_goto C (tgt := 25) (by decide) dq_Tru_factorOf_21 ?_
    refine qv_lret C hR ?_ dq_Tru_factorOf_25 (by decide) (by decide)
    refine ⟨?_, rfl⟩
    unfold fc
    first | (rw [if_pos (by omega)] <;> omega) | (rw [if_neg (by omega)] <;> omega)

theorem c_Tru_powerOf (cI cJ : ClassId) (r : Nat) (hr : r < 9223372036854775808) : MtI cI cJ ky_Tru_powerOf kb_Tru_powerOf 3 .int rm_Tru_powerOf Xt [vj ((r : Nat) : Int)] [] (fun z u => z = ((pw r : Nat) : Int) - 1074 ∧ u = []) := by
  refine MtI_in (by decide) (Nat.le_of_ble_eq_true rfl) (fun K C hR hX hN => ?_)
  show V K 3 [] 0 0 0 [(0, vj ((r : Nat) : Int))] []
  refine qv_lload_n C rfl dq_Tru_powerOf_0 ?_
  refine qv_bipush C (by decide) dq_Tru_powerOf_1 ?_
  refine qv_lushr C r 52 (by omega) (by omega) (by omega) (by omega) dq_Tru_powerOf_3 ?_
  refine qv_l2i C dq_Tru_powerOf_4 ?_
  refine qv_istore_n C (lv' := [(2, vi ((r / 2 ^ 52 : Nat) : Int)), (0, vj ((r : Nat) : Int))]) (by decide) rfl dq_Tru_powerOf_5 ?_
  refine qv_sipush C (by decide) dq_Tru_powerOf_6 ?_
  refine qv_iload_n C rfl dq_Tru_powerOf_9 ?_
  refine qv_iconst C dq_Tru_powerOf_10 ?_
  refine qv_mmax (r := ((max (r / 2 ^ 52) 1 : Nat) : Int)) C cl_Tru_181 wm_max_s wm_init wm_max_c (by omega) (by omega) (by decide) (Nat.le_of_ble_eq_true rfl) (by decide) (by decide) (by omega) dq_Tru_powerOf_11 ?_
  refine qv_iadd C (r := ((-1074) + ((max (r / 2 ^ 52) 1 : Nat) : Int))) rfl dq_Tru_powerOf_14 ?_
  refine qv_iconst C dq_Tru_powerOf_15 ?_
  refine qv_isub C (r := (((-1074) + ((max (r / 2 ^ 52) 1 : Nat) : Int)) - 1)) rfl dq_Tru_powerOf_16 ?_
  refine qv_iret C hR ?_ dq_Tru_powerOf_17 (by decide) (by decide)
  refine ⟨?_, rfl⟩
  unfold pw
  omega

theorem c_Tru_forgetWhatCame (cI cJ : ClassId) (x k g w t l hi : Nat) (mi : Bool) (zr : Nat) (pt : Int) : MtV cI cJ ky_Tru_forgetWhatCame kb_Tru_forgetWhatCame 1 rm_Tru_forgetWhatCame Xt [.ref x] [oc x 3 [.ref k, vi (b2 mi), vi ((zr : Nat) : Int), vi pt, .ref g, .ref w, .ref t, .ref l, .ref hi]] (fun u => u = [xo x k g w t l hi mi 0 0]) := by
  refine MtV_in (by decide) (Nat.le_of_ble_eq_true rfl) (fun K C hR hX hN => ?_)
  show V K 1 [oc x 3 [.ref k, vi (b2 mi), vi ((zr : Nat) : Int), vi pt, .ref g, .ref w, .ref t, .ref l, .ref hi]] 0 0 0 [(0, .ref x)] []
  refine qv_aload_n C rfl dq_Tru_forgetWhatCame_0 ?_
  refine qv_iconst C dq_Tru_forgetWhatCame_1 ?_
  refine qv_put C (ws' := [oc x 3 [.ref k, vi (b2 mi), vi 0, vi pt, .ref g, .ref w, .ref t, .ref l, .ref hi]]) fl_Tru_91 fs_3_2 0 rfl rfl rfl (Nat.le_of_ble_eq_true rfl) rfl dq_Tru_forgetWhatCame_2 ?_
  refine qv_aload_n C rfl dq_Tru_forgetWhatCame_5 ?_
  refine qv_iconst C dq_Tru_forgetWhatCame_6 ?_
  refine qv_put C (ws' := [oc x 3 [.ref k, vi (b2 mi), vi 0, vi 0, .ref g, .ref w, .ref t, .ref l, .ref hi]]) fl_Tru_88 fs_3_3 0 rfl rfl rfl (Nat.le_of_ble_eq_true rfl) rfl dq_Tru_forgetWhatCame_7 ?_
  refine qv_vret C hR ?_ dq_Tru_forgetWhatCame_10 (by decide) (by decide)
  rfl

theorem c_Tru_spell (cI cJ : ClassId) (x k g w t l hi : Nat) (mi : Bool) (zr : Nat) (pt : Int) (b fi en : Nat) (R : Nat → Nat) (d da len : Nat) (pl : Int) (f : Nat → Nat) (hf : ∀ i, f i ≤ 9) (m : Nat) (p : Int) (hm : m < 2 ^ 54) (hp1 : -1075 ≤ p) (hp2 : p ≤ 971) : MtV cI cJ ky_Tru_spell kb_Tru_spell 5 rm_Tru_spell Xt [.ref x, vj ((m : Nat) : Int), vi p, .ref d] [oc x 3 [.ref k, vi (b2 mi), vi ((zr : Nat) : Int), vi pt, .ref g, .ref w, .ref t, .ref l, .ref hi], oc g 1 [.ref b, vi ((fi : Nat) : Int), vi ((en : Nat) : Int)], aj cJ b 160 R, oc d 0 [.ref da, vi ((len : Nat) : Int), vi pl], ai cI da 800 f] (fun u => ∃ (R2 : Nat → Nat) (fi2 en2 len2 : Nat) (pl2 : Int) (f2 : Nat → Nat), u = xo x k g w t l hi mi zr pt :: (gw cJ g b fi2 en2 R2 ++ dw cI d da len2 pl2 f2) ∧ Sp m p len2 pl2 f2) := by
  refine MtV_in (by decide) (Nat.le_of_ble_eq_true rfl) (fun K C hR hX hN => ?_)
  show V K 5 [oc x 3 [.ref k, vi (b2 mi), vi ((zr : Nat) : Int), vi pt, .ref g, .ref w, .ref t, .ref l, .ref hi], oc g 1 [.ref b, vi ((fi : Nat) : Int), vi ((en : Nat) : Int)], aj cJ b 160 R, oc d 0 [.ref da, vi ((len : Nat) : Int), vi pl], ai cI da 800 f] 0 0 0 [(0, .ref x), (1, vj ((m : Nat) : Int)), (3, vi p), (4, .ref d)] []
  refine qv_aload_n C rfl dq_Tru_spell_0 ?_
  refine qv_get C fl_Tru_19 0 rfl rfl dq_Tru_spell_1 ?_
  refine qv_lload_n C rfl dq_Tru_spell_4 ?_
  refine qv_iload_n C rfl dq_Tru_spell_5 ?_
  refine qc_vV (wr := [oc x 3 [.ref k, vi (b2 mi), vi ((zr : Nat) : Int), vi pt, .ref g, .ref w, .ref t, .ref l, .ref hi], oc d 0 [.ref da, vi ((len : Nat) : Int), vi pl], ai cI da 800 f]) (st := []) C cl_Tru_172 cd_Grp_beProduct (c_Grp_beProduct cI cJ g b fi en R m p hm hp1 hp2) (Xok_t K) Xbl_t [1, 2] [0, 3, 4] rfl rfl (by decide) (by decide) (by decide) 0 rfl rfl rfl rfl rfl (Nat.le_of_ble_eq_true rfl) (by decide) (by decide) dq_Tru_spell_6 (fun u hu => ?_)
  obtain ⟨R2, fi2, en2, rfl, hPd⟩ := hu
  show V K 5 [oc x 3 [.ref k, vi (b2 mi), vi ((zr : Nat) : Int), vi pt, .ref g, .ref w, .ref t, .ref l, .ref hi], oc d 0 [.ref da, vi ((len : Nat) : Int), vi pl], ai cI da 800 f, oc g 1 [.ref b, vi ((fi2 : Nat) : Int), vi ((en2 : Nat) : Int)], aj cJ b 160 R2] 0 0 9 [(0, .ref x), (1, vj ((m : Nat) : Int)), (3, vi p), (4, .ref d)] []
  refine qv_aload C rfl dq_Tru_spell_9 ?_
  refine qv_aload_n C rfl dq_Tru_spell_11 ?_
  refine qv_get C fl_Tru_19 0 rfl rfl dq_Tru_spell_12 ?_
  refine qc_vV (wr := [oc x 3 [.ref k, vi (b2 mi), vi ((zr : Nat) : Int), vi pt, .ref g, .ref w, .ref t, .ref l, .ref hi]]) (st := []) C cl_Tru_176 cd_Dec_read (c_Dec_read cI cJ d da len pl f g b fi2 en2 R2 hf hPd.1 hPd.2.2) (Xok_t K) Xbl_t [1, 2, 3, 4] [0] rfl rfl (by decide) (by decide) (by decide) 0 rfl rfl rfl rfl rfl (Nat.le_of_ble_eq_true rfl) (by decide) (by decide) dq_Tru_spell_15 (fun u hu => ?_)
  obtain ⟨len2, pl2, f2, rfl, hRd⟩ := hu
  show V K 5 [oc x 3 [.ref k, vi (b2 mi), vi ((zr : Nat) : Int), vi pt, .ref g, .ref w, .ref t, .ref l, .ref hi], oc d 0 [.ref da, vi ((len2 : Nat) : Int), vi pl2], ai cI da 800 f2, oc g 1 [.ref b, vi ((fi2 : Nat) : Int), vi ((en2 : Nat) : Int)], aj cJ b 160 R2] 0 0 18 [(0, .ref x), (1, vj ((m : Nat) : Int)), (3, vi p), (4, .ref d)] []
  refine qv_ws [0, 3, 4, 1, 2] (ws' := [oc x 3 [.ref k, vi (b2 mi), vi ((zr : Nat) : Int), vi pt, .ref g, .ref w, .ref t, .ref l, .ref hi], oc g 1 [.ref b, vi ((fi2 : Nat) : Int), vi ((en2 : Nat) : Int)], aj cJ b 160 R2, oc d 0 [.ref da, vi ((len2 : Nat) : Int), vi pl2], ai cI da 800 f2]) (by decide) rfl ?_
  refine qv_vret C hR ?_ dq_Tru_spell_18 (by decide) (by decide)
  exact ⟨R2, fi2, en2, len2, pl2, f2, rfl, Sp_of hPd hRd⟩

theorem c_Tru_spellMiddleAbove (cI cJ : ClassId) (x k g w t l hi : Nat) (mi : Bool) (zr : Nat) (pt : Int) (b fi en : Nat) (R : Nat → Nat) (d da len : Nat) (pl : Int) (f : Nat → Nat) (hf : ∀ i, f i ≤ 9) (r : Nat) (hr : r < 9218868437227405312) : MtV cI cJ ky_Tru_spellMiddleAbove kb_Tru_spellMiddleAbove 4 rm_Tru_spellMiddleAbove Xt [.ref x, vj ((r : Nat) : Int), .ref d] [oc x 3 [.ref k, vi (b2 mi), vi ((zr : Nat) : Int), vi pt, .ref g, .ref w, .ref t, .ref l, .ref hi], oc g 1 [.ref b, vi ((fi : Nat) : Int), vi ((en : Nat) : Int)], aj cJ b 160 R, oc d 0 [.ref da, vi ((len : Nat) : Int), vi pl], ai cI da 800 f] (fun u => ∃ (R2 : Nat → Nat) (fi2 en2 len2 : Nat) (pl2 : Int) (f2 : Nat → Nat), u = xo x k g w t l hi mi zr pt :: (gw cJ g b fi2 en2 R2 ++ dw cI d da len2 pl2 f2) ∧ Sp (2 * fc r + 1) (((pw r : Nat) : Int) - 1075) len2 pl2 f2) := by
  refine MtV_in (by decide) (Nat.le_of_ble_eq_true rfl) (fun K C hR hX hN => ?_)
  show V K 4 [oc x 3 [.ref k, vi (b2 mi), vi ((zr : Nat) : Int), vi pt, .ref g, .ref w, .ref t, .ref l, .ref hi], oc g 1 [.ref b, vi ((fi : Nat) : Int), vi ((en : Nat) : Int)], aj cJ b 160 R, oc d 0 [.ref da, vi ((len : Nat) : Int), vi pl], ai cI da 800 f] 0 0 0 [(0, .ref x), (1, vj ((r : Nat) : Int)), (3, .ref d)] []
  have h1 := fc_lt r
  have h2 := pw_lt hr
  refine qv_aload_n C rfl dq_Tru_spellMiddleAbove_0 ?_
  refine qv_ldc2 C (z := 2) wk_Tru_170 dq_Tru_spellMiddleAbove_1 ?_
  refine qv_lload_n C rfl dq_Tru_spellMiddleAbove_4 ?_
  refine qc_sJ (wr := [oc x 3 [.ref k, vi (b2 mi), vi ((zr : Nat) : Int), vi pt, .ref g, .ref w, .ref t, .ref l, .ref hi], oc g 1 [.ref b, vi ((fi : Nat) : Int), vi ((en : Nat) : Int)], aj cJ b 160 R, oc d 0 [.ref da, vi ((len : Nat) : Int), vi pl], ai cI da 800 f]) (st := [vj 2, .ref x]) C cl_Tru_54 cd_Tru_factorOf (c_Tru_factorOf cI cJ r (by omega)) (Xok_t K) Xbl_t [] [0, 1, 2, 3, 4] rfl rfl (by decide) (by decide) (by decide) rfl rfl (Nat.le_of_ble_eq_true rfl) (by decide) (by decide) dq_Tru_spellMiddleAbove_5 (fun z u hu => ?_)
  obtain ⟨rfl, rfl⟩ := hu
  show V K 4 [oc x 3 [.ref k, vi (b2 mi), vi ((zr : Nat) : Int), vi pt, .ref g, .ref w, .ref t, .ref l, .ref hi], oc g 1 [.ref b, vi ((fi : Nat) : Int), vi ((en : Nat) : Int)], aj cJ b 160 R, oc d 0 [.ref da, vi ((len : Nat) : Int), vi pl], ai cI da 800 f] 0 0 8 [(0, .ref x), (1, vj ((r : Nat) : Int)), (3, .ref d)] [vj ((fc r : Nat) : Int), vj 2, .ref x]
  refine qv_lmul C (r := (((2 * fc r) : Nat) : Int)) (by omega) dq_Tru_spellMiddleAbove_8 ?_
  refine qv_lconst C (z := 1) (by decide) dq_Tru_spellMiddleAbove_9 ?_
  refine qv_ladd C (r := ((((2 * fc r) + 1) : Nat) : Int)) (by omega) dq_Tru_spellMiddleAbove_10 ?_
  refine qv_lload_n C rfl dq_Tru_spellMiddleAbove_11 ?_
  refine qc_sI (wr := [oc x 3 [.ref k, vi (b2 mi), vi ((zr : Nat) : Int), vi pt, .ref g, .ref w, .ref t, .ref l, .ref hi], oc g 1 [.ref b, vi ((fi : Nat) : Int), vi ((en : Nat) : Int)], aj cJ b 160 R, oc d 0 [.ref da, vi ((len : Nat) : Int), vi pl], ai cI da 800 f]) (st := [vj ((((2 * fc r) + 1) : Nat) : Int), .ref x]) C cl_Tru_58 cd_Tru_powerOf (c_Tru_powerOf cI cJ r (by omega)) (Xok_t K) Xbl_t [] [0, 1, 2, 3, 4] rfl rfl (by decide) (by decide) (by decide) rfl rfl (Nat.le_of_ble_eq_true rfl) (by decide) (by decide) dq_Tru_spellMiddleAbove_12 (fun z u hu => ?_)
  obtain ⟨rfl, rfl⟩ := hu
  show V K 4 [oc x 3 [.ref k, vi (b2 mi), vi ((zr : Nat) : Int), vi pt, .ref g, .ref w, .ref t, .ref l, .ref hi], oc g 1 [.ref b, vi ((fi : Nat) : Int), vi ((en : Nat) : Int)], aj cJ b 160 R, oc d 0 [.ref da, vi ((len : Nat) : Int), vi pl], ai cI da 800 f] 0 0 15 [(0, .ref x), (1, vj ((r : Nat) : Int)), (3, .ref d)] [vi (((pw r : Nat) : Int) - 1074), vj ((((2 * fc r) + 1) : Nat) : Int), .ref x]
  refine qv_iconst C dq_Tru_spellMiddleAbove_15 ?_
  refine qv_isub C (r := (((pw r : Nat) : Int) - 1075)) (by omega) dq_Tru_spellMiddleAbove_16 ?_
  refine qv_aload_n C rfl dq_Tru_spellMiddleAbove_17 ?_
  refine qc_vV (wr := []) (st := []) C cl_Tru_62 cd_Tru_spell (c_Tru_spell cI cJ x k g w t l hi mi zr pt b fi en R d da len pl f hf (2 * fc r + 1) (((pw r : Nat) : Int) - 1075) (by omega) (by omega) (by omega)) (Xok_t K) Xbl_t [0, 1, 2, 3, 4] [] rfl rfl (by decide) (by decide) (by decide) 0 rfl rfl rfl rfl rfl (Nat.le_of_ble_eq_true rfl) (by decide) (by decide) dq_Tru_spellMiddleAbove_18 (fun u hu => ?_)
  obtain ⟨R2, fi2, en2, len2, pl2, f2, rfl, hS⟩ := hu
  show V K 4 [oc x 3 [.ref k, vi (b2 mi), vi ((zr : Nat) : Int), vi pt, .ref g, .ref w, .ref t, .ref l, .ref hi], oc g 1 [.ref b, vi ((fi2 : Nat) : Int), vi ((en2 : Nat) : Int)], aj cJ b 160 R2, oc d 0 [.ref da, vi ((len2 : Nat) : Int), vi pl2], ai cI da 800 f2] 0 0 21 [(0, .ref x), (1, vj ((r : Nat) : Int)), (3, .ref d)] []
  refine qv_vret C hR ?_ dq_Tru_spellMiddleAbove_21 (by decide) (by decide)
  exact ⟨R2, fi2, en2, len2, pl2, f2, rfl, hS⟩

theorem c_Tru_hasNoRoomFor (cI cJ : ClassId) (x k g w t l hi : Nat) (mi : Bool) (zr : Nat) (pt : Int) (ka len : Nat) (pl : Int) (f : Nat → Nat) (d : Nat) (hl : len ≤ 800) (hz : zr ≤ 800) (hpt : -10000 ≤ pt ∧ pt ≤ 10000) (hd : d ≤ 9) : MtI cI cJ ky_Tru_hasNoRoomFor kb_Tru_hasNoRoomFor 2 .boolean rm_Tru_hasNoRoomFor Xt [.ref x, vi ((d : Nat) : Int)] [oc x 3 [.ref k, vi (b2 mi), vi ((zr : Nat) : Int), vi pt, .ref g, .ref w, .ref t, .ref l, .ref hi], oc k 0 [.ref ka, vi ((len : Nat) : Int), vi pl], ai cI ka 800 f] (fun z u => ∃ nr : Bool, z = b2 nr ∧ (nr = true ↔ (len = 0 ∧ d = 0 ∧ pt < -1000) ∨ (len ≠ 0 ∧ 800 ≤ len + zr)) ∧ u = xo x k g w t l hi mi zr pt :: dw cI k ka len pl f) := by
  refine MtI_in (by decide) (Nat.le_of_ble_eq_true rfl) (fun K C hR hX hN => ?_)
  show V K 2 [oc x 3 [.ref k, vi (b2 mi), vi ((zr : Nat) : Int), vi pt, .ref g, .ref w, .ref t, .ref l, .ref hi], oc k 0 [.ref ka, vi ((len : Nat) : Int), vi pl], ai cI ka 800 f] 0 0 0 [(0, .ref x), (1, vi ((d : Nat) : Int))] []
  refine qv_aload_n C rfl dq_Tru_hasNoRoomFor_0 ?_
  refine qv_get C fl_Tru_12 0 rfl rfl dq_Tru_hasNoRoomFor_1 ?_
  refine qv_get C fl_Tru_69 1 rfl rfl dq_Tru_hasNoRoomFor_4 ?_
  refine qv_ifne C (by omega) (tgt := 30) (by decide) dq_Tru_hasNoRoomFor_7 (fun h7 => ?_) (fun h7 => ?_)
  · skip
    refine qv_aload_n C rfl dq_Tru_hasNoRoomFor_30 ?_
    refine qv_get C fl_Tru_12 0 rfl rfl dq_Tru_hasNoRoomFor_31 ?_
    refine qv_get C fl_Tru_69 1 rfl rfl dq_Tru_hasNoRoomFor_34 ?_
    refine qv_aload_n C rfl dq_Tru_hasNoRoomFor_37 ?_
    refine qv_get C fl_Tru_91 0 rfl rfl dq_Tru_hasNoRoomFor_38 ?_
    refine qv_iadd C (r := (((len + zr) : Nat) : Int)) (by omega) dq_Tru_hasNoRoomFor_41 ?_
    refine qv_sipush C (by decide) dq_Tru_hasNoRoomFor_42 ?_
    refine qv_iclt C (by omega) (by omega) (tgt := 52) (by decide) dq_Tru_hasNoRoomFor_45 (fun h45 => ?_) (fun h45 => ?_)
    · skip
      refine qv_iconst C dq_Tru_hasNoRoomFor_52 ?_
      refine qv_zret (b := false) C hR ?_ dq_Tru_hasNoRoomFor_53 (by decide) (by decide)
      exact ⟨false, rfl, ⟨fun h => (by cases h), fun h => (by exfalso; omega)⟩, rfl⟩
    · skip
      refine qv_iconst C dq_Tru_hasNoRoomFor_48 ?_
      refine qv_goto C (tgt := 53) (by decide) dq_Tru_hasNoRoomFor_49 ?_
      refine qv_zret (b := true) C hR ?_ dq_Tru_hasNoRoomFor_53 (by decide) (by decide)
      exact ⟨true, rfl, ⟨fun _ => by omega, fun _ => rfl⟩, rfl⟩
  · skip
    refine qv_iload_n C rfl dq_Tru_hasNoRoomFor_10 ?_
    refine qv_ifne C (by omega) (tgt := 28) (by decide) dq_Tru_hasNoRoomFor_11 (fun h11 => ?_) (fun h11 => ?_)
    · skip
      refine qv_iconst C dq_Tru_hasNoRoomFor_28 ?_
      refine qv_zret (b := false) C hR ?_ dq_Tru_hasNoRoomFor_29 (by decide) (by decide)
      exact ⟨false, rfl, ⟨fun h => (by cases h), fun h => (by exfalso; omega)⟩, rfl⟩
    · skip
      refine qv_aload_n C rfl dq_Tru_hasNoRoomFor_14 ?_
      refine qv_get C fl_Tru_88 0 rfl rfl dq_Tru_hasNoRoomFor_15 ?_
      refine qv_sipush C (by decide) dq_Tru_hasNoRoomFor_18 ?_
      refine qv_icge C (by omega) (by omega) (tgt := 28) (by decide) dq_Tru_hasNoRoomFor_21 (fun h21 => ?_) (fun h21 => ?_)
      · skip
        refine qv_iconst C dq_Tru_hasNoRoomFor_28 ?_
        refine qv_zret (b := false) C hR ?_ dq_Tru_hasNoRoomFor_29 (by decide) (by decide)
        exact ⟨false, rfl, ⟨fun h => (by cases h), fun h => (by exfalso; omega)⟩, rfl⟩
      · skip
        refine qv_iconst C dq_Tru_hasNoRoomFor_24 ?_
        refine qv_goto C (tgt := 29) (by decide) dq_Tru_hasNoRoomFor_25 ?_
        refine qv_zret (b := true) C hR ?_ dq_Tru_hasNoRoomFor_29 (by decide) (by decide)
        exact ⟨true, rfl, ⟨fun _ => by omega, fun _ => rfl⟩, rfl⟩

theorem c_Tru_bringDigit (cI cJ : ClassId) (x k g w t l hi : Nat) (mi : Bool) (zr : Nat) (pt : Int) (ka len : Nat) (pl : Int) (f : Nat → Nat) (d : Nat) (hr : len + zr < 800) (hd : d ≤ 9) : MtV cI cJ ky_Tru_bringDigit kb_Tru_bringDigit 3 rm_Tru_bringDigit Xt [.ref x, vi ((d : Nat) : Int)] [oc x 3 [.ref k, vi (b2 mi), vi ((zr : Nat) : Int), vi pt, .ref g, .ref w, .ref t, .ref l, .ref hi], oc k 0 [.ref ka, vi ((len : Nat) : Int), vi pl], ai cI ka 800 f] (fun u => u = xo x k g w t l hi mi 0 pt :: dw cI k ka (len + zr + 1) (if len = 0 then pt else pl) (un (zf f len zr) (len + zr) d)) := by
  refine MtV_in (by decide) (Nat.le_of_ble_eq_true rfl) (fun K C hR hX hN => ?_)
  show V K 3 [oc x 3 [.ref k, vi (b2 mi), vi ((zr : Nat) : Int), vi pt, .ref g, .ref w, .ref t, .ref l, .ref hi], oc k 0 [.ref ka, vi ((len : Nat) : Int), vi pl], ai cI ka 800 f] 0 0 0 [(0, .ref x), (1, vi ((d : Nat) : Int))] []
  have loop : ∀ n i, i + n = zr → ∀ p : Int, p = (if len = 0 then pt else pl) → V K 3 [oc x 3 [.ref k, vi (b2 mi), vi ((zr : Nat) : Int), vi pt, .ref g, .ref w, .ref t, .ref l, .ref hi], oc k 0 [.ref ka, vi (((len + i) : Nat) : Int), vi p], ai cI ka 800 (zf f len i)] 0 0 23 [(0, .ref x), (1, vi ((d : Nat) : Int)), (2, vi ((i : Nat) : Int))] [] := by
    intro n
    induction n with
    | zero =>
      intro i hin p hp
      have ei : i = zr := by omega
      subst ei
      refine qv_iload_n C rfl dq_Tru_bringDigit_23 ?_
      refine qv_aload_n C rfl dq_Tru_bringDigit_24 ?_
      refine qv_get C fl_Tru_91 0 rfl rfl dq_Tru_bringDigit_25 ?_
      refine qv_icge C (by omega) (by omega) (tgt := 45) (by decide) dq_Tru_bringDigit_28 (fun h28 => ?_) (fun h28 => ?_)
      · skip
        refine qv_aload_n C rfl dq_Tru_bringDigit_45 ?_
        refine qv_iconst C dq_Tru_bringDigit_46 ?_
        refine qv_put C (ws' := [oc x 3 [.ref k, vi (b2 mi), vi 0, vi pt, .ref g, .ref w, .ref t, .ref l, .ref hi], oc k 0 [.ref ka, vi (((len + i) : Nat) : Int), vi p], ai cI ka 800 (zf f len i)]) fl_Tru_91 fs_3_2 0 rfl rfl rfl (Nat.le_of_ble_eq_true rfl) rfl dq_Tru_bringDigit_47 ?_
        refine qv_aload_n C rfl dq_Tru_bringDigit_50 ?_
        refine qv_get C fl_Tru_12 0 rfl rfl dq_Tru_bringDigit_51 ?_
        refine qv_iload_n C rfl dq_Tru_bringDigit_54 ?_
        refine qc_vV (wr := [oc x 3 [.ref k, vi (b2 mi), vi 0, vi pt, .ref g, .ref w, .ref t, .ref l, .ref hi]]) (st := []) C cl_Tru_134 cd_Dec_append (c_Dec_append cI cJ k ka (len + i) p (zf f len i) d (by omega)) (Xok_t K) Xbl_t [1, 2] [0] rfl rfl (by decide) (by decide) (by decide) 0 rfl rfl rfl rfl rfl (Nat.le_of_ble_eq_true rfl) (by decide) (by decide) dq_Tru_bringDigit_55 (fun u hu => ?_)
        obtain rfl := hu
        show V K 3 [oc x 3 [.ref k, vi (b2 mi), vi 0, vi pt, .ref g, .ref w, .ref t, .ref l, .ref hi], oc k 0 [.ref ka, vi ((apL (len + i) : Nat) : Int), vi p], ai cI ka 800 (apF (zf f len i) (len + i) d)] 0 0 58 [(0, .ref x), (1, vi ((d : Nat) : Int)), (2, vi ((i : Nat) : Int))] []
        refine qv_vret C hR ?_ dq_Tru_bringDigit_58 (by decide) (by decide)
        show _ = _ :: dw _ _ _ _ _ _
        rw [apL_p (by omega), apF_p (by omega), ← hp]; rfl
      · exfalso; omega
    | succ n ih =>
      intro i hin p hp
      refine qv_iload_n C rfl dq_Tru_bringDigit_23 ?_
      refine qv_aload_n C rfl dq_Tru_bringDigit_24 ?_
      refine qv_get C fl_Tru_91 0 rfl rfl dq_Tru_bringDigit_25 ?_
      refine qv_icge C (by omega) (by omega) (tgt := 45) (by decide) dq_Tru_bringDigit_28 (fun h28 => ?_) (fun h28 => ?_)
      · exfalso; omega
      · skip
        refine qv_aload_n C rfl dq_Tru_bringDigit_31 ?_
        refine qv_get C fl_Tru_12 0 rfl rfl dq_Tru_bringDigit_32 ?_
        refine qv_iconst C dq_Tru_bringDigit_35 ?_
        refine qc_vV (wr := [oc x 3 [.ref k, vi (b2 mi), vi ((zr : Nat) : Int), vi pt, .ref g, .ref w, .ref t, .ref l, .ref hi]]) (st := []) C cl_Tru_134 cd_Dec_append (c_Dec_append cI cJ k ka (len + i) p (zf f len i) 0 (by omega)) (Xok_t K) Xbl_t [1, 2] [0] rfl rfl (by decide) (by decide) (by decide) 0 rfl rfl rfl rfl rfl (Nat.le_of_ble_eq_true rfl) (by decide) (by decide) dq_Tru_bringDigit_36 (fun u hu => ?_)
        obtain rfl := hu
        rw [apL_p (by omega), apF_p (by omega), zf_s]
        show V K 3 [oc x 3 [.ref k, vi (b2 mi), vi ((zr : Nat) : Int), vi pt, .ref g, .ref w, .ref t, .ref l, .ref hi], oc k 0 [.ref ka, vi (((len + i + 1) : Nat) : Int), vi p], ai cI ka 800 (zf f len (i + 1))] 0 0 39 [(0, .ref x), (1, vi ((d : Nat) : Int)), (2, vi ((i : Nat) : Int))] []
        refine qv_iinc C (j := 2) (lv' := [(2, vi (((i + 1) : Nat) : Int)), (0, .ref x), (1, vi ((d : Nat) : Int))]) (by omega) rfl (by decide) rfl dq_Tru_bringDigit_39 ?_
        refine qv_goto C (tgt := 23) (by decide) dq_Tru_bringDigit_42 ?_
        refine qv_lv [1, 2, 0] (lv' := [(0, .ref x), (1, vi ((d : Nat) : Int)), (2, vi (((i + 1) : Nat) : Int))]) rfl ?_
        exact ih (i + 1) (by omega) p hp
  have hpl0 : len = 0 → pt = (if len = 0 then pt else pl) := fun q => (if_pos q).symm
  have hpl1 : len ≠ 0 → pl = (if len = 0 then pt else pl) := fun q => (if_neg q).symm
  refine qv_aload_n C rfl dq_Tru_bringDigit_0 ?_
  refine qv_get C fl_Tru_12 0 rfl rfl dq_Tru_bringDigit_1 ?_
  refine qv_get C fl_Tru_69 1 rfl rfl dq_Tru_bringDigit_4 ?_
  refine qv_ifne C (by omega) (tgt := 21) (by decide) dq_Tru_bringDigit_7 (fun h7 => ?_) (fun h7 => ?_)
  · skip
    refine qv_iconst C dq_Tru_bringDigit_21 ?_
    refine qv_istore_n C (lv' := [(2, vi 0), (0, .ref x), (1, vi ((d : Nat) : Int))]) (by decide) rfl dq_Tru_bringDigit_22 ?_
    refine qv_lv [1, 2, 0] (lv' := [(0, .ref x), (1, vi ((d : Nat) : Int)), (2, vi 0)]) rfl ?_
    have l0 := loop zr 0 (by omega) pl (hpl1 (by omega))
    rw [zf_0] at l0
    exact l0
  · skip
    refine qv_aload_n C rfl dq_Tru_bringDigit_10 ?_
    refine qv_get C fl_Tru_12 0 rfl rfl dq_Tru_bringDigit_11 ?_
    refine qv_aload_n C rfl dq_Tru_bringDigit_14 ?_
    refine qv_get C fl_Tru_88 0 rfl rfl dq_Tru_bringDigit_15 ?_
    refine qv_put C (ws' := [oc x 3 [.ref k, vi (b2 mi), vi ((zr : Nat) : Int), vi pt, .ref g, .ref w, .ref t, .ref l, .ref hi], oc k 0 [.ref ka, vi ((len : Nat) : Int), vi pt], ai cI ka 800 f]) fl_Tru_106 fs_0_2 1 rfl rfl rfl (Nat.le_of_ble_eq_true rfl) rfl dq_Tru_bringDigit_18 ?_
    refine qv_iconst C dq_Tru_bringDigit_21 ?_
    refine qv_istore_n C (lv' := [(2, vi 0), (0, .ref x), (1, vi ((d : Nat) : Int))]) (by decide) rfl dq_Tru_bringDigit_22 ?_
    refine qv_lv [1, 2, 0] (lv' := [(0, .ref x), (1, vi ((d : Nat) : Int)), (2, vi 0)]) rfl ?_
    have l0 := loop zr 0 (by omega) pt (hpl0 (by omega))
    rw [zf_0] at l0
    exact l0

theorem c_Tru_roundToDigits (cI cJ : ClassId) (x k g w t l hi : Nat) (mi : Bool) (zr : Nat) (pt : Int) (ka len : Nat) (pl : Int) (f : Nat → Nat) (n : Nat) (hl : len ≤ 800) (hf : ∀ i, f i ≤ 9) (hn : n ≤ 800) : MtV cI cJ ky_Tru_roundToDigits kb_Tru_roundToDigits 2 rm_Tru_roundToDigits Xt [.ref x, vi ((n : Nat) : Int)] [oc x 3 [.ref k, vi (b2 mi), vi ((zr : Nat) : Int), vi pt, .ref g, .ref w, .ref t, .ref l, .ref hi], oc k 0 [.ref ka, vi ((len : Nat) : Int), vi pl], ai cI ka 800 f] (fun u => u = xo x k g w t l hi mi 0 0 :: dw cI k ka (cL f len (rz n)) (cP f len (rz n) pl) (cF f len (rz n))) := by
  refine MtV_in (by decide) (Nat.le_of_ble_eq_true rfl) (fun K C hR hX hN => ?_)
  show V K 2 [oc x 3 [.ref k, vi (b2 mi), vi ((zr : Nat) : Int), vi pt, .ref g, .ref w, .ref t, .ref l, .ref hi], oc k 0 [.ref ka, vi ((len : Nat) : Int), vi pl], ai cI ka 800 f] 0 0 0 [(0, .ref x), (1, vi ((n : Nat) : Int))] []
  refine qv_iload_n C rfl dq_Tru_roundToDigits_0 ?_
  refine qv_ifne C (by omega) (tgt := 14) (by decide) dq_Tru_roundToDigits_1 (fun h1 => ?_) (fun h1 => ?_)
  · skip
    refine qv_aload_n C rfl dq_Tru_roundToDigits_14 ?_
    refine qv_get C fl_Tru_12 0 rfl rfl dq_Tru_roundToDigits_15 ?_
    refine qv_iload_n C rfl dq_Tru_roundToDigits_18 ?_
    refine qc_vV (wr := [oc x 3 [.ref k, vi (b2 mi), vi ((zr : Nat) : Int), vi pt, .ref g, .ref w, .ref t, .ref l, .ref hi]]) (st := []) C cl_Tru_109 cd_Dec_cutBehind (c_Dec_cutBehind cI cJ k ka len pl f (n : Int) hl hf (by omega)) (Xok_t K) Xbl_t [1, 2] [0] rfl rfl (by decide) (by decide) (by decide) 0 rfl rfl rfl rfl rfl (Nat.le_of_ble_eq_true rfl) (by decide) (by decide) dq_Tru_roundToDigits_19 (fun u hu => ?_)
    obtain rfl := hu
    show V K 2 [oc x 3 [.ref k, vi (b2 mi), vi ((zr : Nat) : Int), vi pt, .ref g, .ref w, .ref t, .ref l, .ref hi], oc k 0 [.ref ka, vi ((cL f len ((n : Nat) : Int) : Nat) : Int), vi (cP f len ((n : Nat) : Int) pl)], ai cI ka 800 (cF f len ((n : Nat) : Int))] 0 0 22 [(0, .ref x), (1, vi ((n : Nat) : Int))] []
    refine qv_aload_n C rfl dq_Tru_roundToDigits_22 ?_
    refine qc_vV (wr := [oc k 0 [.ref ka, vi ((cL f len ((n : Nat) : Int) : Nat) : Int), vi (cP f len ((n : Nat) : Int) pl)], ai cI ka 800 (cF f len ((n : Nat) : Int))]) (st := []) C cl_Tru_66 cd_Tru_forgetWhatCame (c_Tru_forgetWhatCame cI cJ x k g w t l hi mi zr pt) (Xok_t K) Xbl_t [0] [1, 2] rfl rfl (by decide) (by decide) (by decide) 0 rfl rfl rfl rfl rfl (Nat.le_of_ble_eq_true rfl) (by decide) (by decide) dq_Tru_roundToDigits_23 (fun u hu => ?_)
    obtain rfl := hu
    show V K 2 [oc k 0 [.ref ka, vi ((cL f len ((n : Nat) : Int) : Nat) : Int), vi (cP f len ((n : Nat) : Int) pl)], ai cI ka 800 (cF f len ((n : Nat) : Int)), oc x 3 [.ref k, vi (b2 mi), vi 0, vi 0, .ref g, .ref w, .ref t, .ref l, .ref hi]] 0 0 26 [(0, .ref x), (1, vi ((n : Nat) : Int))] []
    refine qv_ws [2, 0, 1] (ws' := [oc x 3 [.ref k, vi (b2 mi), vi 0, vi 0, .ref g, .ref w, .ref t, .ref l, .ref hi], oc k 0 [.ref ka, vi ((cL f len ((n : Nat) : Int) : Nat) : Int), vi (cP f len ((n : Nat) : Int) pl)], ai cI ka 800 (cF f len ((n : Nat) : Int))]) (by decide) rfl ?_
    refine qv_vret C hR ?_ dq_Tru_roundToDigits_26 (by decide) (by decide)
    show _ = _ :: dw _ _ _ _ _ _
    rw [rz_s (by omega)]; rfl
  · skip
    refine qv_aload_n C rfl dq_Tru_roundToDigits_4 ?_
    refine qv_get C fl_Tru_12 0 rfl rfl dq_Tru_roundToDigits_5 ?_
    refine qc_vV (wr := [oc x 3 [.ref k, vi (b2 mi), vi ((zr : Nat) : Int), vi pt, .ref g, .ref w, .ref t, .ref l, .ref hi]]) (st := []) C cl_Tru_96 cd_Dec_beZero (c_Dec_beZero cI cJ k ka len pl f) (Xok_t K) Xbl_t [1, 2] [0] rfl rfl (by decide) (by decide) (by decide) 0 rfl rfl rfl rfl rfl (Nat.le_of_ble_eq_true rfl) (by decide) (by decide) dq_Tru_roundToDigits_8 (fun u hu => ?_)
    obtain rfl := hu
    show V K 2 [oc x 3 [.ref k, vi (b2 mi), vi ((zr : Nat) : Int), vi pt, .ref g, .ref w, .ref t, .ref l, .ref hi], oc k 0 [.ref ka, vi 0, vi 0], ai cI ka 800 f] 0 0 11 [(0, .ref x), (1, vi ((n : Nat) : Int))] []
    refine qv_goto C (tgt := 22) (by decide) dq_Tru_roundToDigits_11 ?_
    refine qv_aload_n C rfl dq_Tru_roundToDigits_22 ?_
    refine qc_vV (wr := [oc k 0 [.ref ka, vi 0, vi 0], ai cI ka 800 f]) (st := []) C cl_Tru_66 cd_Tru_forgetWhatCame (c_Tru_forgetWhatCame cI cJ x k g w t l hi mi zr pt) (Xok_t K) Xbl_t [0] [1, 2] rfl rfl (by decide) (by decide) (by decide) 0 rfl rfl rfl rfl rfl (Nat.le_of_ble_eq_true rfl) (by decide) (by decide) dq_Tru_roundToDigits_23 (fun u hu => ?_)
    obtain rfl := hu
    show V K 2 [oc k 0 [.ref ka, vi 0, vi 0], ai cI ka 800 f, oc x 3 [.ref k, vi (b2 mi), vi 0, vi 0, .ref g, .ref w, .ref t, .ref l, .ref hi]] 0 0 26 [(0, .ref x), (1, vi ((n : Nat) : Int))] []
    refine qv_ws [2, 0, 1] (ws' := [oc x 3 [.ref k, vi (b2 mi), vi 0, vi 0, .ref g, .ref w, .ref t, .ref l, .ref hi], oc k 0 [.ref ka, vi 0, vi 0], ai cI ka 800 f]) (by decide) rfl ?_
    refine qv_vret C hR ?_ dq_Tru_roundToDigits_26 (by decide) (by decide)
    have en : n = 0 := by omega
    subst en
    show _ = _ :: dw _ _ _ _ _ _
    rw [rz_0, cL_neg (by omega), cP_neg (by omega), cF_neg (by omega)]; rfl

