abbrev dw (cI : ClassId) (h a len : Nat) (pl : Int) (f : Nat → Nat) : va_W := [oc h 0 [.ref a, vi (len : Nat), vi pl], ai cI a 800 f]
theorem c_Dec_beZero (cI cJ : ClassId) (h a len : Nat) (pl : Int) (f : Nat → Nat) : MtV cI cJ ky_Dec_beZero kb_Dec_beZero 1 rm_Dec_beZero Xt [.ref h] [oc h 0 [.ref a, vi ((len : Nat) : Int), vi pl], ai cI a 800 f] (fun u => u = dw cI h a 0 0 f) := by
  refine MtV_in (by decide) (Nat.le_of_ble_eq_true rfl) (fun K C hR hX hN => ?_)
  show V K 1 [oc h 0 [.ref a, vi ((len : Nat) : Int), vi pl], ai cI a 800 f] 0 0 0 [(0, .ref h)] []
  refine qv_aload_n C rfl dq_Dec_beZero_0 ?_
  refine qv_iconst C dq_Dec_beZero_1 ?_
  refine qv_put C (ws' := [oc h 0 [.ref a, vi 0, vi pl], ai cI a 800 f]) fl_Dec_15 fs_0_1 0 rfl rfl rfl (Nat.le_of_ble_eq_true rfl) rfl dq_Dec_beZero_2 ?_
  refine qv_aload_n C rfl dq_Dec_beZero_5 ?_
  refine qv_iconst C dq_Dec_beZero_6 ?_
  refine qv_put C (ws' := [oc h 0 [.ref a, vi 0, vi 0], ai cI a 800 f]) fl_Dec_19 fs_0_2 0 rfl rfl rfl (Nat.le_of_ble_eq_true rfl) rfl dq_Dec_beZero_7 ?_
  refine qv_vret C hR ?_ dq_Dec_beZero_10 (by decide) (by decide)
  rfl

theorem c_Dec_append (cI cJ : ClassId) (h a len : Nat) (pl : Int) (f : Nat → Nat) (d : Nat) (hl : len ≤ 800) : MtV cI cJ ky_Dec_append kb_Dec_append 2 rm_Dec_append Xt [.ref h, vi ((d : Nat) : Int)] [oc h 0 [.ref a, vi ((len : Nat) : Int), vi pl], ai cI a 800 f] (fun u => u = dw cI h a (apL len) pl (apF f len d)) := by
  refine MtV_in (by decide) (Nat.le_of_ble_eq_true rfl) (fun K C hR hX hN => ?_)
  show V K 2 [oc h 0 [.ref a, vi ((len : Nat) : Int), vi pl], ai cI a 800 f] 0 0 0 [(0, .ref h), (1, vi ((d : Nat) : Int))] []
  refine qv_aload_n C rfl dq_Dec_append_0 ?_
  refine qv_get C fl_Dec_15 0 rfl rfl dq_Dec_append_1 ?_
  refine qv_sipush C (by decide) dq_Dec_append_4 ?_
  refine qv_icge C (by omega) (by omega) (tgt := 30) (by decide) dq_Dec_append_7 (fun h7 => ?_) (fun h7 => ?_)
  · skip
    refine qv_vret C hR ?_ dq_Dec_append_30 (by decide) (by decide)
    show _ = dw _ _ _ _ _ _
    rw [apL_q (by omega), apF_q (by omega)]
  · skip
    refine qv_aload_n C rfl dq_Dec_append_10 ?_
    refine qv_get C fl_Dec_9 0 rfl rfl dq_Dec_append_11 ?_
    refine qv_aload_n C rfl dq_Dec_append_14 ?_
    refine qv_get C fl_Dec_15 0 rfl rfl dq_Dec_append_15 ?_
    refine qv_iload_n C rfl dq_Dec_append_18 ?_
    refine qv_iast C (ws' := [oc h 0 [.ref a, vi ((len : Nat) : Int), vi pl], ai cI a 800 (un f len d)]) 1 len d rfl (by omega) (by omega) (by decide) (by omega) rfl dq_Dec_append_19 ?_
    refine qv_aload_n C rfl dq_Dec_append_20 ?_
    refine qv_dup C rfl dq_Dec_append_21 ?_
    refine qv_get C fl_Dec_15 0 rfl rfl dq_Dec_append_22 ?_
    refine qv_iconst C dq_Dec_append_25 ?_
    refine qv_iadd C (r := (((len + 1) : Nat) : Int)) (by omega) dq_Dec_append_26 ?_
    refine qv_put C (ws' := [oc h 0 [.ref a, vi (((len + 1) : Nat) : Int), vi pl], ai cI a 800 (un f len d)]) fl_Dec_15 fs_0_1 0 rfl rfl rfl (Nat.le_of_ble_eq_true rfl) rfl dq_Dec_append_27 ?_
    refine qv_vret C hR ?_ dq_Dec_append_30 (by decide) (by decide)
    show _ = dw _ _ _ _ _ _
    rw [apL_p (by omega), apF_p (by omega)]

theorem c_Dec_goUp (cI cJ : ClassId) (h a len : Nat) (pl : Int) (f : Nat → Nat) (hl : len ≤ 800) (hf : ∀ i, f i ≤ 9) : MtV cI cJ ky_Dec_goUp kb_Dec_goUp 1 rm_Dec_goUp Xt [.ref h] [oc h 0 [.ref a, vi ((len : Nat) : Int), vi pl], ai cI a 800 f] (fun u => u = dw cI h a (upL f len) (upP f len pl) (upF f len)) := by
  refine MtV_in (by decide) (Nat.le_of_ble_eq_true rfl) (fun K C hR hX hN => ?_)
  show V K 1 [oc h 0 [.ref a, vi ((len : Nat) : Int), vi pl], ai cI a 800 f] 0 0 0 [(0, .ref h)] []
  have hle := dn_le f len
  have aft : ∀ l, dn f len = l → V K 1 [oc h 0 [.ref a, vi ((l : Nat) : Int), vi pl], ai cI a 800 f] 0 0 36 [(0, .ref h)] [] := by
    intro l hl2
    refine qv_aload_n C rfl dq_Dec_goUp_36 ?_
    refine qv_get C fl_Dec_15 0 rfl rfl dq_Dec_goUp_37 ?_
    refine qv_ifne C (by omega) (tgt := 68) (by decide) dq_Dec_goUp_40 (fun h40 => ?_) (fun h40 => ?_)
    · skip
      refine qv_aload_n C rfl dq_Dec_goUp_68 ?_
      refine qv_get C fl_Dec_9 0 rfl rfl dq_Dec_goUp_69 ?_
      refine qv_aload_n C rfl dq_Dec_goUp_72 ?_
      refine qv_get C fl_Dec_15 0 rfl rfl dq_Dec_goUp_73 ?_
      refine qv_iconst C dq_Dec_goUp_76 ?_
      refine qv_isub C (r := (((l - 1) : Nat) : Int)) (by omega) dq_Dec_goUp_77 ?_
      refine qv_dup2 C rfl rfl dq_Dec_goUp_78 ?_
      refine qv_iald C 1 (l - 1) rfl (by omega) (by omega) (by decide) dq_Dec_goUp_79 ?_
      refine qv_iconst C dq_Dec_goUp_80 ?_
      refine qv_iadd C (r := (((f (l - 1) + 1) : Nat) : Int)) (by omega) dq_Dec_goUp_81 ?_
      refine qv_iast C (ws' := [oc h 0 [.ref a, vi ((l : Nat) : Int), vi pl], ai cI a 800 (un f (l - 1) (f (l - 1) + 1))]) 1 (l - 1) (f (l - 1) + 1) rfl (by omega) (by omega) (by decide) (by omega) rfl dq_Dec_goUp_82 ?_
      refine qv_vret C hR ?_ dq_Dec_goUp_83 (by decide) (by decide)
      show _ = dw _ _ _ (upL f len) (upP f len pl) (upF f len)
      unfold upL upP upF
      by_cases q : dn f len = 0
      · rw [if_pos q, if_pos q, if_pos q] <;> first | rfl | (exfalso; omega)
      · rw [if_neg q, if_neg q, if_neg q, hl2] <;> first | rfl | (exfalso; omega)
    · skip
      refine qv_aload_n C rfl dq_Dec_goUp_43 ?_
      refine qv_get C fl_Dec_9 0 rfl rfl dq_Dec_goUp_44 ?_
      refine qv_iconst C dq_Dec_goUp_47 ?_
      refine qv_iconst C dq_Dec_goUp_48 ?_
      refine qv_iast C (ws' := [oc h 0 [.ref a, vi ((l : Nat) : Int), vi pl], ai cI a 800 (un f 0 1)]) 1 0 1 rfl (by omega) (by omega) (by decide) (by omega) rfl dq_Dec_goUp_49 ?_
      refine qv_aload_n C rfl dq_Dec_goUp_50 ?_
      refine qv_iconst C dq_Dec_goUp_51 ?_
      refine qv_put C (ws' := [oc h 0 [.ref a, vi 1, vi pl], ai cI a 800 (un f 0 1)]) fl_Dec_15 fs_0_1 0 rfl rfl rfl (Nat.le_of_ble_eq_true rfl) rfl dq_Dec_goUp_52 ?_
      refine qv_aload_n C rfl dq_Dec_goUp_55 ?_
      refine qv_dup C rfl dq_Dec_goUp_56 ?_
      refine qv_get C fl_Dec_19 0 rfl rfl dq_Dec_goUp_57 ?_
      refine qv_iconst C dq_Dec_goUp_60 ?_
      refine qv_iadd C (r := (pl + 1)) rfl dq_Dec_goUp_61 ?_
      refine qv_put C (ws' := [oc h 0 [.ref a, vi 1, vi (pl + 1)], ai cI a 800 (un f 0 1)]) fl_Dec_19 fs_0_2 0 rfl rfl rfl (Nat.le_of_ble_eq_true rfl) rfl dq_Dec_goUp_62 ?_
      refine qv_goto C (tgt := 83) (by decide) dq_Dec_goUp_65 ?_
      refine qv_vret C hR ?_ dq_Dec_goUp_83 (by decide) (by decide)
      show _ = dw _ _ _ (upL f len) (upP f len pl) (upF f len)
      unfold upL upP upF
      by_cases q : dn f len = 0
      · rw [if_pos q, if_pos q, if_pos q] <;> first | rfl | (exfalso; omega)
      · rw [if_neg q, if_neg q, if_neg q, hl2] <;> first | rfl | (exfalso; omega)
  have loop : ∀ l, l ≤ 800 → dn f l = dn f len → V K 1 [oc h 0 [.ref a, vi ((l : Nat) : Int), vi pl], ai cI a 800 f] 0 0 0 [(0, .ref h)] [] := by
    intro l
    induction l with
    | zero =>
      intro h1 h2
      refine qv_aload_n C rfl dq_Dec_goUp_0 ?_
      refine qv_get C fl_Dec_15 0 rfl rfl dq_Dec_goUp_1 ?_
      refine qv_ifle C (by omega) (tgt := 36) (by decide) dq_Dec_goUp_4 (fun h4 => ?_) (fun h4 => ?_)
      · skip
        exact aft _ h2.symm
      · exfalso; omega
    | succ l ih =>
      intro h1 h2
      have h9 := hf l
      refine qv_aload_n C rfl dq_Dec_goUp_0 ?_
      refine qv_get C fl_Dec_15 0 rfl rfl dq_Dec_goUp_1 ?_
      refine qv_ifle C (by omega) (tgt := 36) (by decide) dq_Dec_goUp_4 (fun h4 => ?_) (fun h4 => ?_)
      · exfalso; omega
      · skip
        refine qv_aload_n C rfl dq_Dec_goUp_7 ?_
        refine qv_get C fl_Dec_9 0 rfl rfl dq_Dec_goUp_8 ?_
        refine qv_aload_n C rfl dq_Dec_goUp_11 ?_
        refine qv_get C fl_Dec_15 0 rfl rfl dq_Dec_goUp_12 ?_
        refine qv_iconst C dq_Dec_goUp_15 ?_
        refine qv_isub C (r := ((l : Nat) : Int)) (by omega) dq_Dec_goUp_16 ?_
        refine qv_iald C 1 l rfl (by omega) (by omega) (by decide) dq_Dec_goUp_17 ?_
        refine qv_bipush C (by decide) dq_Dec_goUp_18 ?_
        refine qv_icne C (by omega) (by omega) (tgt := 36) (by decide) dq_Dec_goUp_20 (fun h20 => ?_) (fun h20 => ?_)
        · skip
          exact aft _ (by rw [← h2, dn_s1 (by omega)])
        · skip
          refine qv_aload_n C rfl dq_Dec_goUp_23 ?_
          refine qv_dup C rfl dq_Dec_goUp_24 ?_
          refine qv_get C fl_Dec_15 0 rfl rfl dq_Dec_goUp_25 ?_
          refine qv_iconst C dq_Dec_goUp_28 ?_
          refine qv_isub C (r := ((l : Nat) : Int)) (by omega) dq_Dec_goUp_29 ?_
          refine qv_put C (ws' := [oc h 0 [.ref a, vi ((l : Nat) : Int), vi pl], ai cI a 800 f]) fl_Dec_15 fs_0_1 0 rfl rfl rfl (Nat.le_of_ble_eq_true rfl) rfl dq_Dec_goUp_30 ?_
          refine qv_goto C (tgt := 0) (by decide) dq_Dec_goUp_33 ?_
          exact ih (by omega) (by rw [← h2, dn_s0 (by omega)])
  exact loop len hl rfl

theorem c_Dec_dropZerosAtEnd (cI cJ : ClassId) (h a len : Nat) (pl : Int) (f : Nat → Nat) (hl : len ≤ 800) (hf : ∀ i, f i ≤ 9) : MtV cI cJ ky_Dec_dropZerosAtEnd kb_Dec_dropZerosAtEnd 1 rm_Dec_dropZerosAtEnd Xt [.ref h] [oc h 0 [.ref a, vi ((len : Nat) : Int), vi pl], ai cI a 800 f] (fun u => u = dw cI h a (dz f len) (dnP f len pl) f) := by
  refine MtV_in (by decide) (Nat.le_of_ble_eq_true rfl) (fun K C hR hX hN => ?_)
  show V K 1 [oc h 0 [.ref a, vi ((len : Nat) : Int), vi pl], ai cI a 800 f] 0 0 0 [(0, .ref h)] []
  have hle := dz_le f len
  have aft : ∀ l, dz f len = l → V K 1 [oc h 0 [.ref a, vi ((l : Nat) : Int), vi pl], ai cI a 800 f] 0 0 34 [(0, .ref h)] [] := by
    intro l hl2
    refine qv_aload_n C rfl dq_Dec_dropZerosAtEnd_34 ?_
    refine qv_get C fl_Dec_15 0 rfl rfl dq_Dec_dropZerosAtEnd_35 ?_
    refine qv_ifne C (by omega) (tgt := 46) (by decide) dq_Dec_dropZerosAtEnd_38 (fun h38 => ?_) (fun h38 => ?_)
    · skip
      refine qv_vret C hR ?_ dq_Dec_dropZerosAtEnd_46 (by decide) (by decide)
      show _ = dw _ _ _ (dz f len) (dnP f len pl) f
      unfold dnP
      by_cases q : dz f len = 0
      · rw [if_pos q, q]
        first | (have e : l = 0 := by omega
                 subst e; rfl) | (exfalso; omega)
      · rw [if_neg q, hl2] <;> first | rfl | (exfalso; omega)
    · skip
      refine qv_aload_n C rfl dq_Dec_dropZerosAtEnd_41 ?_
      refine qv_iconst C dq_Dec_dropZerosAtEnd_42 ?_
      refine qv_put C (ws' := [oc h 0 [.ref a, vi ((l : Nat) : Int), vi 0], ai cI a 800 f]) fl_Dec_19 fs_0_2 0 rfl rfl rfl (Nat.le_of_ble_eq_true rfl) rfl dq_Dec_dropZerosAtEnd_43 ?_
      refine qv_vret C hR ?_ dq_Dec_dropZerosAtEnd_46 (by decide) (by decide)
      show _ = dw _ _ _ (dz f len) (dnP f len pl) f
      unfold dnP
      by_cases q : dz f len = 0
      · rw [if_pos q, q]
        first | (have e : l = 0 := by omega
                 subst e; rfl) | (exfalso; omega)
      · rw [if_neg q, hl2] <;> first | rfl | (exfalso; omega)
  have loop : ∀ l, l ≤ 800 → dz f l = dz f len → V K 1 [oc h 0 [.ref a, vi ((l : Nat) : Int), vi pl], ai cI a 800 f] 0 0 0 [(0, .ref h)] [] := by
    intro l
    induction l with
    | zero =>
      intro h1 h2
      refine qv_aload_n C rfl dq_Dec_dropZerosAtEnd_0 ?_
      refine qv_get C fl_Dec_15 0 rfl rfl dq_Dec_dropZerosAtEnd_1 ?_
      refine qv_ifle C (by omega) (tgt := 34) (by decide) dq_Dec_dropZerosAtEnd_4 (fun h4 => ?_) (fun h4 => ?_)
      · skip
        exact aft _ h2.symm
      · exfalso; omega
    | succ l ih =>
      intro h1 h2
      have h9 := hf l
      refine qv_aload_n C rfl dq_Dec_dropZerosAtEnd_0 ?_
      refine qv_get C fl_Dec_15 0 rfl rfl dq_Dec_dropZerosAtEnd_1 ?_
      refine qv_ifle C (by omega) (tgt := 34) (by decide) dq_Dec_dropZerosAtEnd_4 (fun h4 => ?_) (fun h4 => ?_)
      · exfalso; omega
      · skip
        refine qv_aload_n C rfl dq_Dec_dropZerosAtEnd_7 ?_
        refine qv_get C fl_Dec_9 0 rfl rfl dq_Dec_dropZerosAtEnd_8 ?_
        refine qv_aload_n C rfl dq_Dec_dropZerosAtEnd_11 ?_
        refine qv_get C fl_Dec_15 0 rfl rfl dq_Dec_dropZerosAtEnd_12 ?_
        refine qv_iconst C dq_Dec_dropZerosAtEnd_15 ?_
        refine qv_isub C (r := ((l : Nat) : Int)) (by omega) dq_Dec_dropZerosAtEnd_16 ?_
        refine qv_iald C 1 l rfl (by omega) (by omega) (by decide) dq_Dec_dropZerosAtEnd_17 ?_
        refine qv_ifne C (by omega) (tgt := 34) (by decide) dq_Dec_dropZerosAtEnd_18 (fun h18 => ?_) (fun h18 => ?_)
        · skip
          exact aft _ (by rw [← h2, dz_s1 (by omega)])
        · skip
          refine qv_aload_n C rfl dq_Dec_dropZerosAtEnd_21 ?_
          refine qv_dup C rfl dq_Dec_dropZerosAtEnd_22 ?_
          refine qv_get C fl_Dec_15 0 rfl rfl dq_Dec_dropZerosAtEnd_23 ?_
          refine qv_iconst C dq_Dec_dropZerosAtEnd_26 ?_
          refine qv_isub C (r := ((l : Nat) : Int)) (by omega) dq_Dec_dropZerosAtEnd_27 ?_
          refine qv_put C (ws' := [oc h 0 [.ref a, vi ((l : Nat) : Int), vi pl], ai cI a 800 f]) fl_Dec_15 fs_0_1 0 rfl rfl rfl (Nat.le_of_ble_eq_true rfl) rfl dq_Dec_dropZerosAtEnd_28 ?_
          refine qv_goto C (tgt := 0) (by decide) dq_Dec_dropZerosAtEnd_31 ?_
          exact ih (by omega) (by rw [← h2, dz_s0 (by omega)])
  exact loop len hl rfl

theorem c_Dec_settle (cI cJ : ClassId) (h a len : Nat) (pl : Int) (f : Nat → Nat) (up : Bool) (hl : len ≤ 800) (hf : ∀ i, f i ≤ 9) : MtV cI cJ ky_Dec_settle kb_Dec_settle 2 rm_Dec_settle Xt [.ref h, vi (b2 up)] [oc h 0 [.ref a, vi ((len : Nat) : Int), vi pl], ai cI a 800 f] (fun u => u = dw cI h a (if up = true then upL f len else dz f len) (if up = true then upP f len pl else dnP f len pl) (if up = true then upF f len else f)) := by
  refine MtV_in (by decide) (Nat.le_of_ble_eq_true rfl) (fun K C hR hX hN => ?_)
  show V K 2 [oc h 0 [.ref a, vi ((len : Nat) : Int), vi pl], ai cI a 800 f] 0 0 0 [(0, .ref h), (1, vi (b2 up))] []
  refine qv_iload_n C rfl dq_Dec_settle_0 ?_
  refine qv_ifeq C (rb_b2 up) (tgt := 11) (by decide) dq_Dec_settle_1 (fun h1 => ?_) (fun h1 => ?_)
  · skip
    have hup := b2_f h1
    refine qv_aload_n C rfl dq_Dec_settle_11 ?_
    refine qc_vV (wr := []) (st := []) C cl_Dec_42 cd_Dec_dropZerosAtEnd (c_Dec_dropZerosAtEnd cI cJ h a len pl f hl hf) (Xok_t K) Xbl_t [0, 1] [] rfl rfl (by decide) (by decide) (by decide) 0 rfl rfl rfl rfl rfl (Nat.le_of_ble_eq_true rfl) (by decide) (by decide) dq_Dec_settle_12 (fun u hu => ?_)
    obtain rfl := hu
    show V K 2 [oc h 0 [.ref a, vi ((dz f len : Nat) : Int), vi (dnP f len pl)], ai cI a 800 f] 0 0 15 [(0, .ref h), (1, vi (b2 up))] []
    refine qv_vret C hR ?_ dq_Dec_settle_15 (by decide) (by decide)
    show _ = dw _ _ _ _ _ _
    rw [hup]; rfl
  · skip
    have hup := b2_t h1
    refine qv_aload_n C rfl dq_Dec_settle_4 ?_
    refine qc_vV (wr := []) (st := []) C cl_Dec_39 cd_Dec_goUp (c_Dec_goUp cI cJ h a len pl f hl hf) (Xok_t K) Xbl_t [0, 1] [] rfl rfl (by decide) (by decide) (by decide) 0 rfl rfl rfl rfl rfl (Nat.le_of_ble_eq_true rfl) (by decide) (by decide) dq_Dec_settle_5 (fun u hu => ?_)
    obtain rfl := hu
    show V K 2 [oc h 0 [.ref a, vi ((upL f len : Nat) : Int), vi (upP f len pl)], ai cI a 800 (upF f len)] 0 0 8 [(0, .ref h), (1, vi (b2 up))] []
    refine qv_goto C (tgt := 15) (by decide) dq_Dec_settle_8 ?_
    refine qv_vret C hR ?_ dq_Dec_settle_15 (by decide) (by decide)
    show _ = dw _ _ _ _ _ _
    rw [hup]; rfl

theorem c_Dec_goesUpBehind (cI cJ : ClassId) (h a len : Nat) (pl : Int) (f : Nat → Nat) (n : Nat) (hl : len ≤ 800) (hf : ∀ i, f i ≤ 9) (hn : n < len) : MtI cI cJ ky_Dec_goesUpBehind kb_Dec_goesUpBehind 4 .boolean rm_Dec_goesUpBehind Xt [.ref h, vi ((n : Nat) : Int)] [oc h 0 [.ref a, vi ((len : Nat) : Int), vi pl], ai cI a 800 f] (fun z u => z = b2 (gu f len n) ∧ u = dw cI h a len pl f) := by
  refine MtI_in (by decide) (Nat.le_of_ble_eq_true rfl) (fun K C hR hX hN => ?_)
  show V K 4 [oc h 0 [.ref a, vi ((len : Nat) : Int), vi pl], ai cI a 800 f] 0 0 0 [(0, .ref h), (1, vi ((n : Nat) : Int))] []
  have h9 := hf n
  have h8 := hf (n - 1)
  refine qv_aload_n C rfl dq_Dec_goesUpBehind_0 ?_
  refine qv_get C fl_Dec_9 0 rfl rfl dq_Dec_goesUpBehind_1 ?_
  refine qv_iload_n C rfl dq_Dec_goesUpBehind_4 ?_
  refine qv_iald C 1 n rfl (by omega) (by omega) (by decide) dq_Dec_goesUpBehind_5 ?_
  refine qv_iconst C dq_Dec_goesUpBehind_6 ?_
  refine qv_iceq C (by omega) (by omega) (tgt := 26) (by decide) dq_Dec_goesUpBehind_7 (fun h7 => ?_) (fun h7 => ?_)
  · skip
    refine qv_iload_n C rfl dq_Dec_goesUpBehind_26 ?_
    refine qv_aload_n C rfl dq_Dec_goesUpBehind_27 ?_
    refine qv_get C fl_Dec_15 0 rfl rfl dq_Dec_goesUpBehind_28 ?_
    refine qv_iconst C dq_Dec_goesUpBehind_31 ?_
    refine qv_isub C (r := (((len - 1) : Nat) : Int)) (by omega) dq_Dec_goesUpBehind_32 ?_
    refine qv_icne C (by omega) (by omega) (tgt := 40) (by decide) dq_Dec_goesUpBehind_33 (fun h33 => ?_) (fun h33 => ?_)
    · skip
      refine qv_iconst C dq_Dec_goesUpBehind_40 ?_
      refine qv_istore_n C (lv' := [(2, vi 0), (0, .ref h), (1, vi ((n : Nat) : Int))]) (by decide) rfl dq_Dec_goesUpBehind_41 ?_
      refine qv_iload_n C rfl dq_Dec_goesUpBehind_42 ?_
      refine qv_ifeq C (by omega) (tgt := 59) (by decide) dq_Dec_goesUpBehind_43 (fun h43 => ?_) (fun h43 => ?_)
      · skip
        refine qv_iconst C dq_Dec_goesUpBehind_59 ?_
        refine qv_goto C (tgt := 64) (by decide) dq_Dec_goesUpBehind_60 ?_
        refine qv_istore_n C (lv' := [(3, vi 1), (2, vi 0), (0, .ref h), (1, vi ((n : Nat) : Int))]) (by decide) rfl dq_Dec_goesUpBehind_64 ?_
        refine qv_iload_n C rfl dq_Dec_goesUpBehind_65 ?_
        refine qv_ifeq C (by omega) (tgt := 73) (by decide) dq_Dec_goesUpBehind_66 (fun h66 => ?_) (fun h66 => ?_)
        · skip
          refine qv_iconst C dq_Dec_goesUpBehind_73 ?_
          refine qv_goto C (tgt := 78) (by decide) dq_Dec_goesUpBehind_74 ?_
          refine qv_zret (b := true) C hR ?_ dq_Dec_goesUpBehind_78 (by decide) (by decide)
          refine ⟨congrArg b2 ?_, rfl⟩
          unfold gu
          first | (exfalso; omega) | (rw [if_neg (by omega)]; simp <;> omega) | (rw [if_pos (by omega)]; simp <;> omega)
        · exfalso; omega
      · skip
        refine qv_aload_n C rfl dq_Dec_goesUpBehind_46 ?_
        refine qv_get C fl_Dec_9 0 rfl rfl dq_Dec_goesUpBehind_47 ?_
        refine qv_iload_n C rfl dq_Dec_goesUpBehind_50 ?_
        refine qv_iconst C dq_Dec_goesUpBehind_51 ?_
        refine qv_isub C (r := (((n - 1) : Nat) : Int)) (by omega) dq_Dec_goesUpBehind_52 ?_
        refine qv_iald C 1 (n - 1) rfl (by omega) (by omega) (by decide) dq_Dec_goesUpBehind_53 ?_
        refine qv_iconst C dq_Dec_goesUpBehind_54 ?_
        refine qv_irem C (r := (((f (n - 1) % 2) : Nat) : Int)) (by omega) (by omega) (by omega) (by omega) (by omega) dq_Dec_goesUpBehind_55 ?_
        refine qv_ifne C (by omega) (tgt := 63) (by decide) dq_Dec_goesUpBehind_56 (fun h56 => ?_) (fun h56 => ?_)
        · skip
          refine qv_iconst C dq_Dec_goesUpBehind_63 ?_
          refine qv_istore_n C (lv' := [(3, vi 0), (2, vi 0), (0, .ref h), (1, vi ((n : Nat) : Int))]) (by decide) rfl dq_Dec_goesUpBehind_64 ?_
          refine qv_iload_n C rfl dq_Dec_goesUpBehind_65 ?_
          refine qv_ifeq C (by omega) (tgt := 73) (by decide) dq_Dec_goesUpBehind_66 (fun h66 => ?_) (fun h66 => ?_)
          · skip
            refine qv_iconst C dq_Dec_goesUpBehind_73 ?_
            refine qv_goto C (tgt := 78) (by decide) dq_Dec_goesUpBehind_74 ?_
            refine qv_zret (b := true) C hR ?_ dq_Dec_goesUpBehind_78 (by decide) (by decide)
            refine ⟨congrArg b2 ?_, rfl⟩
            unfold gu
            first | (exfalso; omega) | (rw [if_neg (by omega)]; simp <;> omega) | (rw [if_pos (by omega)]; simp <;> omega)
          · exfalso; omega
        · skip
          refine qv_iconst C dq_Dec_goesUpBehind_59 ?_
          refine qv_goto C (tgt := 64) (by decide) dq_Dec_goesUpBehind_60 ?_
          refine qv_istore_n C (lv' := [(3, vi 1), (2, vi 0), (0, .ref h), (1, vi ((n : Nat) : Int))]) (by decide) rfl dq_Dec_goesUpBehind_64 ?_
          refine qv_iload_n C rfl dq_Dec_goesUpBehind_65 ?_
          refine qv_ifeq C (by omega) (tgt := 73) (by decide) dq_Dec_goesUpBehind_66 (fun h66 => ?_) (fun h66 => ?_)
          · skip
            refine qv_iconst C dq_Dec_goesUpBehind_73 ?_
            refine qv_goto C (tgt := 78) (by decide) dq_Dec_goesUpBehind_74 ?_
            refine qv_zret (b := true) C hR ?_ dq_Dec_goesUpBehind_78 (by decide) (by decide)
            refine ⟨congrArg b2 ?_, rfl⟩
            unfold gu
            first | (exfalso; omega) | (rw [if_neg (by omega)]; simp <;> omega) | (rw [if_pos (by omega)]; simp <;> omega)
          · exfalso; omega
    · skip
      refine qv_iconst C dq_Dec_goesUpBehind_36 ?_
      refine qv_goto C (tgt := 41) (by decide) dq_Dec_goesUpBehind_37 ?_
      refine qv_istore_n C (lv' := [(2, vi 1), (0, .ref h), (1, vi ((n : Nat) : Int))]) (by decide) rfl dq_Dec_goesUpBehind_41 ?_
      refine qv_iload_n C rfl dq_Dec_goesUpBehind_42 ?_
      refine qv_ifeq C (by omega) (tgt := 59) (by decide) dq_Dec_goesUpBehind_43 (fun h43 => ?_) (fun h43 => ?_)
      · skip
        refine qv_iconst C dq_Dec_goesUpBehind_59 ?_
        refine qv_goto C (tgt := 64) (by decide) dq_Dec_goesUpBehind_60 ?_
        refine qv_istore_n C (lv' := [(3, vi 1), (2, vi 1), (0, .ref h), (1, vi ((n : Nat) : Int))]) (by decide) rfl dq_Dec_goesUpBehind_64 ?_
        refine qv_iload_n C rfl dq_Dec_goesUpBehind_65 ?_
        refine qv_ifeq C (by omega) (tgt := 73) (by decide) dq_Dec_goesUpBehind_66 (fun h66 => ?_) (fun h66 => ?_)
        · exfalso; omega
        · skip
          refine qv_iload_n C rfl dq_Dec_goesUpBehind_69 ?_
          refine qv_ifne C (by omega) (tgt := 77) (by decide) dq_Dec_goesUpBehind_70 (fun h70 => ?_) (fun h70 => ?_)
          · skip
            refine qv_iconst C dq_Dec_goesUpBehind_77 ?_
            refine qv_zret (b := false) C hR ?_ dq_Dec_goesUpBehind_78 (by decide) (by decide)
            refine ⟨congrArg b2 ?_, rfl⟩
            unfold gu
            first | (exfalso; omega) | (rw [if_neg (by omega)]; simp <;> omega) | (rw [if_pos (by omega)]; simp <;> omega)
          · exfalso; omega
      · skip
        refine qv_aload_n C rfl dq_Dec_goesUpBehind_46 ?_
        refine qv_get C fl_Dec_9 0 rfl rfl dq_Dec_goesUpBehind_47 ?_
        refine qv_iload_n C rfl dq_Dec_goesUpBehind_50 ?_
        refine qv_iconst C dq_Dec_goesUpBehind_51 ?_
        refine qv_isub C (r := (((n - 1) : Nat) : Int)) (by omega) dq_Dec_goesUpBehind_52 ?_
        refine qv_iald C 1 (n - 1) rfl (by omega) (by omega) (by decide) dq_Dec_goesUpBehind_53 ?_
        refine qv_iconst C dq_Dec_goesUpBehind_54 ?_
        refine qv_irem C (r := (((f (n - 1) % 2) : Nat) : Int)) (by omega) (by omega) (by omega) (by omega) (by omega) dq_Dec_goesUpBehind_55 ?_
        refine qv_ifne C (by omega) (tgt := 63) (by decide) dq_Dec_goesUpBehind_56 (fun h56 => ?_) (fun h56 => ?_)
        · skip
          refine qv_iconst C dq_Dec_goesUpBehind_63 ?_
          refine qv_istore_n C (lv' := [(3, vi 0), (2, vi 1), (0, .ref h), (1, vi ((n : Nat) : Int))]) (by decide) rfl dq_Dec_goesUpBehind_64 ?_
          refine qv_iload_n C rfl dq_Dec_goesUpBehind_65 ?_
          refine qv_ifeq C (by omega) (tgt := 73) (by decide) dq_Dec_goesUpBehind_66 (fun h66 => ?_) (fun h66 => ?_)
          · exfalso; omega
          · skip
            refine qv_iload_n C rfl dq_Dec_goesUpBehind_69 ?_
            refine qv_ifne C (by omega) (tgt := 77) (by decide) dq_Dec_goesUpBehind_70 (fun h70 => ?_) (fun h70 => ?_)
            · exfalso; omega
            · skip
              refine qv_iconst C dq_Dec_goesUpBehind_73 ?_
              refine qv_goto C (tgt := 78) (by decide) dq_Dec_goesUpBehind_74 ?_
              refine qv_zret (b := true) C hR ?_ dq_Dec_goesUpBehind_78 (by decide) (by decide)
              refine ⟨congrArg b2 ?_, rfl⟩
              unfold gu
              first | (exfalso; omega) | (rw [if_neg (by omega)]; simp <;> omega) | (rw [if_pos (by omega)]; simp <;> omega)
        · skip
          refine qv_iconst C dq_Dec_goesUpBehind_59 ?_
          refine qv_goto C (tgt := 64) (by decide) dq_Dec_goesUpBehind_60 ?_
          refine qv_istore_n C (lv' := [(3, vi 1), (2, vi 1), (0, .ref h), (1, vi ((n : Nat) : Int))]) (by decide) rfl dq_Dec_goesUpBehind_64 ?_
          refine qv_iload_n C rfl dq_Dec_goesUpBehind_65 ?_
          refine qv_ifeq C (by omega) (tgt := 73) (by decide) dq_Dec_goesUpBehind_66 (fun h66 => ?_) (fun h66 => ?_)
          · exfalso; omega
          · skip
            refine qv_iload_n C rfl dq_Dec_goesUpBehind_69 ?_
            refine qv_ifne C (by omega) (tgt := 77) (by decide) dq_Dec_goesUpBehind_70 (fun h70 => ?_) (fun h70 => ?_)
            · skip
              refine qv_iconst C dq_Dec_goesUpBehind_77 ?_
              refine qv_zret (b := false) C hR ?_ dq_Dec_goesUpBehind_78 (by decide) (by decide)
              refine ⟨congrArg b2 ?_, rfl⟩
              unfold gu
              first | (exfalso; omega) | (rw [if_neg (by omega)]; simp <;> omega) | (rw [if_pos (by omega)]; simp <;> omega)
            · exfalso; omega
  · skip
    refine qv_aload_n C rfl dq_Dec_goesUpBehind_10 ?_
    refine qv_get C fl_Dec_9 0 rfl rfl dq_Dec_goesUpBehind_11 ?_
    refine qv_iload_n C rfl dq_Dec_goesUpBehind_14 ?_
    refine qv_iald C 1 n rfl (by omega) (by omega) (by decide) dq_Dec_goesUpBehind_15 ?_
    refine qv_iconst C dq_Dec_goesUpBehind_16 ?_
    refine qv_icle C (by omega) (by omega) (tgt := 24) (by decide) dq_Dec_goesUpBehind_17 (fun h17 => ?_) (fun h17 => ?_)
    · skip
      refine qv_iconst C dq_Dec_goesUpBehind_24 ?_
      refine qv_zret (b := false) C hR ?_ dq_Dec_goesUpBehind_25 (by decide) (by decide)
      refine ⟨congrArg b2 ?_, rfl⟩
      unfold gu
      first | (exfalso; omega) | (rw [if_neg (by omega)]; simp <;> omega) | (rw [if_pos (by omega)]; simp <;> omega)
    · skip
      refine qv_iconst C dq_Dec_goesUpBehind_20 ?_
      refine qv_goto C (tgt := 25) (by decide) dq_Dec_goesUpBehind_21 ?_
      refine qv_zret (b := true) C hR ?_ dq_Dec_goesUpBehind_25 (by decide) (by decide)
      refine ⟨congrArg b2 ?_, rfl⟩
      unfold gu
      first | (exfalso; omega) | (rw [if_neg (by omega)]; simp <;> omega) | (rw [if_pos (by omega)]; simp <;> omega)

theorem c_Dec_cutBehind (cI cJ : ClassId) (h a len : Nat) (pl : Int) (f : Nat → Nat) (z : Int) (hl : len ≤ 800) (hf : ∀ i, f i ≤ 9) (hz : ri z) : MtV cI cJ ky_Dec_cutBehind kb_Dec_cutBehind 3 rm_Dec_cutBehind Xt [.ref h, vi z] [oc h 0 [.ref a, vi ((len : Nat) : Int), vi pl], ai cI a 800 f] (fun u => u = dw cI h a (cL f len z) (cP f len z pl) (cF f len z)) := by
  refine MtV_in (by decide) (Nat.le_of_ble_eq_true rfl) (fun K C hR hX hN => ?_)
  show V K 3 [oc h 0 [.ref a, vi ((len : Nat) : Int), vi pl], ai cI a 800 f] 0 0 0 [(0, .ref h), (1, vi z)] []
  refine qv_iload_n C rfl dq_Dec_cutBehind_0 ?_
  refine qv_ifge C (by omega) (tgt := 11) (by decide) dq_Dec_cutBehind_1 (fun h1 => ?_) (fun h1 => ?_)
  · skip
    obtain ⟨n, rfl⟩ : ∃ n : Nat, z = (n : Int) := ⟨z.toNat, by omega⟩
    refine qv_iload_n C rfl dq_Dec_cutBehind_11 ?_
    refine qv_aload_n C rfl dq_Dec_cutBehind_12 ?_
    refine qv_get C fl_Dec_15 0 rfl rfl dq_Dec_cutBehind_13 ?_
    refine qv_icge C (by omega) (by omega) (tgt := 35) (by decide) dq_Dec_cutBehind_16 (fun h16 => ?_) (fun h16 => ?_)
    · skip
      refine qv_vret C hR ?_ dq_Dec_cutBehind_35 (by decide) (by decide)
      show _ = dw _ _ _ _ _ _
      rw [cL_ge (by omega), cP_ge (by omega), cF_ge (by omega)]
    · skip
      refine qv_aload_n C rfl dq_Dec_cutBehind_19 ?_
      refine qv_iload_n C rfl dq_Dec_cutBehind_20 ?_
      refine qc_vI (wr := []) (st := []) C cl_Dec_31 cd_Dec_goesUpBehind (c_Dec_goesUpBehind cI cJ h a len pl f n hl hf (by omega)) (Xok_t K) Xbl_t [0, 1] [] rfl rfl (by decide) (by decide) (by decide) 0 rfl rfl rfl rfl rfl (Nat.le_of_ble_eq_true rfl) (by decide) (by decide) dq_Dec_cutBehind_21 (fun z u hu => ?_)
      obtain ⟨rfl, rfl⟩ := hu
      show V K 3 [oc h 0 [.ref a, vi ((len : Nat) : Int), vi pl], ai cI a 800 f] 0 0 24 [(0, .ref h), (1, vi ((n : Nat) : Int))] [vi (b2 (gu f len n))]
      refine qv_istore_n C (lv' := [(2, vi (b2 (gu f len n))), (0, .ref h), (1, vi ((n : Nat) : Int))]) (by decide) rfl dq_Dec_cutBehind_24 ?_
      refine qv_aload_n C rfl dq_Dec_cutBehind_25 ?_
      refine qv_iload_n C rfl dq_Dec_cutBehind_26 ?_
      refine qv_put C (ws' := [oc h 0 [.ref a, vi ((n : Nat) : Int), vi pl], ai cI a 800 f]) fl_Dec_15 fs_0_1 0 rfl rfl rfl (Nat.le_of_ble_eq_true rfl) rfl dq_Dec_cutBehind_27 ?_
      refine qv_aload_n C rfl dq_Dec_cutBehind_30 ?_
      refine qv_iload_n C rfl dq_Dec_cutBehind_31 ?_
      refine qc_vV (wr := []) (st := []) C cl_Dec_35 cd_Dec_settle (c_Dec_settle cI cJ h a n pl f (gu f len n) (by omega) hf) (Xok_t K) Xbl_t [0, 1] [] rfl rfl (by decide) (by decide) (by decide) 0 rfl rfl rfl rfl rfl (Nat.le_of_ble_eq_true rfl) (by decide) (by decide) dq_Dec_cutBehind_32 (fun u hu => ?_)
      obtain rfl := hu
      show V K 3 [oc h 0 [.ref a, vi ((ctL f len n : Nat) : Int), vi (ctP f len n pl)], ai cI a 800 (ctF f len n)] 0 0 35 [(2, vi (b2 (gu f len n))), (0, .ref h), (1, vi ((n : Nat) : Int))] []
      refine qv_vret C hR ?_ dq_Dec_cutBehind_35 (by decide) (by decide)
      show _ = dw _ _ _ _ _ _
      rw [cL_n (by omega), cP_n (by omega), cF_n (by omega)]
  · skip
    have h1 : z < 0 := by omega
    refine qv_aload_n C rfl dq_Dec_cutBehind_4 ?_
    refine qc_vV (wr := []) (st := []) C cl_Dec_28 cd_Dec_beZero (c_Dec_beZero cI cJ h a len pl f) (Xok_t K) Xbl_t [0, 1] [] rfl rfl (by decide) (by decide) (by decide) 0 rfl rfl rfl rfl rfl (Nat.le_of_ble_eq_true rfl) (by decide) (by decide) dq_Dec_cutBehind_5 (fun u hu => ?_)
    obtain rfl := hu
    show V K 3 [oc h 0 [.ref a, vi 0, vi 0], ai cI a 800 f] 0 0 8 [(0, .ref h), (1, vi z)] []
    refine qv_goto C (tgt := 35) (by decide) dq_Dec_cutBehind_8 ?_
    refine qv_vret C hR ?_ dq_Dec_cutBehind_35 (by decide) (by decide)
    show _ = dw _ _ _ _ _ _
    rw [cL_neg h1, cP_neg h1, cF_neg h1]; rfl

theorem c_Dec_beStartOf (cI cJ : ClassId) (h a len : Nat) (pl : Int) (f : Nat → Nat) (h2 a2 l2 : Nat) (p2 : Int) (f2 : Nat → Nat) (n : Nat) (hn : n ≤ 800) : MtV cI cJ ky_Dec_beStartOf kb_Dec_beStartOf 3 rm_Dec_beStartOf Xt [.ref h, .ref h2, vi ((n : Nat) : Int)] [oc h 0 [.ref a, vi ((len : Nat) : Int), vi pl], ai cI a 800 f, oc h2 0 [.ref a2, vi ((l2 : Nat) : Int), vi p2], ai cI a2 800 f2] (fun u => u = dw cI h a n p2 (va_cpy f2 f 0 0 n) ++ dw cI h2 a2 l2 p2 f2) := by
  refine MtV_in (by decide) (Nat.le_of_ble_eq_true rfl) (fun K C hR hX hN => ?_)
  show V K 3 [oc h 0 [.ref a, vi ((len : Nat) : Int), vi pl], ai cI a 800 f, oc h2 0 [.ref a2, vi ((l2 : Nat) : Int), vi p2], ai cI a2 800 f2] 0 0 0 [(0, .ref h), (1, .ref h2), (2, vi ((n : Nat) : Int))] []
  refine qv_aload_n C rfl dq_Dec_beStartOf_0 ?_
  refine qv_get C fl_Dec_9 2 rfl rfl dq_Dec_beStartOf_1 ?_
  refine qv_iconst C dq_Dec_beStartOf_4 ?_
  refine qv_aload_n C rfl dq_Dec_beStartOf_5 ?_
  refine qv_get C fl_Dec_9 0 rfl rfl dq_Dec_beStartOf_6 ?_
  refine qv_iconst C dq_Dec_beStartOf_9 ?_
  refine qv_iload_n C rfl dq_Dec_beStartOf_10 ?_
  refine qv_copy C (ws' := [oc h 0 [.ref a, vi ((len : Nat) : Int), vi pl], ai cI a 800 (va_cpy f2 f 0 0 n), oc h2 0 [.ref a2, vi ((l2 : Nat) : Int), vi p2], ai cI a2 800 f2]) cl_Dec_22 wa_nat wa_sta wa_init 3 1 0 0 n rfl rfl (by omega) (by omega) (by omega) (by omega) (by omega) (by decide) (by decide) (by decide) (by decide) rfl dq_Dec_beStartOf_11 ?_
  refine qv_aload_n C rfl dq_Dec_beStartOf_14 ?_
  refine qv_iload_n C rfl dq_Dec_beStartOf_15 ?_
  refine qv_put C (ws' := [oc h 0 [.ref a, vi ((n : Nat) : Int), vi pl], ai cI a 800 (va_cpy f2 f 0 0 n), oc h2 0 [.ref a2, vi ((l2 : Nat) : Int), vi p2], ai cI a2 800 f2]) fl_Dec_15 fs_0_1 0 rfl rfl rfl (Nat.le_of_ble_eq_true rfl) rfl dq_Dec_beStartOf_16 ?_
  refine qv_aload_n C rfl dq_Dec_beStartOf_19 ?_
  refine qv_aload_n C rfl dq_Dec_beStartOf_20 ?_
  refine qv_get C fl_Dec_19 2 rfl rfl dq_Dec_beStartOf_21 ?_
  refine qv_put C (ws' := [oc h 0 [.ref a, vi ((n : Nat) : Int), vi p2], ai cI a 800 (va_cpy f2 f 0 0 n), oc h2 0 [.ref a2, vi ((l2 : Nat) : Int), vi p2], ai cI a2 800 f2]) fl_Dec_19 fs_0_2 0 rfl rfl rfl (Nat.le_of_ble_eq_true rfl) rfl dq_Dec_beStartOf_24 ?_
  refine qv_vret C hR ?_ dq_Dec_beStartOf_27 (by decide) (by decide)
  rfl

