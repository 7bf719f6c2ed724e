abbrev dw (cI : ClassId) (h a len : Nat) (pl : Int) (f : Nat → Nat) : va_W := [oc h 0 [.ref a, vi (len : Nat), vi pl], ai cI a 800 f]
theorem c_Dec_beZero (cI cJ : ClassId) (h a len : Nat) (pl : Int) (f : Nat → Nat) : MtV cI cJ ky_Dec_beZero kb_Dec_beZero 1 rm_Dec_beZero Xt [.ref h] [oc h 0 [.ref a, vi ((len : Nat) : Int), vi pl], ai cI a 800 f] (fun u => u = dw cI h a 0 0 f) := by
  refine MtV_in (by decide) (Nat.le_of_ble_eq_true rfl) (fun K C hR hX hN => ?_)
  show V K 1 [oc h 0 [.ref a, vi ((len : Nat) : Int), vi pl], ai cI a 800 f] 0 0 0 [(0, .ref h)] []
  refine qv_aload_n C rfl dq_Dec_beZero_0 ?_
  refine qv_iconst C dq_Dec_beZero_1 ?_
  refine qv_put C (ws' := [oc h 0 [.ref a, vi 0, vi pl], ai cI a 800 f]) fl_Dec_15 fs_0_1 0 rfl rfl rfl (Nat.le_of_ble_eq_true rfl) rfl dq_Dec_beZero_2 ?_
  refine qv_aload_n C rfl dq_Dec_beZero_5 ?_
  refine qv_iconst C dq_Dec_beZero_6 ?_
  refine qv_put C (ws' := [oc h 0 [.ref a, vi 0, vi 0], ai cI a 800 f]) fl_Dec_19 fs_0_2 0 rfl rfl rfl (Nat.le_of_ble_eq_true rfl) rfl dq_Dec_beZero_7 ?_
  refine qv_vret C hR ?_ dq_Dec_beZero_10 (by decide) (by decide)
  rfl

theorem c_Dec_append (cI cJ : ClassId) (h a len : Nat) (pl : Int) (f : Nat → Nat) (d : Nat) (hl : len ≤ 800) : MtV cI cJ ky_Dec_append kb_Dec_append 2 rm_Dec_append Xt [.ref h, vi ((d : Nat) : Int)] [oc h 0 [.ref a, vi ((len : Nat) : Int), vi pl], ai cI a 800 f] (fun u => u = if len < 800 then dw cI h a (len + 1) pl (un f len d) else dw cI h a len pl f) := by
  refine MtV_in (by decide) (Nat.le_of_ble_eq_true rfl) (fun K C hR hX hN => ?_)
  show V K 2 [oc h 0 [.ref a, vi ((len : Nat) : Int), vi pl], ai cI a 800 f] 0 0 0 [(0, .ref h), (1, vi ((d : Nat) : Int))] []
  refine qv_aload_n C rfl dq_Dec_append_0 ?_
  refine qv_get C fl_Dec_15 0 rfl rfl dq_Dec_append_1 ?_
  refine qv_sipush C (by decide) dq_Dec_append_4 ?_
  refine qv_icge C (by omega) (by omega) (tgt := 30) (by decide) dq_Dec_append_7 (fun h7 => ?_) (fun h7 => ?_)
  · skip
    refine qv_vret C hR ?_ dq_Dec_append_30 (by decide) (by decide)
    exact (if_neg (by omega)).symm
  · skip
    refine qv_aload_n C rfl dq_Dec_append_10 ?_
    refine qv_get C fl_Dec_9 0 rfl rfl dq_Dec_append_11 ?_
    refine qv_aload_n C rfl dq_Dec_append_14 ?_
    refine qv_get C fl_Dec_15 0 rfl rfl dq_Dec_append_15 ?_
    refine qv_iload_n C rfl dq_Dec_append_18 ?_
    refine qv_iast C (ws' := [oc h 0 [.ref a, vi ((len : Nat) : Int), vi pl], ai cI a 800 (un f len d)]) 1 len d rfl (by omega) (by omega) (by decide) (by omega) rfl dq_Dec_append_19 ?_
    refine qv_aload_n C rfl dq_Dec_append_20 ?_
    refine qv_dup C rfl dq_Dec_append_21 ?_
    refine qv_get C fl_Dec_15 0 rfl rfl dq_Dec_append_22 ?_
    refine qv_iconst C dq_Dec_append_25 ?_
    refine qv_iadd C (r := (((len + 1) : Nat) : Int)) (by omega) dq_Dec_append_26 ?_
    refine qv_put C (ws' := [oc h 0 [.ref a, vi (((len + 1) : Nat) : Int), vi pl], ai cI a 800 (un f len d)]) fl_Dec_15 fs_0_1 0 rfl rfl rfl (Nat.le_of_ble_eq_true rfl) rfl dq_Dec_append_27 ?_
    refine qv_vret C hR ?_ dq_Dec_append_30 (by decide) (by decide)
    exact (if_pos (by omega)).symm

theorem c_Dec_goUp (cI cJ : ClassId) (h a len : Nat) (pl : Int) (f : Nat → Nat) (hl : len ≤ 800) (hf : ∀ i, f i ≤ 9) : MtV cI cJ ky_Dec_goUp kb_Dec_goUp 1 rm_Dec_goUp Xt [.ref h] [oc h 0 [.ref a, vi ((len : Nat) : Int), vi pl], ai cI a 800 f] (fun u => u = dw cI h a (upL f len) (upP f len pl) (upF f len)) := by
  refine MtV_in (by decide) (Nat.le_of_ble_eq_true rfl) (fun K C hR hX hN => ?_)
  show V K 1 [oc h 0 [.ref a, vi ((len : Nat) : Int), vi pl], ai cI a 800 f] 0 0 0 [(0, .ref h)] []
  have hle := dn_le f len
  have aft : ∀ l, dn f len = l → V K 1 [oc h 0 [.ref a, vi ((l : Nat) : Int), vi pl], ai cI a 800 f] 0 0 36 [(0, .ref h)] [] := by
    intro l hl2
    refine qv_aload_n C rfl dq_Dec_goUp_36 ?_
    refine qv_get C fl_Dec_15 0 rfl rfl dq_Dec_goUp_37 ?_
    refine qv_ifne C (by omega) (tgt := 68) (by decide) dq_Dec_goUp_40 (fun h40 => ?_) (fun h40 => ?_)
    · skip
      refine qv_aload_n C rfl dq_Dec_goUp_68 ?_
      refine qv_get C fl_Dec_9 0 rfl rfl dq_Dec_goUp_69 ?_
      refine qv_aload_n C rfl dq_Dec_goUp_72 ?_
      refine qv_get C fl_Dec_15 0 rfl rfl dq_Dec_goUp_73 ?_
      refine qv_iconst C dq_Dec_goUp_76 ?_
      refine qv_isub C (r := (((l - 1) : Nat) : Int)) (by omega) dq_Dec_goUp_77 ?_
      refine qv_dup2 C rfl rfl dq_Dec_goUp_78 ?_
      refine qv_iald C 1 (l - 1) rfl (by omega) (by omega) (by decide) dq_Dec_goUp_79 ?_
      refine qv_iconst C dq_Dec_goUp_80 ?_
      refine qv_iadd C (r := (((f (l - 1) + 1) : Nat) : Int)) (by omega) dq_Dec_goUp_81 ?_
      refine qv_iast C (ws' := [oc h 0 [.ref a, vi ((l : Nat) : Int), vi pl], ai cI a 800 (un f (l - 1) (f (l - 1) + 1))]) 1 (l - 1) (f (l - 1) + 1) rfl (by omega) (by omega) (by decide) (by omega) rfl dq_Dec_goUp_82 ?_
      refine qv_vret C hR ?_ dq_Dec_goUp_83 (by decide) (by decide)
      show _ = dw _ _ _ (upL f len) (upP f len pl) (upF f len)
      unfold upL upP upF
      by_cases q : dn f len = 0
      · rw [if_pos q, if_pos q, if_pos q] <;> first | rfl | (exfalso; omega)
      · rw [if_neg q, if_neg q, if_neg q, hl2] <;> first | rfl | (exfalso; omega)
    · skip
      refine qv_aload_n C rfl dq_Dec_goUp_43 ?_
      refine qv_get C fl_Dec_9 0 rfl rfl dq_Dec_goUp_44 ?_
      refine qv_iconst C dq_Dec_goUp_47 ?_
      refine qv_iconst C dq_Dec_goUp_48 ?_
      refine qv_iast C (ws' := [oc h 0 [.ref a, vi ((l : Nat) : Int), vi pl], ai cI a 800 (un f 0 1)]) 1 0 1 rfl (by omega) (by omega) (by decide) (by omega) rfl dq_Dec_goUp_49 ?_
      refine qv_aload_n C rfl dq_Dec_goUp_50 ?_
      refine qv_iconst C dq_Dec_goUp_51 ?_
      refine qv_put C (ws' := [oc h 0 [.ref a, vi 1, vi pl], ai cI a 800 (un f 0 1)]) fl_Dec_15 fs_0_1 0 rfl rfl rfl (Nat.le_of_ble_eq_true rfl) rfl dq_Dec_goUp_52 ?_
      refine qv_aload_n C rfl dq_Dec_goUp_55 ?_
      refine qv_dup C rfl dq_Dec_goUp_56 ?_
      refine qv_get C fl_Dec_19 0 rfl rfl dq_Dec_goUp_57 ?_
      refine qv_iconst C dq_Dec_goUp_60 ?_
      refine qv_iadd C (r := (pl + 1)) rfl dq_Dec_goUp_61 ?_
      refine qv_put C (ws' := [oc h 0 [.ref a, vi 1, vi (pl + 1)], ai cI a 800 (un f 0 1)]) fl_Dec_19 fs_0_2 0 rfl rfl rfl (Nat.le_of_ble_eq_true rfl) rfl dq_Dec_goUp_62 ?_
      refine qv_goto C (tgt := 83) (by decide) dq_Dec_goUp_65 ?_
      refine qv_vret C hR ?_ dq_Dec_goUp_83 (by decide) (by decide)
      show _ = dw _ _ _ (upL f len) (upP f len pl) (upF f len)
      unfold upL upP upF
      by_cases q : dn f len = 0
      · rw [if_pos q, if_pos q, if_pos q] <;> first | rfl | (exfalso; omega)
      · rw [if_neg q, if_neg q, if_neg q, hl2] <;> first | rfl | (exfalso; omega)
  have loop : ∀ l, l ≤ 800 → dn f l = dn f len → V K 1 [oc h 0 [.ref a, vi ((l : Nat) : Int), vi pl], ai cI a 800 f] 0 0 0 [(0, .ref h)] [] := by
    intro l
    induction l with
    | zero =>
      intro h1 h2
      refine qv_aload_n C rfl dq_Dec_goUp_0 ?_
      refine qv_get C fl_Dec_15 0 rfl rfl dq_Dec_goUp_1 ?_
      refine qv_ifle C (by omega) (tgt := 36) (by decide) dq_Dec_goUp_4 (fun h4 => ?_) (fun h4 => ?_)
      · skip
        exact aft _ h2.symm
      · exfalso; omega
    | succ l ih =>
      intro h1 h2
      have h9 := hf l
      refine qv_aload_n C rfl dq_Dec_goUp_0 ?_
      refine qv_get C fl_Dec_15 0 rfl rfl dq_Dec_goUp_1 ?_
      refine qv_ifle C (by omega) (tgt := 36) (by decide) dq_Dec_goUp_4 (fun h4 => ?_) (fun h4 => ?_)
      · exfalso; omega
      · skip
        refine qv_aload_n C rfl dq_Dec_goUp_7 ?_
        refine qv_get C fl_Dec_9 0 rfl rfl dq_Dec_goUp_8 ?_
        refine qv_aload_n C rfl dq_Dec_goUp_11 ?_
        refine qv_get C fl_Dec_15 0 rfl rfl dq_Dec_goUp_12 ?_
        refine qv_iconst C dq_Dec_goUp_15 ?_
        refine qv_isub C (r := ((l : Nat) : Int)) (by omega) dq_Dec_goUp_16 ?_
        refine qv_iald C 1 l rfl (by omega) (by omega) (by decide) dq_Dec_goUp_17 ?_
        refine qv_bipush C (by decide) dq_Dec_goUp_18 ?_
        refine qv_icne C (by omega) (by omega) (tgt := 36) (by decide) dq_Dec_goUp_20 (fun h20 => ?_) (fun h20 => ?_)
        · skip
          exact aft _ (by rw [← h2, dn_s1 (by omega)])
        · skip
          refine qv_aload_n C rfl dq_Dec_goUp_23 ?_
          refine qv_dup C rfl dq_Dec_goUp_24 ?_
          refine qv_get C fl_Dec_15 0 rfl rfl dq_Dec_goUp_25 ?_
          refine qv_iconst C dq_Dec_goUp_28 ?_
          refine qv_isub C (r := ((l : Nat) : Int)) (by omega) dq_Dec_goUp_29 ?_
          refine qv_put C (ws' := [oc h 0 [.ref a, vi ((l : Nat) : Int), vi pl], ai cI a 800 f]) fl_Dec_15 fs_0_1 0 rfl rfl rfl (Nat.le_of_ble_eq_true rfl) rfl dq_Dec_goUp_30 ?_
          refine qv_goto C (tgt := 0) (by decide) dq_Dec_goUp_33 ?_
          exact ih (by omega) (by rw [← h2, dn_s0 (by omega)])
  exact loop len hl rfl

theorem c_Dec_dropZerosAtEnd (cI cJ : ClassId) (h a len : Nat) (pl : Int) (f : Nat → Nat) (hl : len ≤ 800) (hf : ∀ i, f i ≤ 9) : MtV cI cJ ky_Dec_dropZerosAtEnd kb_Dec_dropZerosAtEnd 1 rm_Dec_dropZerosAtEnd Xt [.ref h] [oc h 0 [.ref a, vi ((len : Nat) : Int), vi pl], ai cI a 800 f] (fun u => u = dw cI h a (dz f len) (dnP f len pl) f) := by
  refine MtV_in (by decide) (Nat.le_of_ble_eq_true rfl) (fun K C hR hX hN => ?_)
  show V K 1 [oc h 0 [.ref a, vi ((len : Nat) : Int), vi pl], ai cI a 800 f] 0 0 0 [(0, .ref h)] []
  have hle := dz_le f len
  have aft : ∀ l, dz f len = l → V K 1 [oc h 0 [.ref a, vi ((l : Nat) : Int), vi pl], ai cI a 800 f] 0 0 34 [(0, .ref h)] [] := by
    intro l hl2
    refine qv_aload_n C rfl dq_Dec_dropZerosAtEnd_34 ?_
    refine qv_get C fl_Dec_15 0 rfl rfl dq_Dec_dropZerosAtEnd_35 ?_
    refine qv_ifne C (by omega) (tgt := 46) (by decide) dq_Dec_dropZerosAtEnd_38 (fun h38 => ?_) (fun h38 => ?_)
    · skip
      refine qv_vret C hR ?_ dq_Dec_dropZerosAtEnd_46 (by decide) (by decide)
      show _ = dw _ _ _ (dz f len) (dnP f len pl) f
      unfold dnP
      by_cases q : dz f len = 0
      · rw [if_pos q, q]
        first | (have e : l = 0 := by omega
                 subst e; rfl) | (exfalso; omega)
      · rw [if_neg q, hl2] <;> first | rfl | (exfalso; omega)
    · skip
      refine qv_aload_n C rfl dq_Dec_dropZerosAtEnd_41 ?_
      refine qv_iconst C dq_Dec_dropZerosAtEnd_42 ?_
      refine qv_put C (ws' := [oc h 0 [.ref a, vi ((l : Nat) : Int), vi 0], ai cI a 800 f]) fl_Dec_19 fs_0_2 0 rfl rfl rfl (Nat.le_of_ble_eq_true rfl) rfl dq_Dec_dropZerosAtEnd_43 ?_
      refine qv_vret C hR ?_ dq_Dec_dropZerosAtEnd_46 (by decide) (by decide)
      show _ = dw _ _ _ (dz f len) (dnP f len pl) f
      unfold dnP
      by_cases q : dz f len = 0
      · rw [if_pos q, q]
        first | (have e : l = 0 := by omega
                 subst e; rfl) | (exfalso; omega)
      · rw [if_neg q, hl2] <;> first | rfl | (exfalso; omega)
  have loop : ∀ l, l ≤ 800 → dz f l = dz f len → V K 1 [oc h 0 [.ref a, vi ((l : Nat) : Int), vi pl], ai cI a 800 f] 0 0 0 [(0, .ref h)] [] := by
    intro l
    induction l with
    | zero =>
      intro h1 h2
      refine qv_aload_n C rfl dq_Dec_dropZerosAtEnd_0 ?_
      refine qv_get C fl_Dec_15 0 rfl rfl dq_Dec_dropZerosAtEnd_1 ?_
      refine qv_ifle C (by omega) (tgt := 34) (by decide) dq_Dec_dropZerosAtEnd_4 (fun h4 => ?_) (fun h4 => ?_)
      · skip
        exact aft _ h2.symm
      · exfalso; omega
    | succ l ih =>
      intro h1 h2
      have h9 := hf l
      refine qv_aload_n C rfl dq_Dec_dropZerosAtEnd_0 ?_
      refine qv_get C fl_Dec_15 0 rfl rfl dq_Dec_dropZerosAtEnd_1 ?_
      refine qv_ifle C (by omega) (tgt := 34) (by decide) dq_Dec_dropZerosAtEnd_4 (fun h4 => ?_) (fun h4 => ?_)
      · exfalso; omega
      · skip
        refine qv_aload_n C rfl dq_Dec_dropZerosAtEnd_7 ?_
        refine qv_get C fl_Dec_9 0 rfl rfl dq_Dec_dropZerosAtEnd_8 ?_
        refine qv_aload_n C rfl dq_Dec_dropZerosAtEnd_11 ?_
        refine qv_get C fl_Dec_15 0 rfl rfl dq_Dec_dropZerosAtEnd_12 ?_
        refine qv_iconst C dq_Dec_dropZerosAtEnd_15 ?_
        refine qv_isub C (r := ((l : Nat) : Int)) (by omega) dq_Dec_dropZerosAtEnd_16 ?_
        refine qv_iald C 1 l rfl (by omega) (by omega) (by decide) dq_Dec_dropZerosAtEnd_17 ?_
        refine qv_ifne C (by omega) (tgt := 34) (by decide) dq_Dec_dropZerosAtEnd_18 (fun h18 => ?_) (fun h18 => ?_)
        · skip
          exact aft _ (by rw [← h2, dz_s1 (by omega)])
        · skip
          refine qv_aload_n C rfl dq_Dec_dropZerosAtEnd_21 ?_
          refine qv_dup C rfl dq_Dec_dropZerosAtEnd_22 ?_
          refine qv_get C fl_Dec_15 0 rfl rfl dq_Dec_dropZerosAtEnd_23 ?_
          refine qv_iconst C dq_Dec_dropZerosAtEnd_26 ?_
          refine qv_isub C (r := ((l : Nat) : Int)) (by omega) dq_Dec_dropZerosAtEnd_27 ?_
          refine qv_put C (ws' := [oc h 0 [.ref a, vi ((l : Nat) : Int), vi pl], ai cI a 800 f]) fl_Dec_15 fs_0_1 0 rfl rfl rfl (Nat.le_of_ble_eq_true rfl) rfl dq_Dec_dropZerosAtEnd_28 ?_
          refine qv_goto C (tgt := 0) (by decide) dq_Dec_dropZerosAtEnd_31 ?_
          exact ih (by omega) (by rw [← h2, dz_s0 (by omega)])
  exact loop len hl rfl

