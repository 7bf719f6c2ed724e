theorem c_Law_set (cI cJ : ClassId) {x : Nat} {fs : List Value} {c1 c2 c3 c4 : Nat × va_E} {a : Int} {post : Int → va_W → Prop} {px : String → va_W → Prop} (hM : MxI cI cJ ky_Tru_set kb_Tru_set 5 rX XT [.ref x, vj a] [oc x 3 fs, c1, c2, c3, c4] post px) (hz : ∀ (z : Int) (u : va_W), post z u → ri z) (hE : ∀ (E : String) (u : va_W), px E u → E = nIAE) (o : Nat) (oo : Nat → Nat) : MhI cI cJ ky_Law_set kb_Law_set 5 [(0, 9, 12, 13)] rH XT [.ref x, vj a, .ref o] [aj cJ o 1 oo, oc x 3 fs, c1, c2, c3, c4] (hpI cJ o oo post px nIAE) := by
  refine MhI_in (by decide) (Nat.le_of_ble_eq_true rfl) (fun K C hR hH hX => ?_)
  show V K 5 [aj cJ o 1 oo, oc x 3 fs, c1, c2, c3, c4] 0 0 0 [(0, .ref x), (1, vj a), (3, .ref o)] []
  refine qv_aload_n C rfl dq_Law_set_0 ?_
  refine qv_iconst C dq_Law_set_1 ?_
  refine qv_aload_n C rfl dq_Law_set_2 ?_
  refine qv_lload_n C rfl dq_Law_set_3 ?_
  refine qx_vI (wr := [aj cJ o 1 oo]) (st := [vi 0, .ref o]) (As := [vj a]) C hH hX ⟨wl (i := 113) rfl rfl, cl_Law_7⟩ cd_Tru_set hM [1, 2, 3, 4, 5] [0] rfl rfl (by decide) (by decide) (by decide) 0 rfl rfl rfl rfl rfl (Nat.le_of_ble_eq_true rfl) (by decide) (by decide) dq_Law_set_4 (fun E u hu => ?_) (fun z u hu => ?_)
  · obtain rfl := hE E u hu
    refine ⟨12, ⟨[], ⟨0, 9, 12, 13⟩, [], rfl, (fun _ h => nomatch h), rfl, by decide, wl (i := 112) rfl rfl, by decide +kernel, rfl⟩, fun q => ?_⟩
    show V K 5 (aj cJ o 1 oo :: u) 1 6 12 [(0, .ref x), (1, vj a), (3, .ref o)] [.ref q]
    refine qv_astore C (lv' := [(4, .ref q), (0, .ref x), (1, vj a), (3, .ref o)]) (by decide) rfl dq_Law_set_12 ?_
    refine qv_iconst C dq_Law_set_14 ?_
    refine qv_iret C hR ?_ dq_Law_set_15 (by decide) (by decide)
    exact Or.inr ⟨rfl, u, hu, rfl⟩
  · show V K 5 (aj cJ o 1 oo :: u) 1 6 7 [(0, .ref x), (1, vj a), (3, .ref o)] [vi z, vi 0, .ref o]
    refine qv_i2l C (hz z u hu) dq_Law_set_7 ?_
    refine qv_tjw (r := ((lj z : Nat) : Int)) (lj_zj z).symm ?_
    refine qv_last C (ws' := aj cJ o 1 (un oo 0 (lj z)) :: u) 0 0 (lj z) rfl rfl (by decide) (by decide) rfl rfl dq_Law_set_8 ?_
    refine qv_goto C (tgt := 16) (by decide) dq_Law_set_9 ?_
    refine qv_iconst C dq_Law_set_16 ?_
    refine qv_iret C hR ?_ dq_Law_set_17 (by decide) (by decide)
    exact Or.inl ⟨rfl, z, u, hu, rfl⟩
theorem c_Law_digit (cI cJ : ClassId) {x : Nat} {fs : List Value} {c1 c2 : Nat × va_E} {a : Int} {post : Int → va_W → Prop} {px : String → va_W → Prop} (hM : MxI cI cJ ky_Tru_digit kb_Tru_digit 2 rX XT [.ref x, vi a] [oc x 3 fs, c1, c2] post px) (hz : ∀ (z : Int) (u : va_W), post z u → ri z) (hE : ∀ (E : String) (u : va_W), px E u → E = nIAE ∨ E = nIOB) (o : Nat) (oo : Nat → Nat) : MhI cI cJ ky_Law_digit kb_Law_digit 4 [(0, 9, 12, 13), (0, 9, 15, 19)] rH XT [.ref x, vi a, .ref o] [aj cJ o 1 oo, oc x 3 fs, c1, c2] (hpD cJ o oo post px) := by
  refine MhI_in (by decide) (Nat.le_of_ble_eq_true rfl) (fun K C hR hH hX => ?_)
  show V K 4 [aj cJ o 1 oo, oc x 3 fs, c1, c2] 0 0 0 [(0, .ref x), (1, vi a), (2, .ref o)] []
  refine qv_aload_n C rfl dq_Law_digit_0 ?_
  refine qv_iconst C dq_Law_digit_1 ?_
  refine qv_aload_n C rfl dq_Law_digit_2 ?_
  refine qv_iload_n C rfl dq_Law_digit_3 ?_
  refine qx_vI (wr := [aj cJ o 1 oo]) (st := [vi 0, .ref o]) (As := [vi a]) C hH hX ⟨wl (i := 251) rfl rfl, cl_Law_15⟩ cd_Tru_digit hM [1, 2, 3] [0] rfl rfl (by decide) (by decide) (by decide) 0 rfl rfl rfl rfl rfl (Nat.le_of_ble_eq_true rfl) (by decide) (by decide) dq_Law_digit_4 (fun E u hu => ?_) (fun z u hu => ?_)
  · rcases hE E u hu with rfl | rfl
    · skip
      refine ⟨12, ⟨[], ⟨0, 9, 12, 13⟩, [⟨0, 9, 15, 19⟩], rfl, (fun _ h => nomatch h), rfl, by decide, wl (i := 112) rfl rfl, by decide +kernel, rfl⟩, fun q => ?_⟩
      show V K 4 (aj cJ o 1 oo :: u) 1 6 12 [(0, .ref x), (1, vi a), (2, .ref o)] [.ref q]
      refine qv_astore_n C (lv' := [(3, .ref q), (0, .ref x), (1, vi a), (2, .ref o)]) (by decide) rfl dq_Law_digit_12 ?_
      refine qv_iconst C dq_Law_digit_13 ?_
      refine qv_iret C hR ?_ dq_Law_digit_14 (by decide) (by decide)
      exact Or.inr (Or.inl ⟨rfl, u, hu, rfl⟩)
    · skip
      refine ⟨15, ⟨[⟨0, 9, 12, 13⟩], ⟨0, 9, 15, 19⟩, [], rfl, (fun z hz2 => by rw [List.mem_singleton.mp hz2]; exact ⟨by decide, wl (i := 112) rfl rfl, rfl⟩), rfl, by decide, wl (i := 250) rfl rfl, by decide +kernel, rfl⟩, fun q => ?_⟩
      show V K 4 (aj cJ o 1 oo :: u) 1 6 15 [(0, .ref x), (1, vi a), (2, .ref o)] [.ref q]
      refine qv_astore_n C (lv' := [(3, .ref q), (0, .ref x), (1, vi a), (2, .ref o)]) (by decide) rfl dq_Law_digit_15 ?_
      refine qv_iconst C dq_Law_digit_16 ?_
      refine qv_iret C hR ?_ dq_Law_digit_17 (by decide) (by decide)
      exact Or.inr (Or.inr ⟨rfl, u, hu, rfl⟩)
  · show V K 4 (aj cJ o 1 oo :: u) 1 6 7 [(0, .ref x), (1, vi a), (2, .ref o)] [vi z, vi 0, .ref o]
    refine qv_i2l C (hz z u hu) dq_Law_digit_7 ?_
    refine qv_tjw (r := ((lj z : Nat) : Int)) (lj_zj z).symm ?_
    refine qv_last C (ws' := aj cJ o 1 (un oo 0 (lj z)) :: u) 0 0 (lj z) rfl rfl (by decide) (by decide) rfl rfl dq_Law_digit_8 ?_
    refine qv_goto C (tgt := 18) (by decide) dq_Law_digit_9 ?_
    refine qv_iconst C dq_Law_digit_18 ?_
    refine qv_iret C hR ?_ dq_Law_digit_19 (by decide) (by decide)
    exact Or.inl ⟨rfl, z, u, hu, rfl⟩
theorem c_Law_clear (cI cJ : ClassId) {x : Nat} {fs : List Value} {c1 c2 : Nat × va_E} {a a2 : Int} {post : va_W → Prop} {px : String → va_W → Prop} (hM : MxV cI cJ ky_Tru_clear kb_Tru_clear 3 rX XT [.ref x, vi a, vi a2] [oc x 3 fs, c1, c2] post px) (hE : ∀ (E : String) (u : va_W), px E u → E = nIAE) : MhI cI cJ ky_Law_clear kb_Law_clear 4 [(0, 6, 9, 13)] rH XT [.ref x, vi a, vi a2] [oc x 3 fs, c1, c2] (hpV post px) := by
  refine MhI_in (by decide) (Nat.le_of_ble_eq_true rfl) (fun K C hR hH hX => ?_)
  show V K 4 [oc x 3 fs, c1, c2] 0 0 0 [(0, .ref x), (1, vi a), (2, vi a2)] []
  refine qv_aload_n C rfl dq_Law_clear_0 ?_
  refine qv_iload_n C rfl dq_Law_clear_1 ?_
  refine qv_iload_n C rfl dq_Law_clear_2 ?_
  refine qx_vV (wr := []) (st := []) (As := [vi a, vi a2]) C hH hX ⟨wl (i := 284) rfl rfl, cl_Law_21⟩ cd_Tru_clear hM [0, 1, 2] [] rfl rfl (by decide) (by decide) (by decide) 0 rfl rfl rfl rfl rfl (Nat.le_of_ble_eq_true rfl) (by decide) (by decide) dq_Law_clear_3 (fun E u hu => ?_) (fun u hu => ?_)
  · obtain rfl := hE E u hu
    refine ⟨9, ⟨[], ⟨0, 6, 9, 13⟩, [], rfl, (fun _ h => nomatch h), rfl, by decide, wl (i := 112) rfl rfl, by decide +kernel, rfl⟩, fun q => ?_⟩
    show V K 4 u 1 6 9 [(0, .ref x), (1, vi a), (2, vi a2)] [.ref q]
    refine qv_astore_n C (lv' := [(3, .ref q), (0, .ref x), (1, vi a), (2, vi a2)]) (by decide) rfl dq_Law_clear_9 ?_
    refine qv_iconst C dq_Law_clear_10 ?_
    refine qv_iret C hR ?_ dq_Law_clear_11 (by decide) (by decide)
    exact Or.inr ⟨rfl, hu⟩
  · show V K 4 u 1 6 6 [(0, .ref x), (1, vi a), (2, vi a2)] []
    refine qv_goto C (tgt := 12) (by decide) dq_Law_clear_6 ?_
    refine qv_iconst C dq_Law_clear_12 ?_
    refine qv_iret C hR ?_ dq_Law_clear_13 (by decide) (by decide)
    exact Or.inl ⟨rfl, hu⟩
theorem c_Law_round (cI cJ : ClassId) {x : Nat} {fs : List Value} {c1 c2 : Nat × va_E} {a : Int} {post : Int → va_W → Prop} {px : String → va_W → Prop} (hM : MxI cI cJ ky_Tru_round kb_Tru_round 2 rX XT [.ref x, vi a] [oc x 3 fs, c1, c2] post px) (hz : ∀ (z : Int) (u : va_W), post z u → ri z) (hE : ∀ (E : String) (u : va_W), px E u → E = nIAE) (o : Nat) (oo : Nat → Nat) : MhI cI cJ ky_Law_round kb_Law_round 4 [(0, 9, 12, 13)] rH XT [.ref x, vi a, .ref o] [aj cJ o 1 oo, oc x 3 fs, c1, c2] (hpI cJ o oo post px nIAE) := by
  refine MhI_in (by decide) (Nat.le_of_ble_eq_true rfl) (fun K C hR hH hX => ?_)
  show V K 4 [aj cJ o 1 oo, oc x 3 fs, c1, c2] 0 0 0 [(0, .ref x), (1, vi a), (2, .ref o)] []
  refine qv_aload_n C rfl dq_Law_round_0 ?_
  refine qv_iconst C dq_Law_round_1 ?_
  refine qv_aload_n C rfl dq_Law_round_2 ?_
  refine qv_iload_n C rfl dq_Law_round_3 ?_
  refine qx_vI (wr := [aj cJ o 1 oo]) (st := [vi 0, .ref o]) (As := [vi a]) C hH hX ⟨wl (i := 296) rfl rfl, cl_Law_25⟩ cd_Tru_round hM [1, 2, 3] [0] rfl rfl (by decide) (by decide) (by decide) 0 rfl rfl rfl rfl rfl (Nat.le_of_ble_eq_true rfl) (by decide) (by decide) dq_Law_round_4 (fun E u hu => ?_) (fun z u hu => ?_)
  · obtain rfl := hE E u hu
    refine ⟨12, ⟨[], ⟨0, 9, 12, 13⟩, [], rfl, (fun _ h => nomatch h), rfl, by decide, wl (i := 112) rfl rfl, by decide +kernel, rfl⟩, fun q => ?_⟩
    show V K 4 (aj cJ o 1 oo :: u) 1 6 12 [(0, .ref x), (1, vi a), (2, .ref o)] [.ref q]
    refine qv_astore_n C (lv' := [(3, .ref q), (0, .ref x), (1, vi a), (2, .ref o)]) (by decide) rfl dq_Law_round_12 ?_
    refine qv_iconst C dq_Law_round_13 ?_
    refine qv_iret C hR ?_ dq_Law_round_14 (by decide) (by decide)
    exact Or.inr ⟨rfl, u, hu, rfl⟩
  · show V K 4 (aj cJ o 1 oo :: u) 1 6 7 [(0, .ref x), (1, vi a), (2, .ref o)] [vi z, vi 0, .ref o]
    refine qv_i2l C (hz z u hu) dq_Law_round_7 ?_
    refine qv_tjw (r := ((lj z : Nat) : Int)) (lj_zj z).symm ?_
    refine qv_last C (ws' := aj cJ o 1 (un oo 0 (lj z)) :: u) 0 0 (lj z) rfl rfl (by decide) (by decide) rfl rfl dq_Law_round_8 ?_
    refine qv_goto C (tgt := 15) (by decide) dq_Law_round_9 ?_
    refine qv_iconst C dq_Law_round_15 ?_
    refine qv_iret C hR ?_ dq_Law_round_16 (by decide) (by decide)
    exact Or.inl ⟨rfl, z, u, hu, rfl⟩
theorem c_Law_places (cI cJ : ClassId) {x : Nat} {fs : List Value} {c1 c2 : Nat × va_E} {a : Int} {post : Int → va_W → Prop} {px : String → va_W → Prop} (hM : MxI cI cJ ky_Tru_places kb_Tru_places 2 rX XT [.ref x, vi a] [oc x 3 fs, c1, c2] post px) (hz : ∀ (z : Int) (u : va_W), post z u → ri z) (hE : ∀ (E : String) (u : va_W), px E u → E = nIAE) (o : Nat) (oo : Nat → Nat) : MhI cI cJ ky_Law_places kb_Law_places 4 [(0, 9, 12, 13)] rH XT [.ref x, vi a, .ref o] [aj cJ o 1 oo, oc x 3 fs, c1, c2] (hpI cJ o oo post px nIAE) := by
  refine MhI_in (by decide) (Nat.le_of_ble_eq_true rfl) (fun K C hR hH hX => ?_)
  show V K 4 [aj cJ o 1 oo, oc x 3 fs, c1, c2] 0 0 0 [(0, .ref x), (1, vi a), (2, .ref o)] []
  refine qv_aload_n C rfl dq_Law_places_0 ?_
  refine qv_iconst C dq_Law_places_1 ?_
  refine qv_aload_n C rfl dq_Law_places_2 ?_
  refine qv_iload_n C rfl dq_Law_places_3 ?_
  refine qx_vI (wr := [aj cJ o 1 oo]) (st := [vi 0, .ref o]) (As := [vi a]) C hH hX ⟨wl (i := 325) rfl rfl, cl_Law_28⟩ cd_Tru_places hM [1, 2, 3] [0] rfl rfl (by decide) (by decide) (by decide) 0 rfl rfl rfl rfl rfl (Nat.le_of_ble_eq_true rfl) (by decide) (by decide) dq_Law_places_4 (fun E u hu => ?_) (fun z u hu => ?_)
  · obtain rfl := hE E u hu
    refine ⟨12, ⟨[], ⟨0, 9, 12, 13⟩, [], rfl, (fun _ h => nomatch h), rfl, by decide, wl (i := 112) rfl rfl, by decide +kernel, rfl⟩, fun q => ?_⟩
    show V K 4 (aj cJ o 1 oo :: u) 1 6 12 [(0, .ref x), (1, vi a), (2, .ref o)] [.ref q]
    refine qv_astore_n C (lv' := [(3, .ref q), (0, .ref x), (1, vi a), (2, .ref o)]) (by decide) rfl dq_Law_places_12 ?_
    refine qv_iconst C dq_Law_places_13 ?_
    refine qv_iret C hR ?_ dq_Law_places_14 (by decide) (by decide)
    exact Or.inr ⟨rfl, u, hu, rfl⟩
  · show V K 4 (aj cJ o 1 oo :: u) 1 6 7 [(0, .ref x), (1, vi a), (2, .ref o)] [vi z, vi 0, .ref o]
    refine qv_i2l C (hz z u hu) dq_Law_places_7 ?_
    refine qv_tjw (r := ((lj z : Nat) : Int)) (lj_zj z).symm ?_
    refine qv_last C (ws' := aj cJ o 1 (un oo 0 (lj z)) :: u) 0 0 (lj z) rfl rfl (by decide) (by decide) rfl rfl dq_Law_places_8 ?_
    refine qv_goto C (tgt := 15) (by decide) dq_Law_places_9 ?_
    refine qv_iconst C dq_Law_places_15 ?_
    refine qv_iret C hR ?_ dq_Law_places_16 (by decide) (by decide)
    exact Or.inl ⟨rfl, z, u, hu, rfl⟩
theorem c_Law_nearest (cI cJ : ClassId) {x : Nat} {fs : List Value} {c1 c2 c3 c4 c5 c6 : Nat × va_E} {post : Int → va_W → Prop} {px : String → va_W → Prop} (hM : MxJ cI cJ ky_Tru_nearest kb_Tru_nearest 3 rX XT [.ref x] [oc x 3 fs, c1, c2, c3, c4, c5, c6] post px) (hE : ∀ (E : String) (u : va_W), px E u → E = nARI) (o : Nat) (oo : Nat → Nat) : MhI cI cJ ky_Law_nearest kb_Law_nearest 3 [(0, 7, 10, 35)] rH XT [.ref x, .ref o] [aj cJ o 1 oo, oc x 3 fs, c1, c2, c3, c4, c5, c6] (hpI cJ o oo post px nARI) := by
  refine MhI_in (by decide) (Nat.le_of_ble_eq_true rfl) (fun K C hR hH hX => ?_)
  show V K 3 [aj cJ o 1 oo, oc x 3 fs, c1, c2, c3, c4, c5, c6] 0 0 0 [(0, .ref x), (1, .ref o)] []
  refine qv_aload_n C rfl dq_Law_nearest_0 ?_
  refine qv_iconst C dq_Law_nearest_1 ?_
  refine qv_aload_n C rfl dq_Law_nearest_2 ?_
  refine qx_vJ (wr := [aj cJ o 1 oo]) (st := [vi 0, .ref o]) (As := []) C hH hX ⟨wl (i := 334) rfl rfl, cl_Law_31⟩ cd_Tru_nearest hM [1, 2, 3, 4, 5, 6, 7] [0] rfl rfl (by decide) (by decide) (by decide) 0 rfl rfl rfl rfl rfl (Nat.le_of_ble_eq_true rfl) (by decide) (by decide) dq_Law_nearest_3 (fun E u hu => ?_) (fun z u hu => ?_)
  · obtain rfl := hE E u hu
    refine ⟨10, ⟨[], ⟨0, 7, 10, 35⟩, [], rfl, (fun _ h => nomatch h), rfl, by decide, wl (i := 333) rfl rfl, by decide +kernel, rfl⟩, fun q => ?_⟩
    show V K 3 (aj cJ o 1 oo :: u) 1 6 10 [(0, .ref x), (1, .ref o)] [.ref q]
    refine qv_astore_n C (lv' := [(2, .ref q), (0, .ref x), (1, .ref o)]) (by decide) rfl dq_Law_nearest_10 ?_
    refine qv_iconst C dq_Law_nearest_11 ?_
    refine qv_iret C hR ?_ dq_Law_nearest_12 (by decide) (by decide)
    exact Or.inr ⟨rfl, u, hu, rfl⟩
  · show V K 3 (aj cJ o 1 oo :: u) 1 6 6 [(0, .ref x), (1, .ref o)] [vj z, vi 0, .ref o]
    refine qv_tjw (r := ((lj z : Nat) : Int)) (lj_zj z).symm ?_
    refine qv_last C (ws' := aj cJ o 1 (un oo 0 (lj z)) :: u) 0 0 (lj z) rfl rfl (by decide) (by decide) rfl rfl dq_Law_nearest_6 ?_
    refine qv_goto C (tgt := 13) (by decide) dq_Law_nearest_7 ?_
    refine qv_iconst C dq_Law_nearest_13 ?_
    refine qv_iret C hR ?_ dq_Law_nearest_14 (by decide) (by decide)
    exact Or.inl ⟨rfl, z, u, hu, rfl⟩
theorem c_Law_enough (cI cJ : ClassId) {x : Nat} {fs : List Value} {c1 c2 c3 c4 c5 c6 c7 c8 c9 c10 c11 c12 : Nat × va_E} {post : Int → va_W → Prop} {px : String → va_W → Prop} (hM : MxI cI cJ ky_Tru_enough kb_Tru_enough 4 rX XT [.ref x] [oc x 3 fs, c1, c2, c3, c4, c5, c6, c7, c8, c9, c10, c11, c12] post px) (hz : ∀ (z : Int) (u : va_W), post z u → ri z) (hE : ∀ (E : String) (u : va_W), px E u → E = nARI) (o : Nat) (oo : Nat → Nat) : MhI cI cJ ky_Law_enough kb_Law_enough 3 [(0, 8, 11, 35)] rH XT [.ref x, .ref o] [aj cJ o 1 oo, oc x 3 fs, c1, c2, c3, c4, c5, c6, c7, c8, c9, c10, c11, c12] (hpI cJ o oo post px nARI) := by
  refine MhI_in (by decide) (Nat.le_of_ble_eq_true rfl) (fun K C hR hH hX => ?_)
  show V K 3 [aj cJ o 1 oo, oc x 3 fs, c1, c2, c3, c4, c5, c6, c7, c8, c9, c10, c11, c12] 0 0 0 [(0, .ref x), (1, .ref o)] []
  refine qv_aload_n C rfl dq_Law_enough_0 ?_
  refine qv_iconst C dq_Law_enough_1 ?_
  refine qv_aload_n C rfl dq_Law_enough_2 ?_
  refine qx_vI (wr := [aj cJ o 1 oo]) (st := [vi 0, .ref o]) (As := []) C hH hX ⟨wl (i := 403) rfl rfl, cl_Law_37⟩ cd_Tru_enough hM [1, 2, 3, 4, 5, 6, 7, 8, 9, 10, 11, 12, 13] [0] rfl rfl (by decide) (by decide) (by decide) 0 rfl rfl rfl rfl rfl (Nat.le_of_ble_eq_true rfl) (by decide) (by decide) dq_Law_enough_3 (fun E u hu => ?_) (fun z u hu => ?_)
  · obtain rfl := hE E u hu
    refine ⟨11, ⟨[], ⟨0, 8, 11, 35⟩, [], rfl, (fun _ h => nomatch h), rfl, by decide, wl (i := 333) rfl rfl, by decide +kernel, rfl⟩, fun q => ?_⟩
    show V K 3 (aj cJ o 1 oo :: u) 1 6 11 [(0, .ref x), (1, .ref o)] [.ref q]
    refine qv_astore_n C (lv' := [(2, .ref q), (0, .ref x), (1, .ref o)]) (by decide) rfl dq_Law_enough_11 ?_
    refine qv_iconst C dq_Law_enough_12 ?_
    refine qv_iret C hR ?_ dq_Law_enough_13 (by decide) (by decide)
    exact Or.inr ⟨rfl, u, hu, rfl⟩
  · show V K 3 (aj cJ o 1 oo :: u) 1 6 6 [(0, .ref x), (1, .ref o)] [vi z, vi 0, .ref o]
    refine qv_i2l C (hz z u hu) dq_Law_enough_6 ?_
    refine qv_tjw (r := ((lj z : Nat) : Int)) (lj_zj z).symm ?_
    refine qv_last C (ws' := aj cJ o 1 (un oo 0 (lj z)) :: u) 0 0 (lj z) rfl rfl (by decide) (by decide) rfl rfl dq_Law_enough_7 ?_
    refine qv_goto C (tgt := 14) (by decide) dq_Law_enough_8 ?_
    refine qv_iconst C dq_Law_enough_14 ?_
    refine qv_iret C hR ?_ dq_Law_enough_15 (by decide) (by decide)
    exact Or.inl ⟨rfl, z, u, hu, rfl⟩
theorem c_Law_look (cI cJ : ClassId) {x : Nat} {fs : List Value} {c1 c2 : Nat × va_E} {a : Int} {post : Int → va_W → Prop} {px : String → va_W → Prop} (hM : MxI cI cJ ky_Tru_look kb_Tru_look 2 rX XT [.ref x, vi a] [oc x 3 fs, c1, c2] post px) (hz : ∀ (z : Int) (u : va_W), post z u → ri z) (hE : ∀ (E : String) (u : va_W), px E u → E = nIOB) (o : Nat) (oo : Nat → Nat) : MhI cI cJ ky_Law_look kb_Law_look 4 [(0, 9, 12, 19)] rH XT [.ref x, vi a, .ref o] [aj cJ o 1 oo, oc x 3 fs, c1, c2] (hpI cJ o oo post px nIOB) := by
  refine MhI_in (by decide) (Nat.le_of_ble_eq_true rfl) (fun K C hR hH hX => ?_)
  show V K 4 [aj cJ o 1 oo, oc x 3 fs, c1, c2] 0 0 0 [(0, .ref x), (1, vi a), (2, .ref o)] []
  refine qv_aload_n C rfl dq_Law_look_0 ?_
  refine qv_iconst C dq_Law_look_1 ?_
  refine qv_aload_n C rfl dq_Law_look_2 ?_
  refine qv_iload_n C rfl dq_Law_look_3 ?_
  refine qx_vI (wr := [aj cJ o 1 oo]) (st := [vi 0, .ref o]) (As := [vi a]) C hH hX ⟨wl (i := 440) rfl rfl, cl_Law_41⟩ cd_Tru_look hM [1, 2, 3] [0] rfl rfl (by decide) (by decide) (by decide) 0 rfl rfl rfl rfl rfl (Nat.le_of_ble_eq_true rfl) (by decide) (by decide) dq_Law_look_4 (fun E u hu => ?_) (fun z u hu => ?_)
  · obtain rfl := hE E u hu
    refine ⟨12, ⟨[], ⟨0, 9, 12, 19⟩, [], rfl, (fun _ h => nomatch h), rfl, by decide, wl (i := 250) rfl rfl, by decide +kernel, rfl⟩, fun q => ?_⟩
    show V K 4 (aj cJ o 1 oo :: u) 1 6 12 [(0, .ref x), (1, vi a), (2, .ref o)] [.ref q]
    refine qv_astore_n C (lv' := [(3, .ref q), (0, .ref x), (1, vi a), (2, .ref o)]) (by decide) rfl dq_Law_look_12 ?_
    refine qv_iconst C dq_Law_look_13 ?_
    refine qv_iret C hR ?_ dq_Law_look_14 (by decide) (by decide)
    exact Or.inr ⟨rfl, u, hu, rfl⟩
  · show V K 4 (aj cJ o 1 oo :: u) 1 6 7 [(0, .ref x), (1, vi a), (2, .ref o)] [vi z, vi 0, .ref o]
    refine qv_i2l C (hz z u hu) dq_Law_look_7 ?_
    refine qv_tjw (r := ((lj z : Nat) : Int)) (lj_zj z).symm ?_
    refine qv_last C (ws' := aj cJ o 1 (un oo 0 (lj z)) :: u) 0 0 (lj z) rfl rfl (by decide) (by decide) rfl rfl dq_Law_look_8 ?_
    refine qv_goto C (tgt := 15) (by decide) dq_Law_look_9 ?_
    refine qv_iconst C dq_Law_look_15 ?_
    refine qv_iret C hR ?_ dq_Law_look_16 (by decide) (by decide)
    exact Or.inl ⟨rfl, z, u, hu, rfl⟩
theorem c_Law_count (cI cJ : ClassId) {x : Nat} {fs : List Value} {c1 c2 : Nat × va_E} {a : Int} {post : Int → va_W → Prop} {px : String → va_W → Prop} (hM : MxI cI cJ ky_Tru_count kb_Tru_count 2 rX XT [.ref x, vi a] [oc x 3 fs, c1, c2] post px) (hz : ∀ (z : Int) (u : va_W), post z u → ri z) (hE : ∀ (E : String) (u : va_W), px E u → E = nIAE) (o : Nat) (oo : Nat → Nat) : MhI cI cJ ky_Law_count kb_Law_count 4 [(0, 9, 12, 13)] rH XT [.ref x, vi a, .ref o] [aj cJ o 1 oo, oc x 3 fs, c1, c2] (hpI cJ o oo post px nIAE) := by
  refine MhI_in (by decide) (Nat.le_of_ble_eq_true rfl) (fun K C hR hH hX => ?_)
  show V K 4 [aj cJ o 1 oo, oc x 3 fs, c1, c2] 0 0 0 [(0, .ref x), (1, vi a), (2, .ref o)] []
  refine qv_aload_n C rfl dq_Law_count_0 ?_
  refine qv_iconst C dq_Law_count_1 ?_
  refine qv_aload_n C rfl dq_Law_count_2 ?_
  refine qv_iload_n C rfl dq_Law_count_3 ?_
  refine qx_vI (wr := [aj cJ o 1 oo]) (st := [vi 0, .ref o]) (As := [vi a]) C hH hX ⟨wl (i := 448) rfl rfl, cl_Law_44⟩ cd_Tru_count hM [1, 2, 3] [0] rfl rfl (by decide) (by decide) (by decide) 0 rfl rfl rfl rfl rfl (Nat.le_of_ble_eq_true rfl) (by decide) (by decide) dq_Law_count_4 (fun E u hu => ?_) (fun z u hu => ?_)
  · obtain rfl := hE E u hu
    refine ⟨12, ⟨[], ⟨0, 9, 12, 13⟩, [], rfl, (fun _ h => nomatch h), rfl, by decide, wl (i := 112) rfl rfl, by decide +kernel, rfl⟩, fun q => ?_⟩
    show V K 4 (aj cJ o 1 oo :: u) 1 6 12 [(0, .ref x), (1, vi a), (2, .ref o)] [.ref q]
    refine qv_astore_n C (lv' := [(3, .ref q), (0, .ref x), (1, vi a), (2, .ref o)]) (by decide) rfl dq_Law_count_12 ?_
    refine qv_iconst C dq_Law_count_13 ?_
    refine qv_iret C hR ?_ dq_Law_count_14 (by decide) (by decide)
    exact Or.inr ⟨rfl, u, hu, rfl⟩
  · show V K 4 (aj cJ o 1 oo :: u) 1 6 7 [(0, .ref x), (1, vi a), (2, .ref o)] [vi z, vi 0, .ref o]
    refine qv_i2l C (hz z u hu) dq_Law_count_7 ?_
    refine qv_tjw (r := ((lj z : Nat) : Int)) (lj_zj z).symm ?_
    refine qv_last C (ws' := aj cJ o 1 (un oo 0 (lj z)) :: u) 0 0 (lj z) rfl rfl (by decide) (by decide) rfl rfl dq_Law_count_8 ?_
    refine qv_goto C (tgt := 15) (by decide) dq_Law_count_9 ?_
    refine qv_iconst C dq_Law_count_15 ?_
    refine qv_iret C hR ?_ dq_Law_count_16 (by decide) (by decide)
    exact Or.inl ⟨rfl, z, u, hu, rfl⟩
