theorem c_Mod_finds (cI cJ : ClassId) (y dg rw bt wz lw hg : Nat) (er : Int) (mi : Bool) (nd : Nat) (pl : Int) (zr : Nat) (bh : Int) (mn : Nat) (fr fo : Int) (ls : Nat) (lp : Int) (hs : Nat) (hq : Int) (d f bb : Nat → Nat) (hK : Kd d nd pl) (hpl : -10000 ≤ pl ∧ pl ≤ 10000) (hf : ∀ i, f i ≤ 9) (hbb : ∀ i, bb i < 2) : MtI cI cJ ky_Mod_finds kb_Mod_finds 13 .boolean rm_Mod_finds Xt [.ref y, vi ((nd : Nat) : Int)] [oc y 4 [vi er, vi (b2 mi), .ref dg, vi ((nd : Nat) : Int), vi pl, vi ((zr : Nat) : Int), vi bh, .ref rw, vi ((mn : Nat) : Int), vi fr, vj fo, .ref bt, .ref wz, .ref lw, .ref hg, vi ((ls : Nat) : Int), vi lp, vi ((hs : Nat) : Int), vi hq], ai cI dg 800 d, ai cI rw 1200 f, ai cI bt 1100 bb] (fun z u => ∃ (r : Nat) (f2 bb2 : Nat → Nat) (mn2 : Nat), Ne d nd pl r ∧ (∀ i, f2 i ≤ 9) ∧ (∀ i, bb2 i < 2) ∧ ((r < INF ∧ z = 1 ∧ u = [mo y dg rw bt wz lw hg er mi nd pl zr bh mn2 fr ((r : Nat) : Int) ls lp hs hq, ai cI dg 800 d, ai cI rw 1200 f2, ai cI bt 1100 bb2]) ∨ (r = INF ∧ z = 0 ∧ u = [mo y dg rw bt wz lw hg er mi nd pl zr bh mn2 fr 0 ls lp hs hq, ai cI dg 800 d, ai cI rw 1200 f2, ai cI bt 1100 bb2]))) := by
  refine MtI_in (by decide) (Nat.le_of_ble_eq_true rfl) (fun K C hR hX hN => ?_)
  show V K 13 [oc y 4 [vi er, vi (b2 mi), .ref dg, vi ((nd : Nat) : Int), vi pl, vi ((zr : Nat) : Int), vi bh, .ref rw, vi ((mn : Nat) : Int), vi fr, vj fo, .ref bt, .ref wz, .ref lw, .ref hg, vi ((ls : Nat) : Int), vi lp, vi ((hs : Nat) : Int), vi hq], ai cI dg 800 d, ai cI rw 1200 f, ai cI bt 1100 bb] 0 0 0 [(0, .ref y), (1, vi ((nd : Nat) : Int))] []
  obtain ⟨hd, hnd, hnz, hn0⟩ := id hK
  have hNd := Kd_nrm hK
  have hI : INF = 9218868437227405312 := rfl
  obtain ⟨zc, hzc⟩ : ∃ zc, zc = (-pl).toNat := ⟨_, rfl⟩
  obtain ⟨w, hw⟩ : ∃ w, w = pl.toNat := ⟨_, rfl⟩
  obtain ⟨cf, hcf⟩ : ∃ cf, cf = zc + (nd - w) := ⟨_, rfl⟩
  obtain ⟨X0, hX0⟩ : ∃ X0, X0 = dv 10 (ext0 d nd) w := ⟨_, rfl⟩
  obtain ⟨Fr0, hFr0⟩ : ∃ F, F = dv 10 (Fq d zc w) cf := ⟨_, rfl⟩
  obtain ⟨Gn, hGn⟩ : ∃ G, G = X0 * 10 ^ cf + Fr0 := ⟨_, rfl⟩
  have secH : 0 < nd → -330 ≤ pl → pl ≤ 310 → ∀ (m got : Nat) (p : Int) (more : Bool) (h b : Nat → Nat), (∀ i, h i ≤ 9) → (∀ i, b i < 2) → FH Gn cf m got p more (dv 10 h cf) → m < 18014398509481984 → got ≤ 54 → V K 13 [oc y 4 [vi er, vi (b2 mi), .ref dg, vi ((nd : Nat) : Int), vi pl, vi ((zr : Nat) : Int), vi bh, .ref rw, vi ((cf : Nat) : Int), vi fr, vj 0, .ref bt, .ref wz, .ref lw, .ref hg, vi ((ls : Nat) : Int), vi lp, vi ((hs : Nat) : Int), vi hq], ai cI dg 800 d, ai cI rw 1200 h, ai cI bt 1100 b] 0 0 468 [(0, .ref y), (3, vj ((m : Nat) : Int)), (5, vi ((got : Nat) : Int)), (6, vi p), (7, vi (b2 more))] [] := by
    intro hn1 hp1 hp2 m got p more h b hh hb hF hm54 hg54
    have hcf2 : cf ≤ 1200 := by omega
    have hsv := f_split (d := d) hzc hw hcf hnd hp1 hp2
    rw [← hX0, ← hFr0, ← hGn] at hsv
    refine qv_iload C rfl dq_Mod_finds_468 ?_
    refine qv_aload_n C rfl dq_Mod_finds_470 ?_
    refine qv_iconst C dq_Mod_finds_471 ?_
    refine qv_aload_n C rfl dq_Mod_finds_472 ?_
    refine qv_get C fl_Mod_40 0 rfl rfl dq_Mod_finds_473 ?_
    refine qc_vI (wr := [ai cI dg 800 d, ai cI bt 1100 b]) (st := [vi (b2 more)]) C cl_Mod_100 cd_Mod_isNothing (c_Mod_isNothing cI cJ y dg rw bt wz lw hg er mi nd pl zr bh cf fr 0 ls lp hs hq h cf hh hcf2) (Xok_t K) Xbl_t [0, 2] [1, 3] rfl rfl (by decide) (by decide) (by decide) 0 rfl rfl rfl rfl rfl (Nat.le_of_ble_eq_true rfl) (by decide) (by decide) dq_Mod_finds_476 (fun z u hu => ?_)
    obtain ⟨e, rfl, hez, rfl⟩ := hu
    show V K 13 [ai cI dg 800 d, ai cI bt 1100 b, oc y 4 [vi er, vi (b2 mi), .ref dg, vi ((nd : Nat) : Int), vi pl, vi ((zr : Nat) : Int), vi bh, .ref rw, vi ((cf : Nat) : Int), vi fr, vj 0, .ref bt, .ref wz, .ref lw, .ref hg, vi ((ls : Nat) : Int), vi lp, vi ((hs : Nat) : Int), vi hq], ai cI rw 1200 h] 0 0 479 [(0, .ref y), (3, vj ((m : Nat) : Int)), (5, vi ((got : Nat) : Int)), (6, vi p), (7, vi (b2 more))] [vi (b2 e), vi (b2 more)]
    refine qv_ifne C (rb_b2 e) (tgt := 486) (by decide) dq_Mod_finds_479 (fun h479 => ?_) (fun h479 => ?_)
    · skip
      refine qv_iconst C dq_Mod_finds_486 ?_
      refine qv_ior C (r := b2 (more || false)) (zi_or_b2 more false) dq_Mod_finds_487 ?_
      refine qv_istore C (lv' := [(7, vi (b2 (more || false))), (0, .ref y), (3, vj ((m : Nat) : Int)), (5, vi ((got : Nat) : Int)), (6, vi p)]) (by decide) rfl dq_Mod_finds_488 ?_
      refine qv_iload C rfl dq_Mod_finds_490 ?_
      refine qv_ifne C (by omega) (tgt := 497) (by decide) dq_Mod_finds_492 (fun h492 => ?_) (fun h492 => ?_)
      · skip
        refine qv_aload_n C rfl dq_Mod_finds_497 ?_
        refine qv_lload_n C rfl dq_Mod_finds_498 ?_
        refine qv_iload C rfl dq_Mod_finds_499 ?_
        refine qv_iload C rfl dq_Mod_finds_501 ?_
        refine qv_iload C rfl dq_Mod_finds_503 ?_
        have hgt : (got = 54 ∧ 9007199254740992 ≤ m ∧ m < 18014398509481984 ∧ -1075 ≤ p ∧ p ≤ 1000) ∨ (got ≤ 53 ∧ m < 9007199254740992 ∧ p = -1075) := by
          rcases hF with hF | ⟨hF1, hF2, hF3, hF4, -⟩ <;> omega
        refine qc_vI (wr := [ai cI dg 800 d, ai cI bt 1100 b, ai cI rw 1200 h]) (st := []) C cl_Mod_104 cd_Mod_put (c_Mod_put cI cJ y dg rw bt wz lw hg er mi nd pl zr bh cf fr 0 ls lp hs hq m got p (more || false) hgt) (Xok_t K) Xbl_t [2] [0, 1, 3] rfl rfl (by decide) (by decide) (by decide) 0 rfl rfl rfl rfl rfl (Nat.le_of_ble_eq_true rfl) (by decide) (by decide) dq_Mod_finds_505 (fun z u hu => ?_)
        obtain ⟨up, hup, hcase⟩ := hu
        have eme := b2_t h479
        have hNs : Ns (sv 1200 d nd pl) ((p + 1075).toNat * 4503599627370496 + m / 2 + (if up = true then 1 else 0)) := by
          rcases hF with hF | ⟨hF1, hF2, hF3, hF4, F, a, b2', hF5, hF6, hF7, hF8⟩
          · exfalso; omega
          · refine fin_near hsv hcf2 hF6 hF7 hF8 hF3 hF4 (by omega) (by omega) ?_
            have hfr : dv 10 h cf = 0 := hez.mp eme
            rw [hup, hF5]
            rw [Bool.or_false]
            constructor
            · rintro ⟨x, y | y⟩
              · exact ⟨x, Or.inl (Or.inl y)⟩
              · exact ⟨x, Or.inr y⟩
            · rintro ⟨x, (y | y) | y⟩
              · exact ⟨x, Or.inl y⟩
              · exact absurd hfr y
              · exact ⟨x, Or.inr y⟩
        rcases hcase with ⟨hlt, rfl, rfl⟩ | ⟨hge, rfl, rfl⟩
        · refine qv_ws [3, 0, 2, 1] (ws' := [oc y 4 [vi er, vi (b2 mi), .ref dg, vi ((nd : Nat) : Int), vi pl, vi ((zr : Nat) : Int), vi bh, .ref rw, vi ((cf : Nat) : Int), vi fr, vj ((((p + 1075).toNat * 4503599627370496 + m / 2 + (if up = true then 1 else 0)) : Nat) : Int), .ref bt, .ref wz, .ref lw, .ref hg, vi ((ls : Nat) : Int), vi lp, vi ((hs : Nat) : Int), vi hq], ai cI dg 800 d, ai cI rw 1200 h, ai cI bt 1100 b]) (by decide) rfl ?_
          refine qv_zret (b := true) C hR ?_ dq_Mod_finds_508 (by decide) (by decide)
          exact ⟨_, h, b, cf, Or.inr (Or.inr (Or.inr ⟨hn1, hp1, hp2, hNs⟩)), hh, hb, Or.inl ⟨hlt, rfl, rfl⟩⟩
        · refine qv_ws [3, 0, 2, 1] (ws' := [oc y 4 [vi er, vi (b2 mi), .ref dg, vi ((nd : Nat) : Int), vi pl, vi ((zr : Nat) : Int), vi bh, .ref rw, vi ((cf : Nat) : Int), vi fr, vj 0, .ref bt, .ref wz, .ref lw, .ref hg, vi ((ls : Nat) : Int), vi lp, vi ((hs : Nat) : Int), vi hq], ai cI dg 800 d, ai cI rw 1200 h, ai cI bt 1100 b]) (by decide) rfl ?_
          refine qv_zret (b := false) C hR ?_ dq_Mod_finds_508 (by decide) (by decide)
          have hrI : (p + 1075).toNat * 4503599627370496 + m / 2 + (if up = true then 1 else 0) = INF := by
            rcases hNs with q | q
            · omega
            · exact q.1
          rw [hrI] at hNs
          exact ⟨INF, h, b, cf, Or.inr (Or.inr (Or.inr ⟨hn1, hp1, hp2, hNs⟩)), hh, hb, Or.inr ⟨rfl, rfl, rfl⟩⟩
      · skip
        refine qv_iconst C dq_Mod_finds_495 ?_
        refine qv_ws [2, 0, 3, 1] (ws' := [oc y 4 [vi er, vi (b2 mi), .ref dg, vi ((nd : Nat) : Int), vi pl, vi ((zr : Nat) : Int), vi bh, .ref rw, vi ((cf : Nat) : Int), vi fr, vj 0, .ref bt, .ref wz, .ref lw, .ref hg, vi ((ls : Nat) : Int), vi lp, vi ((hs : Nat) : Int), vi hq], ai cI dg 800 d, ai cI rw 1200 h, ai cI bt 1100 b]) (by decide) rfl ?_
        refine qv_zret (b := true) C hR ?_ dq_Mod_finds_496 (by decide) (by decide)
        rcases hF with hF | ⟨hF1, -⟩
        · exact ⟨0, h, b, cf, Or.inr (Or.inr (Or.inr ⟨hn1, hp1, hp2, fin_zero hsv hcf2 hF.2.2⟩)), hh, hb, Or.inl ⟨by omega, rfl, rfl⟩⟩
        · exfalso; omega
    · skip
      refine qv_iconst C dq_Mod_finds_482 ?_
      refine qv_goto C (tgt := 487) (by decide) dq_Mod_finds_483 ?_
      refine qv_ior C (r := b2 (more || true)) (zi_or_b2 more true) dq_Mod_finds_487 ?_
      refine qv_istore C (lv' := [(7, vi (b2 (more || true))), (0, .ref y), (3, vj ((m : Nat) : Int)), (5, vi ((got : Nat) : Int)), (6, vi p)]) (by decide) rfl dq_Mod_finds_488 ?_
      refine qv_iload C rfl dq_Mod_finds_490 ?_
      refine qv_ifne C (by omega) (tgt := 497) (by decide) dq_Mod_finds_492 (fun h492 => ?_) (fun h492 => ?_)
      · skip
        refine qv_aload_n C rfl dq_Mod_finds_497 ?_
        refine qv_lload_n C rfl dq_Mod_finds_498 ?_
        refine qv_iload C rfl dq_Mod_finds_499 ?_
        refine qv_iload C rfl dq_Mod_finds_501 ?_
        refine qv_iload C rfl dq_Mod_finds_503 ?_
        have hgt : (got = 54 ∧ 9007199254740992 ≤ m ∧ m < 18014398509481984 ∧ -1075 ≤ p ∧ p ≤ 1000) ∨ (got ≤ 53 ∧ m < 9007199254740992 ∧ p = -1075) := by
          rcases hF with hF | ⟨hF1, hF2, hF3, hF4, -⟩ <;> omega
        refine qc_vI (wr := [ai cI dg 800 d, ai cI bt 1100 b, ai cI rw 1200 h]) (st := []) C cl_Mod_104 cd_Mod_put (c_Mod_put cI cJ y dg rw bt wz lw hg er mi nd pl zr bh cf fr 0 ls lp hs hq m got p (more || true) hgt) (Xok_t K) Xbl_t [2] [0, 1, 3] rfl rfl (by decide) (by decide) (by decide) 0 rfl rfl rfl rfl rfl (Nat.le_of_ble_eq_true rfl) (by decide) (by decide) dq_Mod_finds_505 (fun z u hu => ?_)
        obtain ⟨up, hup, hcase⟩ := hu
        have eme := b2_f h479
        have hNs : Ns (sv 1200 d nd pl) ((p + 1075).toNat * 4503599627370496 + m / 2 + (if up = true then 1 else 0)) := by
          rcases hF with hF | ⟨hF1, hF2, hF3, hF4, F, a, b2', hF5, hF6, hF7, hF8⟩
          · exfalso; omega
          · refine fin_near hsv hcf2 hF6 hF7 hF8 hF3 hF4 (by omega) (by omega) ?_
            have hfr : dv 10 h cf ≠ 0 := (fun q => by rw [hez.mpr q] at eme; cases eme)
            rw [hup, hF5]
            rw [Bool.or_true]
            constructor
            · rintro ⟨x, y⟩
              exact ⟨x, Or.inl (Or.inr hfr)⟩
            · rintro ⟨x, y⟩
              exact ⟨x, Or.inl rfl⟩
        rcases hcase with ⟨hlt, rfl, rfl⟩ | ⟨hge, rfl, rfl⟩
        · refine qv_ws [3, 0, 2, 1] (ws' := [oc y 4 [vi er, vi (b2 mi), .ref dg, vi ((nd : Nat) : Int), vi pl, vi ((zr : Nat) : Int), vi bh, .ref rw, vi ((cf : Nat) : Int), vi fr, vj ((((p + 1075).toNat * 4503599627370496 + m / 2 + (if up = true then 1 else 0)) : Nat) : Int), .ref bt, .ref wz, .ref lw, .ref hg, vi ((ls : Nat) : Int), vi lp, vi ((hs : Nat) : Int), vi hq], ai cI dg 800 d, ai cI rw 1200 h, ai cI bt 1100 b]) (by decide) rfl ?_
          refine qv_zret (b := true) C hR ?_ dq_Mod_finds_508 (by decide) (by decide)
          exact ⟨_, h, b, cf, Or.inr (Or.inr (Or.inr ⟨hn1, hp1, hp2, hNs⟩)), hh, hb, Or.inl ⟨hlt, rfl, rfl⟩⟩
        · refine qv_ws [3, 0, 2, 1] (ws' := [oc y 4 [vi er, vi (b2 mi), .ref dg, vi ((nd : Nat) : Int), vi pl, vi ((zr : Nat) : Int), vi bh, .ref rw, vi ((cf : Nat) : Int), vi fr, vj 0, .ref bt, .ref wz, .ref lw, .ref hg, vi ((ls : Nat) : Int), vi lp, vi ((hs : Nat) : Int), vi hq], ai cI dg 800 d, ai cI rw 1200 h, ai cI bt 1100 b]) (by decide) rfl ?_
          refine qv_zret (b := false) C hR ?_ dq_Mod_finds_508 (by decide) (by decide)
          have hrI : (p + 1075).toNat * 4503599627370496 + m / 2 + (if up = true then 1 else 0) = INF := by
            rcases hNs with q | q
            · omega
            · exact q.1
          rw [hrI] at hNs
          exact ⟨INF, h, b, cf, Or.inr (Or.inr (Or.inr ⟨hn1, hp1, hp2, hNs⟩)), hh, hb, Or.inr ⟨rfl, rfl, rfl⟩⟩
      · skip
        refine qv_iconst C dq_Mod_finds_495 ?_
        refine qv_ws [2, 0, 3, 1] (ws' := [oc y 4 [vi er, vi (b2 mi), .ref dg, vi ((nd : Nat) : Int), vi pl, vi ((zr : Nat) : Int), vi bh, .ref rw, vi ((cf : Nat) : Int), vi fr, vj 0, .ref bt, .ref wz, .ref lw, .ref hg, vi ((ls : Nat) : Int), vi lp, vi ((hs : Nat) : Int), vi hq], ai cI dg 800 d, ai cI rw 1200 h, ai cI bt 1100 b]) (by decide) rfl ?_
        refine qv_zret (b := true) C hR ?_ dq_Mod_finds_496 (by decide) (by decide)
        rcases hF with hF | ⟨hF1, -⟩
        · exact ⟨0, h, b, cf, Or.inr (Or.inr (Or.inr ⟨hn1, hp1, hp2, fin_zero hsv hcf2 hF.2.2⟩)), hh, hb, Or.inl ⟨by omega, rfl, rfl⟩⟩
        · exfalso; omega
  have secG : 0 < nd → -330 ≤ pl → pl ≤ 310 → ∀ (more : Bool) (b : Nat → Nat), more = false → (∀ i, b i < 2) → ∀ n j (m got : Nat) (p : Int) (h : Nat → Nat), j + n = 1075 → GL Gn cf j m got p h → V K 13 [oc y 4 [vi er, vi (b2 mi), .ref dg, vi ((nd : Nat) : Int), vi pl, vi ((zr : Nat) : Int), vi bh, .ref rw, vi ((cf : Nat) : Int), vi fr, vj 0, .ref bt, .ref wz, .ref lw, .ref hg, vi ((ls : Nat) : Int), vi lp, vi ((hs : Nat) : Int), vi hq], ai cI dg 800 d, ai cI rw 1200 h, ai cI bt 1100 b] 0 0 364 [(0, .ref y), (3, vj ((m : Nat) : Int)), (5, vi ((got : Nat) : Int)), (6, vi p), (7, vi (b2 more)), (9, vi (-1 - ((j : Nat) : Int)))] [] := by
    intro hn1 hp1 hp2 more b hmo hb n
    have hcf2 : cf ≤ 1200 := by omega
    induction n with
    | zero =>
      intro j m got p h hj hL
      obtain ⟨l1, l2, l3, l4, l5, l6⟩ := id hL
      have hm54 : m < 18014398509481984 := Nat.lt_of_lt_of_le l3 (Nat.le_trans (Nat.pow_le_pow_right (by omega) l5) (by decide))
      refine qv_iload C rfl dq_Mod_finds_364 ?_
      refine qv_sipush C (by decide) dq_Mod_finds_366 ?_
      refine qv_iclt C (by omega) (by omega) (tgt := 468) (by decide) dq_Mod_finds_369 (fun h369 => ?_) (fun h369 => ?_)
      · skip
        refine qv_lv [0, 1, 2, 3, 4] (lv' := [(0, .ref y), (3, vj ((m : Nat) : Int)), (5, vi ((got : Nat) : Int)), (6, vi p), (7, vi (b2 more))]) rfl ?_
        exact secH hn1 hp1 hp2 m got p more h b l1 hb (by rw [hmo]; exact GL_FH hL (Or.inl (by omega))) hm54 l5
      · exfalso; omega
    | succ n ih =>
      intro j m got p h hj hL
      obtain ⟨l1, l2, l3, l4, l5, l6⟩ := id hL
      have hm54 : m < 18014398509481984 := Nat.lt_of_lt_of_le l3 (Nat.le_trans (Nat.pow_le_pow_right (by omega) l5) (by decide))
      have inner : got < 54 → ∀ k (h2 : Nat → Nat) (c : Nat), TI h h2 cf k c → V K 13 [oc y 4 [vi er, vi (b2 mi), .ref dg, vi ((nd : Nat) : Int), vi pl, vi ((zr : Nat) : Int), vi bh, .ref rw, vi ((cf : Nat) : Int), vi fr, vj 0, .ref bt, .ref wz, .ref lw, .ref hg, vi ((ls : Nat) : Int), vi lp, vi ((hs : Nat) : Int), vi hq], ai cI dg 800 d, ai cI rw 1200 h2, ai cI bt 1100 b] 0 0 390 [(0, .ref y), (3, vj ((m : Nat) : Int)), (5, vi ((got : Nat) : Int)), (6, vi p), (7, vi (b2 more)), (9, vi (-1 - ((j : Nat) : Int))), (10, vi ((c : Nat) : Int)), (11, vi (((k : Nat) : Int) - 1))] [] := by
        intro hgl k
        induction k with
        | zero =>
          intro h2 c hT
          have hc2 := hT.2.2.2.1
          refine qv_iload C rfl dq_Mod_finds_390 ?_
          refine qv_iflt C (by omega) (tgt := 434) (by decide) dq_Mod_finds_392 (fun h392 => ?_) (fun h392 => ?_)
          · skip
            refine qv_iload C rfl dq_Mod_finds_434 ?_
            refine qv_ifne C (by omega) (tgt := 447) (by decide) dq_Mod_finds_436 (fun h436 => ?_) (fun h436 => ?_)
            · skip
              refine qv_lload_n C rfl dq_Mod_finds_447 ?_
              refine qv_iconst C dq_Mod_finds_448 ?_
              refine qv_lshl C m 1 (by omega) (by omega) (by omega) dq_Mod_finds_449 ?_
              refine qv_iload C rfl dq_Mod_finds_450 ?_
              refine qv_i2l C (by omega) dq_Mod_finds_452 ?_
              refine qv_lor C (r := (((m * 2 ^ 1 + c) : Nat) : Int)) (zj_or (k := 1) (by omega) (by omega)) dq_Mod_finds_453 ?_
              refine qv_lstore_n C (lv' := [(3, vj (((m * 2 ^ 1 + c) : Nat) : Int)), (0, .ref y), (5, vi ((got : Nat) : Int)), (6, vi p), (7, vi (b2 more)), (9, vi (-1 - ((j : Nat) : Int))), (10, vi ((c : Nat) : Int)), (11, vi (((0 : Nat) : Int) - 1))]) (by decide) rfl dq_Mod_finds_454 ?_
              refine qv_iinc C (j := 2) (lv' := [(5, vi (((got + 1) : Nat) : Int)), (3, vj (((m * 2 ^ 1 + c) : Nat) : Int)), (0, .ref y), (6, vi p), (7, vi (b2 more)), (9, vi (-1 - ((j : Nat) : Int))), (10, vi ((c : Nat) : Int)), (11, vi (((0 : Nat) : Int) - 1))]) (by omega) rfl (by decide) rfl dq_Mod_finds_455 ?_
              refine qv_iload C rfl dq_Mod_finds_458 ?_
              refine qv_istore C (lv' := [(6, vi (-1 - ((j : Nat) : Int))), (5, vi (((got + 1) : Nat) : Int)), (3, vj (((m * 2 ^ 1 + c) : Nat) : Int)), (0, .ref y), (7, vi (b2 more)), (9, vi (-1 - ((j : Nat) : Int))), (10, vi ((c : Nat) : Int)), (11, vi (((0 : Nat) : Int) - 1))]) (by decide) rfl dq_Mod_finds_460 ?_
              refine qv_iinc C (j := 5) (lv' := [(9, vi (-1 - (((j + 1) : Nat) : Int))), (6, vi (-1 - ((j : Nat) : Int))), (5, vi (((got + 1) : Nat) : Int)), (3, vj (((m * 2 ^ 1 + c) : Nat) : Int)), (0, .ref y), (7, vi (b2 more)), (10, vi ((c : Nat) : Int)), (11, vi (((0 : Nat) : Int) - 1))]) (by omega) rfl (by decide) rfl dq_Mod_finds_462 ?_
              refine qv_goto C (tgt := 364) (by decide) dq_Mod_finds_465 ?_
              refine qv_lv [4, 3, 2, 1, 5, 0] (lv' := [(0, .ref y), (3, vj (((m * 2 ^ 1 + c) : Nat) : Int)), (5, vi (((got + 1) : Nat) : Int)), (6, vi (-1 - ((j : Nat) : Int))), (7, vi (b2 more)), (9, vi (-1 - (((j + 1) : Nat) : Int)))]) rfl ?_
              exact ih (j + 1) _ (got + 1) (-1 - (j : Int)) h2 (by omega) (GL_s hL hT hgl (by omega))
            · skip
              refine qv_iload C rfl dq_Mod_finds_439 ?_
              refine qv_ifne C (by omega) (tgt := 447) (by decide) dq_Mod_finds_441 (fun h441 => ?_) (fun h441 => ?_)
              · skip
                refine qv_lload_n C rfl dq_Mod_finds_447 ?_
                refine qv_iconst C dq_Mod_finds_448 ?_
                refine qv_lshl C m 1 (by omega) (by omega) (by omega) dq_Mod_finds_449 ?_
                refine qv_iload C rfl dq_Mod_finds_450 ?_
                refine qv_i2l C (by omega) dq_Mod_finds_452 ?_
                refine qv_lor C (r := (((m * 2 ^ 1 + c) : Nat) : Int)) (zj_or (k := 1) (by omega) (by omega)) dq_Mod_finds_453 ?_
                refine qv_lstore_n C (lv' := [(3, vj (((m * 2 ^ 1 + c) : Nat) : Int)), (0, .ref y), (5, vi ((got : Nat) : Int)), (6, vi p), (7, vi (b2 more)), (9, vi (-1 - ((j : Nat) : Int))), (10, vi ((c : Nat) : Int)), (11, vi (((0 : Nat) : Int) - 1))]) (by decide) rfl dq_Mod_finds_454 ?_
                refine qv_iinc C (j := 2) (lv' := [(5, vi (((got + 1) : Nat) : Int)), (3, vj (((m * 2 ^ 1 + c) : Nat) : Int)), (0, .ref y), (6, vi p), (7, vi (b2 more)), (9, vi (-1 - ((j : Nat) : Int))), (10, vi ((c : Nat) : Int)), (11, vi (((0 : Nat) : Int) - 1))]) (by omega) rfl (by decide) rfl dq_Mod_finds_455 ?_
                refine qv_iload C rfl dq_Mod_finds_458 ?_
                refine qv_istore C (lv' := [(6, vi (-1 - ((j : Nat) : Int))), (5, vi (((got + 1) : Nat) : Int)), (3, vj (((m * 2 ^ 1 + c) : Nat) : Int)), (0, .ref y), (7, vi (b2 more)), (9, vi (-1 - ((j : Nat) : Int))), (10, vi ((c : Nat) : Int)), (11, vi (((0 : Nat) : Int) - 1))]) (by decide) rfl dq_Mod_finds_460 ?_
                refine qv_iinc C (j := 5) (lv' := [(9, vi (-1 - (((j + 1) : Nat) : Int))), (6, vi (-1 - ((j : Nat) : Int))), (5, vi (((got + 1) : Nat) : Int)), (3, vj (((m * 2 ^ 1 + c) : Nat) : Int)), (0, .ref y), (7, vi (b2 more)), (10, vi ((c : Nat) : Int)), (11, vi (((0 : Nat) : Int) - 1))]) (by omega) rfl (by decide) rfl dq_Mod_finds_462 ?_
                refine qv_goto C (tgt := 364) (by decide) dq_Mod_finds_465 ?_
                refine qv_lv [4, 3, 2, 1, 5, 0] (lv' := [(0, .ref y), (3, vj (((m * 2 ^ 1 + c) : Nat) : Int)), (5, vi (((got + 1) : Nat) : Int)), (6, vi (-1 - ((j : Nat) : Int))), (7, vi (b2 more)), (9, vi (-1 - (((j + 1) : Nat) : Int)))]) rfl ?_
                exact ih (j + 1) _ (got + 1) (-1 - (j : Int)) h2 (by omega) (GL_s hL hT hgl (by omega))
              · skip
                refine qv_goto C (tgt := 462) (by decide) dq_Mod_finds_444 ?_
                refine qv_iinc C (j := 5) (lv' := [(9, vi (-1 - (((j + 1) : Nat) : Int))), (0, .ref y), (3, vj ((m : Nat) : Int)), (5, vi ((got : Nat) : Int)), (6, vi p), (7, vi (b2 more)), (10, vi ((c : Nat) : Int)), (11, vi (((0 : Nat) : Int) - 1))]) (by omega) rfl (by decide) rfl dq_Mod_finds_462 ?_
                refine qv_goto C (tgt := 364) (by decide) dq_Mod_finds_465 ?_
                refine qv_lv [1, 2, 3, 4, 5, 0] (lv' := [(0, .ref y), (3, vj ((m : Nat) : Int)), (5, vi ((got : Nat) : Int)), (6, vi p), (7, vi (b2 more)), (9, vi (-1 - (((j + 1) : Nat) : Int)))]) rfl ?_
                have eg : got = 0 := by omega
                have ec : c = 0 := by omega
                subst eg ec
                exact ih (j + 1) m 0 p h2 (by omega) (GL_z hL hT)
          · exfalso; omega
        | succ k ihk =>
          intro h2 c hT
          have hc2 := hT.2.2.2.1
          have hkc := hT.2.2.1
          have h9 := hT.1 k
          have et : (((k + 1 : Nat) : Int) - 1) = ((k : Nat) : Int) := by omega
          rw [et]
          refine qv_iload C rfl dq_Mod_finds_390 ?_
          refine qv_iflt C (by omega) (tgt := 434) (by decide) dq_Mod_finds_392 (fun h392 => ?_) (fun h392 => ?_)
          · exfalso; omega
          · skip
            refine qv_iconst C dq_Mod_finds_395 ?_
            refine qv_aload_n C rfl dq_Mod_finds_396 ?_
            refine qv_get C fl_Mod_13 0 rfl rfl dq_Mod_finds_397 ?_
            refine qv_iload C rfl dq_Mod_finds_400 ?_
            refine qv_iald C 2 k rfl (by omega) (by omega) (by omega) dq_Mod_finds_402 ?_
            refine qv_imul C (r := (((2 * h2 k) : Nat) : Int)) (by omega) dq_Mod_finds_403 ?_
            refine qv_iload C rfl dq_Mod_finds_404 ?_
            refine qv_iadd C (r := (((2 * h2 k + c) : Nat) : Int)) (by omega) dq_Mod_finds_406 ?_
            refine qv_istore C (lv' := [(12, vi (((2 * h2 k + c) : Nat) : Int)), (0, .ref y), (3, vj ((m : Nat) : Int)), (5, vi ((got : Nat) : Int)), (6, vi p), (7, vi (b2 more)), (9, vi (-1 - ((j : Nat) : Int))), (10, vi ((c : Nat) : Int)), (11, vi ((k : Nat) : Int))]) (by decide) rfl dq_Mod_finds_407 ?_
            refine qv_aload_n C rfl dq_Mod_finds_409 ?_
            refine qv_get C fl_Mod_13 0 rfl rfl dq_Mod_finds_410 ?_
            refine qv_iload C rfl dq_Mod_finds_413 ?_
            refine qv_iload C rfl dq_Mod_finds_415 ?_
            refine qv_bipush C (by decide) dq_Mod_finds_417 ?_
            refine qv_irem C (r := ((((2 * h2 k + c) % 10) : Nat) : Int)) (by omega) (by omega) (by omega) (by omega) (by omega) dq_Mod_finds_419 ?_
            refine qv_iast C (ws' := [oc y 4 [vi er, vi (b2 mi), .ref dg, vi ((nd : Nat) : Int), vi pl, vi ((zr : Nat) : Int), vi bh, .ref rw, vi ((cf : Nat) : Int), vi fr, vj 0, .ref bt, .ref wz, .ref lw, .ref hg, vi ((ls : Nat) : Int), vi lp, vi ((hs : Nat) : Int), vi hq], ai cI dg 800 d, ai cI rw 1200 (un h2 k ((2 * h2 k + c) % 10)), ai cI bt 1100 b]) 2 k ((2 * h2 k + c) % 10) rfl (by omega) (by omega) (by omega) (by omega) rfl dq_Mod_finds_420 ?_
            refine qv_iload C rfl dq_Mod_finds_421 ?_
            refine qv_bipush C (by decide) dq_Mod_finds_423 ?_
            refine qv_idiv C (r := ((((2 * h2 k + c) / 10) : Nat) : Int)) (by omega) (by omega) (by omega) (by omega) (by omega) dq_Mod_finds_425 ?_
            refine qv_istore C (lv' := [(10, vi ((((2 * h2 k + c) / 10) : Nat) : Int)), (12, vi (((2 * h2 k + c) : Nat) : Int)), (0, .ref y), (3, vj ((m : Nat) : Int)), (5, vi ((got : Nat) : Int)), (6, vi p), (7, vi (b2 more)), (9, vi (-1 - ((j : Nat) : Int))), (11, vi ((k : Nat) : Int))]) (by decide) rfl dq_Mod_finds_426 ?_
            refine qv_iinc C (j := 8) (lv' := [(11, vi (((k : Nat) : Int) - 1)), (10, vi ((((2 * h2 k + c) / 10) : Nat) : Int)), (12, vi (((2 * h2 k + c) : Nat) : Int)), (0, .ref y), (3, vj ((m : Nat) : Int)), (5, vi ((got : Nat) : Int)), (6, vi p), (7, vi (b2 more)), (9, vi (-1 - ((j : Nat) : Int)))]) (by omega) rfl (by decide) rfl dq_Mod_finds_428 ?_
            refine qv_goto C (tgt := 390) (by decide) dq_Mod_finds_431 ?_
            refine qv_lv [3, 4, 5, 6, 7, 8, 1, 0] (lv' := [(0, .ref y), (3, vj ((m : Nat) : Int)), (5, vi ((got : Nat) : Int)), (6, vi p), (7, vi (b2 more)), (9, vi (-1 - ((j : Nat) : Int))), (10, vi ((((2 * h2 k + c) / 10) : Nat) : Int)), (11, vi (((k : Nat) : Int) - 1))]) rfl ?_
            exact ihk _ _ (TI_s hT)
      refine qv_iload C rfl dq_Mod_finds_364 ?_
      refine qv_sipush C (by decide) dq_Mod_finds_366 ?_
      refine qv_iclt C (by omega) (by omega) (tgt := 468) (by decide) dq_Mod_finds_369 (fun h369 => ?_) (fun h369 => ?_)
      · exfalso; omega
      · skip
        refine qv_iload C rfl dq_Mod_finds_372 ?_
        refine qv_bipush C (by decide) dq_Mod_finds_374 ?_
        refine qv_icge C (by omega) (by omega) (tgt := 468) (by decide) dq_Mod_finds_376 (fun h376 => ?_) (fun h376 => ?_)
        · skip
          refine qv_lv [0, 1, 2, 3, 4] (lv' := [(0, .ref y), (3, vj ((m : Nat) : Int)), (5, vi ((got : Nat) : Int)), (6, vi p), (7, vi (b2 more))]) rfl ?_
          exact secH hn1 hp1 hp2 m got p more h b l1 hb (by rw [hmo]; exact GL_FH hL (Or.inr (by omega))) hm54 l5
        · skip
          refine qv_iconst C dq_Mod_finds_379 ?_
          refine qv_istore C (lv' := [(10, vi 0), (0, .ref y), (3, vj ((m : Nat) : Int)), (5, vi ((got : Nat) : Int)), (6, vi p), (7, vi (b2 more)), (9, vi (-1 - ((j : Nat) : Int)))]) (by decide) rfl dq_Mod_finds_380 ?_
          refine qv_aload_n C rfl dq_Mod_finds_382 ?_
          refine qv_get C fl_Mod_40 0 rfl rfl dq_Mod_finds_383 ?_
          refine qv_iconst C dq_Mod_finds_386 ?_
          refine qv_isub C (r := (((cf : Nat) : Int) - 1)) rfl dq_Mod_finds_387 ?_
          refine qv_istore C (lv' := [(11, vi (((cf : Nat) : Int) - 1)), (10, vi 0), (0, .ref y), (3, vj ((m : Nat) : Int)), (5, vi ((got : Nat) : Int)), (6, vi p), (7, vi (b2 more)), (9, vi (-1 - ((j : Nat) : Int)))]) (by decide) rfl dq_Mod_finds_388 ?_
          refine qv_lv [2, 3, 4, 5, 6, 7, 1, 0] (lv' := [(0, .ref y), (3, vj ((m : Nat) : Int)), (5, vi ((got : Nat) : Int)), (6, vi p), (7, vi (b2 more)), (9, vi (-1 - ((j : Nat) : Int))), (10, vi 0), (11, vi (((cf : Nat) : Int) - 1))]) rfl ?_
          exact inner (by omega) cf h 0 (TI_0 l1)
  have secF : -330 ≤ pl → pl ≤ 310 → ∀ (m got : Nat) (p : Int) (more : Bool) (b g : Nat → Nat), (∀ i, g i ≤ 9) → (∀ h : Nat → Nat, (∀ i, h i ≤ 9) → dv 10 h cf = Fr0 → V K 13 [oc y 4 [vi er, vi (b2 mi), .ref dg, vi ((nd : Nat) : Int), vi pl, vi ((zr : Nat) : Int), vi bh, .ref rw, vi ((cf : Nat) : Int), vi fr, vj 0, .ref bt, .ref wz, .ref lw, .ref hg, vi ((ls : Nat) : Int), vi lp, vi ((hs : Nat) : Int), vi hq], ai cI dg 800 d, ai cI rw 1200 h, ai cI bt 1100 b] 0 0 364 [(0, .ref y), (3, vj ((m : Nat) : Int)), (5, vi ((got : Nat) : Int)), (6, vi p), (7, vi (b2 more)), (9, vi (-1 - ((0 : Nat) : Int)))] []) → V K 13 [oc y 4 [vi er, vi (b2 mi), .ref dg, vi ((nd : Nat) : Int), vi pl, vi ((zr : Nat) : Int), vi bh, .ref rw, vi ((w : Nat) : Int), vi fr, vj 0, .ref bt, .ref wz, .ref lw, .ref hg, vi ((ls : Nat) : Int), vi lp, vi ((hs : Nat) : Int), vi hq], ai cI dg 800 d, ai cI rw 1200 g, ai cI bt 1100 b] 0 0 284 [(0, .ref y), (1, vi ((nd : Nat) : Int)), (2, vi ((w : Nat) : Int)), (3, vj ((m : Nat) : Int)), (5, vi ((got : Nat) : Int)), (6, vi p), (7, vi (b2 more))] [] := by
    intro hp1 hp2 m got p more b g hg9 hfin
    have lp2 : ∀ n i, i + n = nd - w → V K 13 [oc y 4 [vi er, vi (b2 mi), .ref dg, vi ((nd : Nat) : Int), vi pl, vi ((zr : Nat) : Int), vi bh, .ref rw, vi (((zc + i) : Nat) : Int), vi fr, vj 0, .ref bt, .ref wz, .ref lw, .ref hg, vi ((ls : Nat) : Int), vi lp, vi ((hs : Nat) : Int), vi hq], ai cI dg 800 d, ai cI rw 1200 (cpd g (Fq d zc w) (zc + i)), ai cI bt 1100 b] 0 0 326 [(0, .ref y), (1, vi ((nd : Nat) : Int)), (2, vi ((w : Nat) : Int)), (3, vj ((m : Nat) : Int)), (5, vi ((got : Nat) : Int)), (6, vi p), (7, vi (b2 more)), (9, vi (((w + i) : Nat) : Int))] [] := by
      intro n
      induction n with
      | zero =>
        intro i hi
        refine qv_iload C rfl dq_Mod_finds_326 ?_
        refine qv_iload_n C rfl dq_Mod_finds_328 ?_
        refine qv_icge C (by omega) (by omega) (tgt := 361) (by decide) dq_Mod_finds_329 (fun h329 => ?_) (fun h329 => ?_)
        · skip
          refine qv_iconst C dq_Mod_finds_361 ?_
          refine qv_istore C (lv' := [(9, vi (-1)), (0, .ref y), (1, vi ((nd : Nat) : Int)), (2, vi ((w : Nat) : Int)), (3, vj ((m : Nat) : Int)), (5, vi ((got : Nat) : Int)), (6, vi p), (7, vi (b2 more))]) (by decide) rfl dq_Mod_finds_362 ?_
          refine qv_lv [1, 4, 5, 6, 7, 0] (lv' := [(0, .ref y), (3, vj ((m : Nat) : Int)), (5, vi ((got : Nat) : Int)), (6, vi p), (7, vi (b2 more)), (9, vi (-1))]) rfl ?_
          have ei : zc + i = cf := by omega
          rw [ei]
          have h0 := hfin (cpd g (Fq d zc w) cf) (cpd_9 hg9 (Fq_9 hd zc w) cf) (by rw [hFr0]; exact dv_cg (fun k hk => cpd_lt hk))
          rw [show (-1 - ((0 : Nat) : Int)) = -1 by omega] at h0
          exact h0
        · exfalso; omega
      | succ n ih =>
        intro i hi
        refine qv_iload C rfl dq_Mod_finds_326 ?_
        refine qv_iload_n C rfl dq_Mod_finds_328 ?_
        refine qv_icge C (by omega) (by omega) (tgt := 361) (by decide) dq_Mod_finds_329 (fun h329 => ?_) (fun h329 => ?_)
        · exfalso; omega
        · skip
          refine qv_aload_n C rfl dq_Mod_finds_332 ?_
          refine qv_get C fl_Mod_13 0 rfl rfl dq_Mod_finds_333 ?_
          refine qv_aload_n C rfl dq_Mod_finds_336 ?_
          refine qv_dup C rfl dq_Mod_finds_337 ?_
          refine qv_get C fl_Mod_40 0 rfl rfl dq_Mod_finds_338 ?_
          refine qv_dup_x1 C rfl rfl dq_Mod_finds_341 ?_
          refine qv_iconst C dq_Mod_finds_342 ?_
          refine qv_iadd C (r := (((zc + (i + 1)) : Nat) : Int)) (by omega) dq_Mod_finds_343 ?_
          refine qv_put C (ws' := [oc y 4 [vi er, vi (b2 mi), .ref dg, vi ((nd : Nat) : Int), vi pl, vi ((zr : Nat) : Int), vi bh, .ref rw, vi (((zc + (i + 1)) : Nat) : Int), vi fr, vj 0, .ref bt, .ref wz, .ref lw, .ref hg, vi ((ls : Nat) : Int), vi lp, vi ((hs : Nat) : Int), vi hq], ai cI dg 800 d, ai cI rw 1200 (cpd g (Fq d zc w) (zc + i)), ai cI bt 1100 b]) fl_Mod_40 fs_4_8 0 rfl rfl rfl (Nat.le_of_ble_eq_true rfl) rfl dq_Mod_finds_344 ?_
          refine qv_aload_n C rfl dq_Mod_finds_347 ?_
          refine qv_get C fl_Mod_9 0 rfl rfl dq_Mod_finds_348 ?_
          refine qv_iload C rfl dq_Mod_finds_351 ?_
          refine qv_iald C 1 (w + i) rfl (by omega) (by omega) (by omega) dq_Mod_finds_353 ?_
          refine qv_iast C (ws' := [oc y 4 [vi er, vi (b2 mi), .ref dg, vi ((nd : Nat) : Int), vi pl, vi ((zr : Nat) : Int), vi bh, .ref rw, vi (((zc + (i + 1)) : Nat) : Int), vi fr, vj 0, .ref bt, .ref wz, .ref lw, .ref hg, vi ((ls : Nat) : Int), vi lp, vi ((hs : Nat) : Int), vi hq], ai cI dg 800 d, ai cI rw 1200 (un (cpd g (Fq d zc w) (zc + i)) (zc + i) (d (w + i))), ai cI bt 1100 b]) 2 (zc + i) (d (w + i)) rfl (by omega) (by omega) (by omega) (by omega) rfl dq_Mod_finds_354 ?_
          refine qv_iinc C (j := 7) (lv' := [(9, vi (((w + (i + 1)) : Nat) : Int)), (0, .ref y), (1, vi ((nd : Nat) : Int)), (2, vi ((w : Nat) : Int)), (3, vj ((m : Nat) : Int)), (5, vi ((got : Nat) : Int)), (6, vi p), (7, vi (b2 more))]) (by omega) rfl (by decide) rfl dq_Mod_finds_355 ?_
          refine qv_goto C (tgt := 326) (by decide) dq_Mod_finds_358 ?_
          refine qv_lv [1, 2, 3, 4, 5, 6, 7, 0] (lv' := [(0, .ref y), (1, vi ((nd : Nat) : Int)), (2, vi ((w : Nat) : Int)), (3, vj ((m : Nat) : Int)), (5, vi ((got : Nat) : Int)), (6, vi p), (7, vi (b2 more)), (9, vi (((w + (i + 1)) : Nat) : Int))]) rfl ?_
          have eq : d (w + i) = Fq d zc w (zc + i) := by unfold Fq; rw [if_neg (by omega)]; congr 2; omega
          rw [eq, cpd_s]
          exact ih (i + 1) (by omega)
    have lp1 : ∀ n i, i + n = zc → V K 13 [oc y 4 [vi er, vi (b2 mi), .ref dg, vi ((nd : Nat) : Int), vi pl, vi ((zr : Nat) : Int), vi bh, .ref rw, vi ((i : Nat) : Int), vi fr, vj 0, .ref bt, .ref wz, .ref lw, .ref hg, vi ((ls : Nat) : Int), vi lp, vi ((hs : Nat) : Int), vi hq], ai cI dg 800 d, ai cI rw 1200 (cpd g (Fq d zc w) i), ai cI bt 1100 b] 0 0 295 [(0, .ref y), (1, vi ((nd : Nat) : Int)), (2, vi ((w : Nat) : Int)), (3, vj ((m : Nat) : Int)), (5, vi ((got : Nat) : Int)), (6, vi p), (7, vi (b2 more)), (9, vi (pl + ((i : Nat) : Int)))] [] := by
      intro n
      induction n with
      | zero =>
        intro i hi
        have ei : i = zc := by omega
        subst ei
        refine qv_iload C rfl dq_Mod_finds_295 ?_
        refine qv_ifge C (by omega) (tgt := 323) (by decide) dq_Mod_finds_297 (fun h297 => ?_) (fun h297 => ?_)
        · skip
          refine qv_iload_n C rfl dq_Mod_finds_323 ?_
          refine qv_istore C (lv' := [(9, vi ((w : Nat) : Int)), (0, .ref y), (1, vi ((nd : Nat) : Int)), (2, vi ((w : Nat) : Int)), (3, vj ((m : Nat) : Int)), (5, vi ((got : Nat) : Int)), (6, vi p), (7, vi (b2 more))]) (by decide) rfl dq_Mod_finds_324 ?_
          refine qv_lv [1, 2, 3, 4, 5, 6, 7, 0] (lv' := [(0, .ref y), (1, vi ((nd : Nat) : Int)), (2, vi ((w : Nat) : Int)), (3, vj ((m : Nat) : Int)), (5, vi ((got : Nat) : Int)), (6, vi p), (7, vi (b2 more)), (9, vi ((w : Nat) : Int))]) rfl ?_
          exact lp2 (nd - w) 0 (by omega)
        · exfalso; omega
      | succ n ih =>
        intro i hi
        refine qv_iload C rfl dq_Mod_finds_295 ?_
        refine qv_ifge C (by omega) (tgt := 323) (by decide) dq_Mod_finds_297 (fun h297 => ?_) (fun h297 => ?_)
        · exfalso; omega
        · skip
          refine qv_aload_n C rfl dq_Mod_finds_300 ?_
          refine qv_get C fl_Mod_13 0 rfl rfl dq_Mod_finds_301 ?_
          refine qv_aload_n C rfl dq_Mod_finds_304 ?_
          refine qv_dup C rfl dq_Mod_finds_305 ?_
          refine qv_get C fl_Mod_40 0 rfl rfl dq_Mod_finds_306 ?_
          refine qv_dup_x1 C rfl rfl dq_Mod_finds_309 ?_
          refine qv_iconst C dq_Mod_finds_310 ?_
          refine qv_iadd C (r := (((i + 1) : Nat) : Int)) (by omega) dq_Mod_finds_311 ?_
          refine qv_put C (ws' := [oc y 4 [vi er, vi (b2 mi), .ref dg, vi ((nd : Nat) : Int), vi pl, vi ((zr : Nat) : Int), vi bh, .ref rw, vi (((i + 1) : Nat) : Int), vi fr, vj 0, .ref bt, .ref wz, .ref lw, .ref hg, vi ((ls : Nat) : Int), vi lp, vi ((hs : Nat) : Int), vi hq], ai cI dg 800 d, ai cI rw 1200 (cpd g (Fq d zc w) i), ai cI bt 1100 b]) fl_Mod_40 fs_4_8 0 rfl rfl rfl (Nat.le_of_ble_eq_true rfl) rfl dq_Mod_finds_312 ?_
          refine qv_iconst C dq_Mod_finds_315 ?_
          refine qv_iast C (ws' := [oc y 4 [vi er, vi (b2 mi), .ref dg, vi ((nd : Nat) : Int), vi pl, vi ((zr : Nat) : Int), vi bh, .ref rw, vi (((i + 1) : Nat) : Int), vi fr, vj 0, .ref bt, .ref wz, .ref lw, .ref hg, vi ((ls : Nat) : Int), vi lp, vi ((hs : Nat) : Int), vi hq], ai cI dg 800 d, ai cI rw 1200 (un (cpd g (Fq d zc w) i) i 0), ai cI bt 1100 b]) 2 i 0 rfl (by omega) (by omega) (by omega) (by omega) rfl dq_Mod_finds_316 ?_
          refine qv_iinc C (j := 7) (lv' := [(9, vi (pl + (((i + 1) : Nat) : Int))), (0, .ref y), (1, vi ((nd : Nat) : Int)), (2, vi ((w : Nat) : Int)), (3, vj ((m : Nat) : Int)), (5, vi ((got : Nat) : Int)), (6, vi p), (7, vi (b2 more))]) (by omega) rfl (by decide) rfl dq_Mod_finds_317 ?_
          refine qv_goto C (tgt := 295) (by decide) dq_Mod_finds_320 ?_
          refine qv_lv [1, 2, 3, 4, 5, 6, 7, 0] (lv' := [(0, .ref y), (1, vi ((nd : Nat) : Int)), (2, vi ((w : Nat) : Int)), (3, vj ((m : Nat) : Int)), (5, vi ((got : Nat) : Int)), (6, vi p), (7, vi (b2 more)), (9, vi (pl + (((i + 1) : Nat) : Int)))]) rfl ?_
          have eq : un (cpd g (Fq d zc w) i) i 0 = un (cpd g (Fq d zc w) i) i (Fq d zc w i) := by
            have e1 : Fq d zc w i = 0 := by unfold Fq; rw [if_pos (by omega)]
            rw [e1]
          rw [eq, cpd_s]
          exact ih (i + 1) (by omega)
    refine qv_aload_n C rfl dq_Mod_finds_284 ?_
    refine qv_iconst C dq_Mod_finds_285 ?_
    refine qv_put C (ws' := [oc y 4 [vi er, vi (b2 mi), .ref dg, vi ((nd : Nat) : Int), vi pl, vi ((zr : Nat) : Int), vi bh, .ref rw, vi 0, vi fr, vj 0, .ref bt, .ref wz, .ref lw, .ref hg, vi ((ls : Nat) : Int), vi lp, vi ((hs : Nat) : Int), vi hq], ai cI dg 800 d, ai cI rw 1200 g, ai cI bt 1100 b]) fl_Mod_40 fs_4_8 0 rfl rfl rfl (Nat.le_of_ble_eq_true rfl) rfl dq_Mod_finds_286 ?_
    refine qv_aload_n C rfl dq_Mod_finds_289 ?_
    refine qv_get C fl_Mod_64 0 rfl rfl dq_Mod_finds_290 ?_
    refine qv_istore C (lv' := [(9, vi pl), (0, .ref y), (1, vi ((nd : Nat) : Int)), (2, vi ((w : Nat) : Int)), (3, vj ((m : Nat) : Int)), (5, vi ((got : Nat) : Int)), (6, vi p), (7, vi (b2 more))]) (by decide) rfl dq_Mod_finds_293 ?_
    refine qv_lv [1, 2, 3, 4, 5, 6, 7, 0] (lv' := [(0, .ref y), (1, vi ((nd : Nat) : Int)), (2, vi ((w : Nat) : Int)), (3, vj ((m : Nat) : Int)), (5, vi ((got : Nat) : Int)), (6, vi p), (7, vi (b2 more)), (9, vi pl)]) rfl ?_
    have l0 := lp1 zc 0 (by omega)
    rw [cpd_0, show (pl + ((0 : Nat) : Int)) = pl by omega] at l0
    exact l0
  have secE : 0 < nd → -330 ≤ pl → pl ≤ 310 → ∀ (c : Nat) (b g : Nat → Nat), c ≤ 1024 → (∀ i, b i < 2) → (∀ i, g i ≤ 9) → Bi X0 0 b c → ∀ t (m got : Nat) (p : Int) (more : Bool), t ≤ c → Ld X0 c t m got p more → V K 13 [oc y 4 [vi er, vi (b2 mi), .ref dg, vi ((nd : Nat) : Int), vi pl, vi ((zr : Nat) : Int), vi bh, .ref rw, vi ((w : Nat) : Int), vi fr, vj 0, .ref bt, .ref wz, .ref lw, .ref hg, vi ((ls : Nat) : Int), vi lp, vi ((hs : Nat) : Int), vi hq], ai cI dg 800 d, ai cI rw 1200 g, ai cI bt 1100 b] 0 0 223 [(0, .ref y), (1, vi ((nd : Nat) : Int)), (2, vi ((w : Nat) : Int)), (3, vj ((m : Nat) : Int)), (5, vi ((got : Nat) : Int)), (6, vi p), (7, vi (b2 more)), (9, vi (((t : Nat) : Int) - 1))] [] := by
    intro hn1 hp1 hp2 c b g hc hb hg9 hBi t
    obtain ⟨e1, e2, e3⟩ := Bi_e hBi
    have hLm : ∀ (k m got : Nat) (p : Int) (more : Bool), Ld X0 c k m got p more → m < 18014398509481984 ∧ got ≤ 54 := by
      intro k m got p more hL
      obtain ⟨a1, a2, -⟩ := hL
      refine ⟨?_, by omega⟩
      rw [a2, Nat.div_lt_iff_lt_mul (Nat.pow_pos (by omega))]
      refine Nat.lt_of_lt_of_le e2 ?_
      rw [show (18014398509481984 : Nat) = 2 ^ 54 by decide, ← Nat.pow_add]
      exact Nat.pow_le_pow_right (by omega) (by omega)
    induction t with
    | zero =>
      intro m got p more ht hL
      obtain ⟨hm54, hg54⟩ := hLm _ _ _ _ _ hL
      have hFr : Fr0 < 10 ^ cf := by rw [hFr0]; exact dv_lt (fun i _ => by have := Fq_9 hd zc w i; omega)
      have fin : (∀ h : Nat → Nat, (∀ i, h i ≤ 9) → dv 10 h cf = Fr0 → V K 13 [oc y 4 [vi er, vi (b2 mi), .ref dg, vi ((nd : Nat) : Int), vi pl, vi ((zr : Nat) : Int), vi bh, .ref rw, vi ((cf : Nat) : Int), vi fr, vj 0, .ref bt, .ref wz, .ref lw, .ref hg, vi ((ls : Nat) : Int), vi lp, vi ((hs : Nat) : Int), vi hq], ai cI dg 800 d, ai cI rw 1200 h, ai cI bt 1100 b] 0 0 364 [(0, .ref y), (3, vj ((m : Nat) : Int)), (5, vi ((got : Nat) : Int)), (6, vi p), (7, vi (b2 more)), (9, vi (-1 - ((0 : Nat) : Int)))] []) := by
        intro h hh hv
        by_cases h54 : 54 ≤ c
        · have hFH := Ld_FH (cf := cf) hL h54 hc e2 (e3 (by omega)) hFr
          rw [← hGn, ← hv] at hFH
          have hg4 : got = 54 := by have := hL.1; omega
          refine qv_iload C rfl dq_Mod_finds_364 ?_
          refine qv_sipush C (by decide) dq_Mod_finds_366 ?_
          refine qv_iclt C (by omega) (by omega) (tgt := 468) (by decide) dq_Mod_finds_369 (fun h369 => ?_) (fun h369 => ?_)
          · exfalso; omega
          · skip
            refine qv_iload C rfl dq_Mod_finds_372 ?_
            refine qv_bipush C (by decide) dq_Mod_finds_374 ?_
            refine qv_icge C (by omega) (by omega) (tgt := 468) (by decide) dq_Mod_finds_376 (fun h376 => ?_) (fun h376 => ?_)
            · skip
              refine qv_lv [0, 1, 2, 3, 4] (lv' := [(0, .ref y), (3, vj ((m : Nat) : Int)), (5, vi ((got : Nat) : Int)), (6, vi p), (7, vi (b2 more))]) rfl ?_
              exact secH hn1 hp1 hp2 m got p more h b hh hb hFH hm54 hg54
            · exfalso; omega
        · obtain ⟨hmf, hGL⟩ := Ld_GL (cf := cf) hL (by omega) e2 e3 hh hv
          rw [← hGn] at hGL
          exact secG hn1 hp1 hp2 more b hmf hb 1075 0 m got p h (by omega) hGL
      refine qv_iload C rfl dq_Mod_finds_223 ?_
      refine qv_iflt C (by omega) (tgt := 284) (by decide) dq_Mod_finds_225 (fun h225 => ?_) (fun h225 => ?_)
      · skip
        refine qv_lv [0, 1, 2, 3, 4, 5, 6] (lv' := [(0, .ref y), (1, vi ((nd : Nat) : Int)), (2, vi ((w : Nat) : Int)), (3, vj ((m : Nat) : Int)), (5, vi ((got : Nat) : Int)), (6, vi p), (7, vi (b2 more))]) rfl ?_
        exact secF hp1 hp2 m got p more b g hg9 fin
      · exfalso; omega
    | succ t ih =>
      intro m got p more ht hL
      obtain ⟨hm54, hg54⟩ := hLm _ _ _ _ _ hL
      have hbt := hb t
      have hbit : b t = X0 / 2 ^ t % 2 := by rw [e1]; exact bv_bit (fun i _ => hb i) (by omega)
      have et : (((t + 1 : Nat) : Int) - 1) = ((t : Nat) : Int) := by omega
      rw [et]
      refine qv_iload C rfl dq_Mod_finds_223 ?_
      refine qv_iflt C (by omega) (tgt := 284) (by decide) dq_Mod_finds_225 (fun h225 => ?_) (fun h225 => ?_)
      · exfalso; omega
      · skip
        refine qv_iload C rfl dq_Mod_finds_228 ?_
        refine qv_bipush C (by decide) dq_Mod_finds_230 ?_
        refine qv_icge C (by omega) (by omega) (tgt := 258) (by decide) dq_Mod_finds_232 (fun h232 => ?_) (fun h232 => ?_)
        · skip
          refine qv_iload C rfl dq_Mod_finds_258 ?_
          refine qv_aload_n C rfl dq_Mod_finds_260 ?_
          refine qv_get C fl_Mod_16 0 rfl rfl dq_Mod_finds_261 ?_
          refine qv_iload C rfl dq_Mod_finds_264 ?_
          refine qv_iald C 3 t rfl (by omega) (by omega) (by omega) dq_Mod_finds_266 ?_
          refine qv_ifeq C (by omega) (tgt := 274) (by decide) dq_Mod_finds_267 (fun h267 => ?_) (fun h267 => ?_)
          · skip
            refine qv_iconst C dq_Mod_finds_274 ?_
            refine qv_ior C (r := b2 (more || false)) (zi_or_b2 more false) dq_Mod_finds_275 ?_
            refine qv_istore C (lv' := [(7, vi (b2 (more || false))), (0, .ref y), (1, vi ((nd : Nat) : Int)), (2, vi ((w : Nat) : Int)), (3, vj ((m : Nat) : Int)), (5, vi ((got : Nat) : Int)), (6, vi p), (9, vi ((t : Nat) : Int))]) (by decide) rfl dq_Mod_finds_276 ?_
            refine qv_iinc C (j := 7) (lv' := [(9, vi (((t : Nat) : Int) - 1)), (7, vi (b2 (more || false))), (0, .ref y), (1, vi ((nd : Nat) : Int)), (2, vi ((w : Nat) : Int)), (3, vj ((m : Nat) : Int)), (5, vi ((got : Nat) : Int)), (6, vi p)]) (by omega) rfl (by decide) rfl dq_Mod_finds_278 ?_
            refine qv_goto C (tgt := 223) (by decide) dq_Mod_finds_281 ?_
            refine qv_lv [2, 3, 4, 5, 6, 7, 1, 0] (lv' := [(0, .ref y), (1, vi ((nd : Nat) : Int)), (2, vi ((w : Nat) : Int)), (3, vj ((m : Nat) : Int)), (5, vi ((got : Nat) : Int)), (6, vi p), (7, vi (b2 (more || false))), (9, vi (((t : Nat) : Int) - 1))]) rfl ?_
            have hL2 := Ld_t (by omega) hL (by omega)
            rw [← hbit, decide_eq_false (by omega)] at hL2
            exact ih _ _ _ _ (by omega) hL2
          · skip
            refine qv_iconst C dq_Mod_finds_270 ?_
            refine qv_goto C (tgt := 275) (by decide) dq_Mod_finds_271 ?_
            refine qv_ior C (r := b2 (more || true)) (zi_or_b2 more true) dq_Mod_finds_275 ?_
            refine qv_istore C (lv' := [(7, vi (b2 (more || true))), (0, .ref y), (1, vi ((nd : Nat) : Int)), (2, vi ((w : Nat) : Int)), (3, vj ((m : Nat) : Int)), (5, vi ((got : Nat) : Int)), (6, vi p), (9, vi ((t : Nat) : Int))]) (by decide) rfl dq_Mod_finds_276 ?_
            refine qv_iinc C (j := 7) (lv' := [(9, vi (((t : Nat) : Int) - 1)), (7, vi (b2 (more || true))), (0, .ref y), (1, vi ((nd : Nat) : Int)), (2, vi ((w : Nat) : Int)), (3, vj ((m : Nat) : Int)), (5, vi ((got : Nat) : Int)), (6, vi p)]) (by omega) rfl (by decide) rfl dq_Mod_finds_278 ?_
            refine qv_goto C (tgt := 223) (by decide) dq_Mod_finds_281 ?_
            refine qv_lv [2, 3, 4, 5, 6, 7, 1, 0] (lv' := [(0, .ref y), (1, vi ((nd : Nat) : Int)), (2, vi ((w : Nat) : Int)), (3, vj ((m : Nat) : Int)), (5, vi ((got : Nat) : Int)), (6, vi p), (7, vi (b2 (more || true))), (9, vi (((t : Nat) : Int) - 1))]) rfl ?_
            have hL2 := Ld_t (by omega) hL (by omega)
            rw [← hbit, decide_eq_true (by omega)] at hL2
            exact ih _ _ _ _ (by omega) hL2
        · skip
          refine qv_lload_n C rfl dq_Mod_finds_235 ?_
          refine qv_iconst C dq_Mod_finds_236 ?_
          refine qv_lshl C m 1 (by omega) (by omega) (by omega) dq_Mod_finds_237 ?_
          refine qv_aload_n C rfl dq_Mod_finds_238 ?_
          refine qv_get C fl_Mod_16 0 rfl rfl dq_Mod_finds_239 ?_
          refine qv_iload C rfl dq_Mod_finds_242 ?_
          refine qv_iald C 3 t rfl (by omega) (by omega) (by omega) dq_Mod_finds_244 ?_
          refine qv_i2l C (by omega) dq_Mod_finds_245 ?_
          refine qv_lor C (r := (((m * 2 ^ 1 + b t) : Nat) : Int)) (zj_or (k := 1) (by omega) (by omega)) dq_Mod_finds_246 ?_
          refine qv_lstore_n C (lv' := [(3, vj (((m * 2 ^ 1 + b t) : Nat) : Int)), (0, .ref y), (1, vi ((nd : Nat) : Int)), (2, vi ((w : Nat) : Int)), (5, vi ((got : Nat) : Int)), (6, vi p), (7, vi (b2 more)), (9, vi ((t : Nat) : Int))]) (by decide) rfl dq_Mod_finds_247 ?_
          refine qv_iinc C (j := 4) (lv' := [(5, vi (((got + 1) : Nat) : Int)), (3, vj (((m * 2 ^ 1 + b t) : Nat) : Int)), (0, .ref y), (1, vi ((nd : Nat) : Int)), (2, vi ((w : Nat) : Int)), (6, vi p), (7, vi (b2 more)), (9, vi ((t : Nat) : Int))]) (by omega) rfl (by decide) rfl dq_Mod_finds_248 ?_
          refine qv_iload C rfl dq_Mod_finds_251 ?_
          refine qv_istore C (lv' := [(6, vi ((t : Nat) : Int)), (5, vi (((got + 1) : Nat) : Int)), (3, vj (((m * 2 ^ 1 + b t) : Nat) : Int)), (0, .ref y), (1, vi ((nd : Nat) : Int)), (2, vi ((w : Nat) : Int)), (7, vi (b2 more)), (9, vi ((t : Nat) : Int))]) (by decide) rfl dq_Mod_finds_253 ?_
          refine qv_goto C (tgt := 278) (by decide) dq_Mod_finds_255 ?_
          refine qv_iinc C (j := 7) (lv' := [(9, vi (((t : Nat) : Int) - 1)), (6, vi ((t : Nat) : Int)), (5, vi (((got + 1) : Nat) : Int)), (3, vj (((m * 2 ^ 1 + b t) : Nat) : Int)), (0, .ref y), (1, vi ((nd : Nat) : Int)), (2, vi ((w : Nat) : Int)), (7, vi (b2 more))]) (by omega) rfl (by decide) rfl dq_Mod_finds_278 ?_
          refine qv_goto C (tgt := 223) (by decide) dq_Mod_finds_281 ?_
          refine qv_lv [4, 5, 6, 3, 2, 1, 7, 0] (lv' := [(0, .ref y), (1, vi ((nd : Nat) : Int)), (2, vi ((w : Nat) : Int)), (3, vj (((m * 2 ^ 1 + b t) : Nat) : Int)), (5, vi (((got + 1) : Nat) : Int)), (6, vi ((t : Nat) : Int)), (7, vi (b2 more)), (9, vi (((t : Nat) : Int) - 1))]) rfl ?_
          have hmf := Ld_more hL (by omega)
          subst hmf
          have hL2 := Ld_s (by omega) hL (by omega)
          rw [← hbit] at hL2
          have e9 : m * 2 ^ 1 + b t = m * 2 + b t := by rw [Nat.pow_one]
          rw [e9]
          exact ih _ _ _ _ (by omega) hL2
  have secC : 0 < nd → -330 ≤ pl → pl ≤ 310 → ∀ n X (c : Nat) (b g : Nat → Nat), X ≤ n → (∀ i, g i ≤ 9) → dv 10 g w = X → Bi X0 X b c → V K 13 [oc y 4 [vi er, vi (b2 mi), .ref dg, vi ((nd : Nat) : Int), vi pl, vi ((zr : Nat) : Int), vi bh, .ref rw, vi ((w : Nat) : Int), vi fr, vj 0, .ref bt, .ref wz, .ref lw, .ref hg, vi ((ls : Nat) : Int), vi lp, vi ((hs : Nat) : Int), vi hq], ai cI dg 800 d, ai cI rw 1200 g, ai cI bt 1100 b] 0 0 116 [(0, .ref y), (1, vi ((nd : Nat) : Int)), (2, vi ((w : Nat) : Int)), (3, vj 0), (5, vi 0), (6, vi 0), (7, vi 0), (8, vi ((c : Nat) : Int))] [] := by
    intro hn1 hp1 hp2 n
    have hcf2 : cf ≤ 1200 := by omega
    have hX310 : X0 < 2 ^ 1030 := by
      rw [hX0]
      refine Nat.lt_of_lt_of_le (dv_lt (b := 10) (fun i _ => ?_)) (Nat.le_trans (Nat.pow_le_pow_right (by omega) (show w ≤ 310 by omega)) (Nat.le_of_lt ten_310))
      unfold ext0; split
      · have := hd i; omega
      · omega
    have ex : ∀ (c : Nat) (b g : Nat → Nat), c ≤ 1100 → (∀ i, g i ≤ 9) → Bi X0 0 b c → V K 13 [oc y 4 [vi er, vi (b2 mi), .ref dg, vi ((nd : Nat) : Int), vi pl, vi ((zr : Nat) : Int), vi bh, .ref rw, vi ((w : Nat) : Int), vi fr, vj 0, .ref bt, .ref wz, .ref lw, .ref hg, vi ((ls : Nat) : Int), vi lp, vi ((hs : Nat) : Int), vi hq], ai cI dg 800 d, ai cI rw 1200 g, ai cI bt 1100 b] 0 0 207 [(0, .ref y), (1, vi ((nd : Nat) : Int)), (2, vi ((w : Nat) : Int)), (3, vj 0), (5, vi 0), (6, vi 0), (7, vi 0), (8, vi ((c : Nat) : Int))] [] := by
      intro c b g hc11 hg9 hBi
      obtain ⟨e1, e2, e3⟩ := Bi_e hBi
      have hsv := f_split (d := d) hzc hw hcf hnd hp1 hp2
      rw [← hX0, ← hFr0] at hsv
      refine qv_iload C rfl dq_Mod_finds_207 ?_
      refine qv_sipush C (by decide) dq_Mod_finds_209 ?_
      refine qv_icle C (by omega) (by omega) (tgt := 217) (by decide) dq_Mod_finds_212 (fun h212 => ?_) (fun h212 => ?_)
      · skip
        refine qv_iload C rfl dq_Mod_finds_217 ?_
        refine qv_iconst C dq_Mod_finds_219 ?_
        refine qv_isub C (r := (((c : Nat) : Int) - 1)) rfl dq_Mod_finds_220 ?_
        refine qv_istore C (lv' := [(9, vi (((c : Nat) : Int) - 1)), (0, .ref y), (1, vi ((nd : Nat) : Int)), (2, vi ((w : Nat) : Int)), (3, vj 0), (5, vi 0), (6, vi 0), (7, vi 0), (8, vi ((c : Nat) : Int))]) (by decide) rfl dq_Mod_finds_221 ?_
        refine qv_lv [1, 2, 3, 4, 5, 6, 7, 0] (lv' := [(0, .ref y), (1, vi ((nd : Nat) : Int)), (2, vi ((w : Nat) : Int)), (3, vj 0), (5, vi 0), (6, vi 0), (7, vi 0), (9, vi (((c : Nat) : Int) - 1))]) rfl ?_
        exact secE hn1 hp1 hp2 c b g (by omega) hBi.1 hg9 hBi c 0 0 0 false (Nat.le_refl _) (Ld_0 e2)
      · skip
        refine qv_iconst C dq_Mod_finds_215 ?_
        refine qv_zret (b := false) C hR ?_ dq_Mod_finds_216 (by decide) (by decide)
        exact ⟨INF, g, b, w, Or.inr (Or.inr (Or.inr ⟨hn1, hp1, hp2, fin_big hsv hcf2 (Nat.le_trans (Nat.pow_le_pow_right (by omega) (show 1024 ≤ c - 1 by omega)) (e3 (by omega)))⟩)), hg9, hBi.1, Or.inr ⟨rfl, rfl, rfl⟩⟩
    induction n with
    | zero =>
      intro X c b g hXn hg9 hv hBi
      have eX : X = 0 := by omega
      subst eX
      have hc11 : c ≤ 1100 := by
        by_cases q : c = 0
        · omega
        · have h1 := (Bi_e hBi).2.2 (by omega)
          have h2 := (Nat.pow_lt_pow_iff_right (show 1 < 2 by omega)).mp (Nat.lt_of_le_of_lt h1 hX310)
          omega
      refine qv_aload_n C rfl dq_Mod_finds_116 ?_
      refine qv_iconst C dq_Mod_finds_117 ?_
      refine qv_aload_n C rfl dq_Mod_finds_118 ?_
      refine qv_get C fl_Mod_40 0 rfl rfl dq_Mod_finds_119 ?_
      refine qc_vI (wr := [ai cI dg 800 d, ai cI bt 1100 b]) (st := []) C cl_Mod_100 cd_Mod_isNothing (c_Mod_isNothing cI cJ y dg rw bt wz lw hg er mi nd pl zr bh w fr 0 ls lp hs hq g w hg9 (by omega)) (Xok_t K) Xbl_t [0, 2] [1, 3] rfl rfl (by decide) (by decide) (by decide) 0 rfl rfl rfl rfl rfl (Nat.le_of_ble_eq_true rfl) (by decide) (by decide) dq_Mod_finds_122 (fun z u hu => ?_)
      obtain ⟨e, rfl, hez, rfl⟩ := hu
      show V K 13 [ai cI dg 800 d, ai cI bt 1100 b, oc y 4 [vi er, vi (b2 mi), .ref dg, vi ((nd : Nat) : Int), vi pl, vi ((zr : Nat) : Int), vi bh, .ref rw, vi ((w : Nat) : Int), vi fr, vj 0, .ref bt, .ref wz, .ref lw, .ref hg, vi ((ls : Nat) : Int), vi lp, vi ((hs : Nat) : Int), vi hq], ai cI rw 1200 g] 0 0 125 [(0, .ref y), (1, vi ((nd : Nat) : Int)), (2, vi ((w : Nat) : Int)), (3, vj 0), (5, vi 0), (6, vi 0), (7, vi 0), (8, vi ((c : Nat) : Int))] [vi (b2 e)]
      refine qv_ifne C (rb_b2 e) (tgt := 207) (by decide) dq_Mod_finds_125 (fun h125 => ?_) (fun h125 => ?_)
      · skip
        have et2 := b2_t h125
        refine qv_ws [2, 0, 3, 1] (ws' := [oc y 4 [vi er, vi (b2 mi), .ref dg, vi ((nd : Nat) : Int), vi pl, vi ((zr : Nat) : Int), vi bh, .ref rw, vi ((w : Nat) : Int), vi fr, vj 0, .ref bt, .ref wz, .ref lw, .ref hg, vi ((ls : Nat) : Int), vi lp, vi ((hs : Nat) : Int), vi hq], ai cI dg 800 d, ai cI rw 1200 g, ai cI bt 1100 b]) (by decide) rfl ?_
        exact ex c b g hc11 hg9 hBi
      · skip
        have ef := b2_f h125
        exfalso
        rw [hez.mpr hv] at ef; cases ef
    | succ n ih =>
      intro X c b g hXn hg9 hv hBi
      have hc11 : X = 0 → c ≤ 1100 := by
        intro eX
        subst eX
        by_cases q : c = 0
        · omega
        · have h1 := (Bi_e hBi).2.2 (by omega)
          have h2 := (Nat.pow_lt_pow_iff_right (show 1 < 2 by omega)).mp (Nat.lt_of_le_of_lt h1 hX310)
          omega
      have inner : X ≠ 0 → ∀ n2 i (g2 : Nat → Nat) (l : Nat), i + n2 = w → HI g g2 i l → V K 13 [oc y 4 [vi er, vi (b2 mi), .ref dg, vi ((nd : Nat) : Int), vi pl, vi ((zr : Nat) : Int), vi bh, .ref rw, vi ((w : Nat) : Int), vi fr, vj 0, .ref bt, .ref wz, .ref lw, .ref hg, vi ((ls : Nat) : Int), vi lp, vi ((hs : Nat) : Int), vi hq], ai cI dg 800 d, ai cI rw 1200 g2, ai cI bt 1100 (un b c (X % 2))] 0 0 157 [(0, .ref y), (1, vi ((nd : Nat) : Int)), (2, vi ((w : Nat) : Int)), (3, vj 0), (5, vi 0), (6, vi 0), (7, vi 0), (8, vi (((c + 1) : Nat) : Int)), (9, vi ((l : Nat) : Int)), (10, vi ((i : Nat) : Int))] [] := by
        intro hX n2
        have hBi2 := Bi_s hBi hX
        induction n2 with
        | zero =>
          intro i g2 l hi hH
          have hl2 := hH.2.2.1
          have ei : i = w := by omega
          subst ei
          refine qv_iload C rfl dq_Mod_finds_157 ?_
          refine qv_aload_n C rfl dq_Mod_finds_159 ?_
          refine qv_get C fl_Mod_40 0 rfl rfl dq_Mod_finds_160 ?_
          refine qv_icge C (by omega) (by omega) (tgt := 204) (by decide) dq_Mod_finds_163 (fun h163 => ?_) (fun h163 => ?_)
          · skip
            refine qv_goto C (tgt := 116) (by decide) dq_Mod_finds_204 ?_
            refine qv_lv [0, 1, 2, 3, 4, 5, 6, 7] (lv' := [(0, .ref y), (1, vi ((nd : Nat) : Int)), (2, vi ((i : Nat) : Int)), (3, vj 0), (5, vi 0), (6, vi 0), (7, vi 0), (8, vi (((c + 1) : Nat) : Int))]) rfl ?_
            exact ih (X / 2) (c + 1) _ g2 (by omega) hH.1 (by have := hH.2.2.2; omega) hBi2
          · exfalso; omega
        | succ n2 ih2 =>
          intro i g2 l hi hH
          have hl2 := hH.2.2.1
          have h9 := hH.1 i
          refine qv_iload C rfl dq_Mod_finds_157 ?_
          refine qv_aload_n C rfl dq_Mod_finds_159 ?_
          refine qv_get C fl_Mod_40 0 rfl rfl dq_Mod_finds_160 ?_
          refine qv_icge C (by omega) (by omega) (tgt := 204) (by decide) dq_Mod_finds_163 (fun h163 => ?_) (fun h163 => ?_)
          · exfalso; omega
          · skip
            refine qv_bipush C (by decide) dq_Mod_finds_166 ?_
            refine qv_iload C rfl dq_Mod_finds_168 ?_
            refine qv_imul C (r := (((10 * l) : Nat) : Int)) (by omega) dq_Mod_finds_170 ?_
            refine qv_aload_n C rfl dq_Mod_finds_171 ?_
            refine qv_get C fl_Mod_13 0 rfl rfl dq_Mod_finds_172 ?_
            refine qv_iload C rfl dq_Mod_finds_175 ?_
            refine qv_iald C 2 i rfl (by omega) (by omega) (by omega) dq_Mod_finds_177 ?_
            refine qv_iadd C (r := (((10 * l + g2 i) : Nat) : Int)) (by omega) dq_Mod_finds_178 ?_
            refine qv_istore C (lv' := [(11, vi (((10 * l + g2 i) : Nat) : Int)), (0, .ref y), (1, vi ((nd : Nat) : Int)), (2, vi ((w : Nat) : Int)), (3, vj 0), (5, vi 0), (6, vi 0), (7, vi 0), (8, vi (((c + 1) : Nat) : Int)), (9, vi ((l : Nat) : Int)), (10, vi ((i : Nat) : Int))]) (by decide) rfl dq_Mod_finds_179 ?_
            refine qv_aload_n C rfl dq_Mod_finds_181 ?_
            refine qv_get C fl_Mod_13 0 rfl rfl dq_Mod_finds_182 ?_
            refine qv_iload C rfl dq_Mod_finds_185 ?_
            refine qv_iload C rfl dq_Mod_finds_187 ?_
            refine qv_iconst C dq_Mod_finds_189 ?_
            refine qv_idiv C (r := ((((10 * l + g2 i) / 2) : Nat) : Int)) (by omega) (by omega) (by omega) (by omega) (by omega) dq_Mod_finds_190 ?_
            refine qv_iast C (ws' := [oc y 4 [vi er, vi (b2 mi), .ref dg, vi ((nd : Nat) : Int), vi pl, vi ((zr : Nat) : Int), vi bh, .ref rw, vi ((w : Nat) : Int), vi fr, vj 0, .ref bt, .ref wz, .ref lw, .ref hg, vi ((ls : Nat) : Int), vi lp, vi ((hs : Nat) : Int), vi hq], ai cI dg 800 d, ai cI rw 1200 (un g2 i ((10 * l + g2 i) / 2)), ai cI bt 1100 (un b c (X % 2))]) 2 i ((10 * l + g2 i) / 2) rfl (by omega) (by omega) (by omega) (by omega) rfl dq_Mod_finds_191 ?_
            refine qv_iload C rfl dq_Mod_finds_192 ?_
            refine qv_iconst C dq_Mod_finds_194 ?_
            refine qv_irem C (r := ((((10 * l + g2 i) % 2) : Nat) : Int)) (by omega) (by omega) (by omega) (by omega) (by omega) dq_Mod_finds_195 ?_
            refine qv_istore C (lv' := [(9, vi ((((10 * l + g2 i) % 2) : Nat) : Int)), (11, vi (((10 * l + g2 i) : Nat) : Int)), (0, .ref y), (1, vi ((nd : Nat) : Int)), (2, vi ((w : Nat) : Int)), (3, vj 0), (5, vi 0), (6, vi 0), (7, vi 0), (8, vi (((c + 1) : Nat) : Int)), (10, vi ((i : Nat) : Int))]) (by decide) rfl dq_Mod_finds_196 ?_
            refine qv_iinc C (j := 10) (lv' := [(10, vi (((i + 1) : Nat) : Int)), (9, vi ((((10 * l + g2 i) % 2) : Nat) : Int)), (11, vi (((10 * l + g2 i) : Nat) : Int)), (0, .ref y), (1, vi ((nd : Nat) : Int)), (2, vi ((w : Nat) : Int)), (3, vj 0), (5, vi 0), (6, vi 0), (7, vi 0), (8, vi (((c + 1) : Nat) : Int))]) (by omega) rfl (by decide) rfl dq_Mod_finds_198 ?_
            refine qv_goto C (tgt := 157) (by decide) dq_Mod_finds_201 ?_
            refine qv_lv [3, 4, 5, 6, 7, 8, 9, 10, 1, 0] (lv' := [(0, .ref y), (1, vi ((nd : Nat) : Int)), (2, vi ((w : Nat) : Int)), (3, vj 0), (5, vi 0), (6, vi 0), (7, vi 0), (8, vi (((c + 1) : Nat) : Int)), (9, vi ((((10 * l + g2 i) % 2) : Nat) : Int)), (10, vi (((i + 1) : Nat) : Int))]) rfl ?_
            exact ih2 (i + 1) _ _ (by omega) (HI_s hH)
      refine qv_aload_n C rfl dq_Mod_finds_116 ?_
      refine qv_iconst C dq_Mod_finds_117 ?_
      refine qv_aload_n C rfl dq_Mod_finds_118 ?_
      refine qv_get C fl_Mod_40 0 rfl rfl dq_Mod_finds_119 ?_
      refine qc_vI (wr := [ai cI dg 800 d, ai cI bt 1100 b]) (st := []) C cl_Mod_100 cd_Mod_isNothing (c_Mod_isNothing cI cJ y dg rw bt wz lw hg er mi nd pl zr bh w fr 0 ls lp hs hq g w hg9 (by omega)) (Xok_t K) Xbl_t [0, 2] [1, 3] rfl rfl (by decide) (by decide) (by decide) 0 rfl rfl rfl rfl rfl (Nat.le_of_ble_eq_true rfl) (by decide) (by decide) dq_Mod_finds_122 (fun z u hu => ?_)
      obtain ⟨e, rfl, hez, rfl⟩ := hu
      show V K 13 [ai cI dg 800 d, ai cI bt 1100 b, oc y 4 [vi er, vi (b2 mi), .ref dg, vi ((nd : Nat) : Int), vi pl, vi ((zr : Nat) : Int), vi bh, .ref rw, vi ((w : Nat) : Int), vi fr, vj 0, .ref bt, .ref wz, .ref lw, .ref hg, vi ((ls : Nat) : Int), vi lp, vi ((hs : Nat) : Int), vi hq], ai cI rw 1200 g] 0 0 125 [(0, .ref y), (1, vi ((nd : Nat) : Int)), (2, vi ((w : Nat) : Int)), (3, vj 0), (5, vi 0), (6, vi 0), (7, vi 0), (8, vi ((c : Nat) : Int))] [vi (b2 e)]
      refine qv_ifne C (rb_b2 e) (tgt := 207) (by decide) dq_Mod_finds_125 (fun h125 => ?_) (fun h125 => ?_)
      · skip
        have et2 := b2_t h125
        refine qv_ws [2, 0, 3, 1] (ws' := [oc y 4 [vi er, vi (b2 mi), .ref dg, vi ((nd : Nat) : Int), vi pl, vi ((zr : Nat) : Int), vi bh, .ref rw, vi ((w : Nat) : Int), vi fr, vj 0, .ref bt, .ref wz, .ref lw, .ref hg, vi ((ls : Nat) : Int), vi lp, vi ((hs : Nat) : Int), vi hq], ai cI dg 800 d, ai cI rw 1200 g, ai cI bt 1100 b]) (by decide) rfl ?_
        have eX : X = 0 := by rw [← hv]; exact hez.mp et2
        subst eX
        exact ex c b g (hc11 rfl) hg9 (by first | exact hBi | (rw [← hv]; exact hBi))
      · skip
        have ef := b2_f h125
        refine qv_ws [2, 0, 3, 1] (ws' := [oc y 4 [vi er, vi (b2 mi), .ref dg, vi ((nd : Nat) : Int), vi pl, vi ((zr : Nat) : Int), vi bh, .ref rw, vi ((w : Nat) : Int), vi fr, vj 0, .ref bt, .ref wz, .ref lw, .ref hg, vi ((ls : Nat) : Int), vi lp, vi ((hs : Nat) : Int), vi hq], ai cI dg 800 d, ai cI rw 1200 g, ai cI bt 1100 b]) (by decide) rfl ?_
        have hX : X ≠ 0 := fun q => by rw [hez.mpr (by omega)] at ef; cases ef
        have hc10 := Bi_c hBi hX hX310
        have hw0 : 0 < w := by
          by_cases q : w = 0
          · rw [q, dv_0] at hv; omega
          · omega
        refine qv_aload_n C rfl dq_Mod_finds_128 ?_
        refine qv_get C fl_Mod_16 0 rfl rfl dq_Mod_finds_129 ?_
        refine qv_iload C rfl dq_Mod_finds_132 ?_
        refine qv_iinc C (j := 7) (lv' := [(8, vi (((c + 1) : Nat) : Int)), (0, .ref y), (1, vi ((nd : Nat) : Int)), (2, vi ((w : Nat) : Int)), (3, vj 0), (5, vi 0), (6, vi 0), (7, vi 0)]) (by omega) rfl (by decide) rfl dq_Mod_finds_134 ?_
        refine qv_aload_n C rfl dq_Mod_finds_137 ?_
        refine qv_get C fl_Mod_13 0 rfl rfl dq_Mod_finds_138 ?_
        refine qv_aload_n C rfl dq_Mod_finds_141 ?_
        refine qv_get C fl_Mod_40 0 rfl rfl dq_Mod_finds_142 ?_
        refine qv_iconst C dq_Mod_finds_145 ?_
        refine qv_isub C (r := (((w - 1) : Nat) : Int)) (by omega) dq_Mod_finds_146 ?_
        refine qv_iald C 2 (w - 1) rfl (by omega) (by omega) (by omega) dq_Mod_finds_147 ?_
        refine qv_iconst C dq_Mod_finds_148 ?_
        refine qv_iand C (r := (((g (w - 1) % 2) : Nat) : Int)) (zi_and (a := g (w - 1)) (b := 1) (by omega)) dq_Mod_finds_149 ?_
        refine qv_ti (r := ((X % 2 : Nat) : Int)) (by rw [par_dv hw0, hv]) ?_
        refine qv_iast C (ws' := [oc y 4 [vi er, vi (b2 mi), .ref dg, vi ((nd : Nat) : Int), vi pl, vi ((zr : Nat) : Int), vi bh, .ref rw, vi ((w : Nat) : Int), vi fr, vj 0, .ref bt, .ref wz, .ref lw, .ref hg, vi ((ls : Nat) : Int), vi lp, vi ((hs : Nat) : Int), vi hq], ai cI dg 800 d, ai cI rw 1200 g, ai cI bt 1100 (un b c (X % 2))]) 3 c (X % 2) rfl (by omega) (by omega) (by omega) (by omega) rfl dq_Mod_finds_150 ?_
        refine qv_iconst C dq_Mod_finds_151 ?_
        refine qv_istore C (lv' := [(9, vi 0), (8, vi (((c + 1) : Nat) : Int)), (0, .ref y), (1, vi ((nd : Nat) : Int)), (2, vi ((w : Nat) : Int)), (3, vj 0), (5, vi 0), (6, vi 0), (7, vi 0)]) (by decide) rfl dq_Mod_finds_152 ?_
        refine qv_iconst C dq_Mod_finds_154 ?_
        refine qv_istore C (lv' := [(10, vi 0), (9, vi 0), (8, vi (((c + 1) : Nat) : Int)), (0, .ref y), (1, vi ((nd : Nat) : Int)), (2, vi ((w : Nat) : Int)), (3, vj 0), (5, vi 0), (6, vi 0), (7, vi 0)]) (by decide) rfl dq_Mod_finds_155 ?_
        refine qv_lv [3, 4, 5, 6, 7, 8, 9, 2, 1, 0] (lv' := [(0, .ref y), (1, vi ((nd : Nat) : Int)), (2, vi ((w : Nat) : Int)), (3, vj 0), (5, vi 0), (6, vi 0), (7, vi 0), (8, vi (((c + 1) : Nat) : Int)), (9, vi 0), (10, vi 0)]) rfl ?_
        exact inner hX w 0 g 0 (by omega) (HI_0 hg9)
  have hE9 : ∀ i, ext0 d nd i ≤ 9 := by
    intro i; unfold ext0; split
    · exact hd i
    · omega
  have secB : 0 < nd → -330 ≤ pl → pl ≤ 310 → ∀ n k, k + n = w → V K 13 [oc y 4 [vi er, vi (b2 mi), .ref dg, vi ((nd : Nat) : Int), vi pl, vi ((zr : Nat) : Int), vi bh, .ref rw, vi ((k : Nat) : Int), vi fr, vj 0, .ref bt, .ref wz, .ref lw, .ref hg, vi ((ls : Nat) : Int), vi lp, vi ((hs : Nat) : Int), vi hq], ai cI dg 800 d, ai cI rw 1200 (cpd f (ext0 d nd) k), ai cI bt 1100 bb] 0 0 68 [(0, .ref y), (1, vi ((nd : Nat) : Int)), (2, vi ((w : Nat) : Int)), (3, vj 0), (5, vi 0), (6, vi 0), (7, vi 0), (8, vi ((k : Nat) : Int))] [] := by
    intro hn1 hp1 hp2 n
    induction n with
    | zero =>
      intro k hk
      have ek : k = w := by omega
      subst ek
      refine qv_iload C rfl dq_Mod_finds_68 ?_
      refine qv_iload_n C rfl dq_Mod_finds_70 ?_
      refine qv_icge C (by omega) (by omega) (tgt := 113) (by decide) dq_Mod_finds_71 (fun h71 => ?_) (fun h71 => ?_)
      · skip
        refine qv_iconst C dq_Mod_finds_113 ?_
        refine qv_istore C (lv' := [(8, vi 0), (0, .ref y), (1, vi ((nd : Nat) : Int)), (2, vi ((k : Nat) : Int)), (3, vj 0), (5, vi 0), (6, vi 0), (7, vi 0)]) (by decide) rfl dq_Mod_finds_114 ?_
        refine qv_lv [1, 2, 3, 4, 5, 6, 7, 0] (lv' := [(0, .ref y), (1, vi ((nd : Nat) : Int)), (2, vi ((k : Nat) : Int)), (3, vj 0), (5, vi 0), (6, vi 0), (7, vi 0), (8, vi 0)]) rfl ?_
        have hv : dv 10 (cpd f (ext0 d nd) k) k = X0 := by rw [hX0]; exact dv_cg (fun i hi => cpd_lt hi)
        exact secC hn1 hp1 hp2 X0 X0 0 bb _ (Nat.le_refl _) (cpd_9 hf hE9 k) hv (Bi_0 hbb)
      · exfalso; omega
    | succ n ih =>
      intro k hk
      refine qv_iload C rfl dq_Mod_finds_68 ?_
      refine qv_iload_n C rfl dq_Mod_finds_70 ?_
      refine qv_icge C (by omega) (by omega) (tgt := 113) (by decide) dq_Mod_finds_71 (fun h71 => ?_) (fun h71 => ?_)
      · exfalso; omega
      · skip
        refine qv_aload_n C rfl dq_Mod_finds_74 ?_
        refine qv_get C fl_Mod_13 0 rfl rfl dq_Mod_finds_75 ?_
        refine qv_aload_n C rfl dq_Mod_finds_78 ?_
        refine qv_dup C rfl dq_Mod_finds_79 ?_
        refine qv_get C fl_Mod_40 0 rfl rfl dq_Mod_finds_80 ?_
        refine qv_dup_x1 C rfl rfl dq_Mod_finds_83 ?_
        refine qv_iconst C dq_Mod_finds_84 ?_
        refine qv_iadd C (r := (((k + 1) : Nat) : Int)) (by omega) dq_Mod_finds_85 ?_
        refine qv_put C (ws' := [oc y 4 [vi er, vi (b2 mi), .ref dg, vi ((nd : Nat) : Int), vi pl, vi ((zr : Nat) : Int), vi bh, .ref rw, vi (((k + 1) : Nat) : Int), vi fr, vj 0, .ref bt, .ref wz, .ref lw, .ref hg, vi ((ls : Nat) : Int), vi lp, vi ((hs : Nat) : Int), vi hq], ai cI dg 800 d, ai cI rw 1200 (cpd f (ext0 d nd) k), ai cI bt 1100 bb]) fl_Mod_40 fs_4_8 0 rfl rfl rfl (Nat.le_of_ble_eq_true rfl) rfl dq_Mod_finds_86 ?_
        refine qv_iload C rfl dq_Mod_finds_89 ?_
        refine qv_iload_n C rfl dq_Mod_finds_91 ?_
        refine qv_icge C (by omega) (by omega) (tgt := 105) (by decide) dq_Mod_finds_92 (fun h92 => ?_) (fun h92 => ?_)
        · skip
          refine qv_iconst C dq_Mod_finds_105 ?_
          refine qv_iast C (ws' := [oc y 4 [vi er, vi (b2 mi), .ref dg, vi ((nd : Nat) : Int), vi pl, vi ((zr : Nat) : Int), vi bh, .ref rw, vi (((k + 1) : Nat) : Int), vi fr, vj 0, .ref bt, .ref wz, .ref lw, .ref hg, vi ((ls : Nat) : Int), vi lp, vi ((hs : Nat) : Int), vi hq], ai cI dg 800 d, ai cI rw 1200 (un (cpd f (ext0 d nd) k) k 0), ai cI bt 1100 bb]) 2 k 0 rfl (by omega) (by omega) (by omega) (by omega) rfl dq_Mod_finds_106 ?_
          refine qv_iinc C (j := 7) (lv' := [(8, vi (((k + 1) : Nat) : Int)), (0, .ref y), (1, vi ((nd : Nat) : Int)), (2, vi ((w : Nat) : Int)), (3, vj 0), (5, vi 0), (6, vi 0), (7, vi 0)]) (by omega) rfl (by decide) rfl dq_Mod_finds_107 ?_
          refine qv_goto C (tgt := 68) (by decide) dq_Mod_finds_110 ?_
          refine qv_lv [1, 2, 3, 4, 5, 6, 7, 0] (lv' := [(0, .ref y), (1, vi ((nd : Nat) : Int)), (2, vi ((w : Nat) : Int)), (3, vj 0), (5, vi 0), (6, vi 0), (7, vi 0), (8, vi (((k + 1) : Nat) : Int))]) rfl ?_
          have eq : un (cpd f (ext0 d nd) k) k 0 = un (cpd f (ext0 d nd) k) k (ext0 d nd k) := by rw [ext0_ge (by omega)]
          rw [eq, cpd_s]
          exact ih (k + 1) (by omega)
        · skip
          refine qv_aload_n C rfl dq_Mod_finds_95 ?_
          refine qv_get C fl_Mod_9 0 rfl rfl dq_Mod_finds_96 ?_
          refine qv_iload C rfl dq_Mod_finds_99 ?_
          refine qv_iald C 1 k rfl (by omega) (by omega) (by omega) dq_Mod_finds_101 ?_
          refine qv_goto C (tgt := 106) (by decide) dq_Mod_finds_102 ?_
          refine qv_iast C (ws' := [oc y 4 [vi er, vi (b2 mi), .ref dg, vi ((nd : Nat) : Int), vi pl, vi ((zr : Nat) : Int), vi bh, .ref rw, vi (((k + 1) : Nat) : Int), vi fr, vj 0, .ref bt, .ref wz, .ref lw, .ref hg, vi ((ls : Nat) : Int), vi lp, vi ((hs : Nat) : Int), vi hq], ai cI dg 800 d, ai cI rw 1200 (un (cpd f (ext0 d nd) k) k (d k)), ai cI bt 1100 bb]) 2 k (d k) rfl (by omega) (by omega) (by omega) (by omega) rfl dq_Mod_finds_106 ?_
          refine qv_iinc C (j := 7) (lv' := [(8, vi (((k + 1) : Nat) : Int)), (0, .ref y), (1, vi ((nd : Nat) : Int)), (2, vi ((w : Nat) : Int)), (3, vj 0), (5, vi 0), (6, vi 0), (7, vi 0)]) (by omega) rfl (by decide) rfl dq_Mod_finds_107 ?_
          refine qv_goto C (tgt := 68) (by decide) dq_Mod_finds_110 ?_
          refine qv_lv [1, 2, 3, 4, 5, 6, 7, 0] (lv' := [(0, .ref y), (1, vi ((nd : Nat) : Int)), (2, vi ((w : Nat) : Int)), (3, vj 0), (5, vi 0), (6, vi 0), (7, vi 0), (8, vi (((k + 1) : Nat) : Int))]) rfl ?_
          have eq : un (cpd f (ext0 d nd) k) k (d k) = un (cpd f (ext0 d nd) k) k (ext0 d nd k) := by rw [ext0_lt (by omega)]
          rw [eq, cpd_s]
          exact ih (k + 1) (by omega)
  refine qv_aload_n C rfl dq_Mod_finds_0 ?_
  refine qv_lconst C (z := 0) (by decide) dq_Mod_finds_1 ?_
  refine qv_put C (ws' := [oc y 4 [vi er, vi (b2 mi), .ref dg, vi ((nd : Nat) : Int), vi pl, vi ((zr : Nat) : Int), vi bh, .ref rw, vi ((mn : Nat) : Int), vi fr, vj 0, .ref bt, .ref wz, .ref lw, .ref hg, vi ((ls : Nat) : Int), vi lp, vi ((hs : Nat) : Int), vi hq], ai cI dg 800 d, ai cI rw 1200 f, ai cI bt 1100 bb]) fl_Mod_96 fs_4_10 0 rfl rfl rfl (Nat.le_of_ble_eq_true rfl) rfl dq_Mod_finds_2 ?_
  refine qv_iload_n C rfl dq_Mod_finds_5 ?_
  refine qv_ifeq C (by omega) (tgt := 19) (by decide) dq_Mod_finds_6 (fun h6 => ?_) (fun h6 => ?_)
  · skip
    refine qv_iconst C dq_Mod_finds_19 ?_
    refine qv_zret (b := true) C hR ?_ dq_Mod_finds_20 (by decide) (by decide)
    exact ⟨0, f, bb, mn, Or.inl ⟨by omega, rfl⟩, hf, hbb, Or.inl ⟨by omega, rfl, rfl⟩⟩
  · skip
    refine qv_aload_n C rfl dq_Mod_finds_9 ?_
    refine qv_get C fl_Mod_64 0 rfl rfl dq_Mod_finds_10 ?_
    refine qv_sipush C (by decide) dq_Mod_finds_13 ?_
    refine qv_icge C (by omega) (by omega) (tgt := 21) (by decide) dq_Mod_finds_16 (fun h16 => ?_) (fun h16 => ?_)
    · skip
      refine qv_aload_n C rfl dq_Mod_finds_21 ?_
      refine qv_get C fl_Mod_64 0 rfl rfl dq_Mod_finds_22 ?_
      refine qv_sipush C (by decide) dq_Mod_finds_25 ?_
      refine qv_icle C (by omega) (by omega) (tgt := 33) (by decide) dq_Mod_finds_28 (fun h28 => ?_) (fun h28 => ?_)
      · skip
        refine qv_aload_n C rfl dq_Mod_finds_33 ?_
        refine qv_get C fl_Mod_64 0 rfl rfl dq_Mod_finds_34 ?_
        refine qv_ifle C (by omega) (tgt := 47) (by decide) dq_Mod_finds_37 (fun h37 => ?_) (fun h37 => ?_)
        · skip
          refine qv_iconst C dq_Mod_finds_47 ?_
          refine qv_ti (r := ((w : Nat) : Int)) (by omega) ?_
          refine qv_istore_n C (lv' := [(2, vi ((w : Nat) : Int)), (0, .ref y), (1, vi ((nd : Nat) : Int))]) (by decide) rfl dq_Mod_finds_48 ?_
          refine qv_lconst C (z := 0) (by decide) dq_Mod_finds_49 ?_
          refine qv_lstore_n C (lv' := [(3, vj 0), (2, vi ((w : Nat) : Int)), (0, .ref y), (1, vi ((nd : Nat) : Int))]) (by decide) rfl dq_Mod_finds_50 ?_
          refine qv_iconst C dq_Mod_finds_51 ?_
          refine qv_istore C (lv' := [(5, vi 0), (3, vj 0), (2, vi ((w : Nat) : Int)), (0, .ref y), (1, vi ((nd : Nat) : Int))]) (by decide) rfl dq_Mod_finds_52 ?_
          refine qv_iconst C dq_Mod_finds_54 ?_
          refine qv_istore C (lv' := [(6, vi 0), (5, vi 0), (3, vj 0), (2, vi ((w : Nat) : Int)), (0, .ref y), (1, vi ((nd : Nat) : Int))]) (by decide) rfl dq_Mod_finds_55 ?_
          refine qv_iconst C dq_Mod_finds_57 ?_
          refine qv_istore C (lv' := [(7, vi 0), (6, vi 0), (5, vi 0), (3, vj 0), (2, vi ((w : Nat) : Int)), (0, .ref y), (1, vi ((nd : Nat) : Int))]) (by decide) rfl dq_Mod_finds_58 ?_
          refine qv_aload_n C rfl dq_Mod_finds_60 ?_
          refine qv_iconst C dq_Mod_finds_61 ?_
          refine qv_put C (ws' := [oc y 4 [vi er, vi (b2 mi), .ref dg, vi ((nd : Nat) : Int), vi pl, vi ((zr : Nat) : Int), vi bh, .ref rw, vi 0, vi fr, vj 0, .ref bt, .ref wz, .ref lw, .ref hg, vi ((ls : Nat) : Int), vi lp, vi ((hs : Nat) : Int), vi hq], ai cI dg 800 d, ai cI rw 1200 f, ai cI bt 1100 bb]) fl_Mod_40 fs_4_8 0 rfl rfl rfl (Nat.le_of_ble_eq_true rfl) rfl dq_Mod_finds_62 ?_
          refine qv_iconst C dq_Mod_finds_65 ?_
          refine qv_istore C (lv' := [(8, vi 0), (7, vi 0), (6, vi 0), (5, vi 0), (3, vj 0), (2, vi ((w : Nat) : Int)), (0, .ref y), (1, vi ((nd : Nat) : Int))]) (by decide) rfl dq_Mod_finds_66 ?_
          refine qv_lv [6, 7, 5, 4, 3, 2, 1, 0] (lv' := [(0, .ref y), (1, vi ((nd : Nat) : Int)), (2, vi ((w : Nat) : Int)), (3, vj 0), (5, vi 0), (6, vi 0), (7, vi 0), (8, vi 0)]) rfl ?_
          have l0 := secB (by omega) (by omega) (by omega) w 0 (by omega)
          rw [cpd_0] at l0
          exact l0
        · skip
          refine qv_aload_n C rfl dq_Mod_finds_40 ?_
          refine qv_get C fl_Mod_64 0 rfl rfl dq_Mod_finds_41 ?_
          refine qv_goto C (tgt := 48) (by decide) dq_Mod_finds_44 ?_
          refine qv_ti (r := ((w : Nat) : Int)) (by omega) ?_
          refine qv_istore_n C (lv' := [(2, vi ((w : Nat) : Int)), (0, .ref y), (1, vi ((nd : Nat) : Int))]) (by decide) rfl dq_Mod_finds_48 ?_
          refine qv_lconst C (z := 0) (by decide) dq_Mod_finds_49 ?_
          refine qv_lstore_n C (lv' := [(3, vj 0), (2, vi ((w : Nat) : Int)), (0, .ref y), (1, vi ((nd : Nat) : Int))]) (by decide) rfl dq_Mod_finds_50 ?_
          refine qv_iconst C dq_Mod_finds_51 ?_
          refine qv_istore C (lv' := [(5, vi 0), (3, vj 0), (2, vi ((w : Nat) : Int)), (0, .ref y), (1, vi ((nd : Nat) : Int))]) (by decide) rfl dq_Mod_finds_52 ?_
          refine qv_iconst C dq_Mod_finds_54 ?_
          refine qv_istore C (lv' := [(6, vi 0), (5, vi 0), (3, vj 0), (2, vi ((w : Nat) : Int)), (0, .ref y), (1, vi ((nd : Nat) : Int))]) (by decide) rfl dq_Mod_finds_55 ?_
          refine qv_iconst C dq_Mod_finds_57 ?_
          refine qv_istore C (lv' := [(7, vi 0), (6, vi 0), (5, vi 0), (3, vj 0), (2, vi ((w : Nat) : Int)), (0, .ref y), (1, vi ((nd : Nat) : Int))]) (by decide) rfl dq_Mod_finds_58 ?_
          refine qv_aload_n C rfl dq_Mod_finds_60 ?_
          refine qv_iconst C dq_Mod_finds_61 ?_
          refine qv_put C (ws' := [oc y 4 [vi er, vi (b2 mi), .ref dg, vi ((nd : Nat) : Int), vi pl, vi ((zr : Nat) : Int), vi bh, .ref rw, vi 0, vi fr, vj 0, .ref bt, .ref wz, .ref lw, .ref hg, vi ((ls : Nat) : Int), vi lp, vi ((hs : Nat) : Int), vi hq], ai cI dg 800 d, ai cI rw 1200 f, ai cI bt 1100 bb]) fl_Mod_40 fs_4_8 0 rfl rfl rfl (Nat.le_of_ble_eq_true rfl) rfl dq_Mod_finds_62 ?_
          refine qv_iconst C dq_Mod_finds_65 ?_
          refine qv_istore C (lv' := [(8, vi 0), (7, vi 0), (6, vi 0), (5, vi 0), (3, vj 0), (2, vi ((w : Nat) : Int)), (0, .ref y), (1, vi ((nd : Nat) : Int))]) (by decide) rfl dq_Mod_finds_66 ?_
          refine qv_lv [6, 7, 5, 4, 3, 2, 1, 0] (lv' := [(0, .ref y), (1, vi ((nd : Nat) : Int)), (2, vi ((w : Nat) : Int)), (3, vj 0), (5, vi 0), (6, vi 0), (7, vi 0), (8, vi 0)]) rfl ?_
          have l0 := secB (by omega) (by omega) (by omega) w 0 (by omega)
          rw [cpd_0] at l0
          exact l0
      · skip
        refine qv_iconst C dq_Mod_finds_31 ?_
        refine qv_zret (b := false) C hR ?_ dq_Mod_finds_32 (by decide) (by decide)
        exact ⟨INF, f, bb, mn, Or.inr (Or.inr (Or.inl ⟨by omega, by omega, rfl⟩)), hf, hbb, Or.inr ⟨rfl, rfl, rfl⟩⟩
    · skip
      refine qv_iconst C dq_Mod_finds_19 ?_
      refine qv_zret (b := true) C hR ?_ dq_Mod_finds_20 (by decide) (by decide)
      exact ⟨0, f, bb, mn, Or.inr (Or.inl ⟨by omega, by omega, rfl⟩), hf, hbb, Or.inl ⟨by omega, rfl, rfl⟩⟩

