theorem law_head {K : Kx} {cI cJ : ClassId} (C : Cx K cI cJ code 8 RL room_1) (hX : Xk K XT) {sc L : Nat} {xs : Nat → Int32} (hS : Sx K sc L xs) (hL : L ≤ 1536) {x k g w t l hi ka b wa ta la ha y dg rw bt wz lw hg o c : Nat} (hw : Lw K sc) (hcL : 3 * c ≤ L) (hn : 3 * c + 3 ≤ L → LG K cI cJ sc x k g w t l hi ka b wa ta la ha y dg rw bt wz lw hg o (c + 1) (3 * c) (21 + (c + 1)) (9776 + 6 * (c + 1)) 607) : LG K cI cJ sc x k g w t l hi ka b wa ta la ha y dg rw bt wz lw hg o c (3 * c) (21 + c) (9776 + 6 * c) 23 := by
  intro mi zr pt len pl f fi en R hm W lt pt2 ft ll pll fl1 lh ph fh er mj lem pm zs pu d mn fr fo ls lp hs hq rf bb wf lf hf oo hT hB
  show V K 8 [oc x 3 [.ref k, vi (b2 mi), vi ((zr : Nat) : Int), vi pt, .ref g, .ref w, .ref t, .ref l, .ref hi], oc k 0 [.ref ka, vi ((len : Nat) : Int), vi pl], ai cI ka 800 f, oc g 1 [.ref b, vi ((fi : Nat) : Int), vi ((en : Nat) : Int)], aj cJ b 160 R, oc w 2 [.ref wa, vi (b2 hm)], aj cJ wa 70 W, oc t 0 [.ref ta, vi ((lt : Nat) : Int), vi pt2], ai cI ta 800 ft, oc l 0 [.ref la, vi ((ll : Nat) : Int), vi pll], ai cI la 800 fl1, oc hi 0 [.ref ha, vi ((lh : Nat) : Int), vi ph], ai cI ha 800 fh, oc y 4 [vi er, vi (b2 mj), .ref dg, vi ((lem : Nat) : Int), vi pm, vi ((zs : Nat) : Int), vi pu, .ref rw, vi ((mn : Nat) : Int), vi fr, vj fo, .ref bt, .ref wz, .ref lw, .ref hg, vi ((ls : Nat) : Int), vi lp, vi ((hs : Nat) : Int), vi hq], ai cI dg 800 d, ai cI rw 1200 rf, ai cI bt 1100 bb, ai cI wz 800 wf, ai cI lw 1200 lf, ai cI hg 1200 hf, aj cJ o 1 oo] (21 + c) (9776 + 6 * c) 23 [(0, .ref sc), (1, .ref x), (2, .ref y), (3, .ref o), (4, vi (((3 * c) : Nat) : Int))] []
  refine qv_iload C rfl dq_Law_law_23 ?_
  refine qv_aload_n C rfl dq_Law_law_25 ?_
  refine qs_len C hS dq_Law_law_26 ?_
  refine qv_iconst C dq_Law_law_27 ?_
  refine qv_isub C (r := (((L : Nat) : Int) - 3)) rfl dq_Law_law_28 ?_
  refine qv_icgt C (by omega) (by omega) (tgt := 613) (by decide) dq_Law_law_29 (fun h29 => ?_) (fun h29 => ?_)
  · skip
    refine qv_iconst C dq_Law_law_613 ?_
    exact qw_ret C hw dq_Law_law_614 (by omega) (by omega)
  · skip
    have h32 : 3 * c + 3 ≤ L := by omega
    refine qv_aload_n C rfl dq_Law_law_32 ?_
    refine qv_iload C rfl dq_Law_law_33 ?_
    refine qs_ld C hS (3 * c) rfl (by omega) (by omega) dq_Law_law_35 ?_
    obtain ⟨r, hr16, her⟩ := zi_15 (xs (3 * c))
    refine qv_bipush C (by decide) dq_Law_law_36 ?_
    refine qv_iand C (r := ((r : Nat) : Int)) her dq_Law_law_38 ?_
    rcases (show r = 0 ∨ r = 1 ∨ r = 2 ∨ r = 3 ∨ r = 4 ∨ r = 5 ∨ r = 6 ∨ r = 7 ∨ r = 8 ∨ 8 < r by omega) with rfl | rfl | rfl | rfl | rfl | rfl | rfl | rfl | rfl | ho
    · refine qv_tIn C (z := ((0 : Nat) : Int)) (tgt := 88) (by decide) (by decide) rfl (by decide) dq_Law_law_39 ?_
      exact law_set C hX hS hL h32 (hn h32) mi zr pt len pl f fi en R hm W lt pt2 ft ll pll fl1 lh ph fh er mj lem pm zs pu d mn fr fo ls lp hs hq rf bb wf lf hf oo hT hB
    · refine qv_tIn C (z := ((1 : Nat) : Int)) (tgt := 176) (by decide) (by decide) rfl (by decide) dq_Law_law_39 ?_
      exact law_digit C hX hS hL h32 (hn h32) mi zr pt len pl f fi en R hm W lt pt2 ft ll pll fl1 lh ph fh er mj lem pm zs pu d mn fr fo ls lp hs hq rf bb wf lf hf oo hT hB
    · refine qv_tIn C (z := ((2 : Nat) : Int)) (tgt := 232) (by decide) (by decide) rfl (by decide) dq_Law_law_39 ?_
      exact law_clear C hX hS hL h32 (hn h32) mi zr pt len pl f fi en R hm W lt pt2 ft ll pll fl1 lh ph fh er mj lem pm zs pu d mn fr fo ls lp hs hq rf bb wf lf hf oo hT hB
    · refine qv_tIn C (z := ((3 : Nat) : Int)) (tgt := 296) (by decide) (by decide) rfl (by decide) dq_Law_law_39 ?_
      exact law_round C hX hS hL h32 (hn h32) mi zr pt len pl f fi en R hm W lt pt2 ft ll pll fl1 lh ph fh er mj lem pm zs pu d mn fr fo ls lp hs hq rf bb wf lf hf oo hT hB
    · refine qv_tIn C (z := ((4 : Nat) : Int)) (tgt := 352) (by decide) (by decide) rfl (by decide) dq_Law_law_39 ?_
      exact law_places C hX hS hL h32 (hn h32) mi zr pt len pl f fi en R hm W lt pt2 ft ll pll fl1 lh ph fh er mj lem pm zs pu d mn fr fo ls lp hs hq rf bb wf lf hf oo hT hB
    · refine qv_tIn C (z := ((5 : Nat) : Int)) (tgt := 408) (by decide) (by decide) rfl (by decide) dq_Law_law_39 ?_
      exact law_nearest C hX hS hL h32 (hn h32) mi zr pt len pl f fi en R hm W lt pt2 ft ll pll fl1 lh ph fh er mj lem pm zs pu d mn fr fo ls lp hs hq rf bb wf lf hf oo hT hB
    · refine qv_tIn C (z := ((6 : Nat) : Int)) (tgt := 451) (by decide) (by decide) rfl (by decide) dq_Law_law_39 ?_
      exact law_enough C hX hS hL h32 (hn h32) mi zr pt len pl f fi en R hm W lt pt2 ft ll pll fl1 lh ph fh er mj lem pm zs pu d mn fr fo ls lp hs hq rf bb wf lf hf oo hT hB
    · refine qv_tIn C (z := ((7 : Nat) : Int)) (tgt := 495) (by decide) (by decide) rfl (by decide) dq_Law_law_39 ?_
      exact law_look C hX hS hL h32 (hn h32) mi zr pt len pl f fi en R hm W lt pt2 ft ll pll fl1 lh ph fh er mj lem pm zs pu d mn fr fo ls lp hs hq rf bb wf lf hf oo hT hB
    · refine qv_tIn C (z := ((8 : Nat) : Int)) (tgt := 551) (by decide) (by decide) rfl (by decide) dq_Law_law_39 ?_
      exact law_count C hX hS hL h32 (hn h32) mi zr pt len pl f fi en R hm W lt pt2 ft ll pll fl1 lh ph fh er mj lem pm zs pu d mn fr fo ls lp hs hq rf bb wf lf hf oo hT hB
    · refine qv_tOut C (tgt := 607) (by omega) (by omega) (by decide) dq_Law_law_39 ?_
      refine qv_wide (k' := 21 + (c + 1)) (n' := 9776 + 6 * (c + 1)) (by omega) (by omega) ?_
      exact hn h32 mi zr pt len pl f fi en R hm W lt pt2 ft ll pll fl1 lh ph fh er mj lem pm zs pu d mn fr fo ls lp hs hq rf bb wf lf hf oo (Tie_s hT) hB
theorem law_back {K : Kx} {cI cJ : ClassId} (C : Cx K cI cJ code 8 RL room_1) (hX : Xk K XT) {sc L : Nat} {xs : Nat → Int32} (hS : Sx K sc L xs) (hL : L ≤ 1536) {x k g w t l hi ka b wa ta la ha y dg rw bt wz lw hg o c : Nat} (hc : 3 * c + 3 ≤ L) (hn : LG K cI cJ sc x k g w t l hi ka b wa ta la ha y dg rw bt wz lw hg o (c + 1) (3 * (c + 1)) (21 + (c + 1)) (9776 + 6 * (c + 1)) 23) : LG K cI cJ sc x k g w t l hi ka b wa ta la ha y dg rw bt wz lw hg o (c + 1) (3 * c) (21 + (c + 1)) (9776 + 6 * (c + 1)) 607 := by
  intro mi zr pt len pl f fi en R hm W lt pt2 ft ll pll fl1 lh ph fh er mj lem pm zs pu d mn fr fo ls lp hs hq rf bb wf lf hf oo hT hB
  show V K 8 [oc x 3 [.ref k, vi (b2 mi), vi ((zr : Nat) : Int), vi pt, .ref g, .ref w, .ref t, .ref l, .ref hi], oc k 0 [.ref ka, vi ((len : Nat) : Int), vi pl], ai cI ka 800 f, oc g 1 [.ref b, vi ((fi : Nat) : Int), vi ((en : Nat) : Int)], aj cJ b 160 R, oc w 2 [.ref wa, vi (b2 hm)], aj cJ wa 70 W, oc t 0 [.ref ta, vi ((lt : Nat) : Int), vi pt2], ai cI ta 800 ft, oc l 0 [.ref la, vi ((ll : Nat) : Int), vi pll], ai cI la 800 fl1, oc hi 0 [.ref ha, vi ((lh : Nat) : Int), vi ph], ai cI ha 800 fh, oc y 4 [vi er, vi (b2 mj), .ref dg, vi ((lem : Nat) : Int), vi pm, vi ((zs : Nat) : Int), vi pu, .ref rw, vi ((mn : Nat) : Int), vi fr, vj fo, .ref bt, .ref wz, .ref lw, .ref hg, vi ((ls : Nat) : Int), vi lp, vi ((hs : Nat) : Int), vi hq], ai cI dg 800 d, ai cI rw 1200 rf, ai cI bt 1100 bb, ai cI wz 800 wf, ai cI lw 1200 lf, ai cI hg 1200 hf, aj cJ o 1 oo] (21 + (c + 1)) (9776 + 6 * (c + 1)) 607 [(0, .ref sc), (1, .ref x), (2, .ref y), (3, .ref o), (4, vi (((3 * c) : Nat) : Int))] []
  refine qv_iinc C (j := 4) (lv' := [(4, vi (((3 * (c + 1)) : Nat) : Int)), (0, .ref sc), (1, .ref x), (2, .ref y), (3, .ref o)]) (by omega) rfl (by decide) rfl dq_Law_law_607 ?_
  refine qv_goto C (tgt := 23) (by decide) dq_Law_law_610 ?_
  refine qv_lv [1, 2, 3, 4, 0] (lv' := [(0, .ref sc), (1, .ref x), (2, .ref y), (3, .ref o), (4, vi (((3 * (c + 1)) : Nat) : Int))]) rfl ?_
  exact hn mi zr pt len pl f fi en R hm W lt pt2 ft ll pll fl1 lh ph fh er mj lem pm zs pu d mn fr fo ls lp hs hq rf bb wf lf hf oo hT hB
theorem law_loop {K : Kx} {cI cJ : ClassId} (C : Cx K cI cJ code 8 RL room_1) (hX : Xk K XT) {sc L : Nat} {xs : Nat → Int32} (hS : Sx K sc L xs) (hL : L ≤ 1536) {x k g w t l hi ka b wa ta la ha y dg rw bt wz lw hg o : Nat} (hw : Lw K sc) : ∀ j c : Nat, L ≤ 3 * c + 3 * j → 3 * c ≤ L → LG K cI cJ sc x k g w t l hi ka b wa ta la ha y dg rw bt wz lw hg o c (3 * c) (21 + c) (9776 + 6 * c) 23 := by
  intro j
  induction j with
  | zero => intro c h1 h2; exact law_head C hX hS hL hw h2 (fun h => absurd h (by omega))
  | succ j ih => intro c h1 h2; exact law_head C hX hS hL hw h2 (fun h => law_back C hX hS hL h (ih (c + 1) (by omega) (by omega)))
set_option maxRecDepth 10000 in
theorem law_start {K : Kx} {cI cJ : ClassId} (C : Cx K cI cJ code 8 RL room_1) (hX : Xk K XT) {sc L : Nat} {xs : Nat → Int32} (hS : Sx K sc L xs) (hL : L ≤ 1536) (hw : Lw K sc) : V K 8 [] 0 0 0 [(0, .ref sc)] [] := by
  refine qv_new C (ci := 3) (Nf := 9) (fs := [.null, vi 0, vi 0, vi 0, .null, .null, .null, .null, .null]) ty3_ tt_3 tu_3 (wl (i := 17) rfl rfl) (wl (i := 18) rfl rfl) (wl (i := 1) rfl rfl) rfl (fun j hj => by rcases (show j = 0 ∨ j = 1 ∨ j = 2 ∨ j = 3 ∨ j = 4 ∨ j = 5 ∨ j = 6 ∨ j = 7 ∨ j = 8 by omega) with rfl | rfl | rfl | rfl | rfl | rfl | rfl | rfl | rfl <;> rfl) (by decide) (by decide) dq_Law_law_0 (fun x => ?_)
  show V K 8 [oc x 3 [.null, vi 0, vi 0, vi 0, .null, .null, .null, .null, .null]] 1 9 3 [(0, .ref sc)] [.ref x]
  refine qv_dup C rfl dq_Law_law_3 ?_
  refine qc_iV (wr := []) (st := [.ref x]) (As := []) C cl_Law_47 cd_Tru_init (c_Tru_init cI cJ x) (Xok_t K) Xbl_t [0] [] rfl rfl (by decide) (by decide) (by decide) rfl rfl (Nat.le_of_ble_eq_true rfl) (by decide) (by decide) dq_Law_law_4 (fun u hu => ?_)
  obtain ⟨k, ka, g, b, w, wa, t, ta, l, la, hi, ha, rfl⟩ := hu
  show V K 8 [oc x 3 [.ref k, vi (b2 false), vi 0, vi 0, .ref g, .ref w, .ref t, .ref l, .ref hi], oc k 0 [.ref ka, vi 0, vi 0], ai cI ka 800 (fun _ => 0), oc g 1 [.ref b, vi 0, vi 0], aj cJ b 160 (fun _ => 0), oc w 2 [.ref wa, vi (b2 false)], aj cJ wa 70 (fun _ => 0), oc t 0 [.ref ta, vi 0, vi 0], ai cI ta 800 (fun _ => 0), oc l 0 [.ref la, vi 0, vi 0], ai cI la 800 (fun _ => 0), oc hi 0 [.ref ha, vi 0, vi 0], ai cI ha 800 (fun _ => 0)] 13 3456 7 [(0, .ref sc)] [.ref x]
  refine qv_astore_n C (lv' := [(1, .ref x), (0, .ref sc)]) (by decide) rfl dq_Law_law_7 ?_
  refine qv_new C (ci := 4) (Nf := 19) (fs := [vi 0, vi 0, .null, vi 0, vi 0, vi 0, vi 0, .null, vi 0, vi 0, vj 0, .null, .null, .null, .null, vi 0, vi 0, vi 0, vi 0]) ty4_ tt_4 tu_4 (wl (i := 453) rfl rfl) (wl (i := 454) rfl rfl) (wl (i := 5) rfl rfl) rfl (fun j hj => by rcases (show j = 0 ∨ j = 1 ∨ j = 2 ∨ j = 3 ∨ j = 4 ∨ j = 5 ∨ j = 6 ∨ j = 7 ∨ j = 8 ∨ j = 9 ∨ j = 10 ∨ j = 11 ∨ j = 12 ∨ j = 13 ∨ j = 14 ∨ j = 15 ∨ j = 16 ∨ j = 17 ∨ j = 18 by omega) with rfl | rfl | rfl | rfl | rfl | rfl | rfl | rfl | rfl | rfl | rfl | rfl | rfl | rfl | rfl | rfl | rfl | rfl | rfl <;> rfl) (by decide) (by decide) dq_Law_law_8 (fun y => ?_)
  show V K 8 [oc x 3 [.ref k, vi (b2 false), vi 0, vi 0, .ref g, .ref w, .ref t, .ref l, .ref hi], oc k 0 [.ref ka, vi 0, vi 0], ai cI ka 800 (fun _ => 0), oc g 1 [.ref b, vi 0, vi 0], aj cJ b 160 (fun _ => 0), oc w 2 [.ref wa, vi (b2 false)], aj cJ wa 70 (fun _ => 0), oc t 0 [.ref ta, vi 0, vi 0], ai cI ta 800 (fun _ => 0), oc l 0 [.ref la, vi 0, vi 0], ai cI la 800 (fun _ => 0), oc hi 0 [.ref ha, vi 0, vi 0], ai cI ha 800 (fun _ => 0), oc y 4 [vi 0, vi 0, .null, vi 0, vi 0, vi 0, vi 0, .null, vi 0, vi 0, vj 0, .null, .null, .null, .null, vi 0, vi 0, vi 0, vi 0]] 14 3475 11 [(1, .ref x), (0, .ref sc)] [.ref y]
  refine qv_dup C rfl dq_Law_law_11 ?_
  refine qc_iV (wr := [oc x 3 [.ref k, vi (b2 false), vi 0, vi 0, .ref g, .ref w, .ref t, .ref l, .ref hi], oc k 0 [.ref ka, vi 0, vi 0], ai cI ka 800 (fun _ => 0), oc g 1 [.ref b, vi 0, vi 0], aj cJ b 160 (fun _ => 0), oc w 2 [.ref wa, vi (b2 false)], aj cJ wa 70 (fun _ => 0), oc t 0 [.ref ta, vi 0, vi 0], ai cI ta 800 (fun _ => 0), oc l 0 [.ref la, vi 0, vi 0], ai cI la 800 (fun _ => 0), oc hi 0 [.ref ha, vi 0, vi 0], ai cI ha 800 (fun _ => 0)]) (st := [.ref y]) (As := []) C cl_Law_50 cd_Mod_init (c_Mod_init cI cJ y) (Xok_t K) Xbl_t [13] [0, 1, 2, 3, 4, 5, 6, 7, 8, 9, 10, 11, 12] rfl rfl (by decide) (by decide) (by decide) rfl rfl (Nat.le_of_ble_eq_true rfl) (by decide) (by decide) dq_Law_law_12 (fun u hu => ?_)
  obtain ⟨dg, rw, bt, wz, lw, hg, rfl⟩ := hu
  show V K 8 [oc x 3 [.ref k, vi (b2 false), vi 0, vi 0, .ref g, .ref w, .ref t, .ref l, .ref hi], oc k 0 [.ref ka, vi 0, vi 0], ai cI ka 800 (fun _ => 0), oc g 1 [.ref b, vi 0, vi 0], aj cJ b 160 (fun _ => 0), oc w 2 [.ref wa, vi (b2 false)], aj cJ wa 70 (fun _ => 0), oc t 0 [.ref ta, vi 0, vi 0], ai cI ta 800 (fun _ => 0), oc l 0 [.ref la, vi 0, vi 0], ai cI la 800 (fun _ => 0), oc hi 0 [.ref ha, vi 0, vi 0], ai cI ha 800 (fun _ => 0), oc y 4 [vi 0, vi (b2 false), .ref dg, vi 0, vi 0, vi 0, vi 0, .ref rw, vi 0, vi 0, vj 0, .ref bt, .ref wz, .ref lw, .ref hg, vi 0, vi 0, vi 0, vi 0], ai cI dg 800 (fun _ => 0), ai cI rw 1200 (fun _ => 0), ai cI bt 1100 (fun _ => 0), ai cI wz 800 (fun _ => 0), ai cI lw 1200 (fun _ => 0), ai cI hg 1200 (fun _ => 0)] 20 9775 15 [(1, .ref x), (0, .ref sc)] [.ref y]
  refine qv_astore_n C (lv' := [(2, .ref y), (1, .ref x), (0, .ref sc)]) (by decide) rfl dq_Law_law_15 ?_
  refine qv_iconst C dq_Law_law_16 ?_
  refine qv_newJ C 1 (by decide) (by decide) (by decide) (by decide) dq_Law_law_17 (fun o => ?_)
  show V K 8 [oc x 3 [.ref k, vi (b2 false), vi 0, vi 0, .ref g, .ref w, .ref t, .ref l, .ref hi], oc k 0 [.ref ka, vi 0, vi 0], ai cI ka 800 (fun _ => 0), oc g 1 [.ref b, vi 0, vi 0], aj cJ b 160 (fun _ => 0), oc w 2 [.ref wa, vi (b2 false)], aj cJ wa 70 (fun _ => 0), oc t 0 [.ref ta, vi 0, vi 0], ai cI ta 800 (fun _ => 0), oc l 0 [.ref la, vi 0, vi 0], ai cI la 800 (fun _ => 0), oc hi 0 [.ref ha, vi 0, vi 0], ai cI ha 800 (fun _ => 0), oc y 4 [vi 0, vi (b2 false), .ref dg, vi 0, vi 0, vi 0, vi 0, .ref rw, vi 0, vi 0, vj 0, .ref bt, .ref wz, .ref lw, .ref hg, vi 0, vi 0, vi 0, vi 0], ai cI dg 800 (fun _ => 0), ai cI rw 1200 (fun _ => 0), ai cI bt 1100 (fun _ => 0), ai cI wz 800 (fun _ => 0), ai cI lw 1200 (fun _ => 0), ai cI hg 1200 (fun _ => 0), aj cJ o 1 (fun _ => 0)] 21 9776 19 [(2, .ref y), (1, .ref x), (0, .ref sc)] [.ref o]
  refine qv_astore_n C (lv' := [(3, .ref o), (2, .ref y), (1, .ref x), (0, .ref sc)]) (by decide) rfl dq_Law_law_19 ?_
  refine qv_iconst C dq_Law_law_20 ?_
  refine qv_istore C (lv' := [(4, vi 0), (3, .ref o), (2, .ref y), (1, .ref x), (0, .ref sc)]) (by decide) rfl dq_Law_law_21 ?_
  refine qv_lv [4, 3, 2, 1, 0] (lv' := [(0, .ref sc), (1, .ref x), (2, .ref y), (3, .ref o), (4, vi 0)]) rfl ?_
  refine qv_wide (k' := 21 + 0) (n' := 9776 + 6 * 0) (by omega) (by omega) ?_
  exact law_loop C hX hS hL hw L 0 (by omega) (by omega) false 0 0 0 0 (fun _ => 0) 0 0 (fun _ => 0) false (fun _ => 0) 0 0 (fun _ => 0) 0 0 (fun _ => 0) 0 0 (fun _ => 0) 0 false 0 0 0 0 (fun _ => 0) 0 0 0 0 0 0 0 (fun _ => 0) (fun _ => 0) (fun _ => 0) (fun _ => 0) (fun _ => 0) (fun _ => 0) Tie_0 ⟨fun _ => Nat.zero_le 9, fun _ => Nat.zero_le 9, fun _ => Nat.zero_le 9, fun _ => Nat.zero_le 9, fun _ => Nat.zero_lt_two, fun _ => Nat.zero_le 9, fun _ => Nat.zero_le 9, fun _ => Nat.zero_le 9⟩
