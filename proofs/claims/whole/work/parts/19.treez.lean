set_option maxHeartbeats 4000000 in
set_option maxRecDepth 100000 in
/-- Tree.hasLeaf -/
theorem c_TR_hasLeaf {l : Launch} {dC : Nat → ClassId} {dI : Nat → Nat → Nat} {cI cJ : ClassId} {H : Heap} {ad : Nat → Nat} {L S C B : Nat} {t : Ts} (ok : tr_ok L S C B) (hP : va_P (dC, dI) kCl (tw_ cI cJ ad L S C B (ts_mk (ts_nodes t) (ts_cnts t) (ts_stash t) (ts_trail t) (ts_plan t) (ts_tgt t) (ts_way t) (ts_sought t))) H) (lf : Int32) : Met l y_TR_hasLeaf (k_TR_hasLeaf :: bw) { frames := 0, cells := 0, slots := 0, locals := 0 } (zP (dC, dI) kCl [(cI, .int), (cJ, .long)] [.ref (ad 0), .int lf] H) (zQi H (b2i (rw_has (2 ^ L) lf))) 0 0 (fun _ => False) := by
  refine Met.ofZ (own := "CoinTree$Tree") (by decide) rfl [.ref (ad 0), .int lf] (Nat.le_of_ble_eq_true rfl) (fun _ _ h => h.1) ?_
  intro p e s m below meth c ls C0 hv hl
  obtain ⟨hx, hb, hr, hml, hown, hT, hlocks⟩ := C0
  obtain ⟨-, rfl, hK⟩ := hv
  have hS : va_S (fun _ => False) s.heap s.heap [] := va_S.rf
  have hl : lv_has ls 2 [(0, .ref (ad 0)), (1, .int lf)] := hl
  refine lv_iload_n hx hb d_TR_hasLeaf_0 rfl (lv_at hl 1 rfl) ?_
  refine lv_if_lt (tgt := 16) hx hb d_TR_hasLeaf_1 (by decide) (fun c_1 => ?_) (fun c_1 => ?_)
  · refine lv_iconst (v := 0) hx hb d_TR_hasLeaf_16 (by decide) ?_
    exact W.zret (ty := .boolean) hx hb hr nar_0 (fun t9 ht _ => zQi_end (by first | exact b2i_t (rw_has_t (by assumption) (by assumption)) | exact b2i_f (rw_has_f1 (by assumption)) | exact b2i_f (rw_has_f2 (by assumption))) rfl ht) hS.2.2 d_TR_hasLeaf_17 hlocks
  · refine lv_iload_n hx hb d_TR_hasLeaf_4 rfl (lv_at hl 1 rfl) ?_
    refine lv_aload_n hx hb d_TR_hasLeaf_5 rfl (lv_at hl 0 rfl) ?_
    refine va_get (D := (dC, dI)) (ci := 2) (v := .int (nI (2 ^ L))) (C := R_TR) (T := F_TR) (N := 12) hx hb hT i_TR hown hK hP 0 rfl rfl 1 (by decide) (hT _ m_99) (fun _ h9 => h9) rfl d_TR_hasLeaf_6 ?_
    refine lv_icmp_ge (tgt := 16) hx hb d_TR_hasLeaf_9 (by decide) (fun c_2 => ?_) (fun c_2 => ?_)
    · refine lv_iconst (v := 0) hx hb d_TR_hasLeaf_16 (by decide) ?_
      exact W.zret (ty := .boolean) hx hb hr nar_0 (fun t9 ht _ => zQi_end (by first | exact b2i_t (rw_has_t (by assumption) (by assumption)) | exact b2i_f (rw_has_f1 (by assumption)) | exact b2i_f (rw_has_f2 (by assumption))) rfl ht) hS.2.2 d_TR_hasLeaf_17 hlocks
    · refine lv_iconst (v := 1) hx hb d_TR_hasLeaf_12 (by decide) ?_
      refine lv_goto (tgt := 17) hx hb d_TR_hasLeaf_13 (by decide) ?_
      exact W.zret (ty := .boolean) hx hb hr nar_1 (fun t9 ht _ => zQi_end (by first | exact b2i_t (rw_has_t (by assumption) (by assumption)) | exact b2i_f (rw_has_f1 (by assumption)) | exact b2i_f (rw_has_f2 (by assumption))) rfl ht) hS.2.2 d_TR_hasLeaf_17 hlocks

set_option maxHeartbeats 4000000 in
set_option maxRecDepth 100000 in
/-- Tree.hasNode -/
theorem c_TR_hasNode {l : Launch} {dC : Nat → ClassId} {dI : Nat → Nat → Nat} {cI cJ : ClassId} {H : Heap} {ad : Nat → Nat} {L S C B : Nat} {t : Ts} (ok : tr_ok L S C B) (hP : va_P (dC, dI) kCl (tw_ cI cJ ad L S C B (ts_mk (ts_nodes t) (ts_cnts t) (ts_stash t) (ts_trail t) (ts_plan t) (ts_tgt t) (ts_way t) (ts_sought t))) H) (nd : Int32) : Met l y_TR_hasNode (k_TR_hasNode :: bw) { frames := 0, cells := 0, slots := 0, locals := 0 } (zP (dC, dI) kCl [(cI, .int), (cJ, .long)] [.ref (ad 0), .int nd] H) (zQi H (b2i (tr_nd L nd))) 0 0 (fun _ => False) := by
  refine Met.ofZ (own := "CoinTree$Tree") (by decide) rfl [.ref (ad 0), .int nd] (Nat.le_of_ble_eq_true rfl) (fun _ _ h => h.1) ?_
  intro p e s m below meth c ls C0 hv hl
  obtain ⟨hx, hb, hr, hml, hown, hT, hlocks⟩ := C0
  obtain ⟨-, rfl, hK⟩ := hv
  have hS : va_S (fun _ => False) s.heap s.heap [] := va_S.rf
  have hl : lv_has ls 2 [(0, .ref (ad 0)), (1, .int nd)] := hl
  refine lv_iload_n hx hb d_TR_hasNode_0 rfl (lv_at hl 1 rfl) ?_
  refine lv_iconst (v := 1) hx hb d_TR_hasNode_1 (by decide) ?_
  refine lv_icmp_lt (tgt := 19) hx hb d_TR_hasNode_2 (by decide) (fun c_1 => ?_) (fun c_1 => ?_)
  · refine lv_iconst (v := 0) hx hb d_TR_hasNode_19 (by decide) ?_
    exact W.zret (ty := .boolean) hx hb hr nar_0 (fun t9 ht _ => zQi_end (by first | exact b2i_t (tr_nd_t (by assumption) (by assumption)) | exact b2i_f (tr_nd_f1 (by assumption)) | exact b2i_f (tr_nd_f2 (by assumption))) rfl ht) hS.2.2 d_TR_hasNode_20 hlocks
  · refine lv_iload_n hx hb d_TR_hasNode_5 rfl (lv_at hl 1 rfl) ?_
    refine lv_iconst (v := 2) hx hb d_TR_hasNode_6 (by decide) ?_
    refine lv_aload_n hx hb d_TR_hasNode_7 rfl (lv_at hl 0 rfl) ?_
    refine va_get (D := (dC, dI)) (ci := 2) (v := .int (nI (2 ^ L))) (C := R_TR) (T := F_TR) (N := 12) hx hb hT i_TR hown hK hP 0 rfl rfl 1 (by decide) (hT _ m_99) (fun _ h9 => h9) rfl d_TR_hasNode_8 ?_
    refine lv_imul hx hb d_TR_hasNode_11 ?_
    refine lv_icmp_ge (tgt := 19) hx hb d_TR_hasNode_12 (by decide) (fun c_2 => ?_) (fun c_2 => ?_)
    · refine lv_iconst (v := 0) hx hb d_TR_hasNode_19 (by decide) ?_
      exact W.zret (ty := .boolean) hx hb hr nar_0 (fun t9 ht _ => zQi_end (by first | exact b2i_t (tr_nd_t (by assumption) (by assumption)) | exact b2i_f (tr_nd_f1 (by assumption)) | exact b2i_f (tr_nd_f2 (by assumption))) rfl ht) hS.2.2 d_TR_hasNode_20 hlocks
    · refine lv_iconst (v := 1) hx hb d_TR_hasNode_15 (by decide) ?_
      refine lv_goto (tgt := 20) hx hb d_TR_hasNode_16 (by decide) ?_
      exact W.zret (ty := .boolean) hx hb hr nar_1 (fun t9 ht _ => zQi_end (by first | exact b2i_t (tr_nd_t (by assumption) (by assumption)) | exact b2i_f (tr_nd_f1 (by assumption)) | exact b2i_f (tr_nd_f2 (by assumption))) rfl ht) hS.2.2 d_TR_hasNode_20 hlocks

set_option maxHeartbeats 4000000 in
set_option maxRecDepth 100000 in
/-- Tree.leafModulo -/
theorem c_TR_leafModulo {l : Launch} {dC : Nat → ClassId} {dI : Nat → Nat → Nat} {cI cJ : ClassId} {H : Heap} {ad : Nat → Nat} {L S C B : Nat} {t : Ts} (ok : tr_ok L S C B) (hP : va_P (dC, dI) kCl (tw_ cI cJ ad L S C B (ts_mk (ts_nodes t) (ts_cnts t) (ts_stash t) (ts_trail t) (ts_plan t) (ts_tgt t) (ts_way t) (ts_sought t))) H) (x : Int32) : Met l y_TR_leafModulo (k_TR_leafModulo :: bw) { frames := 0, cells := 0, slots := 0, locals := 0 } (zP (dC, dI) kCl [(cI, .int), (cJ, .long)] [.ref (ad 0), .int x] H) (zQi H (x &&& (nI (2 ^ L) - 1))) 0 0 (fun _ => False) := by
  refine Met.ofZ (own := "CoinTree$Tree") (by decide) rfl [.ref (ad 0), .int x] (Nat.le_of_ble_eq_true rfl) (fun _ _ h => h.1) ?_
  intro p e s m below meth c ls C0 hv hl
  obtain ⟨hx, hb, hr, hml, hown, hT, hlocks⟩ := C0
  obtain ⟨-, rfl, hK⟩ := hv
  have hS : va_S (fun _ => False) s.heap s.heap [] := va_S.rf
  have hl : lv_has ls 2 [(0, .ref (ad 0)), (1, .int x)] := hl
  refine lv_iload_n hx hb d_TR_leafModulo_0 rfl (lv_at hl 1 rfl) ?_
  refine lv_aload_n hx hb d_TR_leafModulo_1 rfl (lv_at hl 0 rfl) ?_
  refine va_get (D := (dC, dI)) (ci := 2) (v := .int (nI (2 ^ L))) (C := R_TR) (T := F_TR) (N := 12) hx hb hT i_TR hown hK hP 0 rfl rfl 1 (by decide) (hT _ m_99) (fun _ h9 => h9) rfl d_TR_leafModulo_2 ?_
  refine lv_iconst (v := 1) hx hb d_TR_leafModulo_5 (by decide) ?_
  refine lv_isub hx hb d_TR_leafModulo_6 ?_
  refine lv_iand hx hb d_TR_leafModulo_7 ?_
  exact W.iret hx hb hr (fun t9 ht _ => zQi_end (rfl) rfl ht) hS.2.2 d_TR_leafModulo_8 hlocks

set_option maxHeartbeats 4000000 in
set_option maxRecDepth 100000 in
/-- Tree.nodeOnWay -/
theorem c_TR_nodeOnWay {l : Launch} {dC : Nat → ClassId} {dI : Nat → Nat → Nat} {cI cJ : ClassId} {H : Heap} {ad : Nat → Nat} {L S C B : Nat} {t : Ts} (ok : tr_ok L S C B) (hP : va_P (dC, dI) kCl (tw_ cI cJ ad L S C B (ts_mk (ts_nodes t) (ts_cnts t) (ts_stash t) (ts_trail t) (ts_plan t) (ts_tgt t) (ts_way t) (ts_sought t))) H) (lf lv : Int32) : Met l y_TR_nodeOnWay (k_TR_nodeOnWay :: bw) { frames := 0, cells := 0, slots := 0, locals := 0 } (zP (dC, dI) kCl [(cI, .int), (cJ, .long)] [.ref (ad 0), .int lf, .int lv] H) (zQi H (tr_way L lf lv)) 0 0 (fun _ => False) := by
  refine Met.ofZ (own := "CoinTree$Tree") (by decide) rfl [.ref (ad 0), .int lf, .int lv] (Nat.le_of_ble_eq_true rfl) (fun _ _ h => h.1) ?_
  intro p e s m below meth c ls C0 hv hl
  obtain ⟨hx, hb, hr, hml, hown, hT, hlocks⟩ := C0
  obtain ⟨-, rfl, hK⟩ := hv
  have hS : va_S (fun _ => False) s.heap s.heap [] := va_S.rf
  have hl : lv_has ls 3 [(0, .ref (ad 0)), (1, .int lf), (2, .int lv)] := hl
  refine lv_aload_n hx hb d_TR_nodeOnWay_0 rfl (lv_at hl 0 rfl) ?_
  refine va_get (D := (dC, dI)) (ci := 2) (v := .int (nI (2 ^ L))) (C := R_TR) (T := F_TR) (N := 12) hx hb hT i_TR hown hK hP 0 rfl rfl 1 (by decide) (hT _ m_99) (fun _ h9 => h9) rfl d_TR_nodeOnWay_1 ?_
  refine lv_iload_n hx hb d_TR_nodeOnWay_4 rfl (lv_at hl 1 rfl) ?_
  refine lv_iadd hx hb d_TR_nodeOnWay_5 ?_
  refine lv_aload_n hx hb d_TR_nodeOnWay_6 rfl (lv_at hl 0 rfl) ?_
  refine va_get (D := (dC, dI)) (ci := 2) (v := .int (nI L)) (C := R_TR) (T := F_TR) (N := 12) hx hb hT i_TR hown hK hP 0 rfl rfl 0 (by decide) (hT _ m_98) (fun _ h9 => h9) rfl d_TR_nodeOnWay_7 ?_
  refine lv_iload_n hx hb d_TR_nodeOnWay_10 rfl (lv_at hl 2 rfl) ?_
  refine lv_isub hx hb d_TR_nodeOnWay_11 ?_
  refine lv_ishr hx hb d_TR_nodeOnWay_12 ?_
  exact W.iret hx hb hr (fun t9 ht _ => zQi_end (rfl) rfl ht) hS.2.2 d_TR_nodeOnWay_13 hlocks

set_option maxHeartbeats 4000000 in
set_option maxRecDepth 100000 in
/-- Tree.timesWritten -/
theorem c_TR_timesWritten {l : Launch} {dC : Nat → ClassId} {dI : Nat → Nat → Nat} {cI cJ : ClassId} {H : Heap} {ad : Nat → Nat} {L S C B : Nat} {t : Ts} (ok : tr_ok L S C B) (hP : va_P (dC, dI) kCl (tw_ cI cJ ad L S C B (ts_mk (ts_nodes t) (ts_cnts t) (ts_stash t) (ts_trail t) (ts_plan t) (ts_tgt t) (ts_way t) (ts_sought t))) H) (nd : Int32) : Met l y_TR_timesWritten (k_TR_timesWritten :: bw) { frames := 1, cells := 0, slots := 0, locals := 21 } (zP (dC, dI) kCl [(cI, .int), (cJ, .long)] [.ref (ad 0), .int nd] H) (zQi H (if tr_nd L nd = true then ts_cnts t nd.toNatClampNeg else 0)) 0 0 (fun _ => False) := by
  refine Met.ofZ (own := "CoinTree$Tree") (by decide) rfl [.ref (ad 0), .int nd] (Nat.le_of_ble_eq_true rfl) (fun _ _ h => h.1) ?_
  intro p e s m below meth c ls C0 hv hl
  obtain ⟨hx, hb, hr, hml, hown, hT, hlocks⟩ := C0
  obtain ⟨-, rfl, hK⟩ := hv
  have hS : va_S (fun _ => False) s.heap s.heap [] := va_S.rf
  have hl : lv_has ls 2 [(0, .ref (ad 0)), (1, .int nd)] := hl
  refine lv_aload_n hx hb d_TR_timesWritten_0 rfl (lv_at hl 0 rfl) ?_
  refine lv_iload_n hx hb d_TR_timesWritten_1 rfl (lv_at hl 1 rfl) ?_
  refine zc_i (va_runV (As := [.int nd]) (rest := []) ⟨hx, hb, hml, hown, hT⟩ (c_TR_hasNode (t := ts_mk (ts_nodes t) (ts_cnts t) (ts_stash t) (ts_trail t) (ts_plan t) (ts_tgt t) (ts_way t) (ts_sought t)) ok hP nd) (cwV 1 hT (gi_V m_376 m_373 m_374 m_375 m_24) rfl rfl rfl p_TR_hasNode ⟨Nat.le_of_ble_eq_true rfl, Nat.le_of_ble_eq_true rfl⟩) ⟨zP_blind, va_recv hK hP (ci := 2) (q0 := 0) rfl rfl, zP_pre hK⟩ rfl rfl hl.1 rfl (lv_room (Nat.le_of_ble_eq_true rfl)) d_TR_timesWritten_2 ⟨Nat.le_refl _, Nat.le_refl _⟩) hS (fun locs hS => ?_)
  refine lv_if_eq (tgt := 17) hx hb d_TR_timesWritten_5 (by decide) (fun c_1 => ?_) (fun c_1 => ?_)
  · refine lv_iconst (v := 0) hx hb d_TR_timesWritten_17 (by decide) ?_
    exact W.iret hx hb hr (fun t9 ht _ => zQi_end (by first | exact (if_pos (b2i_n.mp c_1)).symm | exact (if_neg (by rw [b2i_0.mp c_1]; decide)).symm) rfl ht) hS.2.2 d_TR_timesWritten_18 hlocks
  · refine lv_aload_n hx hb d_TR_timesWritten_8 rfl (lv_at hl 0 rfl) ?_
    refine va_get (D := (dC, dI)) (ci := 2) (v := .ref (ad 5)) (C := R_TR) (T := F_TR) (N := 12) hx hb hT i_TR hown hK hP 0 rfl rfl 5 (by decide) (hT _ m_104) (fun _ h9 => h9) rfl d_TR_timesWritten_9 ?_
    refine lv_iload_n hx hb d_TR_timesWritten_12 rfl (lv_at hl 1 rfl) ?_
    refine va_iald hx hb hK hP 5 0 rfl rfl (tr_nd_vp ok (b2i_n.mp c_1)) d_TR_timesWritten_13 ?_
    refine lv_goto (tgt := 18) hx hb d_TR_timesWritten_14 (by decide) ?_
    exact W.iret hx hb hr (fun t9 ht _ => zQi_end (by first | exact (if_pos (b2i_n.mp c_1)).symm | exact (if_neg (by rw [b2i_0.mp c_1]; decide)).symm) rfl ht) hS.2.2 d_TR_timesWritten_18 hlocks

set_option maxHeartbeats 4000000 in
set_option maxRecDepth 100000 in
/-- Tree.soughtValue -/
theorem c_TR_soughtValue {l : Launch} {dC : Nat → ClassId} {dI : Nat → Nat → Nat} {cI cJ : ClassId} {H : Heap} {ad : Nat → Nat} {L S C B : Nat} {t : Ts} (ok : tr_ok L S C B) (hP : va_P (dC, dI) kCl (tw_ cI cJ ad L S C B (ts_mk (ts_nodes t) (ts_cnts t) (ts_stash t) (ts_trail t) (ts_plan t) (ts_tgt t) (ts_way t) (ts_sought t))) H) : Met l y_TR_soughtValue (k_TR_soughtValue :: bw) { frames := 2, cells := 0, slots := 0, locals := 42 } (zP (dC, dI) kCl [(cI, .int), (cJ, .long)] [.ref (ad 0)] H) (zQl H (rw_atL B (ts_plan t).2.2.1 (ts_sought t))) 0 0 (fun _ => False) := by
  refine Met.ofZ (own := "CoinTree$Tree") (by decide) rfl [.ref (ad 0)] (Nat.le_of_ble_eq_true rfl) (fun _ _ h => h.1) ?_
  intro p e s m below meth c ls C0 hv hl
  obtain ⟨hx, hb, hr, hml, hown, hT, hlocks⟩ := C0
  obtain ⟨-, rfl, hK⟩ := hv
  have hS : va_S (fun _ => False) s.heap s.heap [] := va_S.rf
  have hl : lv_has ls 1 [(0, .ref (ad 0))] := hl
  refine lv_aload_n hx hb d_TR_soughtValue_0 rfl (lv_at hl 0 rfl) ?_
  refine va_get (D := (dC, dI)) (ci := 2) (v := .ref (ad 12)) (C := R_TR) (T := F_TR) (N := 12) hx hb hT i_TR hown hK hP 0 rfl rfl 8 (by decide) (hT _ m_109) (fun _ h9 => h9) rfl d_TR_soughtValue_1 ?_
  refine lv_aload_n hx hb d_TR_soughtValue_4 rfl (lv_at hl 0 rfl) ?_
  refine va_get (D := (dC, dI)) (ci := 2) (v := .int (ts_sought t)) (C := R_TR) (T := F_TR) (N := 12) hx hb hT i_TR hown hK hP 0 rfl rfl 11 (by decide) (hT _ m_112) (fun _ h9 => h9) rfl d_TR_soughtValue_5 ?_
  refine zc_l (va_runV (As := [.int (ts_sought t)]) (rest := []) ⟨hx, hb, hml, hown, hT⟩ (c_RW_valueAt hP (show rw_in (tw_ cI cJ ad L S C B (ts_mk (ts_nodes t) (ts_cnts t) (ts_stash t) (ts_trail t) (ts_plan t) (ts_tgt t) (ts_way t) (ts_sought t))) 12 (ad 12) (ad 13) (ad 14) (ad 15) B cI cJ (ts_plan t) from ⟨rfl, rfl, rfl, rfl⟩) (tr_B_lt ok) (ts_sought t)) (cwV 1 hT (gi_V m_299 m_325 m_297 m_298 m_26) rfl rfl rfl p_RW_valueAt ⟨Nat.le_of_ble_eq_true rfl, Nat.le_of_ble_eq_true rfl⟩) ⟨zP_blind, va_recv hK hP (ci := 0) (q0 := 12) rfl rfl, zP_pre hK⟩ rfl rfl hl.1 rfl (lv_room (Nat.le_of_ble_eq_true rfl)) d_TR_soughtValue_8 ⟨Nat.le_refl _, Nat.le_refl _⟩) hS (fun locs hS => ?_)
  exact W.lret hx hb hr (fun t9 ht _ => zQl_end (rfl) rfl ht) hS.2.2 d_TR_soughtValue_11 hlocks
