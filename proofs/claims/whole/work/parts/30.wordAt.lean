def tr_word (L S : Nat) (t : Ts) (nd sl : Int32) (k : Nat) : Int64 := if k = 0 then (rw_at (tr_nN L S) (ts_nodes t).1 (nd * nI S + sl)).toInt64 else if k = 1 then (rw_at (tr_nN L S) (ts_nodes t).2.1 (nd * nI S + sl)).toInt64 else rw_atL (tr_nN L S) (ts_nodes t).2.2.1 (nd * nI S + sl)

set_option maxHeartbeats 4000000 in
set_option maxRecDepth 100000 in
/-- Tree.wordAt -/
theorem c_TR_wordAt {l : Launch} {dC : Nat → ClassId} {dI : Nat → Nat → Nat} {cI cJ : ClassId} {H : Heap} {ad : Nat → Nat} {L S C B : Nat} {t : Ts} (ok : tr_ok L S C B) (hP : va_P (dC, dI) kCl (tw_ cI cJ ad L S C B (ts_mk (ts_nodes t) (ts_cnts t) (ts_stash t) (ts_trail t) (ts_plan t) (ts_tgt t) (ts_way t) (ts_sought t))) H) (nd sl : Int32) (k : Nat) (hk : k < 3) : Met l y_TR_wordAt (k_TR_wordAt :: bw) { frames := 2, cells := 0, slots := 0, locals := 42 } (zP (dC, dI) kCl [(cI, .int), (cJ, .long)] [.ref (ad 0), .int nd, .int sl, .int (nI k)] H) (zQl H (tr_word L S t nd sl k)) 0 0 (fun _ => False) := by
  refine Met.ofZ (own := "CoinTree$Tree") (by decide) rfl [.ref (ad 0), .int nd, .int sl, .int (nI k)] (Nat.le_of_ble_eq_true rfl) (fun _ _ h => h.1) ?_
  intro p e s m below meth c ls C0 hv hl
  obtain ⟨hx, hb, hr, hml, hown, hT, hlocks⟩ := C0
  obtain ⟨-, rfl, hK⟩ := hv
  have hS : va_S (fun _ => False) s.heap s.heap [] := va_S.rf
  have hl : lv_has ls 5 [(0, .ref (ad 0)), (1, .int nd), (2, .int sl), (3, .int (nI k))] := hl
  refine lv_iload_n hx hb d_TR_wordAt_0 rfl (lv_at hl 1 rfl) ?_
  refine lv_aload_n hx hb d_TR_wordAt_1 rfl (lv_at hl 0 rfl) ?_
  refine va_get (D := (dC, dI)) (ci := 2) (v := .int (nI S)) (C := R_TR) (T := F_TR) (N := 12) hx hb hT i_TR hown hK hP 0 rfl rfl 2 (by decide) (hT _ m_101) (fun _ h9 => h9) rfl d_TR_wordAt_2 ?_
  refine lv_imul hx hb d_TR_wordAt_5 ?_
  refine lv_iload_n hx hb d_TR_wordAt_6 rfl (lv_at hl 2 rfl) ?_
  refine lv_iadd hx hb d_TR_wordAt_7 ?_
  refine lv_istore (lv' := [(4, .int ((nd * (nI S)) + sl)), (0, .ref (ad 0)), (1, .int nd), (2, .int sl), (3, .int (nI k))]) hx hb d_TR_wordAt_8 hl (by decide) rfl (fun ls hl => ?_)
  refine lv_iload_n hx hb d_TR_wordAt_10 rfl (lv_at hl 4 rfl) ?_
  rcases (show k = 0 ∨ k = 1 ∨ k = 2 by omega) with rfl | rfl | rfl
  · refine lv_lookup (off := 25) (tgt := 36) hx hb d_TR_wordAt_11 (by decide +kernel) (by decide +kernel) (by decide) ?_
    refine lv_aload_n hx hb d_TR_wordAt_36 rfl (lv_at hl 1 rfl) ?_
    refine va_get (D := (dC, dI)) (ci := 2) (v := .ref (ad 1)) (C := R_TR) (T := F_TR) (N := 12) hx hb hT i_TR hown hK hP 0 rfl rfl 4 (by decide) (hT _ m_103) (fun _ h9 => h9) rfl d_TR_wordAt_37 ?_
    refine lv_iload hx hb d_TR_wordAt_40 (lv_at hl 0 rfl) ?_
    refine zc_i (va_runV (As := [.int ((nd * (nI S)) + sl)]) (rest := []) ⟨hx, hb, hml, hown, hT⟩ (c_RW_markAt hP (show rw_in (tw_ cI cJ ad L S C B (ts_mk (ts_nodes t) (ts_cnts t) (ts_stash t) (ts_trail t) (ts_plan t) (ts_tgt t) (ts_way t) (ts_sought t))) 1 (ad 1) (ad 2) (ad 3) (ad 4) (tr_nN L S) cI cJ (ts_nodes t) from ⟨rfl, rfl, rfl, rfl⟩) (tr_nN_lt ok) ((nd * (nI S)) + sl)) (cwV 1 hT (gi_V m_291 m_312 m_289 m_290 m_26) rfl rfl rfl p_RW_markAt ⟨Nat.le_of_ble_eq_true rfl, Nat.le_of_ble_eq_true rfl⟩) ⟨zP_blind, va_recv hK hP (ci := 0) (q0 := 1) rfl rfl, zP_pre hK⟩ rfl rfl hl.1 rfl (lv_room (Nat.le_of_ble_eq_true rfl)) d_TR_wordAt_42 ⟨Nat.le_refl _, Nat.le_refl _⟩) hS (fun locs hS => ?_)
    refine lv_i2l (v := (rw_at (tr_nN L S) (ts_nodes t).1 ((nd * (nI S)) + sl)).toInt64) hx hb d_TR_wordAt_45 rfl ?_
    exact W.lret hx hb hr (fun t9 ht _ => zQl_end (rfl) rfl ht) hS.2.2 d_TR_wordAt_46 hlocks
  · refine lv_lookup (off := 36) (tgt := 47) hx hb d_TR_wordAt_11 (by decide +kernel) (by decide +kernel) (by decide) ?_
    refine lv_aload_n hx hb d_TR_wordAt_47 rfl (lv_at hl 1 rfl) ?_
    refine va_get (D := (dC, dI)) (ci := 2) (v := .ref (ad 1)) (C := R_TR) (T := F_TR) (N := 12) hx hb hT i_TR hown hK hP 0 rfl rfl 4 (by decide) (hT _ m_103) (fun _ h9 => h9) rfl d_TR_wordAt_48 ?_
    refine lv_iload hx hb d_TR_wordAt_51 (lv_at hl 0 rfl) ?_
    refine zc_i (va_runV (As := [.int ((nd * (nI S)) + sl)]) (rest := []) ⟨hx, hb, hml, hown, hT⟩ (c_RW_leafAt hP (show rw_in (tw_ cI cJ ad L S C B (ts_mk (ts_nodes t) (ts_cnts t) (ts_stash t) (ts_trail t) (ts_plan t) (ts_tgt t) (ts_way t) (ts_sought t))) 1 (ad 1) (ad 2) (ad 3) (ad 4) (tr_nN L S) cI cJ (ts_nodes t) from ⟨rfl, rfl, rfl, rfl⟩) (tr_nN_lt ok) ((nd * (nI S)) + sl)) (cwV 1 hT (gi_V m_295 m_348 m_293 m_294 m_26) rfl rfl rfl p_RW_leafAt ⟨Nat.le_of_ble_eq_true rfl, Nat.le_of_ble_eq_true rfl⟩) ⟨zP_blind, va_recv hK hP (ci := 0) (q0 := 1) rfl rfl, zP_pre hK⟩ rfl rfl hl.1 rfl (lv_room (Nat.le_of_ble_eq_true rfl)) d_TR_wordAt_53 ⟨Nat.le_refl _, Nat.le_refl _⟩) hS (fun locs hS => ?_)
    refine lv_i2l (v := (rw_at (tr_nN L S) (ts_nodes t).2.1 ((nd * (nI S)) + sl)).toInt64) hx hb d_TR_wordAt_56 rfl ?_
    exact W.lret hx hb hr (fun t9 ht _ => zQl_end (rfl) rfl ht) hS.2.2 d_TR_wordAt_57 hlocks
  · refine lv_lookup (off := 47) (tgt := 58) hx hb d_TR_wordAt_11 (by decide +kernel) (by decide +kernel) (by decide) ?_
    refine lv_aload_n hx hb d_TR_wordAt_58 rfl (lv_at hl 1 rfl) ?_
    refine va_get (D := (dC, dI)) (ci := 2) (v := .ref (ad 1)) (C := R_TR) (T := F_TR) (N := 12) hx hb hT i_TR hown hK hP 0 rfl rfl 4 (by decide) (hT _ m_103) (fun _ h9 => h9) rfl d_TR_wordAt_59 ?_
    refine lv_iload hx hb d_TR_wordAt_62 (lv_at hl 0 rfl) ?_
    refine zc_l (va_runV (As := [.int ((nd * (nI S)) + sl)]) (rest := []) ⟨hx, hb, hml, hown, hT⟩ (c_RW_valueAt hP (show rw_in (tw_ cI cJ ad L S C B (ts_mk (ts_nodes t) (ts_cnts t) (ts_stash t) (ts_trail t) (ts_plan t) (ts_tgt t) (ts_way t) (ts_sought t))) 1 (ad 1) (ad 2) (ad 3) (ad 4) (tr_nN L S) cI cJ (ts_nodes t) from ⟨rfl, rfl, rfl, rfl⟩) (tr_nN_lt ok) ((nd * (nI S)) + sl)) (cwV 1 hT (gi_V m_299 m_325 m_297 m_298 m_26) rfl rfl rfl p_RW_valueAt ⟨Nat.le_of_ble_eq_true rfl, Nat.le_of_ble_eq_true rfl⟩) ⟨zP_blind, va_recv hK hP (ci := 0) (q0 := 1) rfl rfl, zP_pre hK⟩ rfl rfl hl.1 rfl (lv_room (Nat.le_of_ble_eq_true rfl)) d_TR_wordAt_64 ⟨Nat.le_refl _, Nat.le_refl _⟩) hS (fun locs hS => ?_)
    exact W.lret hx hb hr (fun t9 ht _ => zQl_end (rfl) rfl ht) hS.2.2 d_TR_wordAt_67 hlocks
