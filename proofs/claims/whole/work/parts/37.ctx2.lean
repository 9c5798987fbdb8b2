set_option maxHeartbeats 4000000 in
set_option maxRecDepth 100000 in
/-- CoinTree.trace -/
theorem c_CT_trace {l : Launch} (hl9 : l.stackTraces = false) {dC : Nat → ClassId} {dI : Nat → Nat → Nat} {cI cJ : ClassId} {H : Heap} {x ml : Nat} {a0 a1 : Nat → Nat} {L M S C : Nat} {key : Int64} {z : Cs} (ok0 : tr_ok L S C 64) (ok1 : tr_ok M S C 16) (hP : va_P (dC, dI) kCl (cw_ cI cJ x ml a0 a1 L M S C key (cs_mk (cs_ml z) (cs_asked z) (cs_most z) (ts_mk (ts_nodes (cs_t0 z)) (ts_cnts (cs_t0 z)) (ts_stash (cs_t0 z)) (ts_trail (cs_t0 z)) (ts_plan (cs_t0 z)) (ts_tgt (cs_t0 z)) (ts_way (cs_t0 z)) (ts_sought (cs_t0 z))) (ts_mk (ts_nodes (cs_t1 z)) (ts_cnts (cs_t1 z)) (ts_stash (cs_t1 z)) (ts_trail (cs_t1 z)) (ts_plan (cs_t1 z)) (ts_tgt (cs_t1 z)) (ts_way (cs_t1 z)) (ts_sought (cs_t1 z))))) H) (ht0 : (ts_trail (cs_t0 z)).2 < 600) (ht1 : (ts_trail (cs_t1 z)).2 < 600) (tr k : Int32) : vx_Met l y_CT_trace (k_CT_trace :: bw) { frames := 7, cells := 2, slots := 12, locals := 121 } (xP (dC, dI) kCl [(cI, .int), (cJ, .long)] [.ref x, .int tr, .int k] H) (xQi H ((tr < 0 ∨ 1 < tr) ∨ k < 0 ∨ nI (ts_trail (cs_t tr z)).2 ≤ k) ((ts_trail (cs_t tr z)).1 k.toNatClampNeg)) (xX ((tr < 0 ∨ 1 < tr) ∨ k < 0 ∨ nI (ts_trail (cs_t tr z)).2 ≤ k) xIO) 2 12 (fun _ => False) := by
  refine Met.ofX (own := "CoinTree") (by decide) rfl [.ref x, .int tr, .int k] (Nat.le_of_ble_eq_true rfl) (fun _ _ h => h.1) ?_
  intro p e s m below meth c ls C0 hex hv hl
  obtain ⟨hx, hb, hr, hml, hown, hT, hlocks⟩ := C0
  obtain ⟨-, rfl, hK, xe⟩ := hv
  have hS : va_S (fun _ => False) s.heap s.heap [] := va_S.rf
  have hl : lv_has ls 4 [(0, .ref x), (1, .int tr), (2, .int k)] := hl
  refine lv_aload_n hx hb d_CT_trace_0 rfl (lv_at hl 0 rfl) ?_
  refine lv_iload_n hx hb d_CT_trace_1 rfl (lv_at hl 1 rfl) ?_
  refine xc_r (vx_runV (As := [.int tr]) (rest := []) ⟨hx, hb, hml, hown, hT⟩ (c_CT_treeNumbered hl9 ok0 ok1 hP tr) (cwV 1 hT (gi_V m_400 m_397 m_399 m_8 m_22) rfl rfl rfl p_CT_treeNumbered ⟨Nat.le_of_ble_eq_true rfl, Nat.le_of_ble_eq_true rfl⟩) ⟨xP_blind, va_recv hK hP (ci := 3) (q0 := 0) rfl rfl, xP_pre hK xe⟩ rfl rfl hl.1 rfl (lv_room (Nat.le_of_ble_eq_true rfl)) d_CT_trace_2 ⟨by decide, by decide⟩) hS (fun ce q9 H1 locs1 hcd hz hk hS9 hcell hcv hcl => vx_out (fun x9 h9 => (hex x9 h9).elim) hlocks hcell hcv hcl (fun t9 ht _ => xX_end (Or.inl hcd) (by rw [ht]; exact hz) (fun q hq => by rw [ht]; exact hk q hq)) hS9.2.2 (by decide) (by decide)) (fun locs hnc hS => ?_)
  rcases tr_01 hnc with rfl | rfl
  · rw [show (if (0 : Int32) = 0 then a0 0 else a1 0) = a0 0 from if_pos rfl]
    refine va_get (D := (dC, dI)) (ci := 2) (v := .ref (a0 10)) (C := R_TR) (T := F_TR) (N := 12) hx hb hT i_TR hown hK hP 2 rfl rfl 7 (by decide) (hT _ m_108) (fun _ h9 => h9) rfl d_CT_trace_5 ?_
    refine lv_astore_n (lv' := [(3, .ref (a0 10)), (0, .ref x), (1, .int 0), (2, .int k)]) hx hb d_CT_trace_8 rfl hl (by decide) rfl (fun ls hl => ?_)
    refine lv_iload_n hx hb d_CT_trace_9 rfl (lv_at hl 3 rfl) ?_
    refine lv_if_lt (tgt := 21) hx hb d_CT_trace_10 (by decide) (fun c_1 => ?_) (fun c_1 => ?_)
    · exact xt_io hx hb hl9 hown hT xe hS (hl.1.trans hml.symm) (is := 69) (tx := "no such trace") (by decide) d_CT_trace_21 d_CT_trace_24 d_CT_trace_25 d_CT_trace_27 d_CT_trace_30 hex (Nat.le_of_ble_eq_true rfl) (Nat.le_of_ble_eq_true rfl) (by decide) (by decide) hlocks hS.2.2 (by decide) (by decide) (fun t9 _ h1 h2 => xX_end (by rw [cs_t_0]; exact by first | exact Or.inr (Or.inl c_1) | exact Or.inr (Or.inr (Int32.not_lt.mp c_2))) h1 h2)
    · refine lv_iload_n hx hb d_CT_trace_13 rfl (lv_at hl 3 rfl) ?_
      refine lv_aload_n hx hb d_CT_trace_14 rfl (lv_at hl 0 rfl) ?_
      refine va_get (D := (dC, dI)) (ci := 1) (v := .int (nI (ts_trail (cs_t0 z)).2)) (C := R_TL) (T := F_TL) (N := 3) hx hb hT i_TL hown hK hP 12 rfl rfl 2 (by decide) (hT _ m_66) (fun _ h9 => h9) rfl d_CT_trace_15 ?_
      refine lv_icmp_lt (tgt := 31) hx hb d_CT_trace_18 (by decide) (fun c_2 => ?_) (fun c_2 => ?_)
      · refine lv_aload_n hx hb d_CT_trace_31 rfl (lv_at hl 0 rfl) ?_
        refine lv_iload_n hx hb d_CT_trace_32 rfl (lv_at hl 3 rfl) ?_
        obtain ⟨j, hj31, rfl⟩ := nI_of c_1
        have hj : j < (ts_trail (cs_t0 z)).2 := (nI_ltI hj31 (by omega)).mp c_2
        refine zc_i (va_runV (As := [.int (nI j)]) (rest := []) ⟨hx, hb, hml, hown, hT⟩ (c_TL_leafAt hP (i0 := 12) (show tl_in (cw_ cI cJ x ml a0 a1 L M S C key (cs_mk (cs_ml z) (cs_asked z) (cs_most z) (ts_mk (ts_nodes (cs_t0 z)) (ts_cnts (cs_t0 z)) (ts_stash (cs_t0 z)) (ts_trail (cs_t0 z)) (ts_plan (cs_t0 z)) (ts_tgt (cs_t0 z)) (ts_way (cs_t0 z)) (ts_sought (cs_t0 z))) (ts_mk (ts_nodes (cs_t1 z)) (ts_cnts (cs_t1 z)) (ts_stash (cs_t1 z)) (ts_trail (cs_t1 z)) (ts_plan (cs_t1 z)) (ts_tgt (cs_t1 z)) (ts_way (cs_t1 z)) (ts_sought (cs_t1 z))))) 12 (a0 10) (a0 11) cI (ts_trail (cs_t0 z)) from ⟨rfl, rfl⟩) (by omega) j (by omega)) (cwV 1 hT (gi_V m_406 m_403 m_404 m_405 m_25) rfl rfl rfl p_TL_leafAt ⟨Nat.le_of_ble_eq_true rfl, Nat.le_of_ble_eq_true rfl⟩) ⟨zP_blind, va_recv hK hP (ci := 1) (q0 := 12) rfl rfl, zP_pre hK⟩ rfl rfl hl.1 rfl (lv_room (Nat.le_of_ble_eq_true rfl)) d_CT_trace_33 ⟨by decide, by decide⟩) hS (fun locs hS => ?_)
        refine vx_ret ?_
        refine W.widen (k := 2) (n := 12) (by decide) (by decide) ?_
        exact W.iret hx hb hr (fun t9 ht _ => xQi_end (by rw [cs_t_0]; exact fun h => h.elim hnc (fun h => h.elim (nI_pos hj31) (fun h => absurd c_2 (Int32.not_lt.mpr h)))) (by rw [cs_t_0, nI_clamp hj31]) rfl ht) hS.2.2 d_CT_trace_36 hlocks
      · exact xt_io hx hb hl9 hown hT xe hS (hl.1.trans hml.symm) (is := 69) (tx := "no such trace") (by decide) d_CT_trace_21 d_CT_trace_24 d_CT_trace_25 d_CT_trace_27 d_CT_trace_30 hex (Nat.le_of_ble_eq_true rfl) (Nat.le_of_ble_eq_true rfl) (by decide) (by decide) hlocks hS.2.2 (by decide) (by decide) (fun t9 _ h1 h2 => xX_end (by rw [cs_t_0]; exact by first | exact Or.inr (Or.inl c_1) | exact Or.inr (Or.inr (Int32.not_lt.mp c_2))) h1 h2)
  · rw [show (if (1 : Int32) = 0 then a0 0 else a1 0) = a1 0 from if_neg (by decide)]
    refine va_get (D := (dC, dI)) (ci := 2) (v := .ref (a1 10)) (C := R_TR) (T := F_TR) (N := 12) hx hb hT i_TR hown hK hP 19 rfl rfl 7 (by decide) (hT _ m_108) (fun _ h9 => h9) rfl d_CT_trace_5 ?_
    refine lv_astore_n (lv' := [(3, .ref (a1 10)), (0, .ref x), (1, .int 1), (2, .int k)]) hx hb d_CT_trace_8 rfl hl (by decide) rfl (fun ls hl => ?_)
    refine lv_iload_n hx hb d_CT_trace_9 rfl (lv_at hl 3 rfl) ?_
    refine lv_if_lt (tgt := 21) hx hb d_CT_trace_10 (by decide) (fun c_1 => ?_) (fun c_1 => ?_)
    · exact xt_io hx hb hl9 hown hT xe hS (hl.1.trans hml.symm) (is := 69) (tx := "no such trace") (by decide) d_CT_trace_21 d_CT_trace_24 d_CT_trace_25 d_CT_trace_27 d_CT_trace_30 hex (Nat.le_of_ble_eq_true rfl) (Nat.le_of_ble_eq_true rfl) (by decide) (by decide) hlocks hS.2.2 (by decide) (by decide) (fun t9 _ h1 h2 => xX_end (by rw [cs_t_1]; exact by first | exact Or.inr (Or.inl c_1) | exact Or.inr (Or.inr (Int32.not_lt.mp c_2))) h1 h2)
    · refine lv_iload_n hx hb d_CT_trace_13 rfl (lv_at hl 3 rfl) ?_
      refine lv_aload_n hx hb d_CT_trace_14 rfl (lv_at hl 0 rfl) ?_
      refine va_get (D := (dC, dI)) (ci := 1) (v := .int (nI (ts_trail (cs_t1 z)).2)) (C := R_TL) (T := F_TL) (N := 3) hx hb hT i_TL hown hK hP 29 rfl rfl 2 (by decide) (hT _ m_66) (fun _ h9 => h9) rfl d_CT_trace_15 ?_
      refine lv_icmp_lt (tgt := 31) hx hb d_CT_trace_18 (by decide) (fun c_2 => ?_) (fun c_2 => ?_)
      · refine lv_aload_n hx hb d_CT_trace_31 rfl (lv_at hl 0 rfl) ?_
        refine lv_iload_n hx hb d_CT_trace_32 rfl (lv_at hl 3 rfl) ?_
        obtain ⟨j, hj31, rfl⟩ := nI_of c_1
        have hj : j < (ts_trail (cs_t1 z)).2 := (nI_ltI hj31 (by omega)).mp c_2
        refine zc_i (va_runV (As := [.int (nI j)]) (rest := []) ⟨hx, hb, hml, hown, hT⟩ (c_TL_leafAt hP (i0 := 29) (show tl_in (cw_ cI cJ x ml a0 a1 L M S C key (cs_mk (cs_ml z) (cs_asked z) (cs_most z) (ts_mk (ts_nodes (cs_t0 z)) (ts_cnts (cs_t0 z)) (ts_stash (cs_t0 z)) (ts_trail (cs_t0 z)) (ts_plan (cs_t0 z)) (ts_tgt (cs_t0 z)) (ts_way (cs_t0 z)) (ts_sought (cs_t0 z))) (ts_mk (ts_nodes (cs_t1 z)) (ts_cnts (cs_t1 z)) (ts_stash (cs_t1 z)) (ts_trail (cs_t1 z)) (ts_plan (cs_t1 z)) (ts_tgt (cs_t1 z)) (ts_way (cs_t1 z)) (ts_sought (cs_t1 z))))) 29 (a1 10) (a1 11) cI (ts_trail (cs_t1 z)) from ⟨rfl, rfl⟩) (by omega) j (by omega)) (cwV 1 hT (gi_V m_406 m_403 m_404 m_405 m_25) rfl rfl rfl p_TL_leafAt ⟨Nat.le_of_ble_eq_true rfl, Nat.le_of_ble_eq_true rfl⟩) ⟨zP_blind, va_recv hK hP (ci := 1) (q0 := 29) rfl rfl, zP_pre hK⟩ rfl rfl hl.1 rfl (lv_room (Nat.le_of_ble_eq_true rfl)) d_CT_trace_33 ⟨by decide, by decide⟩) hS (fun locs hS => ?_)
        refine vx_ret ?_
        refine W.widen (k := 2) (n := 12) (by decide) (by decide) ?_
        exact W.iret hx hb hr (fun t9 ht _ => xQi_end (by rw [cs_t_1]; exact fun h => h.elim hnc (fun h => h.elim (nI_pos hj31) (fun h => absurd c_2 (Int32.not_lt.mpr h)))) (by rw [cs_t_1, nI_clamp hj31]) rfl ht) hS.2.2 d_CT_trace_36 hlocks
      · exact xt_io hx hb hl9 hown hT xe hS (hl.1.trans hml.symm) (is := 69) (tx := "no such trace") (by decide) d_CT_trace_21 d_CT_trace_24 d_CT_trace_25 d_CT_trace_27 d_CT_trace_30 hex (Nat.le_of_ble_eq_true rfl) (Nat.le_of_ble_eq_true rfl) (by decide) (by decide) hlocks hS.2.2 (by decide) (by decide) (fun t9 _ h1 h2 => xX_end (by rw [cs_t_1]; exact by first | exact Or.inr (Or.inl c_1) | exact Or.inr (Or.inr (Int32.not_lt.mp c_2))) h1 h2)

set_option maxHeartbeats 4000000 in
set_option maxRecDepth 100000 in
/-- CoinTree.written -/
theorem c_CT_written {l : Launch} (hl9 : l.stackTraces = false) {dC : Nat → ClassId} {dI : Nat → Nat → Nat} {cI cJ : ClassId} {H : Heap} {x ml : Nat} {a0 a1 : Nat → Nat} {L M S C : Nat} {key : Int64} {z : Cs} (ok0 : tr_ok L S C 64) (ok1 : tr_ok M S C 16) (hP : va_P (dC, dI) kCl (cw_ cI cJ x ml a0 a1 L M S C key (cs_mk (cs_ml z) (cs_asked z) (cs_most z) (ts_mk (ts_nodes (cs_t0 z)) (ts_cnts (cs_t0 z)) (ts_stash (cs_t0 z)) (ts_trail (cs_t0 z)) (ts_plan (cs_t0 z)) (ts_tgt (cs_t0 z)) (ts_way (cs_t0 z)) (ts_sought (cs_t0 z))) (ts_mk (ts_nodes (cs_t1 z)) (ts_cnts (cs_t1 z)) (ts_stash (cs_t1 z)) (ts_trail (cs_t1 z)) (ts_plan (cs_t1 z)) (ts_tgt (cs_t1 z)) (ts_way (cs_t1 z)) (ts_sought (cs_t1 z))))) H) (tr nd : Int32) : vx_Met l y_CT_written (k_CT_written :: bw) { frames := 7, cells := 2, slots := 12, locals := 121 } (xP (dC, dI) kCl [(cI, .int), (cJ, .long)] [.ref x, .int tr, .int nd] H) (xQi H ((tr < 0 ∨ 1 < tr) ∨ tr_nd (cs_L tr L M) nd = false) (ts_cnts (cs_t tr z) nd.toNatClampNeg)) (xX ((tr < 0 ∨ 1 < tr) ∨ tr_nd (cs_L tr L M) nd = false) xIO) 2 12 (fun _ => False) := by
  refine Met.ofX (own := "CoinTree") (by decide) rfl [.ref x, .int tr, .int nd] (Nat.le_of_ble_eq_true rfl) (fun _ _ h => h.1) ?_
  intro p e s m below meth c ls C0 hex hv hl
  obtain ⟨hx, hb, hr, hml, hown, hT, hlocks⟩ := C0
  obtain ⟨-, rfl, hK, xe⟩ := hv
  have hS : va_S (fun _ => False) s.heap s.heap [] := va_S.rf
  have hl : lv_has ls 4 [(0, .ref x), (1, .int tr), (2, .int nd)] := hl
  refine lv_aload_n hx hb d_CT_written_0 rfl (lv_at hl 0 rfl) ?_
  refine lv_iload_n hx hb d_CT_written_1 rfl (lv_at hl 1 rfl) ?_
  refine xc_r (vx_runV (As := [.int tr]) (rest := []) ⟨hx, hb, hml, hown, hT⟩ (c_CT_treeNumbered hl9 ok0 ok1 hP tr) (cwV 1 hT (gi_V m_400 m_397 m_399 m_8 m_22) rfl rfl rfl p_CT_treeNumbered ⟨Nat.le_of_ble_eq_true rfl, Nat.le_of_ble_eq_true rfl⟩) ⟨xP_blind, va_recv hK hP (ci := 3) (q0 := 0) rfl rfl, xP_pre hK xe⟩ rfl rfl hl.1 rfl (lv_room (Nat.le_of_ble_eq_true rfl)) d_CT_written_2 ⟨by decide, by decide⟩) hS (fun ce q9 H1 locs1 hcd hz hk hS9 hcell hcv hcl => vx_out (fun x9 h9 => (hex x9 h9).elim) hlocks hcell hcv hcl (fun t9 ht _ => xX_end (Or.inl hcd) (by rw [ht]; exact hz) (fun q hq => by rw [ht]; exact hk q hq)) hS9.2.2 (by decide) (by decide)) (fun locs hnc hS => ?_)
  rcases tr_01 hnc with rfl | rfl
  · rw [show (if (0 : Int32) = 0 then a0 0 else a1 0) = a0 0 from if_pos rfl]
    refine lv_astore_n (lv' := [(3, .ref (a0 0)), (0, .ref x), (1, .int 0), (2, .int nd)]) hx hb d_CT_written_5 rfl hl (by decide) rfl (fun ls hl => ?_)
    refine lv_aload_n hx hb d_CT_written_6 rfl (lv_at hl 0 rfl) ?_
    refine lv_iload_n hx hb d_CT_written_7 rfl (lv_at hl 3 rfl) ?_
    refine zc_i (va_runV (As := [.int nd]) (rest := []) ⟨hx, hb, hml, hown, hT⟩ (c_TR_hasNode (t := ts_mk (ts_nodes (cs_t0 z)) (ts_cnts (cs_t0 z)) (ts_stash (cs_t0 z)) (ts_trail (cs_t0 z)) (ts_plan (cs_t0 z)) (ts_tgt (cs_t0 z)) (ts_way (cs_t0 z)) (ts_sought (cs_t0 z))) ok0 (hP.sub (ws' := tw_ cI cJ a0 L S C 64 (ts_mk (ts_nodes (cs_t0 z)) (ts_cnts (cs_t0 z)) (ts_stash (cs_t0 z)) (ts_trail (cs_t0 z)) (ts_plan (cs_t0 z)) (ts_tgt (cs_t0 z)) (ts_way (cs_t0 z)) (ts_sought (cs_t0 z)))) [2, 3, 4, 5, 6, 7, 8, 9, 10, 11, 12, 13, 14, 15, 16, 17, 18] rfl) nd) (cwV 1 hT (gi_V m_376 m_414 m_374 m_375 m_24) rfl rfl rfl p_TR_hasNode ⟨Nat.le_of_ble_eq_true rfl, Nat.le_of_ble_eq_true rfl⟩) ⟨zP_blind, va_recv hK hP (ci := 2) (q0 := 2) rfl rfl, zP_pre hK⟩ rfl rfl hl.1 rfl (lv_room (Nat.le_of_ble_eq_true rfl)) d_CT_written_8 ⟨by decide, by decide⟩) hS (fun locs hS => ?_)
    refine lv_if_ne (tgt := 24) hx hb d_CT_written_11 (by decide) (fun c_1 => ?_) (fun c_1 => ?_)
    · refine lv_aload_n hx hb d_CT_written_24 rfl (lv_at hl 0 rfl) ?_
      refine lv_iload_n hx hb d_CT_written_25 rfl (lv_at hl 3 rfl) ?_
      refine zc_i (va_runV (As := [.int nd]) (rest := []) ⟨hx, hb, hml, hown, hT⟩ (c_TR_timesWritten (t := ts_mk (ts_nodes (cs_t0 z)) (ts_cnts (cs_t0 z)) (ts_stash (cs_t0 z)) (ts_trail (cs_t0 z)) (ts_plan (cs_t0 z)) (ts_tgt (cs_t0 z)) (ts_way (cs_t0 z)) (ts_sought (cs_t0 z))) ok0 (hP.sub (ws' := tw_ cI cJ a0 L S C 64 (ts_mk (ts_nodes (cs_t0 z)) (ts_cnts (cs_t0 z)) (ts_stash (cs_t0 z)) (ts_trail (cs_t0 z)) (ts_plan (cs_t0 z)) (ts_tgt (cs_t0 z)) (ts_way (cs_t0 z)) (ts_sought (cs_t0 z)))) [2, 3, 4, 5, 6, 7, 8, 9, 10, 11, 12, 13, 14, 15, 16, 17, 18] rfl) nd) (cwV 1 hT (gi_V m_427 m_424 m_425 m_426 m_24) rfl rfl rfl p_TR_timesWritten ⟨Nat.le_of_ble_eq_true rfl, Nat.le_of_ble_eq_true rfl⟩) ⟨zP_blind, va_recv hK hP (ci := 2) (q0 := 2) rfl rfl, zP_pre hK⟩ rfl rfl hl.1 rfl (lv_room (Nat.le_of_ble_eq_true rfl)) d_CT_written_26 ⟨by decide, by decide⟩) hS (fun locs hS => ?_)
      refine vx_ret ?_
      refine W.widen (k := 2) (n := 12) (by decide) (by decide) ?_
      exact W.iret hx hb hr (fun t9 ht _ => xQi_end (by rw [cs_L_0]; exact fun h => h.elim hnc (fun h => absurd (b2i_n.mp c_1) (by rw [h]; decide))) (by rw [cs_t_0]; exact if_pos (b2i_n.mp c_1)) rfl ht) hS.2.2 d_CT_written_29 hlocks
    · exact xt_io hx hb hl9 hown hT xe hS (hl.1.trans hml.symm) (is := 81) (tx := "no such node") (by decide) d_CT_written_14 d_CT_written_17 d_CT_written_18 d_CT_written_20 d_CT_written_23 hex (Nat.le_of_ble_eq_true rfl) (Nat.le_of_ble_eq_true rfl) (by decide) (by decide) hlocks hS.2.2 (by decide) (by decide) (fun t9 _ h1 h2 => xX_end (by rw [cs_L_0]; exact Or.inr (b2i_0.mp c_1)) h1 h2)
  · rw [show (if (1 : Int32) = 0 then a0 0 else a1 0) = a1 0 from if_neg (by decide)]
    refine lv_astore_n (lv' := [(3, .ref (a1 0)), (0, .ref x), (1, .int 1), (2, .int nd)]) hx hb d_CT_written_5 rfl hl (by decide) rfl (fun ls hl => ?_)
    refine lv_aload_n hx hb d_CT_written_6 rfl (lv_at hl 0 rfl) ?_
    refine lv_iload_n hx hb d_CT_written_7 rfl (lv_at hl 3 rfl) ?_
    refine zc_i (va_runV (As := [.int nd]) (rest := []) ⟨hx, hb, hml, hown, hT⟩ (c_TR_hasNode (t := ts_mk (ts_nodes (cs_t1 z)) (ts_cnts (cs_t1 z)) (ts_stash (cs_t1 z)) (ts_trail (cs_t1 z)) (ts_plan (cs_t1 z)) (ts_tgt (cs_t1 z)) (ts_way (cs_t1 z)) (ts_sought (cs_t1 z))) ok1 (hP.sub (ws' := tw_ cI cJ a1 M S C 16 (ts_mk (ts_nodes (cs_t1 z)) (ts_cnts (cs_t1 z)) (ts_stash (cs_t1 z)) (ts_trail (cs_t1 z)) (ts_plan (cs_t1 z)) (ts_tgt (cs_t1 z)) (ts_way (cs_t1 z)) (ts_sought (cs_t1 z)))) [19, 20, 21, 22, 23, 24, 25, 26, 27, 28, 29, 30, 31, 32, 33, 34, 35] rfl) nd) (cwV 1 hT (gi_V m_376 m_414 m_374 m_375 m_24) rfl rfl rfl p_TR_hasNode ⟨Nat.le_of_ble_eq_true rfl, Nat.le_of_ble_eq_true rfl⟩) ⟨zP_blind, va_recv hK hP (ci := 2) (q0 := 19) rfl rfl, zP_pre hK⟩ rfl rfl hl.1 rfl (lv_room (Nat.le_of_ble_eq_true rfl)) d_CT_written_8 ⟨by decide, by decide⟩) hS (fun locs hS => ?_)
    refine lv_if_ne (tgt := 24) hx hb d_CT_written_11 (by decide) (fun c_1 => ?_) (fun c_1 => ?_)
    · refine lv_aload_n hx hb d_CT_written_24 rfl (lv_at hl 0 rfl) ?_
      refine lv_iload_n hx hb d_CT_written_25 rfl (lv_at hl 3 rfl) ?_
      refine zc_i (va_runV (As := [.int nd]) (rest := []) ⟨hx, hb, hml, hown, hT⟩ (c_TR_timesWritten (t := ts_mk (ts_nodes (cs_t1 z)) (ts_cnts (cs_t1 z)) (ts_stash (cs_t1 z)) (ts_trail (cs_t1 z)) (ts_plan (cs_t1 z)) (ts_tgt (cs_t1 z)) (ts_way (cs_t1 z)) (ts_sought (cs_t1 z))) ok1 (hP.sub (ws' := tw_ cI cJ a1 M S C 16 (ts_mk (ts_nodes (cs_t1 z)) (ts_cnts (cs_t1 z)) (ts_stash (cs_t1 z)) (ts_trail (cs_t1 z)) (ts_plan (cs_t1 z)) (ts_tgt (cs_t1 z)) (ts_way (cs_t1 z)) (ts_sought (cs_t1 z)))) [19, 20, 21, 22, 23, 24, 25, 26, 27, 28, 29, 30, 31, 32, 33, 34, 35] rfl) nd) (cwV 1 hT (gi_V m_427 m_424 m_425 m_426 m_24) rfl rfl rfl p_TR_timesWritten ⟨Nat.le_of_ble_eq_true rfl, Nat.le_of_ble_eq_true rfl⟩) ⟨zP_blind, va_recv hK hP (ci := 2) (q0 := 19) rfl rfl, zP_pre hK⟩ rfl rfl hl.1 rfl (lv_room (Nat.le_of_ble_eq_true rfl)) d_CT_written_26 ⟨by decide, by decide⟩) hS (fun locs hS => ?_)
      refine vx_ret ?_
      refine W.widen (k := 2) (n := 12) (by decide) (by decide) ?_
      exact W.iret hx hb hr (fun t9 ht _ => xQi_end (by rw [cs_L_1]; exact fun h => h.elim hnc (fun h => absurd (b2i_n.mp c_1) (by rw [h]; decide))) (by rw [cs_t_1]; exact if_pos (b2i_n.mp c_1)) rfl ht) hS.2.2 d_CT_written_29 hlocks
    · exact xt_io hx hb hl9 hown hT xe hS (hl.1.trans hml.symm) (is := 81) (tx := "no such node") (by decide) d_CT_written_14 d_CT_written_17 d_CT_written_18 d_CT_written_20 d_CT_written_23 hex (Nat.le_of_ble_eq_true rfl) (Nat.le_of_ble_eq_true rfl) (by decide) (by decide) hlocks hS.2.2 (by decide) (by decide) (fun t9 _ h1 h2 => xX_end (by rw [cs_L_1]; exact Or.inr (b2i_0.mp c_1)) h1 h2)

set_option maxHeartbeats 4000000 in
set_option maxRecDepth 100000 in
/-- CoinTree.stash -/
theorem c_CT_stash {l : Launch} (hl9 : l.stackTraces = false) {dC : Nat → ClassId} {dI : Nat → Nat → Nat} {cI cJ : ClassId} {H : Heap} {x ml : Nat} {a0 a1 : Nat → Nat} {L M S C : Nat} {key : Int64} {z : Cs} (ok0 : tr_ok L S C 64) (ok1 : tr_ok M S C 16) (hP : va_P (dC, dI) kCl (cw_ cI cJ x ml a0 a1 L M S C key (cs_mk (cs_ml z) (cs_asked z) (cs_most z) (ts_mk (ts_nodes (cs_t0 z)) (ts_cnts (cs_t0 z)) (ts_stash (cs_t0 z)) (ts_trail (cs_t0 z)) (ts_plan (cs_t0 z)) (ts_tgt (cs_t0 z)) (ts_way (cs_t0 z)) (ts_sought (cs_t0 z))) (ts_mk (ts_nodes (cs_t1 z)) (ts_cnts (cs_t1 z)) (ts_stash (cs_t1 z)) (ts_trail (cs_t1 z)) (ts_plan (cs_t1 z)) (ts_tgt (cs_t1 z)) (ts_way (cs_t1 z)) (ts_sought (cs_t1 z))))) H) (tr k : Int32) : vx_Met l y_CT_stash (k_CT_stash :: bw) { frames := 7, cells := 2, slots := 12, locals := 121 } (xP (dC, dI) kCl [(cI, .int), (cJ, .long)] [.ref x, .int tr, .int k] H) (xQi H ((tr < 0 ∨ 1 < tr) ∨ k < 0) (ct_stash C (cs_t tr z) k)) (xX ((tr < 0 ∨ 1 < tr) ∨ k < 0) xIO) 2 12 (fun _ => False) := by
  refine Met.ofX (own := "CoinTree") (by decide) rfl [.ref x, .int tr, .int k] (Nat.le_of_ble_eq_true rfl) (fun _ _ h => h.1) ?_
  intro p e s m below meth c ls C0 hex hv hl
  obtain ⟨hx, hb, hr, hml, hown, hT, hlocks⟩ := C0
  obtain ⟨-, rfl, hK, xe⟩ := hv
  have hS : va_S (fun _ => False) s.heap s.heap [] := va_S.rf
  have hl : lv_has ls 4 [(0, .ref x), (1, .int tr), (2, .int k)] := hl
  refine lv_aload_n hx hb d_CT_stash_0 rfl (lv_at hl 0 rfl) ?_
  refine lv_iload_n hx hb d_CT_stash_1 rfl (lv_at hl 1 rfl) ?_
  refine xc_r (vx_runV (As := [.int tr]) (rest := []) ⟨hx, hb, hml, hown, hT⟩ (c_CT_treeNumbered hl9 ok0 ok1 hP tr) (cwV 1 hT (gi_V m_400 m_397 m_399 m_8 m_22) rfl rfl rfl p_CT_treeNumbered ⟨Nat.le_of_ble_eq_true rfl, Nat.le_of_ble_eq_true rfl⟩) ⟨xP_blind, va_recv hK hP (ci := 3) (q0 := 0) rfl rfl, xP_pre hK xe⟩ rfl rfl hl.1 rfl (lv_room (Nat.le_of_ble_eq_true rfl)) d_CT_stash_2 ⟨by decide, by decide⟩) hS (fun ce q9 H1 locs1 hcd hz hk hS9 hcell hcv hcl => vx_out (fun x9 h9 => (hex x9 h9).elim) hlocks hcell hcv hcl (fun t9 ht _ => xX_end (Or.inl hcd) (by rw [ht]; exact hz) (fun q hq => by rw [ht]; exact hk q hq)) hS9.2.2 (by decide) (by decide)) (fun locs hnc hS => ?_)
  rcases tr_01 hnc with rfl | rfl
  · rw [show (if (0 : Int32) = 0 then a0 0 else a1 0) = a0 0 from if_pos rfl]
    refine va_get (D := (dC, dI)) (ci := 2) (v := .ref (a0 6)) (C := R_TR) (T := F_TR) (N := 12) hx hb hT i_TR hown hK hP 2 rfl rfl 6 (by decide) (hT _ m_106) (fun _ h9 => h9) rfl d_CT_stash_5 ?_
    refine lv_astore_n (lv' := [(3, .ref (a0 6)), (0, .ref x), (1, .int 0), (2, .int k)]) hx hb d_CT_stash_8 rfl hl (by decide) rfl (fun ls hl => ?_)
    refine lv_iload_n hx hb d_CT_stash_9 rfl (lv_at hl 3 rfl) ?_
    refine lv_if_ge (tgt := 23) hx hb d_CT_stash_10 (by decide) (fun c_1 => ?_) (fun c_1 => ?_)
    · refine lv_iload_n hx hb d_CT_stash_23 rfl (lv_at hl 3 rfl) ?_
      refine lv_aload_n hx hb d_CT_stash_24 rfl (lv_at hl 0 rfl) ?_
      refine va_get (D := (dC, dI)) (ci := 0) (v := .int (ts_stash (cs_t0 z)).2.2.2) (C := R_RW) (T := F_RW) (N := 4) hx hb hT i_RW hown hK hP 8 rfl rfl 3 (by decide) (hT _ m_86) (fun _ h9 => h9) rfl d_CT_stash_25 ?_
      refine lv_icmp_ge (tgt := 41) hx hb d_CT_stash_28 (by decide) (fun c_2 => ?_) (fun c_2 => ?_)
      · refine lv_iconst (v := (-1)) hx hb d_CT_stash_41 (by decide) ?_
        refine vx_ret ?_
        refine W.widen (k := 2) (n := 12) (by decide) (by decide) ?_
        exact W.iret hx hb hr (fun t9 ht _ => xQi_end (fun h => h.elim hnc (fun h => absurd c_1 (Int32.not_le.mpr h))) (by rw [cs_t_0]; first | exact (if_pos c_2).symm | exact (if_neg c_2).symm) rfl ht) hS.2.2 d_CT_stash_42 hlocks
      · refine lv_aload_n hx hb d_CT_stash_31 rfl (lv_at hl 0 rfl) ?_
        refine lv_iload_n hx hb d_CT_stash_32 rfl (lv_at hl 3 rfl) ?_
        refine zc_i (va_runV (As := [.int k]) (rest := []) ⟨hx, hb, hml, hown, hT⟩ (c_RW_markAt hP (show rw_in (cw_ cI cJ x ml a0 a1 L M S C key (cs_mk (cs_ml z) (cs_asked z) (cs_most z) (ts_mk (ts_nodes (cs_t0 z)) (ts_cnts (cs_t0 z)) (ts_stash (cs_t0 z)) (ts_trail (cs_t0 z)) (ts_plan (cs_t0 z)) (ts_tgt (cs_t0 z)) (ts_way (cs_t0 z)) (ts_sought (cs_t0 z))) (ts_mk (ts_nodes (cs_t1 z)) (ts_cnts (cs_t1 z)) (ts_stash (cs_t1 z)) (ts_trail (cs_t1 z)) (ts_plan (cs_t1 z)) (ts_tgt (cs_t1 z)) (ts_way (cs_t1 z)) (ts_sought (cs_t1 z))))) 8 (a0 6) (a0 7) (a0 8) (a0 9) C cI cJ (ts_stash (cs_t0 z)) from ⟨rfl, rfl, rfl, rfl⟩) (tr_C_lt ok0) k) (cwV 1 hT (gi_V m_291 m_448 m_289 m_290 m_26) rfl rfl rfl p_RW_markAt ⟨Nat.le_of_ble_eq_true rfl, Nat.le_of_ble_eq_true rfl⟩) ⟨zP_blind, va_recv hK hP (ci := 0) (q0 := 8) rfl rfl, zP_pre hK⟩ rfl rfl hl.1 rfl (lv_room (Nat.le_of_ble_eq_true rfl)) d_CT_stash_33 ⟨by decide, by decide⟩) hS (fun locs hS => ?_)
        refine lv_iconst (v := 1) hx hb d_CT_stash_36 (by decide) ?_
        refine lv_isub hx hb d_CT_stash_37 ?_
        refine lv_goto (tgt := 42) hx hb d_CT_stash_38 (by decide) ?_
        refine vx_ret ?_
        refine W.widen (k := 2) (n := 12) (by decide) (by decide) ?_
        exact W.iret hx hb hr (fun t9 ht _ => xQi_end (fun h => h.elim hnc (fun h => absurd c_1 (Int32.not_le.mpr h))) (by rw [cs_t_0]; first | exact (if_pos c_2).symm | exact (if_neg c_2).symm) rfl ht) hS.2.2 d_CT_stash_42 hlocks
    · exact xt_io hx hb hl9 hown hT xe hS (hl.1.trans hml.symm) (is := 106) (tx := "no such place") (by decide) d_CT_stash_13 d_CT_stash_16 d_CT_stash_17 d_CT_stash_19 d_CT_stash_22 hex (Nat.le_of_ble_eq_true rfl) (Nat.le_of_ble_eq_true rfl) (by decide) (by decide) hlocks hS.2.2 (by decide) (by decide) (fun t9 _ h1 h2 => xX_end (Or.inr (Int32.not_le.mp c_1)) h1 h2)
  · rw [show (if (1 : Int32) = 0 then a0 0 else a1 0) = a1 0 from if_neg (by decide)]
    refine va_get (D := (dC, dI)) (ci := 2) (v := .ref (a1 6)) (C := R_TR) (T := F_TR) (N := 12) hx hb hT i_TR hown hK hP 19 rfl rfl 6 (by decide) (hT _ m_106) (fun _ h9 => h9) rfl d_CT_stash_5 ?_
    refine lv_astore_n (lv' := [(3, .ref (a1 6)), (0, .ref x), (1, .int 1), (2, .int k)]) hx hb d_CT_stash_8 rfl hl (by decide) rfl (fun ls hl => ?_)
    refine lv_iload_n hx hb d_CT_stash_9 rfl (lv_at hl 3 rfl) ?_
    refine lv_if_ge (tgt := 23) hx hb d_CT_stash_10 (by decide) (fun c_1 => ?_) (fun c_1 => ?_)
    · refine lv_iload_n hx hb d_CT_stash_23 rfl (lv_at hl 3 rfl) ?_
      refine lv_aload_n hx hb d_CT_stash_24 rfl (lv_at hl 0 rfl) ?_
      refine va_get (D := (dC, dI)) (ci := 0) (v := .int (ts_stash (cs_t1 z)).2.2.2) (C := R_RW) (T := F_RW) (N := 4) hx hb hT i_RW hown hK hP 25 rfl rfl 3 (by decide) (hT _ m_86) (fun _ h9 => h9) rfl d_CT_stash_25 ?_
      refine lv_icmp_ge (tgt := 41) hx hb d_CT_stash_28 (by decide) (fun c_2 => ?_) (fun c_2 => ?_)
      · refine lv_iconst (v := (-1)) hx hb d_CT_stash_41 (by decide) ?_
        refine vx_ret ?_
        refine W.widen (k := 2) (n := 12) (by decide) (by decide) ?_
        exact W.iret hx hb hr (fun t9 ht _ => xQi_end (fun h => h.elim hnc (fun h => absurd c_1 (Int32.not_le.mpr h))) (by rw [cs_t_1]; first | exact (if_pos c_2).symm | exact (if_neg c_2).symm) rfl ht) hS.2.2 d_CT_stash_42 hlocks
      · refine lv_aload_n hx hb d_CT_stash_31 rfl (lv_at hl 0 rfl) ?_
        refine lv_iload_n hx hb d_CT_stash_32 rfl (lv_at hl 3 rfl) ?_
        refine zc_i (va_runV (As := [.int k]) (rest := []) ⟨hx, hb, hml, hown, hT⟩ (c_RW_markAt hP (show rw_in (cw_ cI cJ x ml a0 a1 L M S C key (cs_mk (cs_ml z) (cs_asked z) (cs_most z) (ts_mk (ts_nodes (cs_t0 z)) (ts_cnts (cs_t0 z)) (ts_stash (cs_t0 z)) (ts_trail (cs_t0 z)) (ts_plan (cs_t0 z)) (ts_tgt (cs_t0 z)) (ts_way (cs_t0 z)) (ts_sought (cs_t0 z))) (ts_mk (ts_nodes (cs_t1 z)) (ts_cnts (cs_t1 z)) (ts_stash (cs_t1 z)) (ts_trail (cs_t1 z)) (ts_plan (cs_t1 z)) (ts_tgt (cs_t1 z)) (ts_way (cs_t1 z)) (ts_sought (cs_t1 z))))) 25 (a1 6) (a1 7) (a1 8) (a1 9) C cI cJ (ts_stash (cs_t1 z)) from ⟨rfl, rfl, rfl, rfl⟩) (tr_C_lt ok0) k) (cwV 1 hT (gi_V m_291 m_448 m_289 m_290 m_26) rfl rfl rfl p_RW_markAt ⟨Nat.le_of_ble_eq_true rfl, Nat.le_of_ble_eq_true rfl⟩) ⟨zP_blind, va_recv hK hP (ci := 0) (q0 := 25) rfl rfl, zP_pre hK⟩ rfl rfl hl.1 rfl (lv_room (Nat.le_of_ble_eq_true rfl)) d_CT_stash_33 ⟨by decide, by decide⟩) hS (fun locs hS => ?_)
        refine lv_iconst (v := 1) hx hb d_CT_stash_36 (by decide) ?_
        refine lv_isub hx hb d_CT_stash_37 ?_
        refine lv_goto (tgt := 42) hx hb d_CT_stash_38 (by decide) ?_
        refine vx_ret ?_
        refine W.widen (k := 2) (n := 12) (by decide) (by decide) ?_
        exact W.iret hx hb hr (fun t9 ht _ => xQi_end (fun h => h.elim hnc (fun h => absurd c_1 (Int32.not_le.mpr h))) (by rw [cs_t_1]; first | exact (if_pos c_2).symm | exact (if_neg c_2).symm) rfl ht) hS.2.2 d_CT_stash_42 hlocks
    · exact xt_io hx hb hl9 hown hT xe hS (hl.1.trans hml.symm) (is := 106) (tx := "no such place") (by decide) d_CT_stash_13 d_CT_stash_16 d_CT_stash_17 d_CT_stash_19 d_CT_stash_22 hex (Nat.le_of_ble_eq_true rfl) (Nat.le_of_ble_eq_true rfl) (by decide) (by decide) hlocks hS.2.2 (by decide) (by decide) (fun t9 _ h1 h2 => xX_end (Or.inr (Int32.not_le.mp c_1)) h1 h2)
