set_option maxHeartbeats 8000000 in
set_option maxRecDepth 100000 in
/-- the law's trace -/
theorem c_LW_trace {l : Launch} (hl9 : l.stackTraces = false) {dC : Nat → ClassId} {dI : Nat → Nat → Nat} {cI cJ : ClassId} {A : Nat → Prop} {x ml q : Nat} {a0 a1 : Nat → Nat} {L M S C : Nat} {key : Int64} {z : Cs} {f : Nat → Int64} (ok0 : tr_ok L S C 64) (ok1 : tr_ok M S C 16) (ht0 : (ts_trail (cs_t0 z)).2 < 600) (ht1 : (ts_trail (cs_t1 z)).2 < 600) (y k : Int32) : vx_Met l y_LW_trace (k_LW_trace :: bw) { frames := 8, cells := 2, slots := 12, locals := 144 } (lP (dC, dI) kCl [(cI, .int), (cJ, .long)] [.ref x, .int y, .int k, .ref q] (cw_ cI cJ x ml a0 a1 L M S C key z ++ [(q, .inl (cJ, 1, .inr (.inl f)))]) A) (lQi (dC, dI) kCl (fun u => cw_ cI cJ x ml a0 a1 L M S C key u.1 ++ [(q, .inl (cJ, 1, .inr (.inl u.2)))]) (fun k9 u => (k9 = 0 ∧ ¬ ((y < 0 ∨ 1 < y) ∨ k < 0 ∨ nI (ts_trail (cs_t y z)).2 ≤ k) ∧ u = (z, vp_updL f 0 (((ts_trail (cs_t y z)).1 k.toNatClampNeg).toInt64))) ∨ (k9 = 1 ∧ ((y < 0 ∨ 1 < y) ∨ k < 0 ∨ nI (ts_trail (cs_t y z)).2 ≤ k) ∧ u = (z, f))) A) (fun _ _ _ => False) 2 12 A := by
  refine Met.ofL (own := "CoinTreeLaw") (by decide) rfl [.ref x, .int y, .int k, .ref q] (Nat.le_of_ble_eq_true rfl) (fun _ _ h => h.1) ?_
  intro p e s m below meth c ls C0 htab hv hl
  obtain ⟨hx, hb, hr, hml, hown, hT, hlocks⟩ := C0
  obtain ⟨-, hP, hK, hD, xe, hA, hN⟩ := hv
  have hS : va_S A s.heap s.heap [] := va_S.rf
  have hl : lv_has ls 5 [(0, .ref x), (1, .int y), (2, .int k), (3, .ref q)] := hl
  refine lv_aload_n hx hb d_LW_trace_0 rfl (lv_at hl 3 rfl) ?_
  refine lv_iconst (v := 0) hx hb d_LW_trace_1 (by decide) ?_
  refine lv_aload_n hx hb d_LW_trace_2 rfl (lv_at hl 0 rfl) ?_
  refine lv_iload_n hx hb d_LW_trace_3 rfl (lv_at hl 1 rfl) ?_
  refine lv_iload_n hx hb d_LW_trace_4 rfl (lv_at hl 2 rfl) ?_
  have hPc := hP.sub (ws' := cw_ cI cJ x ml a0 a1 L M S C key z) [0, 1, 2, 3, 4, 5, 6, 7, 8, 9, 10, 11, 12, 13, 14, 15, 16, 17, 18, 19, 20, 21, 22, 23, 24, 25, 26, 27, 28, 29, 30, 31, 32, 33, 34, 35] rfl
  refine vx_calli (vx_runV (As := [.int y, .int k]) (rest := [.int 0, .ref q]) ⟨hx, hb, hml, hown, hT⟩ (c_CT_trace hl9 ok0 ok1 hPc ht0 ht1 y k) (cwV 2 hT (gi_V m_396 m_393 m_394 m_395 m_22) rfl rfl rfl p_CT_trace ⟨Nat.le_of_ble_eq_true rfl, Nat.le_of_ble_eq_true rfl⟩) ⟨xP_blind, va_recv hK hP (ci := 3) (q0 := 0) rfl rfl, xP_pre hK (xe.narrow (fun _ h => h.elim))⟩ rfl rfl hl.1 rfl (lv_room (Nat.le_of_ble_eq_true rfl)) d_LW_trace_5 ⟨by decide, by decide⟩) hS (fun q _ h => h.elim) (fun q h => h.elim) (fun q _ h => h.elim) (fun E ce q9 u t H1 locs1 ht hvm hpx hB hz hk hS hcell hcv hcl => ?_) (fun r u t H1 locs1 ht hvm hret hB hz hk hS => ?_)
  · have hP := hP.kept (fun k9 q8 hk9 => hk q8.1 (hP k9 q8 hk9).lt (fun h => h))
    have hB : E = xIO := hB
    subst hB
    refine vx_catch (own := "CoinTreeLaw") (name := xIO) hown [] ⟨0, 10, 13, 13⟩ [] (htab.trans rfl) (fun z hz => by cases hz) (by decide) (by decide) (hT _ m_173) (va_Nw.use (by decide +kernel) (xe.2.2.1 _ (by simp [xB]))) hcell hcv hcl ?_
    refine lv_astore (lv' := [(4, .ref q9), (0, .ref x), (1, .int y), (2, .int k), (3, .ref q)]) hx hb d_LW_trace_13 hl (by decide) rfl (fun ls hl => ?_)
    refine lv_iconst (v := 1) hx hb d_LW_trace_15 (by decide) ?_
    refine vx_ret ?_
    refine W.widen (k := 2) (n := 12) (by decide) (by decide) ?_
    exact W.iret hx hb hr (fun t9 ht9 _ => lQi_end ((z, f)) (Or.inr ⟨rfl, hpx, rfl⟩) rfl hP hD hS ht9) hS.2.2 d_LW_trace_16 hlocks
  · have hB : t.heap = s.heap := hB
    have e9 : s.heap = H1 := hB.symm.trans ht
    subst e9
    obtain ⟨hnc, rfl⟩ := hret
    refine lv_i2l (v := ((ts_trail (cs_t y z)).1 k.toNatClampNeg).toInt64) hx hb d_LW_trace_8 rfl ?_
    refine va_last hx hb hK hP hD hS 36 1 rfl rfl (vp_in_nI (n := 0) (by decide) (by decide)) d_LW_trace_9 (fun H locs hP hD hS => ?_)
    have hP : va_P (dC, dI) kCl (cw_ cI cJ x ml a0 a1 L M S C key z ++ [(q, .inl (cJ, 1, .inr (.inl (vp_updL f 0 (((ts_trail (cs_t y z)).1 k.toNatClampNeg).toInt64)))))]) H := hP
    have hD : va_D A (cw_ cI cJ x ml a0 a1 L M S C key z ++ [(q, .inl (cJ, 1, .inr (.inl (vp_updL f 0 (((ts_trail (cs_t y z)).1 k.toNatClampNeg).toInt64)))))]) := hD
    refine lv_goto (tgt := 17) hx hb d_LW_trace_10 (by decide) ?_
    refine lv_iconst (v := 0) hx hb d_LW_trace_17 (by decide) ?_
    refine vx_ret ?_
    refine W.widen (k := 2) (n := 12) (by decide) (by decide) ?_
    exact W.iret hx hb hr (fun t9 ht9 _ => lQi_end ((z, vp_updL f 0 (((ts_trail (cs_t y z)).1 k.toNatClampNeg).toInt64))) (Or.inl ⟨rfl, hnc, rfl⟩) rfl hP hD hS ht9) hS.2.2 d_LW_trace_18 hlocks

set_option maxHeartbeats 8000000 in
set_option maxRecDepth 100000 in
/-- the law's stored -/
theorem c_LW_stored {l : Launch} (hl9 : l.stackTraces = false) {dC : Nat → ClassId} {dI : Nat → Nat → Nat} {cI cJ : ClassId} {A : Nat → Prop} {x ml q : Nat} {a0 a1 : Nat → Nat} {L M S C : Nat} {key : Int64} {z : Cs} {f : Nat → Int64} (ok0 : tr_ok L S C 64) (ok1 : tr_ok M S C 16) (y nd sl wd : Int32) : vx_Met l y_LW_stored (k_LW_stored :: bw) { frames := 8, cells := 2, slots := 12, locals := 148 } (lP (dC, dI) kCl [(cI, .int), (cJ, .long)] [.ref x, .int y, .int nd, .int sl, .int wd, .ref q] (cw_ cI cJ x ml a0 a1 L M S C key z ++ [(q, .inl (cJ, 1, .inr (.inl f)))]) A) (lQi (dC, dI) kCl (fun u => cw_ cI cJ x ml a0 a1 L M S C key u.1 ++ [(q, .inl (cJ, 1, .inr (.inl u.2)))]) (fun k9 u => (k9 = 0 ∧ ¬ ((y < 0 ∨ 1 < y) ∨ tr_nd (cs_L y L M) nd = false ∨ (sl < 0 ∨ nI S ≤ sl) ∨ (wd < 0 ∨ 3 ≤ wd)) ∧ u = (z, vp_updL f 0 (tr_word (cs_L y L M) S (cs_t y z) nd sl wd.toNatClampNeg ^^^ ct_seal key y nd sl wd (ts_cnts (cs_t y z) nd.toNatClampNeg)))) ∨ (k9 = 1 ∧ ((y < 0 ∨ 1 < y) ∨ tr_nd (cs_L y L M) nd = false ∨ (sl < 0 ∨ nI S ≤ sl) ∨ (wd < 0 ∨ 3 ≤ wd)) ∧ u = (z, f))) A) (fun _ _ _ => False) 2 12 A := by
  refine Met.ofL (own := "CoinTreeLaw") (by decide) rfl [.ref x, .int y, .int nd, .int sl, .int wd, .ref q] (Nat.le_of_ble_eq_true rfl) (fun _ _ h => h.1) ?_
  intro p e s m below meth c ls C0 htab hv hl
  obtain ⟨hx, hb, hr, hml, hown, hT, hlocks⟩ := C0
  obtain ⟨-, hP, hK, hD, xe, hA, hN⟩ := hv
  have hS : va_S A s.heap s.heap [] := va_S.rf
  have hl : lv_has ls 7 [(0, .ref x), (1, .int y), (2, .int nd), (3, .int sl), (4, .int wd), (5, .ref q)] := hl
  refine lv_aload hx hb d_LW_stored_0 (lv_at hl 5 rfl) ?_
  refine lv_iconst (v := 0) hx hb d_LW_stored_2 (by decide) ?_
  refine lv_aload_n hx hb d_LW_stored_3 rfl (lv_at hl 0 rfl) ?_
  refine lv_iload_n hx hb d_LW_stored_4 rfl (lv_at hl 1 rfl) ?_
  refine lv_iload_n hx hb d_LW_stored_5 rfl (lv_at hl 2 rfl) ?_
  refine lv_iload_n hx hb d_LW_stored_6 rfl (lv_at hl 3 rfl) ?_
  refine lv_iload hx hb d_LW_stored_7 (lv_at hl 4 rfl) ?_
  have hPc := hP.sub (ws' := cw_ cI cJ x ml a0 a1 L M S C key z) [0, 1, 2, 3, 4, 5, 6, 7, 8, 9, 10, 11, 12, 13, 14, 15, 16, 17, 18, 19, 20, 21, 22, 23, 24, 25, 26, 27, 28, 29, 30, 31, 32, 33, 34, 35] rfl
  refine vx_calll (vx_runV (As := [.int y, .int nd, .int sl, .int wd]) (rest := [.int 0, .ref q]) ⟨hx, hb, hml, hown, hT⟩ (c_CT_stored hl9 ok0 ok1 hPc y nd sl wd) (cwV 4 hT (gi_V m_413 m_410 m_411 m_412 m_22) rfl rfl rfl p_CT_stored ⟨Nat.le_of_ble_eq_true rfl, Nat.le_of_ble_eq_true rfl⟩) ⟨xP_blind, va_recv hK hP (ci := 3) (q0 := 0) rfl rfl, xP_pre hK (xe.narrow (fun _ h => h.elim))⟩ rfl rfl hl.1 rfl (lv_room (Nat.le_of_ble_eq_true rfl)) d_LW_stored_9 ⟨by decide, by decide⟩) hS (fun q _ h => h.elim) (fun q h => h.elim) (fun q _ h => h.elim) (fun E ce q9 u t H1 locs1 ht hvm hpx hB hz hk hS hcell hcv hcl => ?_) (fun r u t H1 locs1 ht hvm hret hB hz hk hS => ?_)
  · have hP := hP.kept (fun k9 q8 hk9 => hk q8.1 (hP k9 q8 hk9).lt (fun h => h))
    have hB : E = xIO := hB
    subst hB
    refine vx_catch (own := "CoinTreeLaw") (name := xIO) hown [] ⟨0, 13, 16, 13⟩ [] (htab.trans rfl) (fun z hz => by cases hz) (by decide) (by decide) (hT _ m_173) (va_Nw.use (by decide +kernel) (xe.2.2.1 _ (by simp [xB]))) hcell hcv hcl ?_
    refine lv_astore (lv' := [(6, .ref q9), (0, .ref x), (1, .int y), (2, .int nd), (3, .int sl), (4, .int wd), (5, .ref q)]) hx hb d_LW_stored_16 hl (by decide) rfl (fun ls hl => ?_)
    refine lv_iconst (v := 1) hx hb d_LW_stored_18 (by decide) ?_
    refine vx_ret ?_
    refine W.widen (k := 2) (n := 12) (by decide) (by decide) ?_
    exact W.iret hx hb hr (fun t9 ht9 _ => lQi_end ((z, f)) (Or.inr ⟨rfl, hpx, rfl⟩) rfl hP hD hS ht9) hS.2.2 d_LW_stored_19 hlocks
  · have hB : t.heap = s.heap := hB
    have e9 : s.heap = H1 := hB.symm.trans ht
    subst e9
    obtain ⟨hnc, rfl⟩ := hret
    refine va_last hx hb hK hP hD hS 36 1 rfl rfl (vp_in_nI (n := 0) (by decide) (by decide)) d_LW_stored_12 (fun H locs hP hD hS => ?_)
    have hP : va_P (dC, dI) kCl (cw_ cI cJ x ml a0 a1 L M S C key z ++ [(q, .inl (cJ, 1, .inr (.inl (vp_updL f 0 (tr_word (cs_L y L M) S (cs_t y z) nd sl wd.toNatClampNeg ^^^ ct_seal key y nd sl wd (ts_cnts (cs_t y z) nd.toNatClampNeg))))))]) H := hP
    have hD : va_D A (cw_ cI cJ x ml a0 a1 L M S C key z ++ [(q, .inl (cJ, 1, .inr (.inl (vp_updL f 0 (tr_word (cs_L y L M) S (cs_t y z) nd sl wd.toNatClampNeg ^^^ ct_seal key y nd sl wd (ts_cnts (cs_t y z) nd.toNatClampNeg))))))]) := hD
    refine lv_goto (tgt := 20) hx hb d_LW_stored_13 (by decide) ?_
    refine lv_iconst (v := 0) hx hb d_LW_stored_20 (by decide) ?_
    refine vx_ret ?_
    refine W.widen (k := 2) (n := 12) (by decide) (by decide) ?_
    exact W.iret hx hb hr (fun t9 ht9 _ => lQi_end ((z, vp_updL f 0 (tr_word (cs_L y L M) S (cs_t y z) nd sl wd.toNatClampNeg ^^^ ct_seal key y nd sl wd (ts_cnts (cs_t y z) nd.toNatClampNeg)))) (Or.inl ⟨rfl, hnc, rfl⟩) rfl hP hD hS ht9) hS.2.2 d_LW_stored_21 hlocks

set_option maxHeartbeats 8000000 in
set_option maxRecDepth 100000 in
/-- the law's written -/
theorem c_LW_written {l : Launch} (hl9 : l.stackTraces = false) {dC : Nat → ClassId} {dI : Nat → Nat → Nat} {cI cJ : ClassId} {A : Nat → Prop} {x ml q : Nat} {a0 a1 : Nat → Nat} {L M S C : Nat} {key : Int64} {z : Cs} {f : Nat → Int64} (ok0 : tr_ok L S C 64) (ok1 : tr_ok M S C 16) (y nd : Int32) : vx_Met l y_LW_written (k_LW_written :: bw) { frames := 8, cells := 2, slots := 12, locals := 144 } (lP (dC, dI) kCl [(cI, .int), (cJ, .long)] [.ref x, .int y, .int nd, .ref q] (cw_ cI cJ x ml a0 a1 L M S C key z ++ [(q, .inl (cJ, 1, .inr (.inl f)))]) A) (lQi (dC, dI) kCl (fun u => cw_ cI cJ x ml a0 a1 L M S C key u.1 ++ [(q, .inl (cJ, 1, .inr (.inl u.2)))]) (fun k9 u => (k9 = 0 ∧ ¬ ((y < 0 ∨ 1 < y) ∨ tr_nd (cs_L y L M) nd = false) ∧ u = (z, vp_updL f 0 ((ts_cnts (cs_t y z) nd.toNatClampNeg).toInt64))) ∨ (k9 = 1 ∧ ((y < 0 ∨ 1 < y) ∨ tr_nd (cs_L y L M) nd = false) ∧ u = (z, f))) A) (fun _ _ _ => False) 2 12 A := by
  refine Met.ofL (own := "CoinTreeLaw") (by decide) rfl [.ref x, .int y, .int nd, .ref q] (Nat.le_of_ble_eq_true rfl) (fun _ _ h => h.1) ?_
  intro p e s m below meth c ls C0 htab hv hl
  obtain ⟨hx, hb, hr, hml, hown, hT, hlocks⟩ := C0
  obtain ⟨-, hP, hK, hD, xe, hA, hN⟩ := hv
  have hS : va_S A s.heap s.heap [] := va_S.rf
  have hl : lv_has ls 5 [(0, .ref x), (1, .int y), (2, .int nd), (3, .ref q)] := hl
  refine lv_aload_n hx hb d_LW_written_0 rfl (lv_at hl 3 rfl) ?_
  refine lv_iconst (v := 0) hx hb d_LW_written_1 (by decide) ?_
  refine lv_aload_n hx hb d_LW_written_2 rfl (lv_at hl 0 rfl) ?_
  refine lv_iload_n hx hb d_LW_written_3 rfl (lv_at hl 1 rfl) ?_
  refine lv_iload_n hx hb d_LW_written_4 rfl (lv_at hl 2 rfl) ?_
  have hPc := hP.sub (ws' := cw_ cI cJ x ml a0 a1 L M S C key z) [0, 1, 2, 3, 4, 5, 6, 7, 8, 9, 10, 11, 12, 13, 14, 15, 16, 17, 18, 19, 20, 21, 22, 23, 24, 25, 26, 27, 28, 29, 30, 31, 32, 33, 34, 35] rfl
  refine vx_calli (vx_runV (As := [.int y, .int nd]) (rest := [.int 0, .ref q]) ⟨hx, hb, hml, hown, hT⟩ (c_CT_written hl9 ok0 ok1 hPc y nd) (cwV 2 hT (gi_V m_439 m_436 m_437 m_438 m_22) rfl rfl rfl p_CT_written ⟨Nat.le_of_ble_eq_true rfl, Nat.le_of_ble_eq_true rfl⟩) ⟨xP_blind, va_recv hK hP (ci := 3) (q0 := 0) rfl rfl, xP_pre hK (xe.narrow (fun _ h => h.elim))⟩ rfl rfl hl.1 rfl (lv_room (Nat.le_of_ble_eq_true rfl)) d_LW_written_5 ⟨by decide, by decide⟩) hS (fun q _ h => h.elim) (fun q h => h.elim) (fun q _ h => h.elim) (fun E ce q9 u t H1 locs1 ht hvm hpx hB hz hk hS hcell hcv hcl => ?_) (fun r u t H1 locs1 ht hvm hret hB hz hk hS => ?_)
  · have hP := hP.kept (fun k9 q8 hk9 => hk q8.1 (hP k9 q8 hk9).lt (fun h => h))
    have hB : E = xIO := hB
    subst hB
    refine vx_catch (own := "CoinTreeLaw") (name := xIO) hown [] ⟨0, 10, 13, 13⟩ [] (htab.trans rfl) (fun z hz => by cases hz) (by decide) (by decide) (hT _ m_173) (va_Nw.use (by decide +kernel) (xe.2.2.1 _ (by simp [xB]))) hcell hcv hcl ?_
    refine lv_astore (lv' := [(4, .ref q9), (0, .ref x), (1, .int y), (2, .int nd), (3, .ref q)]) hx hb d_LW_written_13 hl (by decide) rfl (fun ls hl => ?_)
    refine lv_iconst (v := 1) hx hb d_LW_written_15 (by decide) ?_
    refine vx_ret ?_
    refine W.widen (k := 2) (n := 12) (by decide) (by decide) ?_
    exact W.iret hx hb hr (fun t9 ht9 _ => lQi_end ((z, f)) (Or.inr ⟨rfl, hpx, rfl⟩) rfl hP hD hS ht9) hS.2.2 d_LW_written_16 hlocks
  · have hB : t.heap = s.heap := hB
    have e9 : s.heap = H1 := hB.symm.trans ht
    subst e9
    obtain ⟨hnc, rfl⟩ := hret
    refine lv_i2l (v := (ts_cnts (cs_t y z) nd.toNatClampNeg).toInt64) hx hb d_LW_written_8 rfl ?_
    refine va_last hx hb hK hP hD hS 36 1 rfl rfl (vp_in_nI (n := 0) (by decide) (by decide)) d_LW_written_9 (fun H locs hP hD hS => ?_)
    have hP : va_P (dC, dI) kCl (cw_ cI cJ x ml a0 a1 L M S C key z ++ [(q, .inl (cJ, 1, .inr (.inl (vp_updL f 0 ((ts_cnts (cs_t y z) nd.toNatClampNeg).toInt64)))))]) H := hP
    have hD : va_D A (cw_ cI cJ x ml a0 a1 L M S C key z ++ [(q, .inl (cJ, 1, .inr (.inl (vp_updL f 0 ((ts_cnts (cs_t y z) nd.toNatClampNeg).toInt64)))))]) := hD
    refine lv_goto (tgt := 17) hx hb d_LW_written_10 (by decide) ?_
    refine lv_iconst (v := 0) hx hb d_LW_written_17 (by decide) ?_
    refine vx_ret ?_
    refine W.widen (k := 2) (n := 12) (by decide) (by decide) ?_
    exact W.iret hx hb hr (fun t9 ht9 _ => lQi_end ((z, vp_updL f 0 ((ts_cnts (cs_t y z) nd.toNatClampNeg).toInt64))) (Or.inl ⟨rfl, hnc, rfl⟩) rfl hP hD hS ht9) hS.2.2 d_LW_written_18 hlocks

set_option maxHeartbeats 8000000 in
set_option maxRecDepth 100000 in
/-- the law's stash -/
theorem c_LW_stash {l : Launch} (hl9 : l.stackTraces = false) {dC : Nat → ClassId} {dI : Nat → Nat → Nat} {cI cJ : ClassId} {A : Nat → Prop} {x ml q : Nat} {a0 a1 : Nat → Nat} {L M S C : Nat} {key : Int64} {z : Cs} {f : Nat → Int64} (ok0 : tr_ok L S C 64) (ok1 : tr_ok M S C 16) (y k : Int32) : vx_Met l y_LW_stash (k_LW_stash :: bw) { frames := 8, cells := 2, slots := 12, locals := 144 } (lP (dC, dI) kCl [(cI, .int), (cJ, .long)] [.ref x, .int y, .int k, .ref q] (cw_ cI cJ x ml a0 a1 L M S C key z ++ [(q, .inl (cJ, 1, .inr (.inl f)))]) A) (lQi (dC, dI) kCl (fun u => cw_ cI cJ x ml a0 a1 L M S C key u.1 ++ [(q, .inl (cJ, 1, .inr (.inl u.2)))]) (fun k9 u => (k9 = 0 ∧ ¬ ((y < 0 ∨ 1 < y) ∨ k < 0) ∧ u = (z, vp_updL f 0 ((ct_stash C (cs_t y z) k).toInt64))) ∨ (k9 = 1 ∧ ((y < 0 ∨ 1 < y) ∨ k < 0) ∧ u = (z, f))) A) (fun _ _ _ => False) 2 12 A := by
  refine Met.ofL (own := "CoinTreeLaw") (by decide) rfl [.ref x, .int y, .int k, .ref q] (Nat.le_of_ble_eq_true rfl) (fun _ _ h => h.1) ?_
  intro p e s m below meth c ls C0 htab hv hl
  obtain ⟨hx, hb, hr, hml, hown, hT, hlocks⟩ := C0
  obtain ⟨-, hP, hK, hD, xe, hA, hN⟩ := hv
  have hS : va_S A s.heap s.heap [] := va_S.rf
  have hl : lv_has ls 5 [(0, .ref x), (1, .int y), (2, .int k), (3, .ref q)] := hl
  refine lv_aload_n hx hb d_LW_stash_0 rfl (lv_at hl 3 rfl) ?_
  refine lv_iconst (v := 0) hx hb d_LW_stash_1 (by decide) ?_
  refine lv_aload_n hx hb d_LW_stash_2 rfl (lv_at hl 0 rfl) ?_
  refine lv_iload_n hx hb d_LW_stash_3 rfl (lv_at hl 1 rfl) ?_
  refine lv_iload_n hx hb d_LW_stash_4 rfl (lv_at hl 2 rfl) ?_
  have hPc := hP.sub (ws' := cw_ cI cJ x ml a0 a1 L M S C key z) [0, 1, 2, 3, 4, 5, 6, 7, 8, 9, 10, 11, 12, 13, 14, 15, 16, 17, 18, 19, 20, 21, 22, 23, 24, 25, 26, 27, 28, 29, 30, 31, 32, 33, 34, 35] rfl
  refine vx_calli (vx_runV (As := [.int y, .int k]) (rest := [.int 0, .ref q]) ⟨hx, hb, hml, hown, hT⟩ (c_CT_stash hl9 ok0 ok1 hPc y k) (cwV 2 hT (gi_V m_446 m_443 m_444 m_445 m_22) rfl rfl rfl p_CT_stash ⟨Nat.le_of_ble_eq_true rfl, Nat.le_of_ble_eq_true rfl⟩) ⟨xP_blind, va_recv hK hP (ci := 3) (q0 := 0) rfl rfl, xP_pre hK (xe.narrow (fun _ h => h.elim))⟩ rfl rfl hl.1 rfl (lv_room (Nat.le_of_ble_eq_true rfl)) d_LW_stash_5 ⟨by decide, by decide⟩) hS (fun q _ h => h.elim) (fun q h => h.elim) (fun q _ h => h.elim) (fun E ce q9 u t H1 locs1 ht hvm hpx hB hz hk hS hcell hcv hcl => ?_) (fun r u t H1 locs1 ht hvm hret hB hz hk hS => ?_)
  · have hP := hP.kept (fun k9 q8 hk9 => hk q8.1 (hP k9 q8 hk9).lt (fun h => h))
    have hB : E = xIO := hB
    subst hB
    refine vx_catch (own := "CoinTreeLaw") (name := xIO) hown [] ⟨0, 10, 13, 13⟩ [] (htab.trans rfl) (fun z hz => by cases hz) (by decide) (by decide) (hT _ m_173) (va_Nw.use (by decide +kernel) (xe.2.2.1 _ (by simp [xB]))) hcell hcv hcl ?_
    refine lv_astore (lv' := [(4, .ref q9), (0, .ref x), (1, .int y), (2, .int k), (3, .ref q)]) hx hb d_LW_stash_13 hl (by decide) rfl (fun ls hl => ?_)
    refine lv_iconst (v := 1) hx hb d_LW_stash_15 (by decide) ?_
    refine vx_ret ?_
    refine W.widen (k := 2) (n := 12) (by decide) (by decide) ?_
    exact W.iret hx hb hr (fun t9 ht9 _ => lQi_end ((z, f)) (Or.inr ⟨rfl, hpx, rfl⟩) rfl hP hD hS ht9) hS.2.2 d_LW_stash_16 hlocks
  · have hB : t.heap = s.heap := hB
    have e9 : s.heap = H1 := hB.symm.trans ht
    subst e9
    obtain ⟨hnc, rfl⟩ := hret
    refine lv_i2l (v := (ct_stash C (cs_t y z) k).toInt64) hx hb d_LW_stash_8 rfl ?_
    refine va_last hx hb hK hP hD hS 36 1 rfl rfl (vp_in_nI (n := 0) (by decide) (by decide)) d_LW_stash_9 (fun H locs hP hD hS => ?_)
    have hP : va_P (dC, dI) kCl (cw_ cI cJ x ml a0 a1 L M S C key z ++ [(q, .inl (cJ, 1, .inr (.inl (vp_updL f 0 ((ct_stash C (cs_t y z) k).toInt64)))))]) H := hP
    have hD : va_D A (cw_ cI cJ x ml a0 a1 L M S C key z ++ [(q, .inl (cJ, 1, .inr (.inl (vp_updL f 0 ((ct_stash C (cs_t y z) k).toInt64)))))]) := hD
    refine lv_goto (tgt := 17) hx hb d_LW_stash_10 (by decide) ?_
    refine lv_iconst (v := 0) hx hb d_LW_stash_17 (by decide) ?_
    refine vx_ret ?_
    refine W.widen (k := 2) (n := 12) (by decide) (by decide) ?_
    exact W.iret hx hb hr (fun t9 ht9 _ => lQi_end ((z, vp_updL f 0 ((ct_stash C (cs_t y z) k).toInt64))) (Or.inl ⟨rfl, hnc, rfl⟩) rfl hP hD hS ht9) hS.2.2 d_LW_stash_18 hlocks

set_option maxHeartbeats 8000000 in
set_option maxRecDepth 100000 in
/-- the law's count -/
theorem c_LW_count {l : Launch} (hl9 : l.stackTraces = false) {dC : Nat → ClassId} {dI : Nat → Nat → Nat} {cI cJ : ClassId} {A : Nat → Prop} {x ml q : Nat} {a0 a1 : Nat → Nat} {L M S C : Nat} {key : Int64} {z : Cs} {f : Nat → Int64} (ok0 : tr_ok L S C 64) (ok1 : tr_ok M S C 16) (wh : Int32) : vx_Met l y_LW_count (k_LW_count :: bw) { frames := 7, cells := 1, slots := 6, locals := 121 } (lP (dC, dI) kCl [(cI, .int), (cJ, .long)] [.ref x, .int wh, .ref q] (cw_ cI cJ x ml a0 a1 L M S C key z ++ [(q, .inl (cJ, 1, .inr (.inl f)))]) A) (lQi (dC, dI) kCl (fun u => cw_ cI cJ x ml a0 a1 L M S C key u.1 ++ [(q, .inl (cJ, 1, .inr (.inl u.2)))]) (fun k9 u => (k9 = 0 ∧ ¬ (wh < 0 ∨ 8 < wh) ∧ u = (z, vp_updL f 0 ((ct_cnt L M S C z wh.toNatClampNeg).toInt64))) ∨ (k9 = 1 ∧ (wh < 0 ∨ 8 < wh) ∧ u = (z, f))) A) (fun _ _ _ => False) 1 6 A := by
  refine Met.ofL (own := "CoinTreeLaw") (by decide) rfl [.ref x, .int wh, .ref q] (Nat.le_of_ble_eq_true rfl) (fun _ _ h => h.1) ?_
  intro p e s m below meth c ls C0 htab hv hl
  obtain ⟨hx, hb, hr, hml, hown, hT, hlocks⟩ := C0
  obtain ⟨-, hP, hK, hD, xe, hA, hN⟩ := hv
  have hS : va_S A s.heap s.heap [] := va_S.rf
  have hl : lv_has ls 4 [(0, .ref x), (1, .int wh), (2, .ref q)] := hl
  refine lv_aload_n hx hb d_LW_count_0 rfl (lv_at hl 2 rfl) ?_
  refine lv_iconst (v := 0) hx hb d_LW_count_1 (by decide) ?_
  refine lv_aload_n hx hb d_LW_count_2 rfl (lv_at hl 0 rfl) ?_
  refine lv_iload_n hx hb d_LW_count_3 rfl (lv_at hl 1 rfl) ?_
  have hPc := hP.sub (ws' := cw_ cI cJ x ml a0 a1 L M S C key z) [0, 1, 2, 3, 4, 5, 6, 7, 8, 9, 10, 11, 12, 13, 14, 15, 16, 17, 18, 19, 20, 21, 22, 23, 24, 25, 26, 27, 28, 29, 30, 31, 32, 33, 34, 35] rfl
  refine vx_calli (vx_runV (As := [.int wh]) (rest := [.int 0, .ref q]) ⟨hx, hb, hml, hown, hT⟩ (c_CT_count hl9 ok0 ok1 hPc wh) (cwV 1 hT (gi_V m_455 m_452 m_453 m_454 m_22) rfl rfl rfl p_CT_count ⟨Nat.le_of_ble_eq_true rfl, Nat.le_of_ble_eq_true rfl⟩) ⟨xP_blind, va_recv hK hP (ci := 3) (q0 := 0) rfl rfl, xP_pre hK (xe.narrow (fun _ h => h.elim))⟩ rfl rfl hl.1 rfl (lv_room (Nat.le_of_ble_eq_true rfl)) d_LW_count_4 ⟨by decide, by decide⟩) hS (fun q _ h => h.elim) (fun q h => h.elim) (fun q _ h => h.elim) (fun E ce q9 u t H1 locs1 ht hvm hpx hB hz hk hS hcell hcv hcl => ?_) (fun r u t H1 locs1 ht hvm hret hB hz hk hS => ?_)
  · have hP := hP.kept (fun k9 q8 hk9 => hk q8.1 (hP k9 q8 hk9).lt (fun h => h))
    have hB : E = xIO := hB
    subst hB
    refine vx_catch (own := "CoinTreeLaw") (name := xIO) hown [] ⟨0, 9, 12, 13⟩ [] (htab.trans rfl) (fun z hz => by cases hz) (by decide) (by decide) (hT _ m_173) (va_Nw.use (by decide +kernel) (xe.2.2.1 _ (by simp [xB]))) hcell hcv hcl ?_
    refine lv_astore_n (lv' := [(3, .ref q9), (0, .ref x), (1, .int wh), (2, .ref q)]) hx hb d_LW_count_12 rfl hl (by decide) rfl (fun ls hl => ?_)
    refine lv_iconst (v := 1) hx hb d_LW_count_13 (by decide) ?_
    refine vx_ret ?_
    refine W.widen (k := 1) (n := 6) (by decide) (by decide) ?_
    exact W.iret hx hb hr (fun t9 ht9 _ => lQi_end ((z, f)) (Or.inr ⟨rfl, hpx, rfl⟩) rfl hP hD hS ht9) hS.2.2 d_LW_count_14 hlocks
  · have hB : t.heap = s.heap := hB
    have e9 : s.heap = H1 := hB.symm.trans ht
    subst e9
    obtain ⟨hnc, rfl⟩ := hret
    refine lv_i2l (v := (ct_cnt L M S C z wh.toNatClampNeg).toInt64) hx hb d_LW_count_7 rfl ?_
    refine va_last hx hb hK hP hD hS 36 1 rfl rfl (vp_in_nI (n := 0) (by decide) (by decide)) d_LW_count_8 (fun H locs hP hD hS => ?_)
    have hP : va_P (dC, dI) kCl (cw_ cI cJ x ml a0 a1 L M S C key z ++ [(q, .inl (cJ, 1, .inr (.inl (vp_updL f 0 ((ct_cnt L M S C z wh.toNatClampNeg).toInt64)))))]) H := hP
    have hD : va_D A (cw_ cI cJ x ml a0 a1 L M S C key z ++ [(q, .inl (cJ, 1, .inr (.inl (vp_updL f 0 ((ct_cnt L M S C z wh.toNatClampNeg).toInt64)))))]) := hD
    refine lv_goto (tgt := 15) hx hb d_LW_count_9 (by decide) ?_
    refine lv_iconst (v := 0) hx hb d_LW_count_15 (by decide) ?_
    refine vx_ret ?_
    refine W.widen (k := 1) (n := 6) (by decide) (by decide) ?_
    exact W.iret hx hb hr (fun t9 ht9 _ => lQi_end ((z, vp_updL f 0 ((ct_cnt L M S C z wh.toNatClampNeg).toInt64))) (Or.inl ⟨rfl, hnc, rfl⟩) rfl hP hD hS ht9) hS.2.2 d_LW_count_16 hlocks
