set_option maxHeartbeats 8000000 in
set_option maxRecDepth 100000 in
/-- CoinTree.read -/
theorem c_CT_read {l : Launch} (hl9 : l.stackTraces = false) {dC : Nat → ClassId} {dI : Nat → Nat → Nat} {cI cJ : ClassId} {A : Nat → Prop} {x ml : Nat} {a0 a1 : Nat → Nat} {L M S C : Nat} {key : Int64} {z : Cs} (ok0 : tr_ok L S C 64) (ok1 : tr_ok M S C 16) (ht0 : (ts_trail (cs_t0 z)).2 < 600) (ht1 : (ts_trail (cs_t1 z)).2 < 600) (b co mc : Int32) : vx_Met l y_CT_read (k_CT_read :: bw) { frames := 7, cells := 1, slots := 6, locals := 169 } (yP (dC, dI) kCl [(cI, .int), (cJ, .long)] [.ref x, .int b, .int co, .int mc] (cw_ cI cJ x ml a0 a1 L M S C key z) A) (yQl (dC, dI) kCl (fun u => cw_ cI cJ x ml a0 a1 L M S C key u) (ak_ret L M S C z b false 0 co mc) A) (yX (dC, dI) kCl (fun u => cw_ cI cJ x ml a0 a1 L M S C key u) (ak_thr L M S C z b false 0 co mc) A) 1 6 A := by
  refine Met.ofX (own := "CoinTree") (by decide) rfl [.ref x, .int b, .int co, .int mc] (Nat.le_of_ble_eq_true rfl) (fun _ _ h => h.1) ?_
  intro p e s m below meth c ls C0 hex hv hl
  obtain ⟨hx, hb, hr, hml, hown, hT, hlocks⟩ := C0
  obtain ⟨-, hP, hK, hD, xe, hA⟩ := hv
  have hS : va_S A s.heap s.heap [] := va_S.rf
  have hl : lv_has ls 4 [(0, .ref x), (1, .int b), (2, .int co), (3, .int mc)] := hl
  refine lv_aload_n hx hb d_CT_read_0 rfl (lv_at hl 0 rfl) ?_
  refine lv_iload_n hx hb d_CT_read_1 rfl (lv_at hl 1 rfl) ?_
  refine lv_iconst (v := 0) hx hb d_CT_read_2 (by decide) ?_
  refine lv_lconst (v := 0) hx hb d_CT_read_3 (by decide) ?_
  refine lv_iload_n hx hb d_CT_read_4 rfl (lv_at hl 2 rfl) ?_
  refine lv_iload_n hx hb d_CT_read_5 rfl (lv_at hl 3 rfl) ?_
  refine vx_calll (vx_runV (As := [.int b, .int 0, .long 0, .int co, .int mc]) (rest := []) ⟨hx, hb, hml, hown, hT⟩ (c_CT_ask hl9 (A := A) ok0 ok1 ht0 ht1 b false 0 co mc) (cwV 5 hT (gi_V m_183 m_180 m_182 m_0 m_22) rfl rfl rfl p_CT_ask ⟨Nat.le_of_ble_eq_true rfl, Nat.le_of_ble_eq_true rfl⟩) ⟨yP_blind, va_recv hK hP (ci := 3) (q0 := 0) rfl rfl, yP_pre hK hP hD xe hA⟩ rfl rfl hl.1 rfl (lv_room (Nat.le_of_ble_eq_true rfl)) d_CT_read_6 ⟨by decide, by decide⟩) hS (fun q _ h => h) (fun q h => h) (fun q _ h => h) (fun E ce q9 u t H1 locs1 ht _ _ hB hz hk hS1 hcell hcv hcl => vx_out (fun x9 h9 => (hex x9 h9).elim) hlocks hcell hcv hcl (fun t9 ht9 _ => ⟨u, trivial, ⟨hB.1, by rw [ht9, ← ht]; exact hB.2.1, hB.2.2⟩, hS1.F ht9⟩) hS1.2.2 (by decide) (by decide)) (fun r u t H locs ht _ hret hB hz hk hS => ?_)
  refine vx_ret ?_
  refine W.widen (k := 1) (n := 6) (by decide) (by decide) ?_
  exact W.lret hx hb hr (fun t9 ht9 _ => ⟨⟨r, u, rfl, hret, by rw [ht9, ← ht]; exact hB.1, hB.2⟩, hS.F ht9⟩) hS.2.2 d_CT_read_9 hlocks

set_option maxHeartbeats 8000000 in
set_option maxRecDepth 100000 in
/-- CoinTree.write -/
theorem c_CT_write {l : Launch} (hl9 : l.stackTraces = false) {dC : Nat → ClassId} {dI : Nat → Nat → Nat} {cI cJ : ClassId} {A : Nat → Prop} {x ml : Nat} {a0 a1 : Nat → Nat} {L M S C : Nat} {key : Int64} {z : Cs} (ok0 : tr_ok L S C 64) (ok1 : tr_ok M S C 16) (ht0 : (ts_trail (cs_t0 z)).2 < 600) (ht1 : (ts_trail (cs_t1 z)).2 < 600) (b : Int32) (nv : Int64) (co mc : Int32) : vx_Met l y_CT_write (k_CT_write :: bw) { frames := 7, cells := 1, slots := 6, locals := 169 } (yP (dC, dI) kCl [(cI, .int), (cJ, .long)] [.ref x, .int b, .long nv, .int co, .int mc] (cw_ cI cJ x ml a0 a1 L M S C key z) A) (yQl (dC, dI) kCl (fun u => cw_ cI cJ x ml a0 a1 L M S C key u) (ak_ret L M S C z b true nv co mc) A) (yX (dC, dI) kCl (fun u => cw_ cI cJ x ml a0 a1 L M S C key u) (ak_thr L M S C z b true nv co mc) A) 1 6 A := by
  refine Met.ofX (own := "CoinTree") (by decide) rfl [.ref x, .int b, .long nv, .int co, .int mc] (Nat.le_of_ble_eq_true rfl) (fun _ _ h => h.1) ?_
  intro p e s m below meth c ls C0 hex hv hl
  obtain ⟨hx, hb, hr, hml, hown, hT, hlocks⟩ := C0
  obtain ⟨-, hP, hK, hD, xe, hA⟩ := hv
  have hS : va_S A s.heap s.heap [] := va_S.rf
  have hl : lv_has ls 6 [(0, .ref x), (1, .int b), (2, .long nv), (4, .int co), (5, .int mc)] := hl
  refine lv_aload_n hx hb d_CT_write_0 rfl (lv_at hl 0 rfl) ?_
  refine lv_iload_n hx hb d_CT_write_1 rfl (lv_at hl 1 rfl) ?_
  refine lv_iconst (v := 1) hx hb d_CT_write_2 (by decide) ?_
  refine lv_lload_n hx hb d_CT_write_3 rfl (lv_at hl 2 rfl) ?_
  refine lv_iload hx hb d_CT_write_4 (lv_at hl 3 rfl) ?_
  refine lv_iload hx hb d_CT_write_6 (lv_at hl 4 rfl) ?_
  refine vx_calll (vx_runV (As := [.int b, .int 1, .long nv, .int co, .int mc]) (rest := []) ⟨hx, hb, hml, hown, hT⟩ (c_CT_ask hl9 (A := A) ok0 ok1 ht0 ht1 b true nv co mc) (cwV 5 hT (gi_V m_183 m_180 m_182 m_0 m_22) rfl rfl rfl p_CT_ask ⟨Nat.le_of_ble_eq_true rfl, Nat.le_of_ble_eq_true rfl⟩) ⟨yP_blind, va_recv hK hP (ci := 3) (q0 := 0) rfl rfl, yP_pre hK hP hD xe hA⟩ rfl rfl hl.1 rfl (lv_room (Nat.le_of_ble_eq_true rfl)) d_CT_write_8 ⟨by decide, by decide⟩) hS (fun q _ h => h) (fun q h => h) (fun q _ h => h) (fun E ce q9 u t H1 locs1 ht _ _ hB hz hk hS1 hcell hcv hcl => vx_out (fun x9 h9 => (hex x9 h9).elim) hlocks hcell hcv hcl (fun t9 ht9 _ => ⟨u, trivial, ⟨hB.1, by rw [ht9, ← ht]; exact hB.2.1, hB.2.2⟩, hS1.F ht9⟩) hS1.2.2 (by decide) (by decide)) (fun r u t H locs ht _ hret hB hz hk hS => ?_)
  refine vx_ret ?_
  refine W.widen (k := 1) (n := 6) (by decide) (by decide) ?_
  exact W.lret hx hb hr (fun t9 ht9 _ => ⟨⟨r, u, rfl, hret, by rw [ht9, ← ht]; exact hB.1, hB.2⟩, hS.F ht9⟩) hS.2.2 d_CT_write_11 hlocks
