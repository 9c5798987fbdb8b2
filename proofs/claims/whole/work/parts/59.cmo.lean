set_option maxHeartbeats 4000000 in
set_option maxRecDepth 100000 in
/-- CoinTreeModel.thrown -/
theorem c_CM_thrown {l : Launch} {dC : Nat → ClassId} {dI : Nat → Nat → Nat} {cI cJ : ClassId} {H : Heap} {ad : Nat → Nat} {L S C : Nat} {key : Int64} {th most asked : Int32} {td : Nat} {tr : Nat → Int32} {v o : Mv} (ok : mk_ok L S C) (hP : va_P (dC, dI) kCl (mw_ cI cJ ad L S C key th most asked td tr (v) (o)) H) : Met l y_CM_thrown (k_CM_thrown :: bw) { frames := 0, cells := 0, slots := 0, locals := 0 } (zP (dC, dI) kCl [(cI, .int), (cJ, .long)] [.ref (ad 0)] H) (zQi H th) 0 0 (fun _ => False) := by
  refine Met.ofZ (own := "CoinTreeModel") (by decide) rfl [.ref (ad 0)] (Nat.le_of_ble_eq_true rfl) (fun _ _ h => h.1) ?_
  intro p e s m below meth c ls C0 hv hl
  obtain ⟨hx, hb, hr, hml, hown, hT, hlocks⟩ := C0
  obtain ⟨-, rfl, hK⟩ := hv
  have hS : va_S (fun _ => False) s.heap s.heap [] := va_S.rf
  have hl : lv_has ls 1 [(0, .ref (ad 0))] := hl
  obtain ⟨qL1, qL5, qS1, qS4, qC⟩ := id ok
  
  refine lv_aload_n hx hb d_CM_thrown_0 rfl (lv_at hl 0 rfl) ?_
  refine va_get (D := (dC, dI)) (ci := 4) (v := .int th) (C := R_CM) (T := F_CM) (N := 27) hx hb hT i_CM hown hK hP 0 rfl rfl 0 (by decide) (hT _ m_471) (fun _ h9 => h9) rfl d_CM_thrown_1 ?_
  exact W.iret hx hb hr (fun t9 ht _ => zQi_end (rfl) rfl ht) hS.2.2 d_CM_thrown_4 hlocks

set_option maxHeartbeats 8000000 in
set_option maxRecDepth 100000 in
/-- CoinTreeModel.read -/
theorem c_CM_read {l : Launch} {dC : Nat → ClassId} {dI : Nat → Nat → Nat} {cI cJ : ClassId} {A : Nat → Prop} {ad : Nat → Nat} {L S C : Nat} {key : Int64} {th most asked : Int32} {td : Nat} {tr : Nat → Int32} {v o : Mv} (ok : mk_ok L S C) (hz0 : mv_sz v 0 ≤ 40) (hz1 : mv_sz v 1 ≤ 40) (htd : td < 600) (hml9 : ∀ i, i < 16 → ∃ q, q < 2 ^ mL L 1 ∧ mv_ml v i = nI q) (hlf9 : ∀ j, j < 64 → ∀ q1, q1 < 2 ^ mL L 1 → ∀ i1, mv_ml v (j / 4) = nI q1 → i1 < mv_sz (mv_gather L S 1 (nI (j / 4)) q1 v) 1 → mv_at (mv_gather L S 1 (nI (j / 4)) q1 v) 1 (nI (j / 4)) = nI (80 * 1 + i1) → ∃ q0, q0 < 2 ^ L ∧ ma_lf L (ma_tl (mv_sv (mv_gather L S 1 (nI (j / 4)) q1 v) (80 * 1 + i1)) j) j = nI q0) (b co mc : Int32) : Met l y_CM_read (k_CM_read :: bw) { frames := 4, cells := 0, slots := 0, locals := 109 } (mP (dC, dI) kCl [(cI, .int), (cJ, .long)] [.ref (ad 0), .int b, .int co, .int mc] (mw_ cI cJ ad L S C key th most asked td tr (v) (o)) A) (aQl (dC, dI) kCl (fun u => mzw cI cJ ad L S C key u) (ma_ret L S C most asked td tr v o b false 0 co mc) A) 0 0 A := by
  refine Met.ofZ (own := "CoinTreeModel") (by decide) rfl [.ref (ad 0), .int b, .int co, .int mc] (Nat.le_of_ble_eq_true rfl) (fun _ _ h => h.1) ?_
  intro p e s m below meth c ls C0 hv hl
  obtain ⟨hx, hb, hr, hml, hown, hT, hlocks⟩ := C0
  obtain ⟨-, hP, hK, hD⟩ := hv
  have hS : va_S A s.heap s.heap [] := va_S.rf
  have hl : lv_has ls 4 [(0, .ref (ad 0)), (1, .int b), (2, .int co), (3, .int mc)] := hl
  obtain ⟨qL1, qL5, qS1, qS4, qC⟩ := id ok
  
  refine lv_aload_n hx hb d_CM_read_0 rfl (lv_at hl 0 rfl) ?_
  refine lv_iload_n hx hb d_CM_read_1 rfl (lv_at hl 1 rfl) ?_
  refine lv_iconst (v := 0) hx hb d_CM_read_2 (by decide) ?_
  refine lv_lconst (v := 0) hx hb d_CM_read_3 (by decide) ?_
  refine lv_iload_n hx hb d_CM_read_4 rfl (lv_at hl 2 rfl) ?_
  refine lv_iload_n hx hb d_CM_read_5 rfl (lv_at hl 3 rfl) ?_
  refine va_calll (va_runV (As := [.int b, .int 0, .long 0, .int co, .int mc]) (rest := []) ⟨hx, hb, hml, hown, hT⟩ (c_CM_ask ok hz0 hz1 htd hml9 hlf9 b false 0 co mc) (cwV 5 hT (gi_V m_564 m_561 m_563 m_11 m_27) rfl rfl rfl p_CM_ask ⟨Nat.le_of_ble_eq_true rfl, Nat.le_of_ble_eq_true rfl⟩) ⟨mP_blind, va_recv hK hP (ci := 4) (q0 := 0) rfl rfl, mP_pre hK hP hD⟩ rfl rfl hl.1 rfl (lv_room (Nat.le_of_ble_eq_true rfl)) d_CM_read_6 ⟨Nat.le_refl _, Nat.le_refl _⟩) hS (fun q _ h => h) (fun q h => h) (fun r u t H locs ht _ hret hB hz hk hS => ?_)
  exact W.lret hx hb hr (fun t9 ht9 _ => ⟨⟨r, u, rfl, hret, by rw [ht9, ← ht]; exact hB.1, hB.2⟩, hS.F ht9⟩) hS.2.2 d_CM_read_9 hlocks

set_option maxHeartbeats 8000000 in
set_option maxRecDepth 100000 in
/-- CoinTreeModel.write -/
theorem c_CM_write {l : Launch} {dC : Nat → ClassId} {dI : Nat → Nat → Nat} {cI cJ : ClassId} {A : Nat → Prop} {ad : Nat → Nat} {L S C : Nat} {key : Int64} {th most asked : Int32} {td : Nat} {tr : Nat → Int32} {v o : Mv} (ok : mk_ok L S C) (hz0 : mv_sz v 0 ≤ 40) (hz1 : mv_sz v 1 ≤ 40) (htd : td < 600) (hml9 : ∀ i, i < 16 → ∃ q, q < 2 ^ mL L 1 ∧ mv_ml v i = nI q) (hlf9 : ∀ j, j < 64 → ∀ q1, q1 < 2 ^ mL L 1 → ∀ i1, mv_ml v (j / 4) = nI q1 → i1 < mv_sz (mv_gather L S 1 (nI (j / 4)) q1 v) 1 → mv_at (mv_gather L S 1 (nI (j / 4)) q1 v) 1 (nI (j / 4)) = nI (80 * 1 + i1) → ∃ q0, q0 < 2 ^ L ∧ ma_lf L (ma_tl (mv_sv (mv_gather L S 1 (nI (j / 4)) q1 v) (80 * 1 + i1)) j) j = nI q0) (b : Int32) (nv : Int64) (co mc : Int32) : Met l y_CM_write (k_CM_write :: bw) { frames := 4, cells := 0, slots := 0, locals := 109 } (mP (dC, dI) kCl [(cI, .int), (cJ, .long)] [.ref (ad 0), .int b, .long nv, .int co, .int mc] (mw_ cI cJ ad L S C key th most asked td tr (v) (o)) A) (aQl (dC, dI) kCl (fun u => mzw cI cJ ad L S C key u) (ma_ret L S C most asked td tr v o b true nv co mc) A) 0 0 A := by
  refine Met.ofZ (own := "CoinTreeModel") (by decide) rfl [.ref (ad 0), .int b, .long nv, .int co, .int mc] (Nat.le_of_ble_eq_true rfl) (fun _ _ h => h.1) ?_
  intro p e s m below meth c ls C0 hv hl
  obtain ⟨hx, hb, hr, hml, hown, hT, hlocks⟩ := C0
  obtain ⟨-, hP, hK, hD⟩ := hv
  have hS : va_S A s.heap s.heap [] := va_S.rf
  have hl : lv_has ls 6 [(0, .ref (ad 0)), (1, .int b), (2, .long nv), (4, .int co), (5, .int mc)] := hl
  obtain ⟨qL1, qL5, qS1, qS4, qC⟩ := id ok
  
  refine lv_aload_n hx hb d_CM_write_0 rfl (lv_at hl 0 rfl) ?_
  refine lv_iload_n hx hb d_CM_write_1 rfl (lv_at hl 1 rfl) ?_
  refine lv_iconst (v := 1) hx hb d_CM_write_2 (by decide) ?_
  refine lv_lload_n hx hb d_CM_write_3 rfl (lv_at hl 2 rfl) ?_
  refine lv_iload hx hb d_CM_write_4 (lv_at hl 3 rfl) ?_
  refine lv_iload hx hb d_CM_write_6 (lv_at hl 4 rfl) ?_
  refine va_calll (va_runV (As := [.int b, .int 1, .long nv, .int co, .int mc]) (rest := []) ⟨hx, hb, hml, hown, hT⟩ (c_CM_ask ok hz0 hz1 htd hml9 hlf9 b true nv co mc) (cwV 5 hT (gi_V m_564 m_561 m_563 m_11 m_27) rfl rfl rfl p_CM_ask ⟨Nat.le_of_ble_eq_true rfl, Nat.le_of_ble_eq_true rfl⟩) ⟨mP_blind, va_recv hK hP (ci := 4) (q0 := 0) rfl rfl, mP_pre hK hP hD⟩ rfl rfl hl.1 rfl (lv_room (Nat.le_of_ble_eq_true rfl)) d_CM_write_8 ⟨Nat.le_refl _, Nat.le_refl _⟩) hS (fun q _ h => h) (fun q h => h) (fun r u t H locs ht _ hret hB hz hk hS => ?_)
  exact W.lret hx hb hr (fun t9 ht9 _ => ⟨⟨r, u, rfl, hret, by rw [ht9, ← ht]; exact hB.1, hB.2⟩, hS.F ht9⟩) hS.2.2 d_CM_write_11 hlocks

set_option maxHeartbeats 4000000 in
set_option maxRecDepth 100000 in
/-- CoinTreeModel.isTree -/
theorem c_CM_isTree {l : Launch} {dC : Nat → ClassId} {dI : Nat → Nat → Nat} {cI cJ : ClassId} {H : Heap} (x : Int32) : Met l y_CM_isTree (k_CM_isTree :: bw) { frames := 0, cells := 0, slots := 0, locals := 0 } (zP (dC, dI) kCl [(cI, .int), (cJ, .long)] [.int x] H) (zQi H (b2i (mo_tree x))) 0 0 (fun _ => False) := by
  refine Met.ofZ (own := "CoinTreeModel") (by decide) rfl [.int x] (Nat.le_of_ble_eq_true rfl) (fun _ _ h => h.1) ?_
  intro p e s m below meth c ls C0 hv hl
  obtain ⟨hx, hb, hr, hml, hown, hT, hlocks⟩ := C0
  obtain ⟨-, rfl, hK⟩ := hv
  have hS : va_S (fun _ => False) s.heap s.heap [] := va_S.rf
  have hl : lv_has ls 1 [(0, .int x)] := hl
  refine lv_iload_n hx hb d_CM_isTree_0 rfl (lv_at hl 0 rfl) ?_
  refine lv_if_eq (tgt := 9) hx hb d_CM_isTree_1 (by decide) (fun c_1 => ?_) (fun c_1 => ?_)
  · have e1 : x = 0 := c_1
    refine lv_iconst (v := 1) hx hb d_CM_isTree_9 (by decide) ?_
    refine lv_goto (tgt := 14) hx hb d_CM_isTree_10 (by decide) ?_
    exact W.zret (ty := .boolean) hx hb hr nar_1 (fun t9 ht _ => zQi_end (b2i_t (decide_eq_true (by first | exact Or.inl e1 | exact Or.inr e2))) rfl ht) hS.2.2 d_CM_isTree_14 hlocks
  · have e1 : ¬ x = 0 := c_1
    refine lv_iload_n hx hb d_CM_isTree_4 rfl (lv_at hl 0 rfl) ?_
    refine lv_iconst (v := 1) hx hb d_CM_isTree_5 (by decide) ?_
    refine lv_icmp_ne (tgt := 13) hx hb d_CM_isTree_6 (by decide) (fun c_2 => ?_) (fun c_2 => ?_)
    · have e2 : ¬ x = 1 := c_2
      refine lv_iconst (v := 0) hx hb d_CM_isTree_13 (by decide) ?_
      exact W.zret (ty := .boolean) hx hb hr nar_0 (fun t9 ht _ => zQi_end (b2i_f (decide_eq_false (fun h => h.elim e1 e2))) rfl ht) hS.2.2 d_CM_isTree_14 hlocks
    · have e2 : x = 1 := c_2
      refine lv_iconst (v := 1) hx hb d_CM_isTree_9 (by decide) ?_
      refine lv_goto (tgt := 14) hx hb d_CM_isTree_10 (by decide) ?_
      exact W.zret (ty := .boolean) hx hb hr nar_1 (fun t9 ht _ => zQi_end (b2i_t (decide_eq_true (by first | exact Or.inl e1 | exact Or.inr e2))) rfl ht) hS.2.2 d_CM_isTree_14 hlocks

set_option maxHeartbeats 4000000 in
set_option maxRecDepth 100000 in
/-- CoinTreeModel.isNode -/
theorem c_CM_isNode {l : Launch} {dC : Nat → ClassId} {dI : Nat → Nat → Nat} {cI cJ : ClassId} {H : Heap} {ad : Nat → Nat} {L S C : Nat} {key : Int64} {th most asked : Int32} {td : Nat} {tr : Nat → Int32} {v o : Mv} (ok : mk_ok L S C) (hP : va_P (dC, dI) kCl (mw_ cI cJ ad L S C key th most asked td tr (v) (o)) H)(x nd : Int32) : Met l y_CM_isNode (k_CM_isNode :: bw) { frames := 2, cells := 0, slots := 0, locals := 42 } (zP (dC, dI) kCl [(cI, .int), (cJ, .long)] [.ref (ad 0), .int x, .int nd] H) (zQi H (b2i (mo_node L x nd))) 0 0 (fun _ => False) := by
  refine Met.ofZ (own := "CoinTreeModel") (by decide) rfl [.ref (ad 0), .int x, .int nd] (Nat.le_of_ble_eq_true rfl) (fun _ _ h => h.1) ?_
  intro p e s m below meth c ls C0 hv hl
  obtain ⟨hx, hb, hr, hml, hown, hT, hlocks⟩ := C0
  obtain ⟨-, rfl, hK⟩ := hv
  have hS : va_S (fun _ => False) s.heap s.heap [] := va_S.rf
  have hl : lv_has ls 3 [(0, .ref (ad 0)), (1, .int x), (2, .int nd)] := hl
  obtain ⟨qL1, qL5, qS1, qS4, qC⟩ := id ok
  
  refine lv_iload_n hx hb d_CM_isNode_0 rfl (lv_at hl 1 rfl) ?_
  refine zc_i (va_runS (As := [.int x]) (rest := []) ⟨hx, hb, hml, hown, hT⟩ (c_CM_isTree x) (cwS 1 hT (gi_S m_613 m_611 m_612 m_27) rfl rfl rfl p_CM_isTree ⟨Nat.le_of_ble_eq_true rfl, Nat.le_of_ble_eq_true rfl⟩) ⟨zP_blind, zP_pre hK⟩ rfl rfl hl.1 rfl (lv_room (Nat.le_of_ble_eq_true rfl)) d_CM_isNode_1 ⟨Nat.le_refl _, Nat.le_refl _⟩) hS (fun locs hS => ?_)
  refine lv_if_eq (tgt := 27) hx hb d_CM_isNode_4 (by decide) (fun c_1 => ?_) (fun c_1 => ?_)
  · have hz9 := mo_node_0 (L := L) (nd := nd) (b2i_0.mp c_1)
    refine lv_iconst (v := 0) hx hb d_CM_isNode_27 (by decide) ?_
    exact W.zret (ty := .boolean) hx hb hr nar_0 (fun t9 ht _ => zQi_end (b2i_f hz9) rfl ht) hS.2.2 d_CM_isNode_28 hlocks
  · obtain ⟨T, hT2, rfl⟩ := mo_tree_t (b2i_n.mp c_1)
    have qM5 := (mL_le (T := T) qL1 qL5).2
    have q32 := p2_le qM5
    refine lv_iload_n hx hb d_CM_isNode_7 rfl (lv_at hl 2 rfl) ?_
    refine lv_iconst (v := 1) hx hb d_CM_isNode_8 (by decide) ?_
    refine lv_icmp_lt (tgt := 27) hx hb d_CM_isNode_9 (by decide) (fun c_2 => ?_) (fun c_2 => ?_)
    · have hz9 := mo_node_1 (L := L) hT2 (tr_nd_f1 c_2)
      refine lv_iconst (v := 0) hx hb d_CM_isNode_27 (by decide) ?_
      exact W.zret (ty := .boolean) hx hb hr nar_0 (fun t9 ht _ => zQi_end (b2i_f hz9) rfl ht) hS.2.2 d_CM_isNode_28 hlocks
    · have h9 := c_2
      refine lv_iload_n hx hb d_CM_isNode_12 rfl (lv_at hl 2 rfl) ?_
      refine lv_iconst (v := 2) hx hb d_CM_isNode_13 (by decide) ?_
      refine lv_aload_n hx hb d_CM_isNode_14 rfl (lv_at hl 0 rfl) ?_
      refine lv_iload_n hx hb d_CM_isNode_15 rfl (lv_at hl 1 rfl) ?_
      refine zc_i (va_runV (As := [.int (nI T)]) (rest := [.int 2, .int nd]) ⟨hx, hb, hml, hown, hT⟩ (c_CM_leavesOf ok hP T (by omega)) (cwV 1 hT (gi_V m_466 m_463 m_465 m_9 m_27) rfl rfl rfl p_CM_leavesOf ⟨Nat.le_of_ble_eq_true rfl, Nat.le_of_ble_eq_true rfl⟩) ⟨zP_blind, va_recv hK hP (ci := 4) (q0 := 0) rfl rfl, zP_pre hK⟩ rfl rfl hl.1 rfl (lv_room (Nat.le_of_ble_eq_true rfl)) d_CM_isNode_16 ⟨Nat.le_refl _, Nat.le_refl _⟩) hS (fun locs hS => ?_)
      refine lv_imul hx hb d_CM_isNode_19 ?_
      refine W.eq (g2 := F0 m 20 ls [.int (nI (2 * (2 ^ mL L T))), .int nd]) (congrArg (fun q9 : Int32 => F0 m 20 ls (.int q9 :: .int nd :: [])) (pk_mul 2 (2 ^ mL L T))) ?_
      refine lv_icmp_ge (tgt := 27) hx hb d_CM_isNode_20 (by decide) (fun c_3 => ?_) (fun c_3 => ?_)
      · have hz9 := mo_node_1 (L := L) hT2 (mo_nd_f c_3)
        refine lv_iconst (v := 0) hx hb d_CM_isNode_27 (by decide) ?_
        exact W.zret (ty := .boolean) hx hb hr nar_0 (fun t9 ht _ => zQi_end (b2i_f hz9) rfl ht) hS.2.2 d_CM_isNode_28 hlocks
      · have hz9 := mo_node_2 (L := L) hT2 (mo_nd_t h9 c_3)
        refine lv_iconst (v := 1) hx hb d_CM_isNode_23 (by decide) ?_
        refine lv_goto (tgt := 28) hx hb d_CM_isNode_24 (by decide) ?_
        exact W.zret (ty := .boolean) hx hb hr nar_1 (fun t9 ht _ => zQi_end (b2i_t hz9) rfl ht) hS.2.2 d_CM_isNode_28 hlocks

set_option maxHeartbeats 4000000 in
set_option maxRecDepth 100000 in
/-- CoinTreeModel.mix -/
theorem c_CM_mix {l : Launch} {dC : Nat → ClassId} {dI : Nat → Nat → Nat} {cI cJ : ClassId} {H : Heap} (v0 : Int64) : Met l y_CM_mix (k_CM_mix :: bw) { frames := 0, cells := 0, slots := 0, locals := 0 } (zP (dC, dI) kCl [(cI, .int), (cJ, .long)] [.long v0] H) (zQl H (ct_mix v0)) 0 0 (fun _ => False) := by
  refine Met.ofZ (own := "CoinTreeModel") (by decide) rfl [.long v0] (Nat.le_of_ble_eq_true rfl) (fun _ _ h => h.1) ?_
  intro p e s m below meth c ls C0 hv hl
  obtain ⟨hx, hb, hr, hml, hown, hT, hlocks⟩ := C0
  obtain ⟨-, rfl, hK⟩ := hv
  have hS : va_S (fun _ => False) s.heap s.heap [] := va_S.rf
  have hl : lv_has ls 4 [(0, .long v0)] := hl
  refine lv_lload_n hx hb d_CM_mix_0 rfl (lv_at hl 0 rfl) ?_
  refine lv_lstore_n (lv' := [(2, .long v0), (0, .long v0)]) hx hb d_CM_mix_1 rfl hl (by decide) rfl (fun ls hl => ?_)
  refine lv_lload_n hx hb d_CM_mix_2 rfl (lv_at hl 0 rfl) ?_
  refine lv_lload_n hx hb d_CM_mix_3 rfl (lv_at hl 0 rfl) ?_
  refine lv_bipush (v := 30) hx hb d_CM_mix_4 (by decide) ?_
  refine lv_lushr (v := (v0.toUInt64 >>> ((30 : Int32).toInt64.toUInt64 &&& Int64.toUInt64 63)).toInt64) hx hb d_CM_mix_6 rfl ?_
  refine lv_lxor hx hb d_CM_mix_7 ?_
  refine lv_ldc2 (v := (-4658895280553007687)) hx hb hown (hT _ m_629) d_CM_mix_8 ?_
  refine lv_lmul hx hb d_CM_mix_11 ?_
  refine lv_lstore_n (lv' := [(2, .long ((v0 ^^^ ((v0.toUInt64 >>> ((30 : Int32).toInt64.toUInt64 &&& Int64.toUInt64 63)).toInt64)) * (-4658895280553007687))), (0, .long v0)]) hx hb d_CM_mix_12 rfl hl (by decide) rfl (fun ls hl => ?_)
  refine lv_lload_n hx hb d_CM_mix_13 rfl (lv_at hl 0 rfl) ?_
  refine lv_lload_n hx hb d_CM_mix_14 rfl (lv_at hl 0 rfl) ?_
  refine lv_bipush (v := 27) hx hb d_CM_mix_15 (by decide) ?_
  refine lv_lushr (v := (((v0 ^^^ ((v0.toUInt64 >>> ((30 : Int32).toInt64.toUInt64 &&& Int64.toUInt64 63)).toInt64)) * (-4658895280553007687)).toUInt64 >>> ((27 : Int32).toInt64.toUInt64 &&& Int64.toUInt64 63)).toInt64) hx hb d_CM_mix_17 rfl ?_
  refine lv_lxor hx hb d_CM_mix_18 ?_
  refine lv_ldc2 (v := (-7723592293110705685)) hx hb hown (hT _ m_630) d_CM_mix_19 ?_
  refine lv_lmul hx hb d_CM_mix_22 ?_
  refine lv_lstore_n (lv' := [(2, .long ((((v0 ^^^ ((v0.toUInt64 >>> ((30 : Int32).toInt64.toUInt64 &&& Int64.toUInt64 63)).toInt64)) * (-4658895280553007687)) ^^^ ((((v0 ^^^ ((v0.toUInt64 >>> ((30 : Int32).toInt64.toUInt64 &&& Int64.toUInt64 63)).toInt64)) * (-4658895280553007687)).toUInt64 >>> ((27 : Int32).toInt64.toUInt64 &&& Int64.toUInt64 63)).toInt64)) * (-7723592293110705685))), (0, .long v0)]) hx hb d_CM_mix_23 rfl hl (by decide) rfl (fun ls hl => ?_)
  refine lv_lload_n hx hb d_CM_mix_24 rfl (lv_at hl 0 rfl) ?_
  refine lv_lload_n hx hb d_CM_mix_25 rfl (lv_at hl 0 rfl) ?_
  refine lv_bipush (v := 31) hx hb d_CM_mix_26 (by decide) ?_
  refine lv_lushr (v := (((((v0 ^^^ ((v0.toUInt64 >>> ((30 : Int32).toInt64.toUInt64 &&& Int64.toUInt64 63)).toInt64)) * (-4658895280553007687)) ^^^ ((((v0 ^^^ ((v0.toUInt64 >>> ((30 : Int32).toInt64.toUInt64 &&& Int64.toUInt64 63)).toInt64)) * (-4658895280553007687)).toUInt64 >>> ((27 : Int32).toInt64.toUInt64 &&& Int64.toUInt64 63)).toInt64)) * (-7723592293110705685)).toUInt64 >>> ((31 : Int32).toInt64.toUInt64 &&& Int64.toUInt64 63)).toInt64) hx hb d_CM_mix_28 rfl ?_
  refine lv_lxor hx hb d_CM_mix_29 ?_
  exact W.lret hx hb hr (fun t9 ht _ => zQl_end (rfl) rfl ht) hS.2.2 d_CM_mix_30 hlocks
