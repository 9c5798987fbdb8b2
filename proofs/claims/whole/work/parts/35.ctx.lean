set_option maxHeartbeats 4000000 in
set_option maxRecDepth 100000 in
/-- CoinTree.treeNumbered -/
theorem c_CT_treeNumbered {l : Launch} (hl9 : l.stackTraces = false) {dC : Nat → ClassId} {dI : Nat → Nat → Nat} {cI cJ : ClassId} {H : Heap} {x ml : Nat} {a0 a1 : Nat → Nat} {L M S C : Nat} {key : Int64} {z : Cs} (ok0 : tr_ok L S C 64) (ok1 : tr_ok M S C 16) (hP : va_P (dC, dI) kCl (cw_ cI cJ x ml a0 a1 L M S C key (cs_mk (cs_ml z) (cs_asked z) (cs_most z) (ts_mk (ts_nodes (cs_t0 z)) (ts_cnts (cs_t0 z)) (ts_stash (cs_t0 z)) (ts_trail (cs_t0 z)) (ts_plan (cs_t0 z)) (ts_tgt (cs_t0 z)) (ts_way (cs_t0 z)) (ts_sought (cs_t0 z))) (ts_mk (ts_nodes (cs_t1 z)) (ts_cnts (cs_t1 z)) (ts_stash (cs_t1 z)) (ts_trail (cs_t1 z)) (ts_plan (cs_t1 z)) (ts_tgt (cs_t1 z)) (ts_way (cs_t1 z)) (ts_sought (cs_t1 z))))) H) (tr : Int32) : vx_Met l y_CT_treeNumbered (k_CT_treeNumbered :: bw) { frames := 6, cells := 1, slots := 6, locals := 100 } (xP (dC, dI) kCl [(cI, .int), (cJ, .long)] [.ref x, .int tr] H) (xQr H (tr < 0 ∨ 1 < tr) (if tr = 0 then a0 0 else a1 0)) (xX (tr < 0 ∨ 1 < tr) xIO) 1 6 (fun _ => False) := by
  refine Met.ofX (own := "CoinTree") (by decide) rfl [.ref x, .int tr] (Nat.le_of_ble_eq_true rfl) (fun _ _ h => h.1) ?_
  intro p e s m below meth c ls C0 hex hv hl
  obtain ⟨hx, hb, hr, hml, hown, hT, hlocks⟩ := C0
  obtain ⟨-, rfl, hK, xe⟩ := hv
  have hS : va_S (fun _ => False) s.heap s.heap [] := va_S.rf
  have hl : lv_has ls 2 [(0, .ref x), (1, .int tr)] := hl
  refine lv_iload_n hx hb d_CT_treeNumbered_0 rfl (lv_at hl 1 rfl) ?_
  refine lv_if_lt (tgt := 9) hx hb d_CT_treeNumbered_1 (by decide) (fun c_1 => ?_) (fun c_1 => ?_)
  · exact xt_io hx hb hl9 hown hT xe hS (hl.1.trans hml.symm) (is := 171) (tx := "no such tree") (by decide) d_CT_treeNumbered_9 d_CT_treeNumbered_12 d_CT_treeNumbered_13 d_CT_treeNumbered_15 d_CT_treeNumbered_18 hex (Nat.le_of_ble_eq_true rfl) (Nat.le_of_ble_eq_true rfl) (by decide) (by decide) hlocks hS.2.2 (by decide) (by decide) (fun t9 _ h1 h2 => xX_end (by first | exact Or.inl (by assumption) | exact Or.inr (Int32.not_le.mp (by assumption))) h1 h2)
  · refine lv_iload_n hx hb d_CT_treeNumbered_4 rfl (lv_at hl 1 rfl) ?_
    refine lv_iconst (v := 1) hx hb d_CT_treeNumbered_5 (by decide) ?_
    refine lv_icmp_le (tgt := 19) hx hb d_CT_treeNumbered_6 (by decide) (fun c_2 => ?_) (fun c_2 => ?_)
    · refine lv_iload_n hx hb d_CT_treeNumbered_19 rfl (lv_at hl 1 rfl) ?_
      refine lv_if_ne (tgt := 30) hx hb d_CT_treeNumbered_20 (by decide) (fun c_3 => ?_) (fun c_3 => ?_)
      · refine lv_aload_n hx hb d_CT_treeNumbered_30 rfl (lv_at hl 0 rfl) ?_
        refine va_get (D := (dC, dI)) (ci := 3) (v := .ref (a1 0)) (C := R_CT) (T := F_CT) (N := 8) hx hb hT i_CT hown hK hP 0 rfl rfl 4 (by decide) (hT _ m_146) (fun _ h9 => h9) rfl d_CT_treeNumbered_31 ?_
        refine vx_ret ?_
        refine W.widen (k := 1) (n := 6) (by decide) (by decide) ?_
        exact W.aret hx hb hr (Or.inl ⟨_, rfl⟩) (Or.inr ⟨_, rfl⟩) (fun t9 ht _ => xQr_end (fun h => h.elim c_1 (fun h9 => Int32.not_lt.mpr c_2 h9)) (by first | exact (if_pos (by assumption)).symm | exact (if_neg (by assumption)).symm) rfl ht) hS.2.2 d_CT_treeNumbered_34 hlocks
      · refine lv_aload_n hx hb d_CT_treeNumbered_23 rfl (lv_at hl 0 rfl) ?_
        refine va_get (D := (dC, dI)) (ci := 3) (v := .ref (a0 0)) (C := R_CT) (T := F_CT) (N := 8) hx hb hT i_CT hown hK hP 0 rfl rfl 3 (by decide) (hT _ m_145) (fun _ h9 => h9) rfl d_CT_treeNumbered_24 ?_
        refine lv_goto (tgt := 34) hx hb d_CT_treeNumbered_27 (by decide) ?_
        refine vx_ret ?_
        refine W.widen (k := 1) (n := 6) (by decide) (by decide) ?_
        exact W.aret hx hb hr (Or.inl ⟨_, rfl⟩) (Or.inr ⟨_, rfl⟩) (fun t9 ht _ => xQr_end (fun h => h.elim c_1 (fun h9 => Int32.not_lt.mpr c_2 h9)) (by first | exact (if_pos (by assumption)).symm | exact (if_neg (by assumption)).symm) rfl ht) hS.2.2 d_CT_treeNumbered_34 hlocks
    · exact xt_io hx hb hl9 hown hT xe hS (hl.1.trans hml.symm) (is := 171) (tx := "no such tree") (by decide) d_CT_treeNumbered_9 d_CT_treeNumbered_12 d_CT_treeNumbered_13 d_CT_treeNumbered_15 d_CT_treeNumbered_18 hex (Nat.le_of_ble_eq_true rfl) (Nat.le_of_ble_eq_true rfl) (by decide) (by decide) hlocks hS.2.2 (by decide) (by decide) (fun t9 _ h1 h2 => xX_end (by first | exact Or.inl (by assumption) | exact Or.inr (Int32.not_le.mp (by assumption))) h1 h2)
