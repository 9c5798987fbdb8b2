set_option maxHeartbeats 8000000 in
set_option maxRecDepth 100000 in
/-- CoinTreeModel.trace -/
theorem c_CM_trace {l : Launch} {dC : Nat → ClassId} {dI : Nat → Nat → Nat} {cI cJ : ClassId} {A : Nat → Prop} {ad : Nat → Nat} {L S C : Nat} {key : Int64} {th most asked : Int32} {td : Nat} {tr : Nat → Int32} {v o : Mv} (ok : mk_ok L S C) (htd : td ≤ 600) (x k : Int32) : Met l y_CM_trace (k_CM_trace :: bw) { frames := 1, cells := 0, slots := 0, locals := 20 } (mP (dC, dI) kCl [(cI, .int), (cJ, .long)] [.ref (ad 0), .int x, .int k] (mw_ cI cJ ad L S C key th most asked td tr (v) (o)) A) (aQi (dC, dI) kCl (fun u => mzw cI cJ ad L S C key u) (fun r u => ∃ th', mo_trace td tr x k r th' ∧ u = (th', most, asked, td, tr, v, o)) A) 0 0 A := by
  refine Met.ofZ (own := "CoinTreeModel") (by decide) rfl [.ref (ad 0), .int x, .int k] (Nat.le_of_ble_eq_true rfl) (fun _ _ h => h.1) ?_
  intro p e s m below meth c ls C0 hv hl
  obtain ⟨hx, hb, hr, hml, hown, hT, hlocks⟩ := C0
  obtain ⟨-, hP, hK, hD⟩ := hv
  have hS : va_S A s.heap s.heap [] := va_S.rf
  have hl : lv_has ls 3 [(0, .ref (ad 0)), (1, .int x), (2, .int k)] := hl
  obtain ⟨qL1, qL5, qS1, qS4, qC⟩ := id ok
  
  refine lv_aload_n hx hb d_CM_trace_0 rfl (lv_at hl 0 rfl) ?_
  refine lv_iload_n hx hb d_CM_trace_1 rfl (lv_at hl 1 rfl) ?_
  refine zc_i (va_runS (As := [.int x]) (rest := [.ref (ad 0)]) ⟨hx, hb, hml, hown, hT⟩ (c_CM_isTree x) (cwS 1 hT (gi_S m_613 m_611 m_612 m_27) rfl rfl rfl p_CM_isTree ⟨Nat.le_of_ble_eq_true rfl, Nat.le_of_ble_eq_true rfl⟩) ⟨zP_blind, zP_pre hK⟩ rfl rfl hl.1 rfl (lv_room (Nat.le_of_ble_eq_true rfl)) d_CM_trace_2 ⟨Nat.le_refl _, Nat.le_refl _⟩) hS (fun locs hS => ?_)
  refine lv_if_eq (tgt := 24) hx hb d_CM_trace_5 (by decide) (fun c_1 => ?_) (fun c_1 => ?_)
  · have hbad := (show (x < 0 ∨ 1 < x) ∨ k < 0 ∨ nI td ≤ k from Or.inl (mo_tree_f (b2i_0.mp c_1)))
    refine lv_iconst (v := 1) hx hb d_CM_trace_24 (by decide) ?_
    refine va_put (D := (dC, dI)) (ci := 4) (v := .int 1) (ty := .int) (C := R_CM) (T := F_CM) (N := 27) hx hb hT i_CM t_CM t_CM_ok n_CM hown hK hP hD hS 0 rfl rfl 0 (by decide) (hT _ m_471) (fun _ h9 => h9) rfl (by decide +kernel) rfl rfl (Nat.le_of_ble_eq_true rfl) d_CM_trace_25 (fun H locs hP hD hS => ?_)
    have hP : va_P (dC, dI) kCl (mw_ cI cJ ad L S C key 1 most asked td tr (v) (o)) H := hP
    have hD : va_D A (mw_ cI cJ ad L S C key 1 most asked td tr (v) (o)) := hD
    refine lv_aload_n hx hb d_CM_trace_28 rfl (lv_at hl 0 rfl) ?_
    refine va_get (D := (dC, dI)) (ci := 4) (v := .int 1) (C := R_CM) (T := F_CM) (N := 27) hx hb hT i_CM hown hK hP 0 rfl rfl 0 (by decide) (hT _ m_471) (fun _ h9 => h9) rfl d_CM_trace_29 ?_
    refine lv_if_le (tgt := 39) hx hb d_CM_trace_32 (by decide) (fun c_2 => ?_) (fun c_2 => ?_)
    · exact absurd c_2 (by decide)
    · refine lv_iconst (v := 0) hx hb d_CM_trace_35 (by decide) ?_
      refine lv_goto (tgt := 49) hx hb d_CM_trace_36 (by decide) ?_
      exact W.iret hx hb hr (fun t9 ht _ => aQi_end (1, most, asked, td, tr, v, o) ⟨1, Or.inl ⟨rfl, rfl, hbad⟩, rfl⟩ rfl hP hD hS ht) hS.2.2 d_CM_trace_49 hlocks
  · obtain ⟨T, hT2, rfl⟩ := mo_tree_t (b2i_n.mp c_1)
    have qM5 := (mL_le (T := T) qL1 qL5).2
    have q32 := p2_le qM5
    refine lv_iload_n hx hb d_CM_trace_8 rfl (lv_at hl 2 rfl) ?_
    refine lv_if_lt (tgt := 24) hx hb d_CM_trace_9 (by decide) (fun c_3 => ?_) (fun c_3 => ?_)
    · have hbad := (show (nI T < 0 ∨ 1 < nI T) ∨ k < 0 ∨ nI td ≤ k from Or.inr (Or.inl c_3))
      refine lv_iconst (v := 1) hx hb d_CM_trace_24 (by decide) ?_
      refine va_put (D := (dC, dI)) (ci := 4) (v := .int 1) (ty := .int) (C := R_CM) (T := F_CM) (N := 27) hx hb hT i_CM t_CM t_CM_ok n_CM hown hK hP hD hS 0 rfl rfl 0 (by decide) (hT _ m_471) (fun _ h9 => h9) rfl (by decide +kernel) rfl rfl (Nat.le_of_ble_eq_true rfl) d_CM_trace_25 (fun H locs hP hD hS => ?_)
      have hP : va_P (dC, dI) kCl (mw_ cI cJ ad L S C key 1 most asked td tr (v) (o)) H := hP
      have hD : va_D A (mw_ cI cJ ad L S C key 1 most asked td tr (v) (o)) := hD
      refine lv_aload_n hx hb d_CM_trace_28 rfl (lv_at hl 0 rfl) ?_
      refine va_get (D := (dC, dI)) (ci := 4) (v := .int 1) (C := R_CM) (T := F_CM) (N := 27) hx hb hT i_CM hown hK hP 0 rfl rfl 0 (by decide) (hT _ m_471) (fun _ h9 => h9) rfl d_CM_trace_29 ?_
      refine lv_if_le (tgt := 39) hx hb d_CM_trace_32 (by decide) (fun c_4 => ?_) (fun c_4 => ?_)
      · exact absurd c_4 (by decide)
      · refine lv_iconst (v := 0) hx hb d_CM_trace_35 (by decide) ?_
        refine lv_goto (tgt := 49) hx hb d_CM_trace_36 (by decide) ?_
        exact W.iret hx hb hr (fun t9 ht _ => aQi_end (1, most, asked, td, tr, v, o) ⟨1, Or.inl ⟨rfl, rfl, hbad⟩, rfl⟩ rfl hP hD hS ht) hS.2.2 d_CM_trace_49 hlocks
    · obtain ⟨i, hi31, rfl⟩ := nI_of c_3
      refine lv_iload_n hx hb d_CM_trace_12 rfl (lv_at hl 2 rfl) ?_
      refine lv_aload_n hx hb d_CM_trace_13 rfl (lv_at hl 0 rfl) ?_
      refine va_get (D := (dC, dI)) (ci := 4) (v := .int (nI td)) (C := R_CM) (T := F_CM) (N := 27) hx hb hT i_CM hown hK hP 0 rfl rfl 17 (by decide) (hT _ m_488) (fun _ h9 => h9) rfl d_CM_trace_14 ?_
      refine lv_icmp_ge (tgt := 24) hx hb d_CM_trace_17 (by decide) (fun c_5 => ?_) (fun c_5 => ?_)
      · have c_5 := (nI_leI (a := td) (b := i) (by omega) (by omega)).mp c_5
        have hbad := (show (nI T < 0 ∨ 1 < nI T) ∨ nI i < 0 ∨ nI td ≤ nI i from Or.inr (Or.inr ((nI_leI (by omega) (by omega)).mpr c_5)))
        refine lv_iconst (v := 1) hx hb d_CM_trace_24 (by decide) ?_
        refine va_put (D := (dC, dI)) (ci := 4) (v := .int 1) (ty := .int) (C := R_CM) (T := F_CM) (N := 27) hx hb hT i_CM t_CM t_CM_ok n_CM hown hK hP hD hS 0 rfl rfl 0 (by decide) (hT _ m_471) (fun _ h9 => h9) rfl (by decide +kernel) rfl rfl (Nat.le_of_ble_eq_true rfl) d_CM_trace_25 (fun H locs hP hD hS => ?_)
        have hP : va_P (dC, dI) kCl (mw_ cI cJ ad L S C key 1 most asked td tr (v) (o)) H := hP
        have hD : va_D A (mw_ cI cJ ad L S C key 1 most asked td tr (v) (o)) := hD
        refine lv_aload_n hx hb d_CM_trace_28 rfl (lv_at hl 0 rfl) ?_
        refine va_get (D := (dC, dI)) (ci := 4) (v := .int 1) (C := R_CM) (T := F_CM) (N := 27) hx hb hT i_CM hown hK hP 0 rfl rfl 0 (by decide) (hT _ m_471) (fun _ h9 => h9) rfl d_CM_trace_29 ?_
        refine lv_if_le (tgt := 39) hx hb d_CM_trace_32 (by decide) (fun c_6 => ?_) (fun c_6 => ?_)
        · exact absurd c_6 (by decide)
        · refine lv_iconst (v := 0) hx hb d_CM_trace_35 (by decide) ?_
          refine lv_goto (tgt := 49) hx hb d_CM_trace_36 (by decide) ?_
          exact W.iret hx hb hr (fun t9 ht _ => aQi_end (1, most, asked, td, tr, v, o) ⟨1, Or.inl ⟨rfl, rfl, hbad⟩, rfl⟩ rfl hP hD hS ht) hS.2.2 d_CM_trace_49 hlocks
      · have c_5 := (not_congr (nI_leI (a := td) (b := i) (by omega) (by omega))).mp c_5
        refine lv_iconst (v := 0) hx hb d_CM_trace_20 (by decide) ?_
        refine lv_goto (tgt := 25) hx hb d_CM_trace_21 (by decide) ?_
        refine va_put (D := (dC, dI)) (ci := 4) (v := .int 0) (ty := .int) (C := R_CM) (T := F_CM) (N := 27) hx hb hT i_CM t_CM t_CM_ok n_CM hown hK hP hD hS 0 rfl rfl 0 (by decide) (hT _ m_471) (fun _ h9 => h9) rfl (by decide +kernel) rfl rfl (Nat.le_of_ble_eq_true rfl) d_CM_trace_25 (fun H locs hP hD hS => ?_)
        have hP : va_P (dC, dI) kCl (mw_ cI cJ ad L S C key 0 most asked td tr (v) (o)) H := hP
        have hD : va_D A (mw_ cI cJ ad L S C key 0 most asked td tr (v) (o)) := hD
        refine lv_aload_n hx hb d_CM_trace_28 rfl (lv_at hl 0 rfl) ?_
        refine va_get (D := (dC, dI)) (ci := 4) (v := .int 0) (C := R_CM) (T := F_CM) (N := 27) hx hb hT i_CM hown hK hP 0 rfl rfl 0 (by decide) (hT _ m_471) (fun _ h9 => h9) rfl d_CM_trace_29 ?_
        refine lv_if_le (tgt := 39) hx hb d_CM_trace_32 (by decide) (fun c_7 => ?_) (fun c_7 => ?_)
        · refine lv_aload_n hx hb d_CM_trace_39 rfl (lv_at hl 0 rfl) ?_
          refine va_get (D := (dC, dI)) (ci := 4) (v := .ref (ad 10)) (C := R_CM) (T := F_CM) (N := 27) hx hb hT i_CM hown hK hP 0 rfl rfl 16 (by decide) (hT _ m_487) (fun _ h9 => h9) rfl d_CM_trace_40 ?_
          refine lv_iconst (v := 2) hx hb d_CM_trace_43 (by decide) ?_
          refine lv_iload_n hx hb d_CM_trace_44 rfl (lv_at hl 2 rfl) ?_
          refine lv_imul hx hb d_CM_trace_45 ?_
          refine W.eq (g2 := F0 m 46 ls [.int (nI (2 * i)), .ref (ad 10)]) (congrArg (fun q9 : Int32 => F0 m 46 ls (.int q9 :: .ref (ad 10) :: [])) (pk_mul 2 i)) ?_
          refine lv_iload_n hx hb d_CM_trace_46 rfl (lv_at hl 1 rfl) ?_
          refine lv_iadd hx hb d_CM_trace_47 ?_
          refine W.eq (g2 := F0 m 48 ls [.int (nI ((2 * i) + T)), .ref (ad 10)]) (congrArg (fun q9 : Int32 => F0 m 48 ls (.int q9 :: .ref (ad 10) :: [])) (nI_add (2 * i) T)) ?_
          refine va_iald hx hb hK hP 10 0 rfl rfl (vp_in_nI (n := ((2 * i) + T)) (by omega) (by omega)) d_CM_trace_48 ?_
          refine W.eq (g2 := F0 m 49 ls [.int (tr ((2 * i) + T))]) (by rw [nI_clamp (n := ((2 * i) + T)) (by omega)] <;> rfl) ?_
          exact W.iret hx hb hr (fun t9 ht _ => aQi_end (0, most, asked, td, tr, v, o) ⟨0, Or.inr ⟨rfl, T, i, hT2, rfl, by omega, rfl, rfl⟩, rfl⟩ rfl hP hD hS ht) hS.2.2 d_CM_trace_49 hlocks
        · exact absurd (by decide) c_7

set_option maxHeartbeats 8000000 in
set_option maxRecDepth 100000 in
/-- CoinTreeModel.written -/
theorem c_CM_written {l : Launch} {dC : Nat → ClassId} {dI : Nat → Nat → Nat} {cI cJ : ClassId} {A : Nat → Prop} {ad : Nat → Nat} {L S C : Nat} {key : Int64} {th most asked : Int32} {td : Nat} {tr : Nat → Int32} {v o : Mv} (ok : mk_ok L S C) (x nd : Int32) : Met l y_CM_written (k_CM_written :: bw) { frames := 3, cells := 0, slots := 0, locals := 64 } (mP (dC, dI) kCl [(cI, .int), (cJ, .long)] [.ref (ad 0), .int x, .int nd] (mw_ cI cJ ad L S C key th most asked td tr (v) (o)) A) (aQi (dC, dI) kCl (fun u => mzw cI cJ ad L S C key u) (fun r u => ∃ th', mo_written L v x nd r th' ∧ u = (th', most, asked, td, tr, v, o)) A) 0 0 A := by
  refine Met.ofZ (own := "CoinTreeModel") (by decide) rfl [.ref (ad 0), .int x, .int nd] (Nat.le_of_ble_eq_true rfl) (fun _ _ h => h.1) ?_
  intro p e s m below meth c ls C0 hv hl
  obtain ⟨hx, hb, hr, hml, hown, hT, hlocks⟩ := C0
  obtain ⟨-, hP, hK, hD⟩ := hv
  have hS : va_S A s.heap s.heap [] := va_S.rf
  have hl : lv_has ls 3 [(0, .ref (ad 0)), (1, .int x), (2, .int nd)] := hl
  obtain ⟨qL1, qL5, qS1, qS4, qC⟩ := id ok
  
  refine lv_aload_n hx hb d_CM_written_0 rfl (lv_at hl 0 rfl) ?_
  refine lv_aload_n hx hb d_CM_written_1 rfl (lv_at hl 0 rfl) ?_
  refine lv_iload_n hx hb d_CM_written_2 rfl (lv_at hl 1 rfl) ?_
  refine lv_iload_n hx hb d_CM_written_3 rfl (lv_at hl 2 rfl) ?_
  refine zc_i (va_runV (As := [.int x, .int nd]) (rest := [.ref (ad 0)]) ⟨hx, hb, hml, hown, hT⟩ (c_CM_isNode ok hP x nd) (cwV 2 hT (gi_V m_621 m_618 m_620 m_20 m_27) rfl rfl rfl p_CM_isNode ⟨Nat.le_of_ble_eq_true rfl, Nat.le_of_ble_eq_true rfl⟩) ⟨zP_blind, va_recv hK hP (ci := 4) (q0 := 0) rfl rfl, zP_pre hK⟩ rfl rfl hl.1 rfl (lv_room (Nat.le_of_ble_eq_true rfl)) d_CM_written_4 ⟨Nat.le_refl _, Nat.le_refl _⟩) hS (fun locs hS => ?_)
  refine lv_if_eq (tgt := 14) hx hb d_CM_written_7 (by decide) (fun c_1 => ?_) (fun c_1 => ?_)
  · have hbad := (show mo_nd L x nd from mo_node_f (b2i_0.mp c_1))
    refine lv_iconst (v := 1) hx hb d_CM_written_14 (by decide) ?_
    refine va_put (D := (dC, dI)) (ci := 4) (v := .int 1) (ty := .int) (C := R_CM) (T := F_CM) (N := 27) hx hb hT i_CM t_CM t_CM_ok n_CM hown hK hP hD hS 0 rfl rfl 0 (by decide) (hT _ m_471) (fun _ h9 => h9) rfl (by decide +kernel) rfl rfl (Nat.le_of_ble_eq_true rfl) d_CM_written_15 (fun H locs hP hD hS => ?_)
    have hP : va_P (dC, dI) kCl (mw_ cI cJ ad L S C key 1 most asked td tr (v) (o)) H := hP
    have hD : va_D A (mw_ cI cJ ad L S C key 1 most asked td tr (v) (o)) := hD
    refine lv_aload_n hx hb d_CM_written_18 rfl (lv_at hl 0 rfl) ?_
    refine va_get (D := (dC, dI)) (ci := 4) (v := .int 1) (C := R_CM) (T := F_CM) (N := 27) hx hb hT i_CM hown hK hP 0 rfl rfl 0 (by decide) (hT _ m_471) (fun _ h9 => h9) rfl d_CM_written_19 ?_
    refine lv_if_le (tgt := 29) hx hb d_CM_written_22 (by decide) (fun c_2 => ?_) (fun c_2 => ?_)
    · exact absurd c_2 (by decide)
    · refine lv_iconst (v := 0) hx hb d_CM_written_25 (by decide) ?_
      refine lv_goto (tgt := 40) hx hb d_CM_written_26 (by decide) ?_
      exact W.iret hx hb hr (fun t9 ht _ => aQi_end (1, most, asked, td, tr, v, o) ⟨1, Or.inl ⟨rfl, rfl, hbad⟩, rfl⟩ rfl hP hD hS ht) hS.2.2 d_CM_written_40 hlocks
  · obtain ⟨T, n, hT2, rfl, hn1, hn2, rfl⟩ := mo_node_t ok (b2i_n.mp c_1)
    have qM5 := (mL_le (T := T) qL1 qL5).2
    have q32 := p2_le qM5
    refine lv_iconst (v := 0) hx hb d_CM_written_10 (by decide) ?_
    refine lv_goto (tgt := 15) hx hb d_CM_written_11 (by decide) ?_
    refine va_put (D := (dC, dI)) (ci := 4) (v := .int 0) (ty := .int) (C := R_CM) (T := F_CM) (N := 27) hx hb hT i_CM t_CM t_CM_ok n_CM hown hK hP hD hS 0 rfl rfl 0 (by decide) (hT _ m_471) (fun _ h9 => h9) rfl (by decide +kernel) rfl rfl (Nat.le_of_ble_eq_true rfl) d_CM_written_15 (fun H locs hP hD hS => ?_)
    have hP : va_P (dC, dI) kCl (mw_ cI cJ ad L S C key 0 most asked td tr (v) (o)) H := hP
    have hD : va_D A (mw_ cI cJ ad L S C key 0 most asked td tr (v) (o)) := hD
    refine lv_aload_n hx hb d_CM_written_18 rfl (lv_at hl 0 rfl) ?_
    refine va_get (D := (dC, dI)) (ci := 4) (v := .int 0) (C := R_CM) (T := F_CM) (N := 27) hx hb hT i_CM hown hK hP 0 rfl rfl 0 (by decide) (hT _ m_471) (fun _ h9 => h9) rfl d_CM_written_19 ?_
    refine lv_if_le (tgt := 29) hx hb d_CM_written_22 (by decide) (fun c_3 => ?_) (fun c_3 => ?_)
    · refine lv_aload_n hx hb d_CM_written_29 rfl (lv_at hl 0 rfl) ?_
      refine va_get (D := (dC, dI)) (ci := 4) (v := .ref (ad 4)) (C := R_CM) (T := F_CM) (N := 27) hx hb hT i_CM hown hK hP 0 rfl rfl 8 (by decide) (hT _ m_479) (fun _ h9 => h9) rfl d_CM_written_30 ?_
      refine lv_bipush (v := 64) hx hb d_CM_written_33 (by decide) ?_
      refine lv_iload_n hx hb d_CM_written_35 rfl (lv_at hl 1 rfl) ?_
      refine lv_imul hx hb d_CM_written_36 ?_
      refine W.eq (g2 := F0 m 37 ls [.int (nI (64 * T)), .ref (ad 4)]) (congrArg (fun q9 : Int32 => F0 m 37 ls (.int q9 :: .ref (ad 4) :: [])) (pk_mul 64 T)) ?_
      refine lv_iload_n hx hb d_CM_written_37 rfl (lv_at hl 2 rfl) ?_
      refine lv_iadd hx hb d_CM_written_38 ?_
      refine W.eq (g2 := F0 m 39 ls [.int (nI ((64 * T) + n)), .ref (ad 4)]) (congrArg (fun q9 : Int32 => F0 m 39 ls (.int q9 :: .ref (ad 4) :: [])) (nI_add (64 * T) n)) ?_
      refine va_iald hx hb hK hP 4 0 rfl rfl (vp_in_nI (n := ((64 * T) + n)) (by omega) (by omega)) d_CM_written_39 ?_
      refine W.eq (g2 := F0 m 40 ls [.int ((mv_ct v) ((64 * T) + n))]) (by rw [nI_clamp (n := ((64 * T) + n)) (by omega)] <;> rfl) ?_
      exact W.iret hx hb hr (fun t9 ht _ => aQi_end (0, most, asked, td, tr, v, o) ⟨0, Or.inr ⟨rfl, T, n, hT2, rfl, hn1, hn2, rfl, rfl⟩, rfl⟩ rfl hP hD hS ht) hS.2.2 d_CM_written_40 hlocks
    · exact absurd (by decide) c_3

set_option maxHeartbeats 8000000 in
set_option maxRecDepth 100000 in
/-- CoinTreeModel.stash -/
theorem c_CM_stash {l : Launch} {dC : Nat → ClassId} {dI : Nat → Nat → Nat} {cI cJ : ClassId} {A : Nat → Prop} {ad : Nat → Nat} {L S C : Nat} {key : Int64} {th most asked : Int32} {td : Nat} {tr : Nat → Int32} {v o : Mv} (ok : mk_ok L S C) (hz0 : mv_sz v 0 ≤ 80) (hz1 : mv_sz v 1 ≤ 80) (x k : Int32) : Met l y_CM_stash (k_CM_stash :: bw) { frames := 1, cells := 0, slots := 0, locals := 20 } (mP (dC, dI) kCl [(cI, .int), (cJ, .long)] [.ref (ad 0), .int x, .int k] (mw_ cI cJ ad L S C key th most asked td tr (v) (o)) A) (aQi (dC, dI) kCl (fun u => mzw cI cJ ad L S C key u) (fun r u => ∃ th', mo_stash v x k r th' ∧ u = (th', most, asked, td, tr, v, o)) A) 0 0 A := by
  refine Met.ofZ (own := "CoinTreeModel") (by decide) rfl [.ref (ad 0), .int x, .int k] (Nat.le_of_ble_eq_true rfl) (fun _ _ h => h.1) ?_
  intro p e s m below meth c ls C0 hv hl
  obtain ⟨hx, hb, hr, hml, hown, hT, hlocks⟩ := C0
  obtain ⟨-, hP, hK, hD⟩ := hv
  have hS : va_S A s.heap s.heap [] := va_S.rf
  have hl : lv_has ls 3 [(0, .ref (ad 0)), (1, .int x), (2, .int k)] := hl
  obtain ⟨qL1, qL5, qS1, qS4, qC⟩ := id ok
  
  refine lv_aload_n hx hb d_CM_stash_0 rfl (lv_at hl 0 rfl) ?_
  refine lv_iload_n hx hb d_CM_stash_1 rfl (lv_at hl 1 rfl) ?_
  refine zc_i (va_runS (As := [.int x]) (rest := [.ref (ad 0)]) ⟨hx, hb, hml, hown, hT⟩ (c_CM_isTree x) (cwS 1 hT (gi_S m_613 m_611 m_612 m_27) rfl rfl rfl p_CM_isTree ⟨Nat.le_of_ble_eq_true rfl, Nat.le_of_ble_eq_true rfl⟩) ⟨zP_blind, zP_pre hK⟩ rfl rfl hl.1 rfl (lv_room (Nat.le_of_ble_eq_true rfl)) d_CM_stash_2 ⟨Nat.le_refl _, Nat.le_refl _⟩) hS (fun locs hS => ?_)
  refine lv_if_eq (tgt := 16) hx hb d_CM_stash_5 (by decide) (fun c_1 => ?_) (fun c_1 => ?_)
  · have hbad := (show (x < 0 ∨ 1 < x) ∨ k < 0 from Or.inl (mo_tree_f (b2i_0.mp c_1)))
    refine lv_iconst (v := 1) hx hb d_CM_stash_16 (by decide) ?_
    refine va_put (D := (dC, dI)) (ci := 4) (v := .int 1) (ty := .int) (C := R_CM) (T := F_CM) (N := 27) hx hb hT i_CM t_CM t_CM_ok n_CM hown hK hP hD hS 0 rfl rfl 0 (by decide) (hT _ m_471) (fun _ h9 => h9) rfl (by decide +kernel) rfl rfl (Nat.le_of_ble_eq_true rfl) d_CM_stash_17 (fun H locs hP hD hS => ?_)
    have hP : va_P (dC, dI) kCl (mw_ cI cJ ad L S C key 1 most asked td tr (v) (o)) H := hP
    have hD : va_D A (mw_ cI cJ ad L S C key 1 most asked td tr (v) (o)) := hD
    refine lv_aload_n hx hb d_CM_stash_20 rfl (lv_at hl 0 rfl) ?_
    refine va_get (D := (dC, dI)) (ci := 4) (v := .int 1) (C := R_CM) (T := F_CM) (N := 27) hx hb hT i_CM hown hK hP 0 rfl rfl 0 (by decide) (hT _ m_471) (fun _ h9 => h9) rfl d_CM_stash_21 ?_
    refine lv_if_le (tgt := 31) hx hb d_CM_stash_24 (by decide) (fun c_2 => ?_) (fun c_2 => ?_)
    · exact absurd c_2 (by decide)
    · refine lv_iconst (v := 0) hx hb d_CM_stash_27 (by decide) ?_
      refine lv_goto (tgt := 56) hx hb d_CM_stash_28 (by decide) ?_
      exact W.iret hx hb hr (fun t9 ht _ => aQi_end (1, most, asked, td, tr, v, o) ⟨1, Or.inl ⟨rfl, rfl, hbad⟩, rfl⟩ rfl hP hD hS ht) hS.2.2 d_CM_stash_56 hlocks
  · obtain ⟨T, hT2, rfl⟩ := mo_tree_t (b2i_n.mp c_1)
    have qM5 := (mL_le (T := T) qL1 qL5).2
    have q32 := p2_le qM5
    refine lv_iload_n hx hb d_CM_stash_8 rfl (lv_at hl 2 rfl) ?_
    refine lv_if_lt (tgt := 16) hx hb d_CM_stash_9 (by decide) (fun c_3 => ?_) (fun c_3 => ?_)
    · have hbad := (show (nI T < 0 ∨ 1 < nI T) ∨ k < 0 from Or.inr c_3)
      refine lv_iconst (v := 1) hx hb d_CM_stash_16 (by decide) ?_
      refine va_put (D := (dC, dI)) (ci := 4) (v := .int 1) (ty := .int) (C := R_CM) (T := F_CM) (N := 27) hx hb hT i_CM t_CM t_CM_ok n_CM hown hK hP hD hS 0 rfl rfl 0 (by decide) (hT _ m_471) (fun _ h9 => h9) rfl (by decide +kernel) rfl rfl (Nat.le_of_ble_eq_true rfl) d_CM_stash_17 (fun H locs hP hD hS => ?_)
      have hP : va_P (dC, dI) kCl (mw_ cI cJ ad L S C key 1 most asked td tr (v) (o)) H := hP
      have hD : va_D A (mw_ cI cJ ad L S C key 1 most asked td tr (v) (o)) := hD
      refine lv_aload_n hx hb d_CM_stash_20 rfl (lv_at hl 0 rfl) ?_
      refine va_get (D := (dC, dI)) (ci := 4) (v := .int 1) (C := R_CM) (T := F_CM) (N := 27) hx hb hT i_CM hown hK hP 0 rfl rfl 0 (by decide) (hT _ m_471) (fun _ h9 => h9) rfl d_CM_stash_21 ?_
      refine lv_if_le (tgt := 31) hx hb d_CM_stash_24 (by decide) (fun c_4 => ?_) (fun c_4 => ?_)
      · exact absurd c_4 (by decide)
      · refine lv_iconst (v := 0) hx hb d_CM_stash_27 (by decide) ?_
        refine lv_goto (tgt := 56) hx hb d_CM_stash_28 (by decide) ?_
        exact W.iret hx hb hr (fun t9 ht _ => aQi_end (1, most, asked, td, tr, v, o) ⟨1, Or.inl ⟨rfl, rfl, hbad⟩, rfl⟩ rfl hP hD hS ht) hS.2.2 d_CM_stash_56 hlocks
    · obtain ⟨i, hi31, rfl⟩ := nI_of c_3
      have hzT : mv_sz v T ≤ 80 := by
        rcases (show T = 0 ∨ T = 1 by omega) with rfl | rfl
        · omega
        · omega
      refine lv_iconst (v := 0) hx hb d_CM_stash_12 (by decide) ?_
      refine lv_goto (tgt := 17) hx hb d_CM_stash_13 (by decide) ?_
      refine va_put (D := (dC, dI)) (ci := 4) (v := .int 0) (ty := .int) (C := R_CM) (T := F_CM) (N := 27) hx hb hT i_CM t_CM t_CM_ok n_CM hown hK hP hD hS 0 rfl rfl 0 (by decide) (hT _ m_471) (fun _ h9 => h9) rfl (by decide +kernel) rfl rfl (Nat.le_of_ble_eq_true rfl) d_CM_stash_17 (fun H locs hP hD hS => ?_)
      have hP : va_P (dC, dI) kCl (mw_ cI cJ ad L S C key 0 most asked td tr (v) (o)) H := hP
      have hD : va_D A (mw_ cI cJ ad L S C key 0 most asked td tr (v) (o)) := hD
      refine lv_aload_n hx hb d_CM_stash_20 rfl (lv_at hl 0 rfl) ?_
      refine va_get (D := (dC, dI)) (ci := 4) (v := .int 0) (C := R_CM) (T := F_CM) (N := 27) hx hb hT i_CM hown hK hP 0 rfl rfl 0 (by decide) (hT _ m_471) (fun _ h9 => h9) rfl d_CM_stash_21 ?_
      refine lv_if_le (tgt := 31) hx hb d_CM_stash_24 (by decide) (fun c_5 => ?_) (fun c_5 => ?_)
      · refine lv_iload_n hx hb d_CM_stash_31 rfl (lv_at hl 2 rfl) ?_
        refine lv_aload_n hx hb d_CM_stash_32 rfl (lv_at hl 0 rfl) ?_
        refine va_get (D := (dC, dI)) (ci := 4) (v := .ref (ad 8)) (C := R_CM) (T := F_CM) (N := 27) hx hb hT i_CM hown hK hP 0 rfl rfl 12 (by decide) (hT _ m_483) (fun _ h9 => h9) rfl d_CM_stash_33 ?_
        refine lv_iload_n hx hb d_CM_stash_36 rfl (lv_at hl 1 rfl) ?_
        refine va_iald hx hb hK hP 8 0 rfl rfl (vp_in_nI (n := T) (by omega) (by omega)) d_CM_stash_37 ?_
        refine W.eq (g2 := F0 m 38 ls [.int (nI ((mv_sz v) T)), .int (nI i)]) (by rw [nI_clamp (n := T) (by omega)] <;> rfl) ?_
        refine lv_icmp_ge (tgt := 55) hx hb d_CM_stash_38 (by decide) (fun c_6 => ?_) (fun c_6 => ?_)
        · have c_6 := (nI_leI (a := ((mv_sz v) T)) (b := i) (by omega) (by omega)).mp c_6
          have h38 : mv_sz v T ≤ i := c_6
          refine lv_iconst (v := (-1)) hx hb d_CM_stash_55 (by decide) ?_
          exact W.iret hx hb hr (fun t9 ht _ => aQi_end (0, most, asked, td, tr, v, o) ⟨0, Or.inr ⟨rfl, T, i, hT2, rfl, hi31, rfl, by first | rw [if_pos h38] | rw [if_neg h38]⟩, rfl⟩ rfl hP hD hS ht) hS.2.2 d_CM_stash_56 hlocks
        · have c_6 := (not_congr (nI_leI (a := ((mv_sz v) T)) (b := i) (by omega) (by omega))).mp c_6
          have h38 : ¬ mv_sz v T ≤ i := c_6
          refine lv_aload_n hx hb d_CM_stash_41 rfl (lv_at hl 0 rfl) ?_
          refine va_get (D := (dC, dI)) (ci := 4) (v := .ref (ad 5)) (C := R_CM) (T := F_CM) (N := 27) hx hb hT i_CM hown hK hP 0 rfl rfl 9 (by decide) (hT _ m_480) (fun _ h9 => h9) rfl d_CM_stash_42 ?_
          refine lv_bipush (v := 80) hx hb d_CM_stash_45 (by decide) ?_
          refine lv_iload_n hx hb d_CM_stash_47 rfl (lv_at hl 1 rfl) ?_
          refine lv_imul hx hb d_CM_stash_48 ?_
          refine W.eq (g2 := F0 m 49 ls [.int (nI (80 * T)), .ref (ad 5)]) (congrArg (fun q9 : Int32 => F0 m 49 ls (.int q9 :: .ref (ad 5) :: [])) (pk_mul 80 T)) ?_
          refine lv_iload_n hx hb d_CM_stash_49 rfl (lv_at hl 2 rfl) ?_
          refine lv_iadd hx hb d_CM_stash_50 ?_
          refine W.eq (g2 := F0 m 51 ls [.int (nI ((80 * T) + i)), .ref (ad 5)]) (congrArg (fun q9 : Int32 => F0 m 51 ls (.int q9 :: .ref (ad 5) :: [])) (nI_add (80 * T) i)) ?_
          refine va_iald hx hb hK hP 5 0 rfl rfl (vp_in_nI (n := ((80 * T) + i)) (by omega) (by omega)) d_CM_stash_51 ?_
          refine W.eq (g2 := F0 m 52 ls [.int ((mv_sb v) ((80 * T) + i))]) (by rw [nI_clamp (n := ((80 * T) + i)) (by omega)] <;> rfl) ?_
          refine lv_goto (tgt := 56) hx hb d_CM_stash_52 (by decide) ?_
          exact W.iret hx hb hr (fun t9 ht _ => aQi_end (0, most, asked, td, tr, v, o) ⟨0, Or.inr ⟨rfl, T, i, hT2, rfl, hi31, rfl, by first | rw [if_pos h38] | rw [if_neg h38]⟩, rfl⟩ rfl hP hD hS ht) hS.2.2 d_CM_stash_56 hlocks
      · exact absurd (by decide) c_5
