set_option maxHeartbeats 8000000 in
set_option maxRecDepth 100000 in
/-- CoinTreeModel.stored -/
theorem c_CM_stored {l : Launch} {dC : Nat → ClassId} {dI : Nat → Nat → Nat} {cI cJ : ClassId} {A : Nat → Prop} {ad : Nat → Nat} {L S C : Nat} {key : Int64} {th most asked : Int32} {td : Nat} {tr : Nat → Int32} {v o : Mv} (ok : mk_ok L S C) (x nd sl wd : Int32) : Met l y_CM_stored (k_CM_stored :: bw) { frames := 3, cells := 0, slots := 0, locals := 64 } (mP (dC, dI) kCl [(cI, .int), (cJ, .long)] [.ref (ad 0), .int x, .int nd, .int sl, .int wd] (mw_ cI cJ ad L S C key th most asked td tr (v) (o)) A) (aQl (dC, dI) kCl (fun u => mzw cI cJ ad L S C key u) (fun r u => ∃ th', mo_stored L S key v x nd sl wd r th' ∧ u = (th', most, asked, td, tr, v, o)) A) 0 0 A := by
  refine Met.ofZ (own := "CoinTreeModel") (by decide) rfl [.ref (ad 0), .int x, .int nd, .int sl, .int wd] (Nat.le_of_ble_eq_true rfl) (fun _ _ h => h.1) ?_
  intro p e s m below meth c ls C0 hv hl
  obtain ⟨hx, hb, hr, hml, hown, hT, hlocks⟩ := C0
  obtain ⟨-, hP, hK, hD⟩ := hv
  have hS : va_S A s.heap s.heap [] := va_S.rf
  have hl : lv_has ls 11 [(0, .ref (ad 0)), (1, .int x), (2, .int nd), (3, .int sl), (4, .int wd)] := hl
  obtain ⟨qL1, qL5, qS1, qS4, qC⟩ := id ok
  
  refine lv_aload_n hx hb d_CM_stored_0 rfl (lv_at hl 0 rfl) ?_
  refine lv_aload_n hx hb d_CM_stored_1 rfl (lv_at hl 0 rfl) ?_
  refine lv_iload_n hx hb d_CM_stored_2 rfl (lv_at hl 1 rfl) ?_
  refine lv_iload_n hx hb d_CM_stored_3 rfl (lv_at hl 2 rfl) ?_
  refine zc_i (va_runV (As := [.int x, .int nd]) (rest := [.ref (ad 0)]) ⟨hx, hb, hml, hown, hT⟩ (c_CM_isNode ok hP x nd) (cwV 2 hT (gi_V m_621 m_618 m_620 m_20 m_27) rfl rfl rfl p_CM_isNode ⟨Nat.le_of_ble_eq_true rfl, Nat.le_of_ble_eq_true rfl⟩) ⟨zP_blind, va_recv hK hP (ci := 4) (q0 := 0) rfl rfl, zP_pre hK⟩ rfl rfl hl.1 rfl (lv_room (Nat.le_of_ble_eq_true rfl)) d_CM_stored_4 ⟨Nat.le_refl _, Nat.le_refl _⟩) hS (fun locs hS => ?_)
  refine lv_if_eq (tgt := 37) hx hb d_CM_stored_7 (by decide) (fun c_1 => ?_) (fun c_1 => ?_)
  · have hbad := (show (x < 0 ∨ 1 < x) ∨ tr_nd (cs_L x L (mL L 1)) nd = false ∨ (sl < 0 ∨ nI S ≤ sl) ∨ (wd < 0 ∨ 3 ≤ wd) from (mo_node_f (b2i_0.mp c_1)).elim Or.inl (fun h => Or.inr (Or.inl h)))
    refine lv_iconst (v := 1) hx hb d_CM_stored_37 (by decide) ?_
    refine va_put (D := (dC, dI)) (ci := 4) (v := .int 1) (ty := .int) (C := R_CM) (T := F_CM) (N := 27) hx hb hT i_CM t_CM t_CM_ok n_CM hown hK hP hD hS 0 rfl rfl 0 (by decide) (hT _ m_471) (fun _ h9 => h9) rfl (by decide +kernel) rfl rfl (Nat.le_of_ble_eq_true rfl) d_CM_stored_38 (fun H locs hP hD hS => ?_)
    have hP : va_P (dC, dI) kCl (mw_ cI cJ ad L S C key 1 most asked td tr (v) (o)) H := hP
    have hD : va_D A (mw_ cI cJ ad L S C key 1 most asked td tr (v) (o)) := hD
    refine lv_aload_n hx hb d_CM_stored_41 rfl (lv_at hl 0 rfl) ?_
    refine va_get (D := (dC, dI)) (ci := 4) (v := .int 1) (C := R_CM) (T := F_CM) (N := 27) hx hb hT i_CM hown hK hP 0 rfl rfl 0 (by decide) (hT _ m_471) (fun _ h9 => h9) rfl d_CM_stored_42 ?_
    refine lv_if_le (tgt := 50) hx hb d_CM_stored_45 (by decide) (fun c_2 => ?_) (fun c_2 => ?_)
    · exact absurd c_2 (by decide)
    · refine lv_lconst (v := 0) hx hb d_CM_stored_48 (by decide) ?_
      exact W.lret hx hb hr (fun t9 ht _ => aQl_end (1, most, asked, td, tr, v, o) ⟨1, Or.inl ⟨rfl, rfl, hbad⟩, rfl⟩ rfl hP hD hS ht) hS.2.2 d_CM_stored_49 hlocks
  · obtain ⟨T, n, hT2, rfl, hn1, hn2, rfl⟩ := mo_node_t ok (b2i_n.mp c_1)
    have qM5 := (mL_le (T := T) qL1 qL5).2
    have q32 := p2_le qM5
    refine lv_iload_n hx hb d_CM_stored_10 rfl (lv_at hl 3 rfl) ?_
    refine lv_if_lt (tgt := 37) hx hb d_CM_stored_11 (by decide) (fun c_3 => ?_) (fun c_3 => ?_)
    · have hbad := (show ((nI T) < 0 ∨ 1 < nI T) ∨ tr_nd (cs_L (nI T) L (mL L 1)) (nI n) = false ∨ (sl < 0 ∨ nI S ≤ sl) ∨ (wd < 0 ∨ 3 ≤ wd) from Or.inr (Or.inr (Or.inl (Or.inl c_3))))
      refine lv_iconst (v := 1) hx hb d_CM_stored_37 (by decide) ?_
      refine va_put (D := (dC, dI)) (ci := 4) (v := .int 1) (ty := .int) (C := R_CM) (T := F_CM) (N := 27) hx hb hT i_CM t_CM t_CM_ok n_CM hown hK hP hD hS 0 rfl rfl 0 (by decide) (hT _ m_471) (fun _ h9 => h9) rfl (by decide +kernel) rfl rfl (Nat.le_of_ble_eq_true rfl) d_CM_stored_38 (fun H locs hP hD hS => ?_)
      have hP : va_P (dC, dI) kCl (mw_ cI cJ ad L S C key 1 most asked td tr (v) (o)) H := hP
      have hD : va_D A (mw_ cI cJ ad L S C key 1 most asked td tr (v) (o)) := hD
      refine lv_aload_n hx hb d_CM_stored_41 rfl (lv_at hl 0 rfl) ?_
      refine va_get (D := (dC, dI)) (ci := 4) (v := .int 1) (C := R_CM) (T := F_CM) (N := 27) hx hb hT i_CM hown hK hP 0 rfl rfl 0 (by decide) (hT _ m_471) (fun _ h9 => h9) rfl d_CM_stored_42 ?_
      refine lv_if_le (tgt := 50) hx hb d_CM_stored_45 (by decide) (fun c_4 => ?_) (fun c_4 => ?_)
      · exact absurd c_4 (by decide)
      · refine lv_lconst (v := 0) hx hb d_CM_stored_48 (by decide) ?_
        exact W.lret hx hb hr (fun t9 ht _ => aQl_end (1, most, asked, td, tr, v, o) ⟨1, Or.inl ⟨rfl, rfl, hbad⟩, rfl⟩ rfl hP hD hS ht) hS.2.2 d_CM_stored_49 hlocks
    · obtain ⟨s9, hs931, rfl⟩ := nI_of c_3
      refine lv_iload_n hx hb d_CM_stored_14 rfl (lv_at hl 3 rfl) ?_
      refine lv_aload_n hx hb d_CM_stored_15 rfl (lv_at hl 0 rfl) ?_
      refine va_get (D := (dC, dI)) (ci := 4) (v := .int (nI S)) (C := R_CM) (T := F_CM) (N := 27) hx hb hT i_CM hown hK hP 0 rfl rfl 2 (by decide) (hT _ m_473) (fun _ h9 => h9) rfl d_CM_stored_16 ?_
      refine lv_icmp_ge (tgt := 37) hx hb d_CM_stored_19 (by decide) (fun c_5 => ?_) (fun c_5 => ?_)
      · have c_5 := (nI_leI (a := S) (b := s9) (by omega) (by omega)).mp c_5
        have hbad := (show ((nI T) < 0 ∨ 1 < (nI T)) ∨ tr_nd (cs_L (nI T) L (mL L 1)) (nI n) = false ∨ ((nI s9) < 0 ∨ nI S ≤ (nI s9)) ∨ (wd < 0 ∨ 3 ≤ wd) from Or.inr (Or.inr (Or.inl (Or.inr ((nI_leI (by omega) (by omega)).mpr c_5)))))
        refine lv_iconst (v := 1) hx hb d_CM_stored_37 (by decide) ?_
        refine va_put (D := (dC, dI)) (ci := 4) (v := .int 1) (ty := .int) (C := R_CM) (T := F_CM) (N := 27) hx hb hT i_CM t_CM t_CM_ok n_CM hown hK hP hD hS 0 rfl rfl 0 (by decide) (hT _ m_471) (fun _ h9 => h9) rfl (by decide +kernel) rfl rfl (Nat.le_of_ble_eq_true rfl) d_CM_stored_38 (fun H locs hP hD hS => ?_)
        have hP : va_P (dC, dI) kCl (mw_ cI cJ ad L S C key 1 most asked td tr (v) (o)) H := hP
        have hD : va_D A (mw_ cI cJ ad L S C key 1 most asked td tr (v) (o)) := hD
        refine lv_aload_n hx hb d_CM_stored_41 rfl (lv_at hl 0 rfl) ?_
        refine va_get (D := (dC, dI)) (ci := 4) (v := .int 1) (C := R_CM) (T := F_CM) (N := 27) hx hb hT i_CM hown hK hP 0 rfl rfl 0 (by decide) (hT _ m_471) (fun _ h9 => h9) rfl d_CM_stored_42 ?_
        refine lv_if_le (tgt := 50) hx hb d_CM_stored_45 (by decide) (fun c_6 => ?_) (fun c_6 => ?_)
        · exact absurd c_6 (by decide)
        · refine lv_lconst (v := 0) hx hb d_CM_stored_48 (by decide) ?_
          exact W.lret hx hb hr (fun t9 ht _ => aQl_end (1, most, asked, td, tr, v, o) ⟨1, Or.inl ⟨rfl, rfl, hbad⟩, rfl⟩ rfl hP hD hS ht) hS.2.2 d_CM_stored_49 hlocks
      · have c_5 := (not_congr (nI_leI (a := S) (b := s9) (by omega) (by omega))).mp c_5
        refine lv_iload hx hb d_CM_stored_22 (lv_at hl 4 rfl) ?_
        refine lv_if_lt (tgt := 37) hx hb d_CM_stored_24 (by decide) (fun c_7 => ?_) (fun c_7 => ?_)
        · have hbad := (show ((nI T) < 0 ∨ 1 < (nI T)) ∨ tr_nd (cs_L (nI T) L (mL L 1)) (nI n) = false ∨ ((nI s9) < 0 ∨ nI S ≤ (nI s9)) ∨ (wd < 0 ∨ 3 ≤ wd) from Or.inr (Or.inr (Or.inr (Or.inl c_7))))
          refine lv_iconst (v := 1) hx hb d_CM_stored_37 (by decide) ?_
          refine va_put (D := (dC, dI)) (ci := 4) (v := .int 1) (ty := .int) (C := R_CM) (T := F_CM) (N := 27) hx hb hT i_CM t_CM t_CM_ok n_CM hown hK hP hD hS 0 rfl rfl 0 (by decide) (hT _ m_471) (fun _ h9 => h9) rfl (by decide +kernel) rfl rfl (Nat.le_of_ble_eq_true rfl) d_CM_stored_38 (fun H locs hP hD hS => ?_)
          have hP : va_P (dC, dI) kCl (mw_ cI cJ ad L S C key 1 most asked td tr (v) (o)) H := hP
          have hD : va_D A (mw_ cI cJ ad L S C key 1 most asked td tr (v) (o)) := hD
          refine lv_aload_n hx hb d_CM_stored_41 rfl (lv_at hl 0 rfl) ?_
          refine va_get (D := (dC, dI)) (ci := 4) (v := .int 1) (C := R_CM) (T := F_CM) (N := 27) hx hb hT i_CM hown hK hP 0 rfl rfl 0 (by decide) (hT _ m_471) (fun _ h9 => h9) rfl d_CM_stored_42 ?_
          refine lv_if_le (tgt := 50) hx hb d_CM_stored_45 (by decide) (fun c_8 => ?_) (fun c_8 => ?_)
          · exact absurd c_8 (by decide)
          · refine lv_lconst (v := 0) hx hb d_CM_stored_48 (by decide) ?_
            exact W.lret hx hb hr (fun t9 ht _ => aQl_end (1, most, asked, td, tr, v, o) ⟨1, Or.inl ⟨rfl, rfl, hbad⟩, rfl⟩ rfl hP hD hS ht) hS.2.2 d_CM_stored_49 hlocks
        · obtain ⟨w9, hw931, rfl⟩ := nI_of c_7
          refine lv_iload hx hb d_CM_stored_27 (lv_at hl 4 rfl) ?_
          refine lv_iconst (v := 2) hx hb d_CM_stored_29 (by decide) ?_
          refine lv_icmp_gt (tgt := 37) hx hb d_CM_stored_30 (by decide) (fun c_9 => ?_) (fun c_9 => ?_)
          · have c_9 := (nI_ltI (a := 2) (b := w9) (by omega) (by omega)).mp c_9
            have hbad := (show ((nI T) < 0 ∨ 1 < (nI T)) ∨ tr_nd (cs_L (nI T) L (mL L 1)) (nI n) = false ∨ ((nI s9) < 0 ∨ nI S ≤ (nI s9)) ∨ ((nI w9) < 0 ∨ 3 ≤ (nI w9)) from Or.inr (Or.inr (Or.inr (Or.inr (by rw [show (3 : Int32) = nI 3 from rfl]; exact (nI_leI (by omega) (by omega)).mpr (by omega))))))
            refine lv_iconst (v := 1) hx hb d_CM_stored_37 (by decide) ?_
            refine va_put (D := (dC, dI)) (ci := 4) (v := .int 1) (ty := .int) (C := R_CM) (T := F_CM) (N := 27) hx hb hT i_CM t_CM t_CM_ok n_CM hown hK hP hD hS 0 rfl rfl 0 (by decide) (hT _ m_471) (fun _ h9 => h9) rfl (by decide +kernel) rfl rfl (Nat.le_of_ble_eq_true rfl) d_CM_stored_38 (fun H locs hP hD hS => ?_)
            have hP : va_P (dC, dI) kCl (mw_ cI cJ ad L S C key 1 most asked td tr (v) (o)) H := hP
            have hD : va_D A (mw_ cI cJ ad L S C key 1 most asked td tr (v) (o)) := hD
            refine lv_aload_n hx hb d_CM_stored_41 rfl (lv_at hl 0 rfl) ?_
            refine va_get (D := (dC, dI)) (ci := 4) (v := .int 1) (C := R_CM) (T := F_CM) (N := 27) hx hb hT i_CM hown hK hP 0 rfl rfl 0 (by decide) (hT _ m_471) (fun _ h9 => h9) rfl d_CM_stored_42 ?_
            refine lv_if_le (tgt := 50) hx hb d_CM_stored_45 (by decide) (fun c_10 => ?_) (fun c_10 => ?_)
            · exact absurd c_10 (by decide)
            · refine lv_lconst (v := 0) hx hb d_CM_stored_48 (by decide) ?_
              exact W.lret hx hb hr (fun t9 ht _ => aQl_end (1, most, asked, td, tr, v, o) ⟨1, Or.inl ⟨rfl, rfl, hbad⟩, rfl⟩ rfl hP hD hS ht) hS.2.2 d_CM_stored_49 hlocks
          · have c_9 := (not_congr (nI_ltI (a := 2) (b := w9) (by omega) (by omega))).mp c_9
            refine lv_iconst (v := 0) hx hb d_CM_stored_33 (by decide) ?_
            refine lv_goto (tgt := 38) hx hb d_CM_stored_34 (by decide) ?_
            refine va_put (D := (dC, dI)) (ci := 4) (v := .int 0) (ty := .int) (C := R_CM) (T := F_CM) (N := 27) hx hb hT i_CM t_CM t_CM_ok n_CM hown hK hP hD hS 0 rfl rfl 0 (by decide) (hT _ m_471) (fun _ h9 => h9) rfl (by decide +kernel) rfl rfl (Nat.le_of_ble_eq_true rfl) d_CM_stored_38 (fun H locs hP hD hS => ?_)
            have hP : va_P (dC, dI) kCl (mw_ cI cJ ad L S C key 0 most asked td tr (v) (o)) H := hP
            have hD : va_D A (mw_ cI cJ ad L S C key 0 most asked td tr (v) (o)) := hD
            refine lv_aload_n hx hb d_CM_stored_41 rfl (lv_at hl 0 rfl) ?_
            refine va_get (D := (dC, dI)) (ci := 4) (v := .int 0) (C := R_CM) (T := F_CM) (N := 27) hx hb hT i_CM hown hK hP 0 rfl rfl 0 (by decide) (hT _ m_471) (fun _ h9 => h9) rfl d_CM_stored_42 ?_
            refine lv_if_le (tgt := 50) hx hb d_CM_stored_45 (by decide) (fun c_11 => ?_) (fun c_11 => ?_)
            · refine lv_iload_n hx hb d_CM_stored_50 rfl (lv_at hl 1 rfl) ?_
              refine lv_iload_n hx hb d_CM_stored_51 rfl (lv_at hl 2 rfl) ?_
              refine lv_iload_n hx hb d_CM_stored_52 rfl (lv_at hl 3 rfl) ?_
              refine zc_i (va_runS (As := [.int (nI T), .int (nI n), .int (nI s9)]) (rest := []) ⟨hx, hb, hml, hown, hT⟩ (c_CM_place T n s9) (cwS 3 hT (gi_S m_575 m_573 m_574 m_27) rfl rfl rfl p_CM_place ⟨Nat.le_of_ble_eq_true rfl, Nat.le_of_ble_eq_true rfl⟩) ⟨zP_blind, zP_pre hK⟩ rfl rfl hl.1 rfl (lv_room (Nat.le_of_ble_eq_true rfl)) d_CM_stored_53 ⟨Nat.le_refl _, Nat.le_refl _⟩) hS (fun locs hS => ?_)
              refine lv_istore (lv' := [(5, .int (nI (256 * T + 4 * n + s9))), (0, .ref (ad 0)), (1, .int (nI T)), (2, .int (nI n)), (3, .int (nI s9)), (4, .int (nI w9))]) hx hb d_CM_stored_56 hl (by decide) rfl (fun ls hl => ?_)
              refine lv_aload_n hx hb d_CM_stored_58 rfl (lv_at hl 1 rfl) ?_
              refine va_get (D := (dC, dI)) (ci := 4) (v := .ref (ad 1)) (C := R_CM) (T := F_CM) (N := 27) hx hb hT i_CM hown hK hP 0 rfl rfl 5 (by decide) (hT _ m_476) (fun _ h9 => h9) rfl d_CM_stored_59 ?_
              refine lv_iload hx hb d_CM_stored_62 (lv_at hl 0 rfl) ?_
              refine va_iald hx hb hK hP 1 0 rfl rfl (vp_in_nI (n := (256 * T + 4 * n + s9)) (by omega) (by omega)) d_CM_stored_64 ?_
              refine W.eq (g2 := F0 m 65 ls [.int ((mv_bl v) (256 * T + 4 * n + s9))]) (by rw [nI_clamp (n := (256 * T + 4 * n + s9)) (by omega)] <;> rfl) ?_
              refine lv_iconst (v := (-1)) hx hb d_CM_stored_65 (by decide) ?_
              refine lv_icmp_ne (tgt := 73) hx hb d_CM_stored_66 (by decide) (fun c_12 => ?_) (fun c_12 => ?_)
              · have hbl : ¬ mv_bl v (256 * T + 4 * n + s9) = -1 := c_12
                refine lv_iconst (v := 0) hx hb d_CM_stored_73 (by decide) ?_
                refine lv_istore (lv' := [(6, .int 0), (5, .int (nI (256 * T + 4 * n + s9))), (0, .ref (ad 0)), (1, .int (nI T)), (2, .int (nI n)), (3, .int (nI s9)), (4, .int (nI w9))]) hx hb d_CM_stored_74 hl (by decide) rfl (fun ls hl => ?_)
                refine lv_iload hx hb d_CM_stored_76 (lv_at hl 0 rfl) ?_
                refine lv_if_eq (tgt := 85) hx hb d_CM_stored_78 (by decide) (fun c_13 => ?_) (fun c_13 => ?_)
                · refine lv_iload hx hb d_CM_stored_85 (lv_at hl 6 rfl) ?_
                  refine lv_if_ne (tgt := 103) hx hb d_CM_stored_87 (by decide) (fun c_14 => ?_) (fun c_14 => ?_)
                  · have hw0 : ¬ w9 = 0 := fun h => c_14 (congrArg nI h)
                    refine lv_iload hx hb d_CM_stored_103 (lv_at hl 6 rfl) ?_
                    refine lv_iconst (v := 1) hx hb d_CM_stored_105 (by decide) ?_
                    refine lv_icmp_ne (tgt := 120) hx hb d_CM_stored_106 (by decide) (fun c_15 => ?_) (fun c_15 => ?_)
                    · have c_15 := (not_congr (nI_eq (a := w9) (b := 1) (by omega) (by omega))).mp c_15
                      have hw1 : ¬ w9 = 1 := c_15
                      refine lv_aload_n hx hb d_CM_stored_120 rfl (lv_at hl 2 rfl) ?_
                      refine va_get (D := (dC, dI)) (ci := 4) (v := .ref (ad 3)) (C := R_CM) (T := F_CM) (N := 27) hx hb hT i_CM hown hK hP 0 rfl rfl 7 (by decide) (hT _ m_478) (fun _ h9 => h9) rfl d_CM_stored_121 ?_
                      refine lv_iload hx hb d_CM_stored_124 (lv_at hl 1 rfl) ?_
                      refine va_lald hx hb hK hP 3 1 rfl rfl (vp_in_nI (n := (256 * T + 4 * n + s9)) (by omega) (by omega)) d_CM_stored_126 ?_
                      refine W.eq (g2 := F0 m 127 ls [.long ((mv_vl v) (256 * T + 4 * n + s9))]) (by rw [nI_clamp (n := (256 * T + 4 * n + s9)) (by omega)] <;> rfl) ?_
                      have hwd : mo_word v (256 * T + 4 * n + s9) w9 = ((mv_vl v) (256 * T + 4 * n + s9)) := by
                        unfold mo_word
                        first | rw [if_pos hbl] | rw [if_neg hbl, if_pos hw0] | rw [if_neg hbl, if_neg hw0, if_pos hw1] | rw [if_neg hbl, if_neg hw0, if_neg hw1]
                      refine lv_lstore (lv' := [(7, .long ((mv_vl v) (256 * T + 4 * n + s9))), (6, .int 0), (5, .int (nI (256 * T + 4 * n + s9))), (0, .ref (ad 0)), (1, .int (nI T)), (2, .int (nI n)), (3, .int (nI s9)), (4, .int (nI w9))]) hx hb d_CM_stored_127 hl (by decide) rfl (fun ls hl => ?_)
                      refine lv_iload_n hx hb d_CM_stored_129 rfl (lv_at hl 4 rfl) ?_
                      refine lv_i2l (v := (nI T).toInt64) hx hb d_CM_stored_130 rfl ?_
                      refine lv_ldc2 (v := 64) hx hb hown (hT _ m_622) d_CM_stored_131 ?_
                      refine lv_lmul hx hb d_CM_stored_134 ?_
                      refine lv_iload_n hx hb d_CM_stored_135 rfl (lv_at hl 5 rfl) ?_
                      refine lv_i2l (v := (nI n).toInt64) hx hb d_CM_stored_136 rfl ?_
                      refine lv_ladd hx hb d_CM_stored_137 ?_
                      refine lv_ldc2 (v := 4) hx hb hown (hT _ m_623) d_CM_stored_138 ?_
                      refine lv_lmul hx hb d_CM_stored_141 ?_
                      refine lv_iload_n hx hb d_CM_stored_142 rfl (lv_at hl 6 rfl) ?_
                      refine lv_i2l (v := (nI s9).toInt64) hx hb d_CM_stored_143 rfl ?_
                      refine lv_ladd hx hb d_CM_stored_144 ?_
                      refine lv_ldc2 (v := 4) hx hb hown (hT _ m_623) d_CM_stored_145 ?_
                      refine lv_lmul hx hb d_CM_stored_148 ?_
                      refine lv_iload hx hb d_CM_stored_149 (lv_at hl 7 rfl) ?_
                      refine lv_i2l (v := (nI w9).toInt64) hx hb d_CM_stored_151 rfl ?_
                      refine lv_ladd hx hb d_CM_stored_152 ?_
                      refine lv_lstore (lv' := [(9, .long ((((((((nI T).toInt64) * 64) + ((nI n).toInt64)) * 4) + ((nI s9).toInt64)) * 4) + ((nI w9).toInt64))), (7, .long ((mv_vl v) (256 * T + 4 * n + s9))), (6, .int 0), (5, .int (nI (256 * T + 4 * n + s9))), (0, .ref (ad 0)), (1, .int (nI T)), (2, .int (nI n)), (3, .int (nI s9)), (4, .int (nI w9))]) hx hb d_CM_stored_153 hl (by decide) rfl (fun ls hl => ?_)
                      refine lv_lload hx hb d_CM_stored_155 (lv_at hl 1 rfl) ?_
                      refine lv_aload_n hx hb d_CM_stored_157 rfl (lv_at hl 4 rfl) ?_
                      refine va_get (D := (dC, dI)) (ci := 4) (v := .long key) (C := R_CM) (T := F_CM) (N := 27) hx hb hT i_CM hown hK hP 0 rfl rfl 4 (by decide) (hT _ m_475) (fun _ h9 => h9) rfl d_CM_stored_158 ?_
                      refine lv_ldc2 (v := 1000003) hx hb hown (hT _ m_624) d_CM_stored_161 ?_
                      refine lv_lload hx hb d_CM_stored_164 (lv_at hl 0 rfl) ?_
                      refine lv_lmul hx hb d_CM_stored_166 ?_
                      refine lv_ladd hx hb d_CM_stored_167 ?_
                      refine lv_ldc2 (v := (-7046029254386353131)) hx hb hown (hT _ m_625) d_CM_stored_168 ?_
                      refine lv_aload_n hx hb d_CM_stored_171 rfl (lv_at hl 4 rfl) ?_
                      refine va_get (D := (dC, dI)) (ci := 4) (v := .ref (ad 4)) (C := R_CM) (T := F_CM) (N := 27) hx hb hT i_CM hown hK hP 0 rfl rfl 8 (by decide) (hT _ m_479) (fun _ h9 => h9) rfl d_CM_stored_172 ?_
                      refine lv_bipush (v := 64) hx hb d_CM_stored_175 (by decide) ?_
                      refine lv_iload_n hx hb d_CM_stored_177 rfl (lv_at hl 5 rfl) ?_
                      refine lv_imul hx hb d_CM_stored_178 ?_
                      refine W.eq (g2 := F0 m 179 ls [.int (nI (64 * T)), .ref (ad 4), .long (-7046029254386353131), .long (key + (1000003 * ((((((((nI T).toInt64) * 64) + ((nI n).toInt64)) * 4) + ((nI s9).toInt64)) * 4) + ((nI w9).toInt64)))), .long ((mv_vl v) (256 * T + 4 * n + s9))]) (congrArg (fun q9 : Int32 => F0 m 179 ls (.int q9 :: .ref (ad 4) :: .long (-7046029254386353131) :: .long (key + (1000003 * ((((((((nI T).toInt64) * 64) + ((nI n).toInt64)) * 4) + ((nI s9).toInt64)) * 4) + ((nI w9).toInt64)))) :: .long ((mv_vl v) (256 * T + 4 * n + s9)) :: [])) (pk_mul 64 T)) ?_
                      refine lv_iload_n hx hb d_CM_stored_179 rfl (lv_at hl 6 rfl) ?_
                      refine lv_iadd hx hb d_CM_stored_180 ?_
                      refine W.eq (g2 := F0 m 181 ls [.int (nI ((64 * T) + n)), .ref (ad 4), .long (-7046029254386353131), .long (key + (1000003 * ((((((((nI T).toInt64) * 64) + ((nI n).toInt64)) * 4) + ((nI s9).toInt64)) * 4) + ((nI w9).toInt64)))), .long ((mv_vl v) (256 * T + 4 * n + s9))]) (congrArg (fun q9 : Int32 => F0 m 181 ls (.int q9 :: .ref (ad 4) :: .long (-7046029254386353131) :: .long (key + (1000003 * ((((((((nI T).toInt64) * 64) + ((nI n).toInt64)) * 4) + ((nI s9).toInt64)) * 4) + ((nI w9).toInt64)))) :: .long ((mv_vl v) (256 * T + 4 * n + s9)) :: [])) (nI_add (64 * T) n)) ?_
                      refine va_iald hx hb hK hP 4 0 rfl rfl (vp_in_nI (n := ((64 * T) + n)) (by omega) (by omega)) d_CM_stored_181 ?_
                      refine W.eq (g2 := F0 m 182 ls [.int ((mv_ct v) ((64 * T) + n)), .long (-7046029254386353131), .long (key + (1000003 * ((((((((nI T).toInt64) * 64) + ((nI n).toInt64)) * 4) + ((nI s9).toInt64)) * 4) + ((nI w9).toInt64)))), .long ((mv_vl v) (256 * T + 4 * n + s9))]) (by rw [nI_clamp (n := ((64 * T) + n)) (by omega)] <;> rfl) ?_
                      refine lv_i2l (v := ((mv_ct v) ((64 * T) + n)).toInt64) hx hb d_CM_stored_182 rfl ?_
                      refine lv_lmul hx hb d_CM_stored_183 ?_
                      refine lv_ladd hx hb d_CM_stored_184 ?_
                      refine zc_l (va_runS (As := [.long ((key + (1000003 * ((((((((nI T).toInt64) * 64) + ((nI n).toInt64)) * 4) + ((nI s9).toInt64)) * 4) + ((nI w9).toInt64)))) + ((-7046029254386353131) * (((mv_ct v) ((64 * T) + n)).toInt64)))]) (rest := [.long ((mv_vl v) (256 * T + 4 * n + s9))]) ⟨hx, hb, hml, hown, hT⟩ (c_CM_mix ((key + (1000003 * ((((((((nI T).toInt64) * 64) + ((nI n).toInt64)) * 4) + ((nI s9).toInt64)) * 4) + ((nI w9).toInt64)))) + ((-7046029254386353131) * (((mv_ct v) ((64 * T) + n)).toInt64)))) (cwS 1 hT (gi_S m_628 m_626 m_627 m_27) rfl rfl rfl p_CM_mix ⟨Nat.le_of_ble_eq_true rfl, Nat.le_of_ble_eq_true rfl⟩) ⟨zP_blind, zP_pre hK⟩ rfl rfl hl.1 rfl (lv_room (Nat.le_of_ble_eq_true rfl)) d_CM_stored_185 ⟨Nat.le_refl _, Nat.le_refl _⟩) hS (fun locs hS => ?_)
                      refine lv_lxor hx hb d_CM_stored_188 ?_
                      exact W.lret hx hb hr (fun t9 ht _ => aQl_end (0, most, asked, td, tr, v, o) ⟨0, Or.inr ⟨rfl, T, n, s9, w9, hT2, rfl, hn1, hn2, rfl, by omega, rfl, by omega, rfl, by rw [hwd]; rfl⟩, rfl⟩ rfl hP hD hS ht) hS.2.2 d_CM_stored_189 hlocks
                    · have c_15 := (nI_eq (a := w9) (b := 1) (by omega) (by omega)).mp c_15
                      have hw1 : w9 = 1 := c_15
                      refine lv_aload_n hx hb d_CM_stored_109 rfl (lv_at hl 2 rfl) ?_
                      refine va_get (D := (dC, dI)) (ci := 4) (v := .ref (ad 2)) (C := R_CM) (T := F_CM) (N := 27) hx hb hT i_CM hown hK hP 0 rfl rfl 6 (by decide) (hT _ m_477) (fun _ h9 => h9) rfl d_CM_stored_110 ?_
                      refine lv_iload hx hb d_CM_stored_113 (lv_at hl 1 rfl) ?_
                      refine va_iald hx hb hK hP 2 0 rfl rfl (vp_in_nI (n := (256 * T + 4 * n + s9)) (by omega) (by omega)) d_CM_stored_115 ?_
                      refine W.eq (g2 := F0 m 116 ls [.int ((mv_lf v) (256 * T + 4 * n + s9))]) (by rw [nI_clamp (n := (256 * T + 4 * n + s9)) (by omega)] <;> rfl) ?_
                      refine lv_i2l (v := ((mv_lf v) (256 * T + 4 * n + s9)).toInt64) hx hb d_CM_stored_116 rfl ?_
                      refine lv_goto (tgt := 127) hx hb d_CM_stored_117 (by decide) ?_
                      have hwd : mo_word v (256 * T + 4 * n + s9) w9 = (((mv_lf v) (256 * T + 4 * n + s9)).toInt64) := by
                        unfold mo_word
                        first | rw [if_pos hbl] | rw [if_neg hbl, if_pos hw0] | rw [if_neg hbl, if_neg hw0, if_pos hw1] | rw [if_neg hbl, if_neg hw0, if_neg hw1]
                      refine lv_lstore (lv' := [(7, .long (((mv_lf v) (256 * T + 4 * n + s9)).toInt64)), (6, .int 0), (5, .int (nI (256 * T + 4 * n + s9))), (0, .ref (ad 0)), (1, .int (nI T)), (2, .int (nI n)), (3, .int (nI s9)), (4, .int (nI w9))]) hx hb d_CM_stored_127 hl (by decide) rfl (fun ls hl => ?_)
                      refine lv_iload_n hx hb d_CM_stored_129 rfl (lv_at hl 4 rfl) ?_
                      refine lv_i2l (v := (nI T).toInt64) hx hb d_CM_stored_130 rfl ?_
                      refine lv_ldc2 (v := 64) hx hb hown (hT _ m_622) d_CM_stored_131 ?_
                      refine lv_lmul hx hb d_CM_stored_134 ?_
                      refine lv_iload_n hx hb d_CM_stored_135 rfl (lv_at hl 5 rfl) ?_
                      refine lv_i2l (v := (nI n).toInt64) hx hb d_CM_stored_136 rfl ?_
                      refine lv_ladd hx hb d_CM_stored_137 ?_
                      refine lv_ldc2 (v := 4) hx hb hown (hT _ m_623) d_CM_stored_138 ?_
                      refine lv_lmul hx hb d_CM_stored_141 ?_
                      refine lv_iload_n hx hb d_CM_stored_142 rfl (lv_at hl 6 rfl) ?_
                      refine lv_i2l (v := (nI s9).toInt64) hx hb d_CM_stored_143 rfl ?_
                      refine lv_ladd hx hb d_CM_stored_144 ?_
                      refine lv_ldc2 (v := 4) hx hb hown (hT _ m_623) d_CM_stored_145 ?_
                      refine lv_lmul hx hb d_CM_stored_148 ?_
                      refine lv_iload hx hb d_CM_stored_149 (lv_at hl 7 rfl) ?_
                      refine lv_i2l (v := (nI w9).toInt64) hx hb d_CM_stored_151 rfl ?_
                      refine lv_ladd hx hb d_CM_stored_152 ?_
                      refine lv_lstore (lv' := [(9, .long ((((((((nI T).toInt64) * 64) + ((nI n).toInt64)) * 4) + ((nI s9).toInt64)) * 4) + ((nI w9).toInt64))), (7, .long (((mv_lf v) (256 * T + 4 * n + s9)).toInt64)), (6, .int 0), (5, .int (nI (256 * T + 4 * n + s9))), (0, .ref (ad 0)), (1, .int (nI T)), (2, .int (nI n)), (3, .int (nI s9)), (4, .int (nI w9))]) hx hb d_CM_stored_153 hl (by decide) rfl (fun ls hl => ?_)
                      refine lv_lload hx hb d_CM_stored_155 (lv_at hl 1 rfl) ?_
                      refine lv_aload_n hx hb d_CM_stored_157 rfl (lv_at hl 4 rfl) ?_
                      refine va_get (D := (dC, dI)) (ci := 4) (v := .long key) (C := R_CM) (T := F_CM) (N := 27) hx hb hT i_CM hown hK hP 0 rfl rfl 4 (by decide) (hT _ m_475) (fun _ h9 => h9) rfl d_CM_stored_158 ?_
                      refine lv_ldc2 (v := 1000003) hx hb hown (hT _ m_624) d_CM_stored_161 ?_
                      refine lv_lload hx hb d_CM_stored_164 (lv_at hl 0 rfl) ?_
                      refine lv_lmul hx hb d_CM_stored_166 ?_
                      refine lv_ladd hx hb d_CM_stored_167 ?_
                      refine lv_ldc2 (v := (-7046029254386353131)) hx hb hown (hT _ m_625) d_CM_stored_168 ?_
                      refine lv_aload_n hx hb d_CM_stored_171 rfl (lv_at hl 4 rfl) ?_
                      refine va_get (D := (dC, dI)) (ci := 4) (v := .ref (ad 4)) (C := R_CM) (T := F_CM) (N := 27) hx hb hT i_CM hown hK hP 0 rfl rfl 8 (by decide) (hT _ m_479) (fun _ h9 => h9) rfl d_CM_stored_172 ?_
                      refine lv_bipush (v := 64) hx hb d_CM_stored_175 (by decide) ?_
                      refine lv_iload_n hx hb d_CM_stored_177 rfl (lv_at hl 5 rfl) ?_
                      refine lv_imul hx hb d_CM_stored_178 ?_
                      refine W.eq (g2 := F0 m 179 ls [.int (nI (64 * T)), .ref (ad 4), .long (-7046029254386353131), .long (key + (1000003 * ((((((((nI T).toInt64) * 64) + ((nI n).toInt64)) * 4) + ((nI s9).toInt64)) * 4) + ((nI w9).toInt64)))), .long (((mv_lf v) (256 * T + 4 * n + s9)).toInt64)]) (congrArg (fun q9 : Int32 => F0 m 179 ls (.int q9 :: .ref (ad 4) :: .long (-7046029254386353131) :: .long (key + (1000003 * ((((((((nI T).toInt64) * 64) + ((nI n).toInt64)) * 4) + ((nI s9).toInt64)) * 4) + ((nI w9).toInt64)))) :: .long (((mv_lf v) (256 * T + 4 * n + s9)).toInt64) :: [])) (pk_mul 64 T)) ?_
                      refine lv_iload_n hx hb d_CM_stored_179 rfl (lv_at hl 6 rfl) ?_
                      refine lv_iadd hx hb d_CM_stored_180 ?_
                      refine W.eq (g2 := F0 m 181 ls [.int (nI ((64 * T) + n)), .ref (ad 4), .long (-7046029254386353131), .long (key + (1000003 * ((((((((nI T).toInt64) * 64) + ((nI n).toInt64)) * 4) + ((nI s9).toInt64)) * 4) + ((nI w9).toInt64)))), .long (((mv_lf v) (256 * T + 4 * n + s9)).toInt64)]) (congrArg (fun q9 : Int32 => F0 m 181 ls (.int q9 :: .ref (ad 4) :: .long (-7046029254386353131) :: .long (key + (1000003 * ((((((((nI T).toInt64) * 64) + ((nI n).toInt64)) * 4) + ((nI s9).toInt64)) * 4) + ((nI w9).toInt64)))) :: .long (((mv_lf v) (256 * T + 4 * n + s9)).toInt64) :: [])) (nI_add (64 * T) n)) ?_
                      refine va_iald hx hb hK hP 4 0 rfl rfl (vp_in_nI (n := ((64 * T) + n)) (by omega) (by omega)) d_CM_stored_181 ?_
                      refine W.eq (g2 := F0 m 182 ls [.int ((mv_ct v) ((64 * T) + n)), .long (-7046029254386353131), .long (key + (1000003 * ((((((((nI T).toInt64) * 64) + ((nI n).toInt64)) * 4) + ((nI s9).toInt64)) * 4) + ((nI w9).toInt64)))), .long (((mv_lf v) (256 * T + 4 * n + s9)).toInt64)]) (by rw [nI_clamp (n := ((64 * T) + n)) (by omega)] <;> rfl) ?_
                      refine lv_i2l (v := ((mv_ct v) ((64 * T) + n)).toInt64) hx hb d_CM_stored_182 rfl ?_
                      refine lv_lmul hx hb d_CM_stored_183 ?_
                      refine lv_ladd hx hb d_CM_stored_184 ?_
                      refine zc_l (va_runS (As := [.long ((key + (1000003 * ((((((((nI T).toInt64) * 64) + ((nI n).toInt64)) * 4) + ((nI s9).toInt64)) * 4) + ((nI w9).toInt64)))) + ((-7046029254386353131) * (((mv_ct v) ((64 * T) + n)).toInt64)))]) (rest := [.long (((mv_lf v) (256 * T + 4 * n + s9)).toInt64)]) ⟨hx, hb, hml, hown, hT⟩ (c_CM_mix ((key + (1000003 * ((((((((nI T).toInt64) * 64) + ((nI n).toInt64)) * 4) + ((nI s9).toInt64)) * 4) + ((nI w9).toInt64)))) + ((-7046029254386353131) * (((mv_ct v) ((64 * T) + n)).toInt64)))) (cwS 1 hT (gi_S m_628 m_626 m_627 m_27) rfl rfl rfl p_CM_mix ⟨Nat.le_of_ble_eq_true rfl, Nat.le_of_ble_eq_true rfl⟩) ⟨zP_blind, zP_pre hK⟩ rfl rfl hl.1 rfl (lv_room (Nat.le_of_ble_eq_true rfl)) d_CM_stored_185 ⟨Nat.le_refl _, Nat.le_refl _⟩) hS (fun locs hS => ?_)
                      refine lv_lxor hx hb d_CM_stored_188 ?_
                      exact W.lret hx hb hr (fun t9 ht _ => aQl_end (0, most, asked, td, tr, v, o) ⟨0, Or.inr ⟨rfl, T, n, s9, w9, hT2, rfl, hn1, hn2, rfl, by omega, rfl, by omega, rfl, by rw [hwd]; rfl⟩, rfl⟩ rfl hP hD hS ht) hS.2.2 d_CM_stored_189 hlocks
                  · have hw0 : w9 = 0 := (nI_eq (a := w9) (b := 0) (by omega) (by omega)).mp c_14
                    refine lv_aload_n hx hb d_CM_stored_90 rfl (lv_at hl 2 rfl) ?_
                    refine va_get (D := (dC, dI)) (ci := 4) (v := .ref (ad 1)) (C := R_CM) (T := F_CM) (N := 27) hx hb hT i_CM hown hK hP 0 rfl rfl 5 (by decide) (hT _ m_476) (fun _ h9 => h9) rfl d_CM_stored_91 ?_
                    refine lv_iload hx hb d_CM_stored_94 (lv_at hl 1 rfl) ?_
                    refine va_iald hx hb hK hP 1 0 rfl rfl (vp_in_nI (n := (256 * T + 4 * n + s9)) (by omega) (by omega)) d_CM_stored_96 ?_
                    refine W.eq (g2 := F0 m 97 ls [.int ((mv_bl v) (256 * T + 4 * n + s9))]) (by rw [nI_clamp (n := (256 * T + 4 * n + s9)) (by omega)] <;> rfl) ?_
                    refine lv_i2l (v := ((mv_bl v) (256 * T + 4 * n + s9)).toInt64) hx hb d_CM_stored_97 rfl ?_
                    refine lv_lconst (v := 1) hx hb d_CM_stored_98 (by decide) ?_
                    refine lv_ladd hx hb d_CM_stored_99 ?_
                    refine lv_goto (tgt := 127) hx hb d_CM_stored_100 (by decide) ?_
                    have hwd : mo_word v (256 * T + 4 * n + s9) w9 = ((((mv_bl v) (256 * T + 4 * n + s9)).toInt64) + 1) := by
                      unfold mo_word
                      first | rw [if_pos hbl] | rw [if_neg hbl, if_pos hw0] | rw [if_neg hbl, if_neg hw0, if_pos hw1] | rw [if_neg hbl, if_neg hw0, if_neg hw1]
                    refine lv_lstore (lv' := [(7, .long ((((mv_bl v) (256 * T + 4 * n + s9)).toInt64) + 1)), (6, .int 0), (5, .int (nI (256 * T + 4 * n + s9))), (0, .ref (ad 0)), (1, .int (nI T)), (2, .int (nI n)), (3, .int (nI s9)), (4, .int (nI w9))]) hx hb d_CM_stored_127 hl (by decide) rfl (fun ls hl => ?_)
                    refine lv_iload_n hx hb d_CM_stored_129 rfl (lv_at hl 4 rfl) ?_
                    refine lv_i2l (v := (nI T).toInt64) hx hb d_CM_stored_130 rfl ?_
                    refine lv_ldc2 (v := 64) hx hb hown (hT _ m_622) d_CM_stored_131 ?_
                    refine lv_lmul hx hb d_CM_stored_134 ?_
                    refine lv_iload_n hx hb d_CM_stored_135 rfl (lv_at hl 5 rfl) ?_
                    refine lv_i2l (v := (nI n).toInt64) hx hb d_CM_stored_136 rfl ?_
                    refine lv_ladd hx hb d_CM_stored_137 ?_
                    refine lv_ldc2 (v := 4) hx hb hown (hT _ m_623) d_CM_stored_138 ?_
                    refine lv_lmul hx hb d_CM_stored_141 ?_
                    refine lv_iload_n hx hb d_CM_stored_142 rfl (lv_at hl 6 rfl) ?_
                    refine lv_i2l (v := (nI s9).toInt64) hx hb d_CM_stored_143 rfl ?_
                    refine lv_ladd hx hb d_CM_stored_144 ?_
                    refine lv_ldc2 (v := 4) hx hb hown (hT _ m_623) d_CM_stored_145 ?_
                    refine lv_lmul hx hb d_CM_stored_148 ?_
                    refine lv_iload hx hb d_CM_stored_149 (lv_at hl 7 rfl) ?_
                    refine lv_i2l (v := (nI w9).toInt64) hx hb d_CM_stored_151 rfl ?_
                    refine lv_ladd hx hb d_CM_stored_152 ?_
                    refine lv_lstore (lv' := [(9, .long ((((((((nI T).toInt64) * 64) + ((nI n).toInt64)) * 4) + ((nI s9).toInt64)) * 4) + ((nI w9).toInt64))), (7, .long ((((mv_bl v) (256 * T + 4 * n + s9)).toInt64) + 1)), (6, .int 0), (5, .int (nI (256 * T + 4 * n + s9))), (0, .ref (ad 0)), (1, .int (nI T)), (2, .int (nI n)), (3, .int (nI s9)), (4, .int (nI w9))]) hx hb d_CM_stored_153 hl (by decide) rfl (fun ls hl => ?_)
                    refine lv_lload hx hb d_CM_stored_155 (lv_at hl 1 rfl) ?_
                    refine lv_aload_n hx hb d_CM_stored_157 rfl (lv_at hl 4 rfl) ?_
                    refine va_get (D := (dC, dI)) (ci := 4) (v := .long key) (C := R_CM) (T := F_CM) (N := 27) hx hb hT i_CM hown hK hP 0 rfl rfl 4 (by decide) (hT _ m_475) (fun _ h9 => h9) rfl d_CM_stored_158 ?_
                    refine lv_ldc2 (v := 1000003) hx hb hown (hT _ m_624) d_CM_stored_161 ?_
                    refine lv_lload hx hb d_CM_stored_164 (lv_at hl 0 rfl) ?_
                    refine lv_lmul hx hb d_CM_stored_166 ?_
                    refine lv_ladd hx hb d_CM_stored_167 ?_
                    refine lv_ldc2 (v := (-7046029254386353131)) hx hb hown (hT _ m_625) d_CM_stored_168 ?_
                    refine lv_aload_n hx hb d_CM_stored_171 rfl (lv_at hl 4 rfl) ?_
                    refine va_get (D := (dC, dI)) (ci := 4) (v := .ref (ad 4)) (C := R_CM) (T := F_CM) (N := 27) hx hb hT i_CM hown hK hP 0 rfl rfl 8 (by decide) (hT _ m_479) (fun _ h9 => h9) rfl d_CM_stored_172 ?_
                    refine lv_bipush (v := 64) hx hb d_CM_stored_175 (by decide) ?_
                    refine lv_iload_n hx hb d_CM_stored_177 rfl (lv_at hl 5 rfl) ?_
                    refine lv_imul hx hb d_CM_stored_178 ?_
                    refine W.eq (g2 := F0 m 179 ls [.int (nI (64 * T)), .ref (ad 4), .long (-7046029254386353131), .long (key + (1000003 * ((((((((nI T).toInt64) * 64) + ((nI n).toInt64)) * 4) + ((nI s9).toInt64)) * 4) + ((nI w9).toInt64)))), .long ((((mv_bl v) (256 * T + 4 * n + s9)).toInt64) + 1)]) (congrArg (fun q9 : Int32 => F0 m 179 ls (.int q9 :: .ref (ad 4) :: .long (-7046029254386353131) :: .long (key + (1000003 * ((((((((nI T).toInt64) * 64) + ((nI n).toInt64)) * 4) + ((nI s9).toInt64)) * 4) + ((nI w9).toInt64)))) :: .long ((((mv_bl v) (256 * T + 4 * n + s9)).toInt64) + 1) :: [])) (pk_mul 64 T)) ?_
                    refine lv_iload_n hx hb d_CM_stored_179 rfl (lv_at hl 6 rfl) ?_
                    refine lv_iadd hx hb d_CM_stored_180 ?_
                    refine W.eq (g2 := F0 m 181 ls [.int (nI ((64 * T) + n)), .ref (ad 4), .long (-7046029254386353131), .long (key + (1000003 * ((((((((nI T).toInt64) * 64) + ((nI n).toInt64)) * 4) + ((nI s9).toInt64)) * 4) + ((nI w9).toInt64)))), .long ((((mv_bl v) (256 * T + 4 * n + s9)).toInt64) + 1)]) (congrArg (fun q9 : Int32 => F0 m 181 ls (.int q9 :: .ref (ad 4) :: .long (-7046029254386353131) :: .long (key + (1000003 * ((((((((nI T).toInt64) * 64) + ((nI n).toInt64)) * 4) + ((nI s9).toInt64)) * 4) + ((nI w9).toInt64)))) :: .long ((((mv_bl v) (256 * T + 4 * n + s9)).toInt64) + 1) :: [])) (nI_add (64 * T) n)) ?_
                    refine va_iald hx hb hK hP 4 0 rfl rfl (vp_in_nI (n := ((64 * T) + n)) (by omega) (by omega)) d_CM_stored_181 ?_
                    refine W.eq (g2 := F0 m 182 ls [.int ((mv_ct v) ((64 * T) + n)), .long (-7046029254386353131), .long (key + (1000003 * ((((((((nI T).toInt64) * 64) + ((nI n).toInt64)) * 4) + ((nI s9).toInt64)) * 4) + ((nI w9).toInt64)))), .long ((((mv_bl v) (256 * T + 4 * n + s9)).toInt64) + 1)]) (by rw [nI_clamp (n := ((64 * T) + n)) (by omega)] <;> rfl) ?_
                    refine lv_i2l (v := ((mv_ct v) ((64 * T) + n)).toInt64) hx hb d_CM_stored_182 rfl ?_
                    refine lv_lmul hx hb d_CM_stored_183 ?_
                    refine lv_ladd hx hb d_CM_stored_184 ?_
                    refine zc_l (va_runS (As := [.long ((key + (1000003 * ((((((((nI T).toInt64) * 64) + ((nI n).toInt64)) * 4) + ((nI s9).toInt64)) * 4) + ((nI w9).toInt64)))) + ((-7046029254386353131) * (((mv_ct v) ((64 * T) + n)).toInt64)))]) (rest := [.long ((((mv_bl v) (256 * T + 4 * n + s9)).toInt64) + 1)]) ⟨hx, hb, hml, hown, hT⟩ (c_CM_mix ((key + (1000003 * ((((((((nI T).toInt64) * 64) + ((nI n).toInt64)) * 4) + ((nI s9).toInt64)) * 4) + ((nI w9).toInt64)))) + ((-7046029254386353131) * (((mv_ct v) ((64 * T) + n)).toInt64)))) (cwS 1 hT (gi_S m_628 m_626 m_627 m_27) rfl rfl rfl p_CM_mix ⟨Nat.le_of_ble_eq_true rfl, Nat.le_of_ble_eq_true rfl⟩) ⟨zP_blind, zP_pre hK⟩ rfl rfl hl.1 rfl (lv_room (Nat.le_of_ble_eq_true rfl)) d_CM_stored_185 ⟨Nat.le_refl _, Nat.le_refl _⟩) hS (fun locs hS => ?_)
                    refine lv_lxor hx hb d_CM_stored_188 ?_
                    exact W.lret hx hb hr (fun t9 ht _ => aQl_end (0, most, asked, td, tr, v, o) ⟨0, Or.inr ⟨rfl, T, n, s9, w9, hT2, rfl, hn1, hn2, rfl, by omega, rfl, by omega, rfl, by rw [hwd]; rfl⟩, rfl⟩ rfl hP hD hS ht) hS.2.2 d_CM_stored_189 hlocks
                · exact absurd rfl c_13
              · have hbl : mv_bl v (256 * T + 4 * n + s9) = -1 := c_12
                refine lv_iconst (v := 1) hx hb d_CM_stored_69 (by decide) ?_
                refine lv_goto (tgt := 74) hx hb d_CM_stored_70 (by decide) ?_
                refine lv_istore (lv' := [(6, .int 1), (5, .int (nI (256 * T + 4 * n + s9))), (0, .ref (ad 0)), (1, .int (nI T)), (2, .int (nI n)), (3, .int (nI s9)), (4, .int (nI w9))]) hx hb d_CM_stored_74 hl (by decide) rfl (fun ls hl => ?_)
                refine lv_iload hx hb d_CM_stored_76 (lv_at hl 0 rfl) ?_
                refine lv_if_eq (tgt := 85) hx hb d_CM_stored_78 (by decide) (fun c_16 => ?_) (fun c_16 => ?_)
                · exact absurd c_16 (by decide)
                · refine lv_lconst (v := 0) hx hb d_CM_stored_81 (by decide) ?_
                  refine lv_goto (tgt := 127) hx hb d_CM_stored_82 (by decide) ?_
                  have hwd : mo_word v (256 * T + 4 * n + s9) w9 = 0 := by
                    unfold mo_word
                    first | rw [if_pos hbl] | rw [if_neg hbl, if_pos hw0] | rw [if_neg hbl, if_neg hw0, if_pos hw1] | rw [if_neg hbl, if_neg hw0, if_neg hw1]
                  refine lv_lstore (lv' := [(7, .long 0), (6, .int 1), (5, .int (nI (256 * T + 4 * n + s9))), (0, .ref (ad 0)), (1, .int (nI T)), (2, .int (nI n)), (3, .int (nI s9)), (4, .int (nI w9))]) hx hb d_CM_stored_127 hl (by decide) rfl (fun ls hl => ?_)
                  refine lv_iload_n hx hb d_CM_stored_129 rfl (lv_at hl 4 rfl) ?_
                  refine lv_i2l (v := (nI T).toInt64) hx hb d_CM_stored_130 rfl ?_
                  refine lv_ldc2 (v := 64) hx hb hown (hT _ m_622) d_CM_stored_131 ?_
                  refine lv_lmul hx hb d_CM_stored_134 ?_
                  refine lv_iload_n hx hb d_CM_stored_135 rfl (lv_at hl 5 rfl) ?_
                  refine lv_i2l (v := (nI n).toInt64) hx hb d_CM_stored_136 rfl ?_
                  refine lv_ladd hx hb d_CM_stored_137 ?_
                  refine lv_ldc2 (v := 4) hx hb hown (hT _ m_623) d_CM_stored_138 ?_
                  refine lv_lmul hx hb d_CM_stored_141 ?_
                  refine lv_iload_n hx hb d_CM_stored_142 rfl (lv_at hl 6 rfl) ?_
                  refine lv_i2l (v := (nI s9).toInt64) hx hb d_CM_stored_143 rfl ?_
                  refine lv_ladd hx hb d_CM_stored_144 ?_
                  refine lv_ldc2 (v := 4) hx hb hown (hT _ m_623) d_CM_stored_145 ?_
                  refine lv_lmul hx hb d_CM_stored_148 ?_
                  refine lv_iload hx hb d_CM_stored_149 (lv_at hl 7 rfl) ?_
                  refine lv_i2l (v := (nI w9).toInt64) hx hb d_CM_stored_151 rfl ?_
                  refine lv_ladd hx hb d_CM_stored_152 ?_
                  refine lv_lstore (lv' := [(9, .long ((((((((nI T).toInt64) * 64) + ((nI n).toInt64)) * 4) + ((nI s9).toInt64)) * 4) + ((nI w9).toInt64))), (7, .long 0), (6, .int 1), (5, .int (nI (256 * T + 4 * n + s9))), (0, .ref (ad 0)), (1, .int (nI T)), (2, .int (nI n)), (3, .int (nI s9)), (4, .int (nI w9))]) hx hb d_CM_stored_153 hl (by decide) rfl (fun ls hl => ?_)
                  refine lv_lload hx hb d_CM_stored_155 (lv_at hl 1 rfl) ?_
                  refine lv_aload_n hx hb d_CM_stored_157 rfl (lv_at hl 4 rfl) ?_
                  refine va_get (D := (dC, dI)) (ci := 4) (v := .long key) (C := R_CM) (T := F_CM) (N := 27) hx hb hT i_CM hown hK hP 0 rfl rfl 4 (by decide) (hT _ m_475) (fun _ h9 => h9) rfl d_CM_stored_158 ?_
                  refine lv_ldc2 (v := 1000003) hx hb hown (hT _ m_624) d_CM_stored_161 ?_
                  refine lv_lload hx hb d_CM_stored_164 (lv_at hl 0 rfl) ?_
                  refine lv_lmul hx hb d_CM_stored_166 ?_
                  refine lv_ladd hx hb d_CM_stored_167 ?_
                  refine lv_ldc2 (v := (-7046029254386353131)) hx hb hown (hT _ m_625) d_CM_stored_168 ?_
                  refine lv_aload_n hx hb d_CM_stored_171 rfl (lv_at hl 4 rfl) ?_
                  refine va_get (D := (dC, dI)) (ci := 4) (v := .ref (ad 4)) (C := R_CM) (T := F_CM) (N := 27) hx hb hT i_CM hown hK hP 0 rfl rfl 8 (by decide) (hT _ m_479) (fun _ h9 => h9) rfl d_CM_stored_172 ?_
                  refine lv_bipush (v := 64) hx hb d_CM_stored_175 (by decide) ?_
                  refine lv_iload_n hx hb d_CM_stored_177 rfl (lv_at hl 5 rfl) ?_
                  refine lv_imul hx hb d_CM_stored_178 ?_
                  refine W.eq (g2 := F0 m 179 ls [.int (nI (64 * T)), .ref (ad 4), .long (-7046029254386353131), .long (key + (1000003 * ((((((((nI T).toInt64) * 64) + ((nI n).toInt64)) * 4) + ((nI s9).toInt64)) * 4) + ((nI w9).toInt64)))), .long 0]) (congrArg (fun q9 : Int32 => F0 m 179 ls (.int q9 :: .ref (ad 4) :: .long (-7046029254386353131) :: .long (key + (1000003 * ((((((((nI T).toInt64) * 64) + ((nI n).toInt64)) * 4) + ((nI s9).toInt64)) * 4) + ((nI w9).toInt64)))) :: .long 0 :: [])) (pk_mul 64 T)) ?_
                  refine lv_iload_n hx hb d_CM_stored_179 rfl (lv_at hl 6 rfl) ?_
                  refine lv_iadd hx hb d_CM_stored_180 ?_
                  refine W.eq (g2 := F0 m 181 ls [.int (nI ((64 * T) + n)), .ref (ad 4), .long (-7046029254386353131), .long (key + (1000003 * ((((((((nI T).toInt64) * 64) + ((nI n).toInt64)) * 4) + ((nI s9).toInt64)) * 4) + ((nI w9).toInt64)))), .long 0]) (congrArg (fun q9 : Int32 => F0 m 181 ls (.int q9 :: .ref (ad 4) :: .long (-7046029254386353131) :: .long (key + (1000003 * ((((((((nI T).toInt64) * 64) + ((nI n).toInt64)) * 4) + ((nI s9).toInt64)) * 4) + ((nI w9).toInt64)))) :: .long 0 :: [])) (nI_add (64 * T) n)) ?_
                  refine va_iald hx hb hK hP 4 0 rfl rfl (vp_in_nI (n := ((64 * T) + n)) (by omega) (by omega)) d_CM_stored_181 ?_
                  refine W.eq (g2 := F0 m 182 ls [.int ((mv_ct v) ((64 * T) + n)), .long (-7046029254386353131), .long (key + (1000003 * ((((((((nI T).toInt64) * 64) + ((nI n).toInt64)) * 4) + ((nI s9).toInt64)) * 4) + ((nI w9).toInt64)))), .long 0]) (by rw [nI_clamp (n := ((64 * T) + n)) (by omega)] <;> rfl) ?_
                  refine lv_i2l (v := ((mv_ct v) ((64 * T) + n)).toInt64) hx hb d_CM_stored_182 rfl ?_
                  refine lv_lmul hx hb d_CM_stored_183 ?_
                  refine lv_ladd hx hb d_CM_stored_184 ?_
                  refine zc_l (va_runS (As := [.long ((key + (1000003 * ((((((((nI T).toInt64) * 64) + ((nI n).toInt64)) * 4) + ((nI s9).toInt64)) * 4) + ((nI w9).toInt64)))) + ((-7046029254386353131) * (((mv_ct v) ((64 * T) + n)).toInt64)))]) (rest := [.long 0]) ⟨hx, hb, hml, hown, hT⟩ (c_CM_mix ((key + (1000003 * ((((((((nI T).toInt64) * 64) + ((nI n).toInt64)) * 4) + ((nI s9).toInt64)) * 4) + ((nI w9).toInt64)))) + ((-7046029254386353131) * (((mv_ct v) ((64 * T) + n)).toInt64)))) (cwS 1 hT (gi_S m_628 m_626 m_627 m_27) rfl rfl rfl p_CM_mix ⟨Nat.le_of_ble_eq_true rfl, Nat.le_of_ble_eq_true rfl⟩) ⟨zP_blind, zP_pre hK⟩ rfl rfl hl.1 rfl (lv_room (Nat.le_of_ble_eq_true rfl)) d_CM_stored_185 ⟨Nat.le_refl _, Nat.le_refl _⟩) hS (fun locs hS => ?_)
                  refine lv_lxor hx hb d_CM_stored_188 ?_
                  exact W.lret hx hb hr (fun t9 ht _ => aQl_end (0, most, asked, td, tr, v, o) ⟨0, Or.inr ⟨rfl, T, n, s9, w9, hT2, rfl, hn1, hn2, rfl, by omega, rfl, by omega, rfl, by rw [hwd]; rfl⟩, rfl⟩ rfl hP hD hS ht) hS.2.2 d_CM_stored_189 hlocks
            · exact absurd (by decide) c_11

set_option maxHeartbeats 8000000 in
set_option maxRecDepth 100000 in
/-- CoinTreeModel.count -/
theorem c_CM_count {l : Launch} {dC : Nat → ClassId} {dI : Nat → Nat → Nat} {cI cJ : ClassId} {A : Nat → Prop} {ad : Nat → Nat} {L S C : Nat} {key : Int64} {th most asked : Int32} {td : Nat} {tr : Nat → Int32} {v o : Mv} (ok : mk_ok L S C) (wh : Int32) : Met l y_CM_count (k_CM_count :: bw) { frames := 2, cells := 0, slots := 0, locals := 42 } (mP (dC, dI) kCl [(cI, .int), (cJ, .long)] [.ref (ad 0), .int wh] (mw_ cI cJ ad L S C key th most asked td tr (v) (o)) A) (aQi (dC, dI) kCl (fun u => mzw cI cJ ad L S C key u) (fun r u => ∃ th', mo_count L S C most asked td v wh r th' ∧ u = (th', most, asked, td, tr, v, o)) A) 0 0 A := by
  refine Met.ofZ (own := "CoinTreeModel") (by decide) rfl [.ref (ad 0), .int wh] (Nat.le_of_ble_eq_true rfl) (fun _ _ h => h.1) ?_
  intro p e s m below meth c ls C0 hv hl
  obtain ⟨hx, hb, hr, hml, hown, hT, hlocks⟩ := C0
  obtain ⟨-, hP, hK, hD⟩ := hv
  have hS : va_S A s.heap s.heap [] := va_S.rf
  have hl : lv_has ls 2 [(0, .ref (ad 0)), (1, .int wh)] := hl
  obtain ⟨qL1, qL5, qS1, qS4, qC⟩ := id ok
  
  refine lv_aload_n hx hb d_CM_count_0 rfl (lv_at hl 0 rfl) ?_
  refine lv_iload_n hx hb d_CM_count_1 rfl (lv_at hl 1 rfl) ?_
  refine lv_if_lt (tgt := 15) hx hb d_CM_count_2 (by decide) (fun c_1 => ?_) (fun c_1 => ?_)
  · have hbad := (show wh < 0 ∨ 8 < wh from Or.inl c_1)
    refine lv_iconst (v := 1) hx hb d_CM_count_15 (by decide) ?_
    refine va_put (D := (dC, dI)) (ci := 4) (v := .int 1) (ty := .int) (C := R_CM) (T := F_CM) (N := 27) hx hb hT i_CM t_CM t_CM_ok n_CM hown hK hP hD hS 0 rfl rfl 0 (by decide) (hT _ m_471) (fun _ h9 => h9) rfl (by decide +kernel) rfl rfl (Nat.le_of_ble_eq_true rfl) d_CM_count_16 (fun H locs hP hD hS => ?_)
    have hP : va_P (dC, dI) kCl (mw_ cI cJ ad L S C key 1 most asked td tr (v) (o)) H := hP
    have hD : va_D A (mw_ cI cJ ad L S C key 1 most asked td tr (v) (o)) := hD
    refine lv_iload_n hx hb d_CM_count_19 rfl (lv_at hl 1 rfl) ?_
    refine lv_tableOut (tgt := 118) hx hb d_CM_count_20 (sw_out hbad) (by decide) ?_
    refine lv_iconst (v := 0) hx hb d_CM_count_118 (by decide) ?_
    exact W.iret hx hb hr (fun t9 ht _ => aQi_end (1, most, asked, td, tr, v, o) ⟨1, Or.inl ⟨rfl, rfl, hbad⟩, rfl⟩ rfl hP hD hS ht) hS.2.2 d_CM_count_119 hlocks
  · have h2 := c_1
    refine lv_iload_n hx hb d_CM_count_5 rfl (lv_at hl 1 rfl) ?_
    refine lv_bipush (v := 8) hx hb d_CM_count_6 (by decide) ?_
    refine lv_icmp_gt (tgt := 15) hx hb d_CM_count_8 (by decide) (fun c_2 => ?_) (fun c_2 => ?_)
    · have hbad := (show wh < 0 ∨ 8 < wh from Or.inr c_2)
      refine lv_iconst (v := 1) hx hb d_CM_count_15 (by decide) ?_
      refine va_put (D := (dC, dI)) (ci := 4) (v := .int 1) (ty := .int) (C := R_CM) (T := F_CM) (N := 27) hx hb hT i_CM t_CM t_CM_ok n_CM hown hK hP hD hS 0 rfl rfl 0 (by decide) (hT _ m_471) (fun _ h9 => h9) rfl (by decide +kernel) rfl rfl (Nat.le_of_ble_eq_true rfl) d_CM_count_16 (fun H locs hP hD hS => ?_)
      have hP : va_P (dC, dI) kCl (mw_ cI cJ ad L S C key 1 most asked td tr (v) (o)) H := hP
      have hD : va_D A (mw_ cI cJ ad L S C key 1 most asked td tr (v) (o)) := hD
      refine lv_iload_n hx hb d_CM_count_19 rfl (lv_at hl 1 rfl) ?_
      refine lv_tableOut (tgt := 118) hx hb d_CM_count_20 (sw_out hbad) (by decide) ?_
      refine lv_iconst (v := 0) hx hb d_CM_count_118 (by decide) ?_
      exact W.iret hx hb hr (fun t9 ht _ => aQi_end (1, most, asked, td, tr, v, o) ⟨1, Or.inl ⟨rfl, rfl, hbad⟩, rfl⟩ rfl hP hD hS ht) hS.2.2 d_CM_count_119 hlocks
    · have h8 : ¬ 8 < wh := c_2
      refine lv_iconst (v := 0) hx hb d_CM_count_11 (by decide) ?_
      refine lv_goto (tgt := 16) hx hb d_CM_count_12 (by decide) ?_
      refine va_put (D := (dC, dI)) (ci := 4) (v := .int 0) (ty := .int) (C := R_CM) (T := F_CM) (N := 27) hx hb hT i_CM t_CM t_CM_ok n_CM hown hK hP hD hS 0 rfl rfl 0 (by decide) (hT _ m_471) (fun _ h9 => h9) rfl (by decide +kernel) rfl rfl (Nat.le_of_ble_eq_true rfl) d_CM_count_16 (fun H locs hP hD hS => ?_)
      have hP : va_P (dC, dI) kCl (mw_ cI cJ ad L S C key 0 most asked td tr (v) (o)) H := hP
      have hD : va_D A (mw_ cI cJ ad L S C key 0 most asked td tr (v) (o)) := hD
      refine lv_iload_n hx hb d_CM_count_19 rfl (lv_at hl 1 rfl) ?_
      obtain ⟨k, hk, rfl⟩ := sw_in (fun h => h.elim h2 (fun h => h8 h))
      rcases (show k = 0 ∨ k = 1 ∨ k = 2 ∨ k = 3 ∨ k = 4 ∨ k = 5 ∨ k = 6 ∨ k = 7 ∨ k = 8 by omega) with rfl | rfl | rfl | rfl | rfl | rfl | rfl | rfl | rfl
      · refine lv_tableIn (off := 52) (tgt := 72) hx hb d_CM_count_20 (by decide +kernel) (by decide +kernel) (by decide +kernel) (by decide) ?_
        refine lv_aload_n hx hb d_CM_count_72 rfl (lv_at hl 0 rfl) ?_
        refine lv_iconst (v := 0) hx hb d_CM_count_73 (by decide) ?_
        refine zc_i (va_runV (As := [.int 0]) (rest := []) ⟨hx, hb, hml, hown, hT⟩ (c_CM_leavesOf ok hP 0 (by omega)) (cwV 1 hT (gi_V m_466 m_463 m_465 m_9 m_27) rfl rfl rfl p_CM_leavesOf ⟨Nat.le_of_ble_eq_true rfl, Nat.le_of_ble_eq_true rfl⟩) ⟨zP_blind, va_recv hK hP (ci := 4) (q0 := 0) rfl rfl, zP_pre hK⟩ rfl rfl hl.1 rfl (lv_room (Nat.le_of_ble_eq_true rfl)) d_CM_count_74 ⟨Nat.le_refl _, Nat.le_refl _⟩) hS (fun locs hS => ?_)
        exact W.iret hx hb hr (fun t9 ht _ => aQi_end (0, most, asked, td, tr, v, o) ⟨0, Or.inr ⟨rfl, 0, by decide, rfl, by rw [mL_a (L := L) (T := 0) rfl]; rfl⟩, rfl⟩ rfl hP hD hS ht) hS.2.2 d_CM_count_77 hlocks
      · refine lv_tableIn (off := 58) (tgt := 78) hx hb d_CM_count_20 (by decide +kernel) (by decide +kernel) (by decide +kernel) (by decide) ?_
        refine lv_aload_n hx hb d_CM_count_78 rfl (lv_at hl 0 rfl) ?_
        refine lv_iconst (v := 1) hx hb d_CM_count_79 (by decide) ?_
        refine zc_i (va_runV (As := [.int 1]) (rest := []) ⟨hx, hb, hml, hown, hT⟩ (c_CM_leavesOf ok hP 1 (by omega)) (cwV 1 hT (gi_V m_466 m_463 m_465 m_9 m_27) rfl rfl rfl p_CM_leavesOf ⟨Nat.le_of_ble_eq_true rfl, Nat.le_of_ble_eq_true rfl⟩) ⟨zP_blind, va_recv hK hP (ci := 4) (q0 := 0) rfl rfl, zP_pre hK⟩ rfl rfl hl.1 rfl (lv_room (Nat.le_of_ble_eq_true rfl)) d_CM_count_80 ⟨Nat.le_refl _, Nat.le_refl _⟩) hS (fun locs hS => ?_)
        exact W.iret hx hb hr (fun t9 ht _ => aQi_end (0, most, asked, td, tr, v, o) ⟨0, Or.inr ⟨rfl, 1, by decide, rfl, rfl⟩, rfl⟩ rfl hP hD hS ht) hS.2.2 d_CM_count_83 hlocks
      · refine lv_tableIn (off := 64) (tgt := 84) hx hb d_CM_count_20 (by decide +kernel) (by decide +kernel) (by decide +kernel) (by decide) ?_
        refine lv_aload_n hx hb d_CM_count_84 rfl (lv_at hl 0 rfl) ?_
        refine va_get (D := (dC, dI)) (ci := 4) (v := .int (nI S)) (C := R_CM) (T := F_CM) (N := 27) hx hb hT i_CM hown hK hP 0 rfl rfl 2 (by decide) (hT _ m_473) (fun _ h9 => h9) rfl d_CM_count_85 ?_
        exact W.iret hx hb hr (fun t9 ht _ => aQi_end (0, most, asked, td, tr, v, o) ⟨0, Or.inr ⟨rfl, 2, by decide, rfl, rfl⟩, rfl⟩ rfl hP hD hS ht) hS.2.2 d_CM_count_88 hlocks
      · refine lv_tableIn (off := 69) (tgt := 89) hx hb d_CM_count_20 (by decide +kernel) (by decide +kernel) (by decide +kernel) (by decide) ?_
        refine lv_aload_n hx hb d_CM_count_89 rfl (lv_at hl 0 rfl) ?_
        refine va_get (D := (dC, dI)) (ci := 4) (v := .int (nI C)) (C := R_CM) (T := F_CM) (N := 27) hx hb hT i_CM hown hK hP 0 rfl rfl 3 (by decide) (hT _ m_474) (fun _ h9 => h9) rfl d_CM_count_90 ?_
        exact W.iret hx hb hr (fun t9 ht _ => aQi_end (0, most, asked, td, tr, v, o) ⟨0, Or.inr ⟨rfl, 3, by decide, rfl, rfl⟩, rfl⟩ rfl hP hD hS ht) hS.2.2 d_CM_count_93 hlocks
      · refine lv_tableIn (off := 74) (tgt := 94) hx hb d_CM_count_20 (by decide +kernel) (by decide +kernel) (by decide +kernel) (by decide) ?_
        refine lv_aload_n hx hb d_CM_count_94 rfl (lv_at hl 0 rfl) ?_
        refine va_get (D := (dC, dI)) (ci := 4) (v := .ref (ad 8)) (C := R_CM) (T := F_CM) (N := 27) hx hb hT i_CM hown hK hP 0 rfl rfl 12 (by decide) (hT _ m_483) (fun _ h9 => h9) rfl d_CM_count_95 ?_
        refine lv_iload_n hx hb d_CM_count_98 rfl (lv_at hl 1 rfl) ?_
        refine lv_iconst (v := 4) hx hb d_CM_count_99 (by decide) ?_
        refine lv_isub hx hb d_CM_count_100 ?_
        refine W.eq (g2 := F0 m 101 ls [.int (nI (4 - 4)), .ref (ad 8)]) (congrArg (fun q9 : Int32 => F0 m 101 ls (.int q9 :: .ref (ad 8) :: [])) (pk_sub (a := 4) (b := 4) (by omega))) ?_
        refine va_iald hx hb hK hP 8 0 rfl rfl (vp_in_nI (n := (4 - 4)) (by omega) (by omega)) d_CM_count_101 ?_
        refine W.eq (g2 := F0 m 102 ls [.int (nI ((mv_sz v) (4 - 4)))]) (by rw [nI_clamp (n := (4 - 4)) (by omega)] <;> rfl) ?_
        exact W.iret hx hb hr (fun t9 ht _ => aQi_end (0, most, asked, td, tr, v, o) ⟨0, Or.inr ⟨rfl, 4, by decide, rfl, rfl⟩, rfl⟩ rfl hP hD hS ht) hS.2.2 d_CM_count_102 hlocks
      · refine lv_tableIn (off := 74) (tgt := 94) hx hb d_CM_count_20 (by decide +kernel) (by decide +kernel) (by decide +kernel) (by decide) ?_
        refine lv_aload_n hx hb d_CM_count_94 rfl (lv_at hl 0 rfl) ?_
        refine va_get (D := (dC, dI)) (ci := 4) (v := .ref (ad 8)) (C := R_CM) (T := F_CM) (N := 27) hx hb hT i_CM hown hK hP 0 rfl rfl 12 (by decide) (hT _ m_483) (fun _ h9 => h9) rfl d_CM_count_95 ?_
        refine lv_iload_n hx hb d_CM_count_98 rfl (lv_at hl 1 rfl) ?_
        refine lv_iconst (v := 4) hx hb d_CM_count_99 (by decide) ?_
        refine lv_isub hx hb d_CM_count_100 ?_
        refine W.eq (g2 := F0 m 101 ls [.int (nI (5 - 4)), .ref (ad 8)]) (congrArg (fun q9 : Int32 => F0 m 101 ls (.int q9 :: .ref (ad 8) :: [])) (pk_sub (a := 5) (b := 4) (by omega))) ?_
        refine va_iald hx hb hK hP 8 0 rfl rfl (vp_in_nI (n := (5 - 4)) (by omega) (by omega)) d_CM_count_101 ?_
        refine W.eq (g2 := F0 m 102 ls [.int (nI ((mv_sz v) (5 - 4)))]) (by rw [nI_clamp (n := (5 - 4)) (by omega)] <;> rfl) ?_
        exact W.iret hx hb hr (fun t9 ht _ => aQi_end (0, most, asked, td, tr, v, o) ⟨0, Or.inr ⟨rfl, 5, by decide, rfl, rfl⟩, rfl⟩ rfl hP hD hS ht) hS.2.2 d_CM_count_102 hlocks
      · refine lv_tableIn (off := 83) (tgt := 103) hx hb d_CM_count_20 (by decide +kernel) (by decide +kernel) (by decide +kernel) (by decide) ?_
        refine lv_aload_n hx hb d_CM_count_103 rfl (lv_at hl 0 rfl) ?_
        refine va_get (D := (dC, dI)) (ci := 4) (v := .int most) (C := R_CM) (T := F_CM) (N := 27) hx hb hT i_CM hown hK hP 0 rfl rfl 14 (by decide) (hT _ m_485) (fun _ h9 => h9) rfl d_CM_count_104 ?_
        exact W.iret hx hb hr (fun t9 ht _ => aQi_end (0, most, asked, td, tr, v, o) ⟨0, Or.inr ⟨rfl, 6, by decide, rfl, rfl⟩, rfl⟩ rfl hP hD hS ht) hS.2.2 d_CM_count_107 hlocks
      · refine lv_tableIn (off := 88) (tgt := 108) hx hb d_CM_count_20 (by decide +kernel) (by decide +kernel) (by decide +kernel) (by decide) ?_
        refine lv_aload_n hx hb d_CM_count_108 rfl (lv_at hl 0 rfl) ?_
        refine va_get (D := (dC, dI)) (ci := 4) (v := .int asked) (C := R_CM) (T := F_CM) (N := 27) hx hb hT i_CM hown hK hP 0 rfl rfl 15 (by decide) (hT _ m_486) (fun _ h9 => h9) rfl d_CM_count_109 ?_
        exact W.iret hx hb hr (fun t9 ht _ => aQi_end (0, most, asked, td, tr, v, o) ⟨0, Or.inr ⟨rfl, 7, by decide, rfl, rfl⟩, rfl⟩ rfl hP hD hS ht) hS.2.2 d_CM_count_112 hlocks
      · refine lv_tableIn (off := 93) (tgt := 113) hx hb d_CM_count_20 (by decide +kernel) (by decide +kernel) (by decide +kernel) (by decide) ?_
        refine lv_aload_n hx hb d_CM_count_113 rfl (lv_at hl 0 rfl) ?_
        refine va_get (D := (dC, dI)) (ci := 4) (v := .int (nI td)) (C := R_CM) (T := F_CM) (N := 27) hx hb hT i_CM hown hK hP 0 rfl rfl 17 (by decide) (hT _ m_488) (fun _ h9 => h9) rfl d_CM_count_114 ?_
        exact W.iret hx hb hr (fun t9 ht _ => aQi_end (0, most, asked, td, tr, v, o) ⟨0, Or.inr ⟨rfl, 8, by decide, rfl, rfl⟩, rfl⟩ rfl hP hD hS ht) hS.2.2 d_CM_count_117 hlocks
