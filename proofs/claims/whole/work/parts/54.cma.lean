set_option maxHeartbeats 8000000 in
set_option maxRecDepth 100000 in
/-- CoinTreeModel.ask -/
theorem c_CM_ask {l : Launch} {dC : Nat → ClassId} {dI : Nat → Nat → Nat} {cI cJ : ClassId} {A : Nat → Prop} {ad : Nat → Nat} {L S C : Nat} {key : Int64} {th most asked : Int32} {td : Nat} {tr : Nat → Int32} {v o : Mv} (ok : mk_ok L S C) (hz0 : mv_sz v 0 ≤ 40) (hz1 : mv_sz v 1 ≤ 40) (htd : td < 600) (hml9 : ∀ i, i < 16 → ∃ q, q < 2 ^ mL L 1 ∧ mv_ml v i = nI q) (hlf9 : ∀ j, j < 64 → ∀ q1, q1 < 2 ^ mL L 1 → ∀ i1, mv_ml v (j / 4) = nI q1 → i1 < mv_sz (mv_gather L S 1 (nI (j / 4)) q1 v) 1 → mv_at (mv_gather L S 1 (nI (j / 4)) q1 v) 1 (nI (j / 4)) = nI (80 * 1 + i1) → ∃ q0, q0 < 2 ^ L ∧ ma_lf L (ma_tl (mv_sv (mv_gather L S 1 (nI (j / 4)) q1 v) (80 * 1 + i1)) j) j = nI q0) (b : Int32) (nw : Bool) (nv : Int64) (co mc : Int32) : Met l y_CM_ask (k_CM_ask :: bw) { frames := 3, cells := 0, slots := 0, locals := 71 } (mP (dC, dI) kCl [(cI, .int), (cJ, .long)] [.ref (ad 0), .int b, .int (b2i nw), .long nv, .int co, .int mc] (mw_ cI cJ ad L S C key th most asked td tr (v) (o)) A) (aQl (dC, dI) kCl (fun u => mzw cI cJ ad L S C key u) (ma_ret L S C most asked td tr v o b nw nv co mc) A) 0 0 A := by
  refine Met.ofZ (own := "CoinTreeModel") (by decide) rfl [.ref (ad 0), .int b, .int (b2i nw), .long nv, .int co, .int mc] (Nat.le_of_ble_eq_true rfl) (fun _ _ h => h.1) ?_
  intro p e s m below meth c ls C0 hv hl
  obtain ⟨hx, hb, hr, hml, hown, hT, hlocks⟩ := C0
  obtain ⟨-, hP, hK, hD⟩ := hv
  have hS : va_S A s.heap s.heap [] := va_S.rf
  have hl : lv_has ls 19 [(0, .ref (ad 0)), (1, .int b), (2, .int (b2i nw)), (3, .long nv), (5, .int co), (6, .int mc)] := hl
  obtain ⟨qL1, qL5, qS1, qS4, qC⟩ := id ok
  have qP := p2_le qL5
  have qP0 : 0 < 2 ^ L := Nat.two_pow_pos L
  
  refine lv_iload hx hb d_CM_ask_0 (lv_at hl 4 rfl) ?_
  refine lv_if_lt (tgt := 34) hx hb d_CM_ask_2 (by decide) (fun c_1 => ?_) (fun c_1 => ?_)
  · have hco : ¬ (rw_has (2 ^ L) co = true ∧ rw_has (2 ^ mL L 1) mc = true) := fun h9 => by rw [rw_has_f1 c_1] at h9; exact absurd h9.1 (by decide)
    refine lv_iconst (v := 0) hx hb d_CM_ask_34 (by decide) ?_
    refine lv_istore (lv' := [(7, .int 0), (0, .ref (ad 0)), (1, .int b), (2, .int (b2i nw)), (3, .long nv), (5, .int co), (6, .int mc)]) hx hb d_CM_ask_35 hl (by decide) rfl (fun ls hl => ?_)
    refine lv_aload_n hx hb d_CM_ask_37 rfl (lv_at hl 1 rfl) ?_
    refine lv_iload_n hx hb d_CM_ask_38 rfl (lv_at hl 2 rfl) ?_
    refine lv_if_lt (tgt := 48) hx hb d_CM_ask_39 (by decide) (fun c_2 => ?_) (fun c_2 => ?_)
    · have hbad : b < 0 ∨ 63 < b := Or.inl c_2
      refine lv_iconst (v := 1) hx hb d_CM_ask_48 (by decide) ?_
      refine lv_goto (tgt := 62) hx hb d_CM_ask_49 (by decide) ?_
      refine va_put (D := (dC, dI)) (ci := 4) (v := .int 1) (ty := .int) (C := R_CM) (T := F_CM) (N := 27) hx hb hT i_CM t_CM t_CM_ok n_CM hown hK hP hD hS 0 rfl rfl 0 (by decide) (hT _ m_471) (fun _ h9 => h9) rfl (by decide +kernel) rfl rfl (Nat.le_of_ble_eq_true rfl) d_CM_ask_62 (fun H locs hP hD hS => ?_)
      have hP : va_P (dC, dI) kCl (mw_ cI cJ ad L S C key 1 most asked td tr (v) (o)) H := hP
      have hD : va_D A (mw_ cI cJ ad L S C key 1 most asked td tr (v) (o)) := hD
      refine lv_aload_n hx hb d_CM_ask_65 rfl (lv_at hl 1 rfl) ?_
      refine va_get (D := (dC, dI)) (ci := 4) (v := .int 1) (C := R_CM) (T := F_CM) (N := 27) hx hb hT i_CM hown hK hP 0 rfl rfl 0 (by decide) (hT _ m_471) (fun _ h9 => h9) rfl d_CM_ask_66 ?_
      refine lv_if_le (tgt := 74) hx hb d_CM_ask_69 (by decide) (fun c_3 => ?_) (fun c_3 => ?_)
      · exact absurd c_3 (by decide)
      · refine lv_lconst (v := 0) hx hb d_CM_ask_72 (by decide) ?_
        exact W.lret hx hb hr (fun t9 ht _ => aQl_end ((1, most, asked, td, tr, v, o)) (Or.inl ⟨hbad, rfl, rfl⟩) rfl hP hD hS ht) hS.2.2 d_CM_ask_73 hlocks
    · have h39 := c_2
      refine lv_iload_n hx hb d_CM_ask_42 rfl (lv_at hl 2 rfl) ?_
      refine lv_bipush (v := 63) hx hb d_CM_ask_43 (by decide) ?_
      refine lv_icmp_le (tgt := 52) hx hb d_CM_ask_45 (by decide) (fun c_4 => ?_) (fun c_4 => ?_)
      · obtain ⟨j, hj, rfl⟩ := ak_c h39 c_4
        refine lv_iload hx hb d_CM_ask_52 (lv_at hl 0 rfl) ?_
        refine lv_if_ne (tgt := 61) hx hb d_CM_ask_54 (by decide) (fun c_5 => ?_) (fun c_5 => ?_)
        · exact absurd rfl c_5
        · refine lv_iconst (v := 2) hx hb d_CM_ask_57 (by decide) ?_
          refine lv_goto (tgt := 62) hx hb d_CM_ask_58 (by decide) ?_
          refine va_put (D := (dC, dI)) (ci := 4) (v := .int 2) (ty := .int) (C := R_CM) (T := F_CM) (N := 27) hx hb hT i_CM t_CM t_CM_ok n_CM hown hK hP hD hS 0 rfl rfl 0 (by decide) (hT _ m_471) (fun _ h9 => h9) rfl (by decide +kernel) rfl rfl (Nat.le_of_ble_eq_true rfl) d_CM_ask_62 (fun H locs hP hD hS => ?_)
          have hP : va_P (dC, dI) kCl (mw_ cI cJ ad L S C key 2 most asked td tr (v) (o)) H := hP
          have hD : va_D A (mw_ cI cJ ad L S C key 2 most asked td tr (v) (o)) := hD
          refine lv_aload_n hx hb d_CM_ask_65 rfl (lv_at hl 1 rfl) ?_
          refine va_get (D := (dC, dI)) (ci := 4) (v := .int 2) (C := R_CM) (T := F_CM) (N := 27) hx hb hT i_CM hown hK hP 0 rfl rfl 0 (by decide) (hT _ m_471) (fun _ h9 => h9) rfl d_CM_ask_66 ?_
          refine lv_if_le (tgt := 74) hx hb d_CM_ask_69 (by decide) (fun c_6 => ?_) (fun c_6 => ?_)
          · exact absurd c_6 (by decide)
          · refine lv_lconst (v := 0) hx hb d_CM_ask_72 (by decide) ?_
            exact W.lret hx hb hr (fun t9 ht _ => aQl_end ((2, most, asked, td, tr, v, o)) (Or.inr (Or.inl ⟨⟨j, hj, rfl⟩, hco, rfl, rfl⟩)) rfl hP hD hS ht) hS.2.2 d_CM_ask_73 hlocks
      · have hbad : b < 0 ∨ 63 < b := Or.inr (Int32.not_le.mp c_4)
        refine lv_iconst (v := 1) hx hb d_CM_ask_48 (by decide) ?_
        refine lv_goto (tgt := 62) hx hb d_CM_ask_49 (by decide) ?_
        refine va_put (D := (dC, dI)) (ci := 4) (v := .int 1) (ty := .int) (C := R_CM) (T := F_CM) (N := 27) hx hb hT i_CM t_CM t_CM_ok n_CM hown hK hP hD hS 0 rfl rfl 0 (by decide) (hT _ m_471) (fun _ h9 => h9) rfl (by decide +kernel) rfl rfl (Nat.le_of_ble_eq_true rfl) d_CM_ask_62 (fun H locs hP hD hS => ?_)
        have hP : va_P (dC, dI) kCl (mw_ cI cJ ad L S C key 1 most asked td tr (v) (o)) H := hP
        have hD : va_D A (mw_ cI cJ ad L S C key 1 most asked td tr (v) (o)) := hD
        refine lv_aload_n hx hb d_CM_ask_65 rfl (lv_at hl 1 rfl) ?_
        refine va_get (D := (dC, dI)) (ci := 4) (v := .int 1) (C := R_CM) (T := F_CM) (N := 27) hx hb hT i_CM hown hK hP 0 rfl rfl 0 (by decide) (hT _ m_471) (fun _ h9 => h9) rfl d_CM_ask_66 ?_
        refine lv_if_le (tgt := 74) hx hb d_CM_ask_69 (by decide) (fun c_7 => ?_) (fun c_7 => ?_)
        · exact absurd c_7 (by decide)
        · refine lv_lconst (v := 0) hx hb d_CM_ask_72 (by decide) ?_
          exact W.lret hx hb hr (fun t9 ht _ => aQl_end ((1, most, asked, td, tr, v, o)) (Or.inl ⟨hbad, rfl, rfl⟩) rfl hP hD hS ht) hS.2.2 d_CM_ask_73 hlocks
  · have h2 := c_1
    refine lv_iload hx hb d_CM_ask_5 (lv_at hl 4 rfl) ?_
    refine lv_aload_n hx hb d_CM_ask_7 rfl (lv_at hl 0 rfl) ?_
    refine lv_iconst (v := 0) hx hb d_CM_ask_8 (by decide) ?_
    refine zc_i (va_runV (As := [.int 0]) (rest := [.int co]) ⟨hx, hb, hml, hown, hT⟩ (c_CM_leavesOf ok hP 0 (by omega)) (cwV 1 hT (gi_V m_466 m_463 m_465 m_9 m_27) rfl rfl rfl p_CM_leavesOf ⟨Nat.le_of_ble_eq_true rfl, Nat.le_of_ble_eq_true rfl⟩) ⟨zP_blind, va_recv hK hP (ci := 4) (q0 := 0) rfl rfl, zP_pre hK⟩ rfl rfl hl.1 rfl (lv_room (Nat.le_of_ble_eq_true rfl)) d_CM_ask_9 ⟨Nat.le_refl _, Nat.le_refl _⟩) hS (fun locs hS => ?_)
    refine W.eq (g2 := F0 m 12 ls [.int (nI (2 ^ L)), .int co]) (by rw [mL_a (L := L) (T := 0) rfl]) ?_
    refine lv_icmp_ge (tgt := 34) hx hb d_CM_ask_12 (by decide) (fun c_8 => ?_) (fun c_8 => ?_)
    · have hco : ¬ (rw_has (2 ^ L) co = true ∧ rw_has (2 ^ mL L 1) mc = true) := fun h9 => by rw [rw_has_f2 c_8] at h9; exact absurd h9.1 (by decide)
      refine lv_iconst (v := 0) hx hb d_CM_ask_34 (by decide) ?_
      refine lv_istore (lv' := [(7, .int 0), (0, .ref (ad 0)), (1, .int b), (2, .int (b2i nw)), (3, .long nv), (5, .int co), (6, .int mc)]) hx hb d_CM_ask_35 hl (by decide) rfl (fun ls hl => ?_)
      refine lv_aload_n hx hb d_CM_ask_37 rfl (lv_at hl 1 rfl) ?_
      refine lv_iload_n hx hb d_CM_ask_38 rfl (lv_at hl 2 rfl) ?_
      refine lv_if_lt (tgt := 48) hx hb d_CM_ask_39 (by decide) (fun c_9 => ?_) (fun c_9 => ?_)
      · have hbad : b < 0 ∨ 63 < b := Or.inl c_9
        refine lv_iconst (v := 1) hx hb d_CM_ask_48 (by decide) ?_
        refine lv_goto (tgt := 62) hx hb d_CM_ask_49 (by decide) ?_
        refine va_put (D := (dC, dI)) (ci := 4) (v := .int 1) (ty := .int) (C := R_CM) (T := F_CM) (N := 27) hx hb hT i_CM t_CM t_CM_ok n_CM hown hK hP hD hS 0 rfl rfl 0 (by decide) (hT _ m_471) (fun _ h9 => h9) rfl (by decide +kernel) rfl rfl (Nat.le_of_ble_eq_true rfl) d_CM_ask_62 (fun H locs hP hD hS => ?_)
        have hP : va_P (dC, dI) kCl (mw_ cI cJ ad L S C key 1 most asked td tr (v) (o)) H := hP
        have hD : va_D A (mw_ cI cJ ad L S C key 1 most asked td tr (v) (o)) := hD
        refine lv_aload_n hx hb d_CM_ask_65 rfl (lv_at hl 1 rfl) ?_
        refine va_get (D := (dC, dI)) (ci := 4) (v := .int 1) (C := R_CM) (T := F_CM) (N := 27) hx hb hT i_CM hown hK hP 0 rfl rfl 0 (by decide) (hT _ m_471) (fun _ h9 => h9) rfl d_CM_ask_66 ?_
        refine lv_if_le (tgt := 74) hx hb d_CM_ask_69 (by decide) (fun c_10 => ?_) (fun c_10 => ?_)
        · exact absurd c_10 (by decide)
        · refine lv_lconst (v := 0) hx hb d_CM_ask_72 (by decide) ?_
          exact W.lret hx hb hr (fun t9 ht _ => aQl_end ((1, most, asked, td, tr, v, o)) (Or.inl ⟨hbad, rfl, rfl⟩) rfl hP hD hS ht) hS.2.2 d_CM_ask_73 hlocks
      · have h39 := c_9
        refine lv_iload_n hx hb d_CM_ask_42 rfl (lv_at hl 2 rfl) ?_
        refine lv_bipush (v := 63) hx hb d_CM_ask_43 (by decide) ?_
        refine lv_icmp_le (tgt := 52) hx hb d_CM_ask_45 (by decide) (fun c_11 => ?_) (fun c_11 => ?_)
        · obtain ⟨j, hj, rfl⟩ := ak_c h39 c_11
          refine lv_iload hx hb d_CM_ask_52 (lv_at hl 0 rfl) ?_
          refine lv_if_ne (tgt := 61) hx hb d_CM_ask_54 (by decide) (fun c_12 => ?_) (fun c_12 => ?_)
          · exact absurd rfl c_12
          · refine lv_iconst (v := 2) hx hb d_CM_ask_57 (by decide) ?_
            refine lv_goto (tgt := 62) hx hb d_CM_ask_58 (by decide) ?_
            refine va_put (D := (dC, dI)) (ci := 4) (v := .int 2) (ty := .int) (C := R_CM) (T := F_CM) (N := 27) hx hb hT i_CM t_CM t_CM_ok n_CM hown hK hP hD hS 0 rfl rfl 0 (by decide) (hT _ m_471) (fun _ h9 => h9) rfl (by decide +kernel) rfl rfl (Nat.le_of_ble_eq_true rfl) d_CM_ask_62 (fun H locs hP hD hS => ?_)
            have hP : va_P (dC, dI) kCl (mw_ cI cJ ad L S C key 2 most asked td tr (v) (o)) H := hP
            have hD : va_D A (mw_ cI cJ ad L S C key 2 most asked td tr (v) (o)) := hD
            refine lv_aload_n hx hb d_CM_ask_65 rfl (lv_at hl 1 rfl) ?_
            refine va_get (D := (dC, dI)) (ci := 4) (v := .int 2) (C := R_CM) (T := F_CM) (N := 27) hx hb hT i_CM hown hK hP 0 rfl rfl 0 (by decide) (hT _ m_471) (fun _ h9 => h9) rfl d_CM_ask_66 ?_
            refine lv_if_le (tgt := 74) hx hb d_CM_ask_69 (by decide) (fun c_13 => ?_) (fun c_13 => ?_)
            · exact absurd c_13 (by decide)
            · refine lv_lconst (v := 0) hx hb d_CM_ask_72 (by decide) ?_
              exact W.lret hx hb hr (fun t9 ht _ => aQl_end ((2, most, asked, td, tr, v, o)) (Or.inr (Or.inl ⟨⟨j, hj, rfl⟩, hco, rfl, rfl⟩)) rfl hP hD hS ht) hS.2.2 d_CM_ask_73 hlocks
        · have hbad : b < 0 ∨ 63 < b := Or.inr (Int32.not_le.mp c_11)
          refine lv_iconst (v := 1) hx hb d_CM_ask_48 (by decide) ?_
          refine lv_goto (tgt := 62) hx hb d_CM_ask_49 (by decide) ?_
          refine va_put (D := (dC, dI)) (ci := 4) (v := .int 1) (ty := .int) (C := R_CM) (T := F_CM) (N := 27) hx hb hT i_CM t_CM t_CM_ok n_CM hown hK hP hD hS 0 rfl rfl 0 (by decide) (hT _ m_471) (fun _ h9 => h9) rfl (by decide +kernel) rfl rfl (Nat.le_of_ble_eq_true rfl) d_CM_ask_62 (fun H locs hP hD hS => ?_)
          have hP : va_P (dC, dI) kCl (mw_ cI cJ ad L S C key 1 most asked td tr (v) (o)) H := hP
          have hD : va_D A (mw_ cI cJ ad L S C key 1 most asked td tr (v) (o)) := hD
          refine lv_aload_n hx hb d_CM_ask_65 rfl (lv_at hl 1 rfl) ?_
          refine va_get (D := (dC, dI)) (ci := 4) (v := .int 1) (C := R_CM) (T := F_CM) (N := 27) hx hb hT i_CM hown hK hP 0 rfl rfl 0 (by decide) (hT _ m_471) (fun _ h9 => h9) rfl d_CM_ask_66 ?_
          refine lv_if_le (tgt := 74) hx hb d_CM_ask_69 (by decide) (fun c_14 => ?_) (fun c_14 => ?_)
          · exact absurd c_14 (by decide)
          · refine lv_lconst (v := 0) hx hb d_CM_ask_72 (by decide) ?_
            exact W.lret hx hb hr (fun t9 ht _ => aQl_end ((1, most, asked, td, tr, v, o)) (Or.inl ⟨hbad, rfl, rfl⟩) rfl hP hD hS ht) hS.2.2 d_CM_ask_73 hlocks
    · have h12 := c_8
      refine lv_iload hx hb d_CM_ask_15 (lv_at hl 5 rfl) ?_
      refine lv_if_lt (tgt := 34) hx hb d_CM_ask_17 (by decide) (fun c_15 => ?_) (fun c_15 => ?_)
      · have hco : ¬ (rw_has (2 ^ L) co = true ∧ rw_has (2 ^ mL L 1) mc = true) := fun h9 => by rw [rw_has_f1 (n := 2 ^ mL L 1) c_15] at h9; exact absurd h9.2 (by decide)
        refine lv_iconst (v := 0) hx hb d_CM_ask_34 (by decide) ?_
        refine lv_istore (lv' := [(7, .int 0), (0, .ref (ad 0)), (1, .int b), (2, .int (b2i nw)), (3, .long nv), (5, .int co), (6, .int mc)]) hx hb d_CM_ask_35 hl (by decide) rfl (fun ls hl => ?_)
        refine lv_aload_n hx hb d_CM_ask_37 rfl (lv_at hl 1 rfl) ?_
        refine lv_iload_n hx hb d_CM_ask_38 rfl (lv_at hl 2 rfl) ?_
        refine lv_if_lt (tgt := 48) hx hb d_CM_ask_39 (by decide) (fun c_16 => ?_) (fun c_16 => ?_)
        · have hbad : b < 0 ∨ 63 < b := Or.inl c_16
          refine lv_iconst (v := 1) hx hb d_CM_ask_48 (by decide) ?_
          refine lv_goto (tgt := 62) hx hb d_CM_ask_49 (by decide) ?_
          refine va_put (D := (dC, dI)) (ci := 4) (v := .int 1) (ty := .int) (C := R_CM) (T := F_CM) (N := 27) hx hb hT i_CM t_CM t_CM_ok n_CM hown hK hP hD hS 0 rfl rfl 0 (by decide) (hT _ m_471) (fun _ h9 => h9) rfl (by decide +kernel) rfl rfl (Nat.le_of_ble_eq_true rfl) d_CM_ask_62 (fun H locs hP hD hS => ?_)
          have hP : va_P (dC, dI) kCl (mw_ cI cJ ad L S C key 1 most asked td tr (v) (o)) H := hP
          have hD : va_D A (mw_ cI cJ ad L S C key 1 most asked td tr (v) (o)) := hD
          refine lv_aload_n hx hb d_CM_ask_65 rfl (lv_at hl 1 rfl) ?_
          refine va_get (D := (dC, dI)) (ci := 4) (v := .int 1) (C := R_CM) (T := F_CM) (N := 27) hx hb hT i_CM hown hK hP 0 rfl rfl 0 (by decide) (hT _ m_471) (fun _ h9 => h9) rfl d_CM_ask_66 ?_
          refine lv_if_le (tgt := 74) hx hb d_CM_ask_69 (by decide) (fun c_17 => ?_) (fun c_17 => ?_)
          · exact absurd c_17 (by decide)
          · refine lv_lconst (v := 0) hx hb d_CM_ask_72 (by decide) ?_
            exact W.lret hx hb hr (fun t9 ht _ => aQl_end ((1, most, asked, td, tr, v, o)) (Or.inl ⟨hbad, rfl, rfl⟩) rfl hP hD hS ht) hS.2.2 d_CM_ask_73 hlocks
        · have h39 := c_16
          refine lv_iload_n hx hb d_CM_ask_42 rfl (lv_at hl 2 rfl) ?_
          refine lv_bipush (v := 63) hx hb d_CM_ask_43 (by decide) ?_
          refine lv_icmp_le (tgt := 52) hx hb d_CM_ask_45 (by decide) (fun c_18 => ?_) (fun c_18 => ?_)
          · obtain ⟨j, hj, rfl⟩ := ak_c h39 c_18
            refine lv_iload hx hb d_CM_ask_52 (lv_at hl 0 rfl) ?_
            refine lv_if_ne (tgt := 61) hx hb d_CM_ask_54 (by decide) (fun c_19 => ?_) (fun c_19 => ?_)
            · exact absurd rfl c_19
            · refine lv_iconst (v := 2) hx hb d_CM_ask_57 (by decide) ?_
              refine lv_goto (tgt := 62) hx hb d_CM_ask_58 (by decide) ?_
              refine va_put (D := (dC, dI)) (ci := 4) (v := .int 2) (ty := .int) (C := R_CM) (T := F_CM) (N := 27) hx hb hT i_CM t_CM t_CM_ok n_CM hown hK hP hD hS 0 rfl rfl 0 (by decide) (hT _ m_471) (fun _ h9 => h9) rfl (by decide +kernel) rfl rfl (Nat.le_of_ble_eq_true rfl) d_CM_ask_62 (fun H locs hP hD hS => ?_)
              have hP : va_P (dC, dI) kCl (mw_ cI cJ ad L S C key 2 most asked td tr (v) (o)) H := hP
              have hD : va_D A (mw_ cI cJ ad L S C key 2 most asked td tr (v) (o)) := hD
              refine lv_aload_n hx hb d_CM_ask_65 rfl (lv_at hl 1 rfl) ?_
              refine va_get (D := (dC, dI)) (ci := 4) (v := .int 2) (C := R_CM) (T := F_CM) (N := 27) hx hb hT i_CM hown hK hP 0 rfl rfl 0 (by decide) (hT _ m_471) (fun _ h9 => h9) rfl d_CM_ask_66 ?_
              refine lv_if_le (tgt := 74) hx hb d_CM_ask_69 (by decide) (fun c_20 => ?_) (fun c_20 => ?_)
              · exact absurd c_20 (by decide)
              · refine lv_lconst (v := 0) hx hb d_CM_ask_72 (by decide) ?_
                exact W.lret hx hb hr (fun t9 ht _ => aQl_end ((2, most, asked, td, tr, v, o)) (Or.inr (Or.inl ⟨⟨j, hj, rfl⟩, hco, rfl, rfl⟩)) rfl hP hD hS ht) hS.2.2 d_CM_ask_73 hlocks
          · have hbad : b < 0 ∨ 63 < b := Or.inr (Int32.not_le.mp c_18)
            refine lv_iconst (v := 1) hx hb d_CM_ask_48 (by decide) ?_
            refine lv_goto (tgt := 62) hx hb d_CM_ask_49 (by decide) ?_
            refine va_put (D := (dC, dI)) (ci := 4) (v := .int 1) (ty := .int) (C := R_CM) (T := F_CM) (N := 27) hx hb hT i_CM t_CM t_CM_ok n_CM hown hK hP hD hS 0 rfl rfl 0 (by decide) (hT _ m_471) (fun _ h9 => h9) rfl (by decide +kernel) rfl rfl (Nat.le_of_ble_eq_true rfl) d_CM_ask_62 (fun H locs hP hD hS => ?_)
            have hP : va_P (dC, dI) kCl (mw_ cI cJ ad L S C key 1 most asked td tr (v) (o)) H := hP
            have hD : va_D A (mw_ cI cJ ad L S C key 1 most asked td tr (v) (o)) := hD
            refine lv_aload_n hx hb d_CM_ask_65 rfl (lv_at hl 1 rfl) ?_
            refine va_get (D := (dC, dI)) (ci := 4) (v := .int 1) (C := R_CM) (T := F_CM) (N := 27) hx hb hT i_CM hown hK hP 0 rfl rfl 0 (by decide) (hT _ m_471) (fun _ h9 => h9) rfl d_CM_ask_66 ?_
            refine lv_if_le (tgt := 74) hx hb d_CM_ask_69 (by decide) (fun c_21 => ?_) (fun c_21 => ?_)
            · exact absurd c_21 (by decide)
            · refine lv_lconst (v := 0) hx hb d_CM_ask_72 (by decide) ?_
              exact W.lret hx hb hr (fun t9 ht _ => aQl_end ((1, most, asked, td, tr, v, o)) (Or.inl ⟨hbad, rfl, rfl⟩) rfl hP hD hS ht) hS.2.2 d_CM_ask_73 hlocks
      · have h17 := c_15
        refine lv_iload hx hb d_CM_ask_20 (lv_at hl 5 rfl) ?_
        refine lv_aload_n hx hb d_CM_ask_22 rfl (lv_at hl 0 rfl) ?_
        refine lv_iconst (v := 1) hx hb d_CM_ask_23 (by decide) ?_
        refine zc_i (va_runV (As := [.int 1]) (rest := [.int mc]) ⟨hx, hb, hml, hown, hT⟩ (c_CM_leavesOf ok hP 1 (by omega)) (cwV 1 hT (gi_V m_466 m_463 m_465 m_9 m_27) rfl rfl rfl p_CM_leavesOf ⟨Nat.le_of_ble_eq_true rfl, Nat.le_of_ble_eq_true rfl⟩) ⟨zP_blind, va_recv hK hP (ci := 4) (q0 := 0) rfl rfl, zP_pre hK⟩ rfl rfl hl.1 rfl (lv_room (Nat.le_of_ble_eq_true rfl)) d_CM_ask_24 ⟨Nat.le_refl _, Nat.le_refl _⟩) hS (fun locs hS => ?_)
        refine lv_icmp_ge (tgt := 34) hx hb d_CM_ask_27 (by decide) (fun c_22 => ?_) (fun c_22 => ?_)
        · have hco : ¬ (rw_has (2 ^ L) co = true ∧ rw_has (2 ^ mL L 1) mc = true) := fun h9 => by rw [rw_has_f2 (n := 2 ^ mL L 1) c_22] at h9; exact absurd h9.2 (by decide)
          refine lv_iconst (v := 0) hx hb d_CM_ask_34 (by decide) ?_
          refine lv_istore (lv' := [(7, .int 0), (0, .ref (ad 0)), (1, .int b), (2, .int (b2i nw)), (3, .long nv), (5, .int co), (6, .int mc)]) hx hb d_CM_ask_35 hl (by decide) rfl (fun ls hl => ?_)
          refine lv_aload_n hx hb d_CM_ask_37 rfl (lv_at hl 1 rfl) ?_
          refine lv_iload_n hx hb d_CM_ask_38 rfl (lv_at hl 2 rfl) ?_
          refine lv_if_lt (tgt := 48) hx hb d_CM_ask_39 (by decide) (fun c_23 => ?_) (fun c_23 => ?_)
          · have hbad : b < 0 ∨ 63 < b := Or.inl c_23
            refine lv_iconst (v := 1) hx hb d_CM_ask_48 (by decide) ?_
            refine lv_goto (tgt := 62) hx hb d_CM_ask_49 (by decide) ?_
            refine va_put (D := (dC, dI)) (ci := 4) (v := .int 1) (ty := .int) (C := R_CM) (T := F_CM) (N := 27) hx hb hT i_CM t_CM t_CM_ok n_CM hown hK hP hD hS 0 rfl rfl 0 (by decide) (hT _ m_471) (fun _ h9 => h9) rfl (by decide +kernel) rfl rfl (Nat.le_of_ble_eq_true rfl) d_CM_ask_62 (fun H locs hP hD hS => ?_)
            have hP : va_P (dC, dI) kCl (mw_ cI cJ ad L S C key 1 most asked td tr (v) (o)) H := hP
            have hD : va_D A (mw_ cI cJ ad L S C key 1 most asked td tr (v) (o)) := hD
            refine lv_aload_n hx hb d_CM_ask_65 rfl (lv_at hl 1 rfl) ?_
            refine va_get (D := (dC, dI)) (ci := 4) (v := .int 1) (C := R_CM) (T := F_CM) (N := 27) hx hb hT i_CM hown hK hP 0 rfl rfl 0 (by decide) (hT _ m_471) (fun _ h9 => h9) rfl d_CM_ask_66 ?_
            refine lv_if_le (tgt := 74) hx hb d_CM_ask_69 (by decide) (fun c_24 => ?_) (fun c_24 => ?_)
            · exact absurd c_24 (by decide)
            · refine lv_lconst (v := 0) hx hb d_CM_ask_72 (by decide) ?_
              exact W.lret hx hb hr (fun t9 ht _ => aQl_end ((1, most, asked, td, tr, v, o)) (Or.inl ⟨hbad, rfl, rfl⟩) rfl hP hD hS ht) hS.2.2 d_CM_ask_73 hlocks
          · have h39 := c_23
            refine lv_iload_n hx hb d_CM_ask_42 rfl (lv_at hl 2 rfl) ?_
            refine lv_bipush (v := 63) hx hb d_CM_ask_43 (by decide) ?_
            refine lv_icmp_le (tgt := 52) hx hb d_CM_ask_45 (by decide) (fun c_25 => ?_) (fun c_25 => ?_)
            · obtain ⟨j, hj, rfl⟩ := ak_c h39 c_25
              refine lv_iload hx hb d_CM_ask_52 (lv_at hl 0 rfl) ?_
              refine lv_if_ne (tgt := 61) hx hb d_CM_ask_54 (by decide) (fun c_26 => ?_) (fun c_26 => ?_)
              · exact absurd rfl c_26
              · refine lv_iconst (v := 2) hx hb d_CM_ask_57 (by decide) ?_
                refine lv_goto (tgt := 62) hx hb d_CM_ask_58 (by decide) ?_
                refine va_put (D := (dC, dI)) (ci := 4) (v := .int 2) (ty := .int) (C := R_CM) (T := F_CM) (N := 27) hx hb hT i_CM t_CM t_CM_ok n_CM hown hK hP hD hS 0 rfl rfl 0 (by decide) (hT _ m_471) (fun _ h9 => h9) rfl (by decide +kernel) rfl rfl (Nat.le_of_ble_eq_true rfl) d_CM_ask_62 (fun H locs hP hD hS => ?_)
                have hP : va_P (dC, dI) kCl (mw_ cI cJ ad L S C key 2 most asked td tr (v) (o)) H := hP
                have hD : va_D A (mw_ cI cJ ad L S C key 2 most asked td tr (v) (o)) := hD
                refine lv_aload_n hx hb d_CM_ask_65 rfl (lv_at hl 1 rfl) ?_
                refine va_get (D := (dC, dI)) (ci := 4) (v := .int 2) (C := R_CM) (T := F_CM) (N := 27) hx hb hT i_CM hown hK hP 0 rfl rfl 0 (by decide) (hT _ m_471) (fun _ h9 => h9) rfl d_CM_ask_66 ?_
                refine lv_if_le (tgt := 74) hx hb d_CM_ask_69 (by decide) (fun c_27 => ?_) (fun c_27 => ?_)
                · exact absurd c_27 (by decide)
                · refine lv_lconst (v := 0) hx hb d_CM_ask_72 (by decide) ?_
                  exact W.lret hx hb hr (fun t9 ht _ => aQl_end ((2, most, asked, td, tr, v, o)) (Or.inr (Or.inl ⟨⟨j, hj, rfl⟩, hco, rfl, rfl⟩)) rfl hP hD hS ht) hS.2.2 d_CM_ask_73 hlocks
            · have hbad : b < 0 ∨ 63 < b := Or.inr (Int32.not_le.mp c_25)
              refine lv_iconst (v := 1) hx hb d_CM_ask_48 (by decide) ?_
              refine lv_goto (tgt := 62) hx hb d_CM_ask_49 (by decide) ?_
              refine va_put (D := (dC, dI)) (ci := 4) (v := .int 1) (ty := .int) (C := R_CM) (T := F_CM) (N := 27) hx hb hT i_CM t_CM t_CM_ok n_CM hown hK hP hD hS 0 rfl rfl 0 (by decide) (hT _ m_471) (fun _ h9 => h9) rfl (by decide +kernel) rfl rfl (Nat.le_of_ble_eq_true rfl) d_CM_ask_62 (fun H locs hP hD hS => ?_)
              have hP : va_P (dC, dI) kCl (mw_ cI cJ ad L S C key 1 most asked td tr (v) (o)) H := hP
              have hD : va_D A (mw_ cI cJ ad L S C key 1 most asked td tr (v) (o)) := hD
              refine lv_aload_n hx hb d_CM_ask_65 rfl (lv_at hl 1 rfl) ?_
              refine va_get (D := (dC, dI)) (ci := 4) (v := .int 1) (C := R_CM) (T := F_CM) (N := 27) hx hb hT i_CM hown hK hP 0 rfl rfl 0 (by decide) (hT _ m_471) (fun _ h9 => h9) rfl d_CM_ask_66 ?_
              refine lv_if_le (tgt := 74) hx hb d_CM_ask_69 (by decide) (fun c_28 => ?_) (fun c_28 => ?_)
              · exact absurd c_28 (by decide)
              · refine lv_lconst (v := 0) hx hb d_CM_ask_72 (by decide) ?_
                exact W.lret hx hb hr (fun t9 ht _ => aQl_end ((1, most, asked, td, tr, v, o)) (Or.inl ⟨hbad, rfl, rfl⟩) rfl hP hD hS ht) hS.2.2 d_CM_ask_73 hlocks
        · have hco0 : rw_has (2 ^ L) co = true := rw_has_t h2 h12
          have hco1 : rw_has (2 ^ mL L 1) mc = true := rw_has_t h17 c_22
          refine lv_iconst (v := 1) hx hb d_CM_ask_30 (by decide) ?_
          refine lv_goto (tgt := 35) hx hb d_CM_ask_31 (by decide) ?_
          refine lv_istore (lv' := [(7, .int 1), (0, .ref (ad 0)), (1, .int b), (2, .int (b2i nw)), (3, .long nv), (5, .int co), (6, .int mc)]) hx hb d_CM_ask_35 hl (by decide) rfl (fun ls hl => ?_)
          refine lv_aload_n hx hb d_CM_ask_37 rfl (lv_at hl 1 rfl) ?_
          refine lv_iload_n hx hb d_CM_ask_38 rfl (lv_at hl 2 rfl) ?_
          refine lv_if_lt (tgt := 48) hx hb d_CM_ask_39 (by decide) (fun c_29 => ?_) (fun c_29 => ?_)
          · have hbad : b < 0 ∨ 63 < b := Or.inl c_29
            refine lv_iconst (v := 1) hx hb d_CM_ask_48 (by decide) ?_
            refine lv_goto (tgt := 62) hx hb d_CM_ask_49 (by decide) ?_
            refine va_put (D := (dC, dI)) (ci := 4) (v := .int 1) (ty := .int) (C := R_CM) (T := F_CM) (N := 27) hx hb hT i_CM t_CM t_CM_ok n_CM hown hK hP hD hS 0 rfl rfl 0 (by decide) (hT _ m_471) (fun _ h9 => h9) rfl (by decide +kernel) rfl rfl (Nat.le_of_ble_eq_true rfl) d_CM_ask_62 (fun H locs hP hD hS => ?_)
            have hP : va_P (dC, dI) kCl (mw_ cI cJ ad L S C key 1 most asked td tr (v) (o)) H := hP
            have hD : va_D A (mw_ cI cJ ad L S C key 1 most asked td tr (v) (o)) := hD
            refine lv_aload_n hx hb d_CM_ask_65 rfl (lv_at hl 1 rfl) ?_
            refine va_get (D := (dC, dI)) (ci := 4) (v := .int 1) (C := R_CM) (T := F_CM) (N := 27) hx hb hT i_CM hown hK hP 0 rfl rfl 0 (by decide) (hT _ m_471) (fun _ h9 => h9) rfl d_CM_ask_66 ?_
            refine lv_if_le (tgt := 74) hx hb d_CM_ask_69 (by decide) (fun c_30 => ?_) (fun c_30 => ?_)
            · exact absurd c_30 (by decide)
            · refine lv_lconst (v := 0) hx hb d_CM_ask_72 (by decide) ?_
              exact W.lret hx hb hr (fun t9 ht _ => aQl_end ((1, most, asked, td, tr, v, o)) (Or.inl ⟨hbad, rfl, rfl⟩) rfl hP hD hS ht) hS.2.2 d_CM_ask_73 hlocks
          · have h39 := c_29
            refine lv_iload_n hx hb d_CM_ask_42 rfl (lv_at hl 2 rfl) ?_
            refine lv_bipush (v := 63) hx hb d_CM_ask_43 (by decide) ?_
            refine lv_icmp_le (tgt := 52) hx hb d_CM_ask_45 (by decide) (fun c_31 => ?_) (fun c_31 => ?_)
            · obtain ⟨j, hj, rfl⟩ := ak_c h39 c_31
              refine lv_iload hx hb d_CM_ask_52 (lv_at hl 0 rfl) ?_
              refine lv_if_ne (tgt := 61) hx hb d_CM_ask_54 (by decide) (fun c_32 => ?_) (fun c_32 => ?_)
              · refine lv_iconst (v := 0) hx hb d_CM_ask_61 (by decide) ?_
                refine va_put (D := (dC, dI)) (ci := 4) (v := .int 0) (ty := .int) (C := R_CM) (T := F_CM) (N := 27) hx hb hT i_CM t_CM t_CM_ok n_CM hown hK hP hD hS 0 rfl rfl 0 (by decide) (hT _ m_471) (fun _ h9 => h9) rfl (by decide +kernel) rfl rfl (Nat.le_of_ble_eq_true rfl) d_CM_ask_62 (fun H locs hP hD hS => ?_)
                have hP : va_P (dC, dI) kCl (mw_ cI cJ ad L S C key 0 most asked td tr (v) (o)) H := hP
                have hD : va_D A (mw_ cI cJ ad L S C key 0 most asked td tr (v) (o)) := hD
                refine lv_aload_n hx hb d_CM_ask_65 rfl (lv_at hl 1 rfl) ?_
                refine va_get (D := (dC, dI)) (ci := 4) (v := .int 0) (C := R_CM) (T := F_CM) (N := 27) hx hb hT i_CM hown hK hP 0 rfl rfl 0 (by decide) (hT _ m_471) (fun _ h9 => h9) rfl d_CM_ask_66 ?_
                refine lv_if_le (tgt := 74) hx hb d_CM_ask_69 (by decide) (fun c_33 => ?_) (fun c_33 => ?_)
                · refine lv_aload_n hx hb d_CM_ask_74 rfl (lv_at hl 1 rfl) ?_
                  refine mc_v (va_runV (As := []) (rest := []) ⟨hx, hb, hml, hown, hT⟩ (c_CM_keep ok ) (cwV 0 hT (gi_V m_568 m_565 m_567 m_12 m_27) rfl rfl rfl p_CM_keep ⟨Nat.le_of_ble_eq_true rfl, Nat.le_of_ble_eq_true rfl⟩) ⟨mP_blind, va_recv hK hP (ci := 4) (q0 := 0) rfl rfl, mP_pre hK hP hD⟩ rfl rfl hl.1 rfl (lv_room (Nat.le_of_ble_eq_true rfl)) d_CM_ask_75 ⟨Nat.le_refl _, Nat.le_refl _⟩) hS (fun H locs hP hD hS => ?_)
                  have hP : va_P (dC, dI) kCl (mw_ cI cJ ad L S C key 0 most asked td tr (v) (mv_cp o v)) H := hP
                  have hD : va_D A (mw_ cI cJ ad L S C key 0 most asked td tr (v) (mv_cp o v)) := hD
                  refine lv_iload_n hx hb d_CM_ask_78 rfl (lv_at hl 2 rfl) ?_
                  refine lv_iconst (v := 4) hx hb d_CM_ask_79 (by decide) ?_
                  refine lv_idiv hx hb d_CM_ask_80 (by decide) ?_
                  refine W.eq (g2 := F0 m 81 ls [.int (nI (j / 4))]) (congrArg (fun q9 : Int32 => F0 m 81 ls (.int q9 :: [])) (pk_div (a := j) (d := 4) (by omega) (by omega) (by omega))) ?_
                  refine lv_istore (lv' := [(8, .int (nI (j / 4))), (7, .int 1), (0, .ref (ad 0)), (1, .int (nI j)), (2, .int (b2i nw)), (3, .long nv), (5, .int co), (6, .int mc)]) hx hb d_CM_ask_81 hl (by decide) rfl (fun ls hl => ?_)
                  refine lv_aload_n hx hb d_CM_ask_83 rfl (lv_at hl 2 rfl) ?_
                  refine va_get (D := (dC, dI)) (ci := 4) (v := .ref (ad 9)) (C := R_CM) (T := F_CM) (N := 27) hx hb hT i_CM hown hK hP 0 rfl rfl 13 (by decide) (hT _ m_484) (fun _ h9 => h9) rfl d_CM_ask_84 ?_
                  refine lv_iload hx hb d_CM_ask_87 (lv_at hl 0 rfl) ?_
                  refine va_iald hx hb hK hP 9 0 rfl rfl (vp_in_nI (n := (j / 4)) (by omega) (by omega)) d_CM_ask_89 ?_
                  refine W.eq (g2 := F0 m 90 ls [.int ((mv_ml v) (j / 4))]) (by rw [nI_clamp (n := (j / 4)) (by omega)] <;> rfl) ?_
                  obtain ⟨q1, hq1, hm1⟩ := hml9 (j / 4) (by omega)
                  refine W.eq (g2 := F0 m 90 ls [.int (nI q1)]) (by rw [hm1]) ?_
                  refine lv_istore (lv' := [(9, .int (nI q1)), (8, .int (nI (j / 4))), (7, .int 1), (0, .ref (ad 0)), (1, .int (nI j)), (2, .int (b2i nw)), (3, .long nv), (5, .int co), (6, .int mc)]) hx hb d_CM_ask_90 hl (by decide) rfl (fun ls hl => ?_)
                  refine lv_aload_n hx hb d_CM_ask_92 rfl (lv_at hl 3 rfl) ?_
                  refine lv_iconst (v := 1) hx hb d_CM_ask_93 (by decide) ?_
                  refine lv_iload hx hb d_CM_ask_94 (lv_at hl 1 rfl) ?_
                  refine lv_iload hx hb d_CM_ask_96 (lv_at hl 0 rfl) ?_
                  refine mc_i (va_runV (As := [.int 1, .int (nI (j / 4)), .int (nI q1)]) (rest := []) ⟨hx, hb, hml, hown, hT⟩ (c_CM_gather ok (v := v) 1 (by omega) hz1 (nI (j / 4)) q1 hq1) (cwV 3 hT (gi_V m_572 m_569 m_571 m_13 m_27) rfl rfl rfl p_CM_gather ⟨Nat.le_of_ble_eq_true rfl, Nat.le_of_ble_eq_true rfl⟩) ⟨mP_blind, va_recv hK hP (ci := 4) (q0 := 0) rfl rfl, mP_pre hK hP hD⟩ rfl rfl hl.1 rfl (lv_room (Nat.le_of_ble_eq_true rfl)) d_CM_ask_98 ⟨Nat.le_refl _, Nat.le_refl _⟩) hS (fun H locs hP hD hS => ?_)
                  obtain ⟨i1, hi1, hai1, -⟩ := mv_gather_at (T := 1) (b := nI (j / 4)) (lf := q1) (v := v) (by omega) qL1 qL5 qS4 hz1
                  have hzG1 := mv_gather_sz (T := 1) (b := nI (j / 4)) (lf := q1) (v := v) qL1 qL5 qS4 hz1
                  refine W.eq (g2 := F0 m 101 ls [.int (nI (80 * 1 + i1))]) (by rw [hai1]) ?_
                  obtain ⟨V1, hV1⟩ : ∃ V : Mv, V = mv_gather L S 1 (nI (j / 4)) q1 v := ⟨_, rfl⟩
                  rw [← hV1] at hP hD hi1 hai1 hzG1
                  have hP : va_P (dC, dI) kCl (mw_ cI cJ ad L S C key 0 most asked td tr (V1) (mv_cp o v)) H := hP
                  have hD : va_D A (mw_ cI cJ ad L S C key 0 most asked td tr (V1) (mv_cp o v)) := hD
                  refine lv_istore (lv' := [(10, .int (nI (80 * 1 + i1))), (9, .int (nI q1)), (8, .int (nI (j / 4))), (7, .int 1), (0, .ref (ad 0)), (1, .int (nI j)), (2, .int (b2i nw)), (3, .long nv), (5, .int co), (6, .int mc)]) hx hb d_CM_ask_101 hl (by decide) rfl (fun ls hl => ?_)
                  refine lv_bipush (v := 16) hx hb d_CM_ask_103 (by decide) ?_
                  refine lv_iload_n hx hb d_CM_ask_105 rfl (lv_at hl 5 rfl) ?_
                  refine lv_iconst (v := 4) hx hb d_CM_ask_106 (by decide) ?_
                  refine lv_irem hx hb d_CM_ask_107 (by decide) ?_
                  refine W.eq (g2 := F0 m 108 ls [.int (nI (j % 4)), .int 16]) (congrArg (fun q9 : Int32 => F0 m 108 ls (.int q9 :: .int 16 :: [])) (pk_rem (a := j) (d := 4) (by omega) (by omega) (by omega))) ?_
                  refine lv_imul hx hb d_CM_ask_108 ?_
                  refine W.eq (g2 := F0 m 109 ls [.int (nI (16 * (j % 4)))]) (congrArg (fun q9 : Int32 => F0 m 109 ls (.int q9 :: [])) (pk_mul 16 (j % 4))) ?_
                  refine lv_istore (lv' := [(11, .int (nI (16 * (j % 4)))), (10, .int (nI (80 * 1 + i1))), (9, .int (nI q1)), (8, .int (nI (j / 4))), (7, .int 1), (0, .ref (ad 0)), (1, .int (nI j)), (2, .int (b2i nw)), (3, .long nv), (5, .int co), (6, .int mc)]) hx hb d_CM_ask_109 hl (by decide) rfl (fun ls hl => ?_)
                  refine lv_aload_n hx hb d_CM_ask_111 rfl (lv_at hl 5 rfl) ?_
                  refine va_get (D := (dC, dI)) (ci := 4) (v := .ref (ad 7)) (C := R_CM) (T := F_CM) (N := 27) hx hb hT i_CM hown hK hP 0 rfl rfl 11 (by decide) (hT _ m_482) (fun _ h9 => h9) rfl d_CM_ask_112 ?_
                  refine lv_iload hx hb d_CM_ask_115 (lv_at hl 1 rfl) ?_
                  refine va_lald hx hb hK hP 7 1 rfl rfl (vp_in_nI (n := (80 * 1 + i1)) (by omega) (by omega)) d_CM_ask_117 ?_
                  refine W.eq (g2 := F0 m 118 ls [.long ((mv_sv V1) (80 * 1 + i1))]) (by rw [nI_clamp (n := (80 * 1 + i1)) (by omega)] <;> rfl) ?_
                  refine lv_iload hx hb d_CM_ask_118 (lv_at hl 0 rfl) ?_
                  refine lv_lushr (v := (((mv_sv V1) (80 * 1 + i1)).toUInt64 >>> ((nI (16 * (j % 4))).toInt64.toUInt64 &&& Int64.toUInt64 63)).toInt64) hx hb d_CM_ask_120 rfl ?_
                  refine lv_l2i (v := ((((mv_sv V1) (80 * 1 + i1)).toUInt64 >>> ((nI (16 * (j % 4))).toInt64.toUInt64 &&& Int64.toUInt64 63)).toInt64).toInt32) hx hb d_CM_ask_121 rfl ?_
                  refine lv_ldc (v := 65535) hx hb hown (hT _ m_584) d_CM_ask_122 ?_
                  refine lv_iand hx hb d_CM_ask_124 ?_
                  refine W.eq (g2 := F0 m 125 ls [.int (ma_tl (mv_sv V1 (80 * 1 + i1)) j)]) rfl ?_
                  refine lv_istore (lv' := [(12, .int (ma_tl (mv_sv V1 (80 * 1 + i1)) j)), (11, .int (nI (16 * (j % 4)))), (10, .int (nI (80 * 1 + i1))), (9, .int (nI q1)), (8, .int (nI (j / 4))), (7, .int 1), (0, .ref (ad 0)), (1, .int (nI j)), (2, .int (b2i nw)), (3, .long nv), (5, .int co), (6, .int mc)]) hx hb d_CM_ask_125 hl (by decide) rfl (fun ls hl => ?_)
                  refine lv_aload_n hx hb d_CM_ask_127 rfl (lv_at hl 6 rfl) ?_
                  refine va_get (D := (dC, dI)) (ci := 4) (v := .ref (ad 6)) (C := R_CM) (T := F_CM) (N := 27) hx hb hT i_CM hown hK hP 0 rfl rfl 10 (by decide) (hT _ m_481) (fun _ h9 => h9) rfl d_CM_ask_128 ?_
                  refine lv_iload hx hb d_CM_ask_131 (lv_at hl 2 rfl) ?_
                  refine lv_iload hx hb d_CM_ask_133 (lv_at hl 11 rfl) ?_
                  refine va_iast hx hb hK hP hD hS 6 0 rfl rfl (vp_in_nI (n := (80 * 1 + i1)) (by omega) (by omega)) d_CM_ask_135 (fun H locs hP hD hS => ?_)
                  rw [nI_clamp (n := (80 * 1 + i1)) (by omega)] at hP hD
                  have hP : va_P (dC, dI) kCl (mw_ cI cJ ad L S C key 0 most asked td tr (mv_mk (mv_bl V1) (mv_lf V1) (mv_vl V1) (mv_ct V1) (mv_sb V1) (upd (mv_sl V1) (80 * 1 + i1) mc) (mv_sv V1) (mv_sz V1) (mv_ml V1)) (mv_cp o v)) H := hP
                  have hD : va_D A (mw_ cI cJ ad L S C key 0 most asked td tr (mv_mk (mv_bl V1) (mv_lf V1) (mv_vl V1) (mv_ct V1) (mv_sb V1) (upd (mv_sl V1) (80 * 1 + i1) mc) (mv_sv V1) (mv_sz V1) (mv_ml V1)) (mv_cp o v)) := hD
                  refine lv_aload_n hx hb d_CM_ask_136 rfl (lv_at hl 6 rfl) ?_
                  refine va_get (D := (dC, dI)) (ci := 4) (v := .ref (ad 7)) (C := R_CM) (T := F_CM) (N := 27) hx hb hT i_CM hown hK hP 0 rfl rfl 11 (by decide) (hT _ m_482) (fun _ h9 => h9) rfl d_CM_ask_137 ?_
                  refine lv_iload hx hb d_CM_ask_140 (lv_at hl 2 rfl) ?_
                  refine lv_aload_n hx hb d_CM_ask_142 rfl (lv_at hl 6 rfl) ?_
                  refine va_get (D := (dC, dI)) (ci := 4) (v := .ref (ad 7)) (C := R_CM) (T := F_CM) (N := 27) hx hb hT i_CM hown hK hP 0 rfl rfl 11 (by decide) (hT _ m_482) (fun _ h9 => h9) rfl d_CM_ask_143 ?_
                  refine lv_iload hx hb d_CM_ask_146 (lv_at hl 2 rfl) ?_
                  refine va_lald hx hb hK hP 7 1 rfl rfl (vp_in_nI (n := (80 * 1 + i1)) (by omega) (by omega)) d_CM_ask_148 ?_
                  refine W.eq (g2 := F0 m 149 ls [.long ((mv_sv V1) (80 * 1 + i1)), .int (nI (80 * 1 + i1)), .ref (ad 7)]) (by rw [nI_clamp (n := (80 * 1 + i1)) (by omega)] <;> rfl) ?_
                  refine lv_ldc2 (v := 65535) hx hb hown (hT _ m_585) d_CM_ask_149 ?_
                  refine lv_iload hx hb d_CM_ask_152 (lv_at hl 1 rfl) ?_
                  refine lv_lshl (v := (65535 <<< ((nI (16 * (j % 4))).toInt64 &&& 63))) hx hb d_CM_ask_154 rfl ?_
                  refine lv_ldc2 (v := (-1)) hx hb hown (hT _ m_586) d_CM_ask_155 ?_
                  refine lv_lxor hx hb d_CM_ask_158 ?_
                  refine lv_land hx hb d_CM_ask_159 ?_
                  refine lv_iload hx hb d_CM_ask_160 (lv_at hl 10 rfl) ?_
                  refine lv_i2l (v := co.toInt64) hx hb d_CM_ask_162 rfl ?_
                  refine lv_lconst (v := 1) hx hb d_CM_ask_163 (by decide) ?_
                  refine lv_ladd hx hb d_CM_ask_164 ?_
                  refine lv_iload hx hb d_CM_ask_165 (lv_at hl 1 rfl) ?_
                  refine lv_lshl (v := (((co.toInt64) + 1) <<< ((nI (16 * (j % 4))).toInt64 &&& 63))) hx hb d_CM_ask_167 rfl ?_
                  refine lv_lor hx hb d_CM_ask_168 ?_
                  refine va_last hx hb hK hP hD hS 7 1 rfl rfl (vp_in_nI (n := (80 * 1 + i1)) (by omega) (by omega)) d_CM_ask_169 (fun H locs hP hD hS => ?_)
                  rw [nI_clamp (n := (80 * 1 + i1)) (by omega)] at hP hD
                  have hP : va_P (dC, dI) kCl (mw_ cI cJ ad L S C key 0 most asked td tr (mv_mk (mv_bl V1) (mv_lf V1) (mv_vl V1) (mv_ct V1) (mv_sb V1) (upd (mv_sl V1) (80 * 1 + i1) mc) (vp_updL (mv_sv V1) (80 * 1 + i1) ((((mv_sv V1) (80 * 1 + i1)) &&& (((65535 <<< ((nI (16 * (j % 4))).toInt64 &&& 63))) ^^^ (-1))) ||| ((((co.toInt64) + 1) <<< ((nI (16 * (j % 4))).toInt64 &&& 63))))) (mv_sz V1) (mv_ml V1)) (mv_cp o v)) H := hP
                  have hD : va_D A (mw_ cI cJ ad L S C key 0 most asked td tr (mv_mk (mv_bl V1) (mv_lf V1) (mv_vl V1) (mv_ct V1) (mv_sb V1) (upd (mv_sl V1) (80 * 1 + i1) mc) (vp_updL (mv_sv V1) (80 * 1 + i1) ((((mv_sv V1) (80 * 1 + i1)) &&& (((65535 <<< ((nI (16 * (j % 4))).toInt64 &&& 63))) ^^^ (-1))) ||| ((((co.toInt64) + 1) <<< ((nI (16 * (j % 4))).toInt64 &&& 63))))) (mv_sz V1) (mv_ml V1)) (mv_cp o v)) := hD
                  refine lv_aload_n hx hb d_CM_ask_170 rfl (lv_at hl 6 rfl) ?_
                  refine va_get (D := (dC, dI)) (ci := 4) (v := .ref (ad 9)) (C := R_CM) (T := F_CM) (N := 27) hx hb hT i_CM hown hK hP 0 rfl rfl 13 (by decide) (hT _ m_484) (fun _ h9 => h9) rfl d_CM_ask_171 ?_
                  refine lv_iload hx hb d_CM_ask_174 (lv_at hl 4 rfl) ?_
                  refine lv_iload hx hb d_CM_ask_176 (lv_at hl 11 rfl) ?_
                  refine va_iast hx hb hK hP hD hS 9 0 rfl rfl (vp_in_nI (n := (j / 4)) (by omega) (by omega)) d_CM_ask_178 (fun H locs hP hD hS => ?_)
                  rw [nI_clamp (n := (j / 4)) (by omega)] at hP hD
                  have hP : va_P (dC, dI) kCl (mw_ cI cJ ad L S C key 0 most asked td tr (mv_mk (mv_bl V1) (mv_lf V1) (mv_vl V1) (mv_ct V1) (mv_sb V1) (upd (mv_sl V1) (80 * 1 + i1) mc) (vp_updL (mv_sv V1) (80 * 1 + i1) ((((mv_sv V1) (80 * 1 + i1)) &&& (((65535 <<< ((nI (16 * (j % 4))).toInt64 &&& 63))) ^^^ (-1))) ||| ((((co.toInt64) + 1) <<< ((nI (16 * (j % 4))).toInt64 &&& 63))))) (mv_sz V1) (upd (mv_ml V1) (j / 4) mc)) (mv_cp o v)) H := hP
                  have hD : va_D A (mw_ cI cJ ad L S C key 0 most asked td tr (mv_mk (mv_bl V1) (mv_lf V1) (mv_vl V1) (mv_ct V1) (mv_sb V1) (upd (mv_sl V1) (80 * 1 + i1) mc) (vp_updL (mv_sv V1) (80 * 1 + i1) ((((mv_sv V1) (80 * 1 + i1)) &&& (((65535 <<< ((nI (16 * (j % 4))).toInt64 &&& 63))) ^^^ (-1))) ||| ((((co.toInt64) + 1) <<< ((nI (16 * (j % 4))).toInt64 &&& 63))))) (mv_sz V1) (upd (mv_ml V1) (j / 4) mc)) (mv_cp o v)) := hD
                  refine lv_aload_n hx hb d_CM_ask_179 rfl (lv_at hl 6 rfl) ?_
                  refine lv_iconst (v := 1) hx hb d_CM_ask_180 (by decide) ?_
                  refine lv_iload hx hb d_CM_ask_181 (lv_at hl 3 rfl) ?_
                  have hP : va_P (dC, dI) kCl (mw_ cI cJ ad L S C key 0 most asked td tr (ma_s1 V1 (80 * 1 + i1) (j / 4) mc (ma_nx (mv_sv V1 (80 * 1 + i1)) j co)) (mv_cp o v)) H := hP
                  have hD : va_D A (mw_ cI cJ ad L S C key 0 most asked td tr (ma_s1 V1 (80 * 1 + i1) (j / 4) mc (ma_nx (mv_sv V1 (80 * 1 + i1)) j co)) (mv_cp o v)) := hD
                  refine mc_i (va_runV (As := [.int 1, .int (nI q1)]) (rest := []) ⟨hx, hb, hml, hown, hT⟩ (c_CM_fill ok (v := ma_s1 V1 (80 * 1 + i1) (j / 4) mc (ma_nx (mv_sv V1 (80 * 1 + i1)) j co)) 1 (by omega) (show mv_sz V1 1 ≤ 80 by omega) q1 hq1) (cwV 2 hT (gi_V m_590 m_587 m_589 m_16 m_27) rfl rfl rfl p_CM_fill ⟨Nat.le_of_ble_eq_true rfl, Nat.le_of_ble_eq_true rfl⟩) ⟨mP_blind, va_recv hK hP (ci := 4) (q0 := 0) rfl rfl, mP_pre hK hP hD⟩ rfl rfl hl.1 rfl (lv_room (Nat.le_of_ble_eq_true rfl)) d_CM_ask_183 ⟨Nat.le_refl _, Nat.le_refl _⟩) hS (fun H locs hP hD hS => ?_)
                  obtain ⟨V3, hV3⟩ : ∃ V : Mv, V = mv_fill L S 1 q1 (ma_s1 V1 (80 * 1 + i1) (j / 4) mc (ma_nx (mv_sv V1 (80 * 1 + i1)) j co)) := ⟨_, rfl⟩
                  rw [← hV3] at hP hD
                  have hP : va_P (dC, dI) kCl (mw_ cI cJ ad L S C key 0 most asked td tr (V3) (mv_cp o v)) H := hP
                  have hD : va_D A (mw_ cI cJ ad L S C key 0 most asked td tr (V3) (mv_cp o v)) := hD
                  refine W.eq (g2 := F0 m 186 ls [.int (b2i (decide (mv_sz V3 1 ≤ C)))]) (by rw [hV3]) ?_
                  refine lv_istore (lv' := [(13, .int (b2i (decide (mv_sz V3 1 ≤ C)))), (12, .int (ma_tl (mv_sv V1 (80 * 1 + i1)) j)), (11, .int (nI (16 * (j % 4)))), (10, .int (nI (80 * 1 + i1))), (9, .int (nI q1)), (8, .int (nI (j / 4))), (7, .int 1), (0, .ref (ad 0)), (1, .int (nI j)), (2, .int (b2i nw)), (3, .long nv), (5, .int co), (6, .int mc)]) hx hb d_CM_ask_186 hl (by decide) rfl (fun ls hl => ?_)
                  refine lv_iload hx hb d_CM_ask_188 (lv_at hl 1 rfl) ?_
                  refine lv_if_ne (tgt := 203) hx hb d_CM_ask_190 (by decide) (fun c_34 => ?_) (fun c_34 => ?_)
                  · have hc190 := c_34
                    refine lv_iload hx hb d_CM_ask_203 (lv_at hl 1 rfl) ?_
                    refine lv_iconst (v := 1) hx hb d_CM_ask_205 (by decide) ?_
                    refine lv_isub hx hb d_CM_ask_206 ?_
                    obtain ⟨q0, hq0, hl0⟩ := hlf9 j hj q1 hq1 i1 hm1 (by rw [← hV1]; exact hi1) (by rw [← hV1]; exact hai1)
                    rw [← hV1] at hl0
                    refine W.eq (g2 := F0 m 207 ls [.int (nI q0)]) (by rw [← hl0]; unfold ma_lf; first | rw [if_pos hc190] | rw [if_neg hc190]) ?_
                    refine lv_istore (lv' := [(14, .int (nI q0)), (13, .int (b2i (decide (mv_sz V3 1 ≤ C)))), (12, .int (ma_tl (mv_sv V1 (80 * 1 + i1)) j)), (11, .int (nI (16 * (j % 4)))), (10, .int (nI (80 * 1 + i1))), (9, .int (nI q1)), (8, .int (nI (j / 4))), (7, .int 1), (0, .ref (ad 0)), (1, .int (nI j)), (2, .int (b2i nw)), (3, .long nv), (5, .int co), (6, .int mc)]) hx hb d_CM_ask_207 hl (by decide) rfl (fun ls hl => ?_)
                    refine lv_aload_n hx hb d_CM_ask_209 rfl (lv_at hl 8 rfl) ?_
                    refine lv_iconst (v := 0) hx hb d_CM_ask_210 (by decide) ?_
                    refine lv_iload_n hx hb d_CM_ask_211 rfl (lv_at hl 9 rfl) ?_
                    refine lv_iload hx hb d_CM_ask_212 (lv_at hl 0 rfl) ?_
                    have hz30 : mv_sz V3 0 ≤ 40 := by
                      rw [hV3, mv_fill_o (by decide)]
                      show mv_sz V1 0 ≤ 40
                      rw [hV1, mv_gather_o (by decide)]; exact hz0
                    refine mc_i (va_runV (As := [.int 0, .int (nI j), .int (nI q0)]) (rest := []) ⟨hx, hb, hml, hown, hT⟩ (c_CM_gather ok (v := V3) 0 (by omega) hz30 (nI j) q0 hq0) (cwV 3 hT (gi_V m_572 m_569 m_571 m_13 m_27) rfl rfl rfl p_CM_gather ⟨Nat.le_of_ble_eq_true rfl, Nat.le_of_ble_eq_true rfl⟩) ⟨mP_blind, va_recv hK hP (ci := 4) (q0 := 0) rfl rfl, mP_pre hK hP hD⟩ rfl rfl hl.1 rfl (lv_room (Nat.le_of_ble_eq_true rfl)) d_CM_ask_214 ⟨Nat.le_refl _, Nat.le_refl _⟩) hS (fun H locs hP hD hS => ?_)
                    obtain ⟨i0, hi0, hai0, -⟩ := mv_gather_at (T := 0) (b := nI j) (lf := q0) (v := V3) (by omega) qL1 qL5 qS4 hz30
                    have hzG0 := mv_gather_sz (T := 0) (b := nI j) (lf := q0) (v := V3) qL1 qL5 qS4 hz30
                    refine W.eq (g2 := F0 m 217 ls [.int (nI (80 * 0 + i0))]) (by rw [hai0]) ?_
                    obtain ⟨V4, hV4⟩ : ∃ V : Mv, V = mv_gather L S 0 (nI j) q0 V3 := ⟨_, rfl⟩
                    rw [← hV4] at hP hD hi0 hai0 hzG0
                    have hP : va_P (dC, dI) kCl (mw_ cI cJ ad L S C key 0 most asked td tr (V4) (mv_cp o v)) H := hP
                    have hD : va_D A (mw_ cI cJ ad L S C key 0 most asked td tr (V4) (mv_cp o v)) := hD
                    refine lv_istore (lv' := [(15, .int (nI (80 * 0 + i0))), (14, .int (nI q0)), (13, .int (b2i (decide (mv_sz V3 1 ≤ C)))), (12, .int (ma_tl (mv_sv V1 (80 * 1 + i1)) j)), (11, .int (nI (16 * (j % 4)))), (10, .int (nI (80 * 1 + i1))), (9, .int (nI q1)), (8, .int (nI (j / 4))), (7, .int 1), (0, .ref (ad 0)), (1, .int (nI j)), (2, .int (b2i nw)), (3, .long nv), (5, .int co), (6, .int mc)]) hx hb d_CM_ask_217 hl (by decide) rfl (fun ls hl => ?_)
                    refine lv_aload_n hx hb d_CM_ask_219 rfl (lv_at hl 9 rfl) ?_
                    refine va_get (D := (dC, dI)) (ci := 4) (v := .ref (ad 7)) (C := R_CM) (T := F_CM) (N := 27) hx hb hT i_CM hown hK hP 0 rfl rfl 11 (by decide) (hT _ m_482) (fun _ h9 => h9) rfl d_CM_ask_220 ?_
                    refine lv_iload hx hb d_CM_ask_223 (lv_at hl 0 rfl) ?_
                    refine va_lald hx hb hK hP 7 1 rfl rfl (vp_in_nI (n := (80 * 0 + i0)) (by omega) (by omega)) d_CM_ask_225 ?_
                    refine W.eq (g2 := F0 m 226 ls [.long ((mv_sv V4) (80 * 0 + i0))]) (by rw [nI_clamp (n := (80 * 0 + i0)) (by omega)] <;> rfl) ?_
                    refine lv_lstore (lv' := [(16, .long ((mv_sv V4) (80 * 0 + i0))), (15, .int (nI (80 * 0 + i0))), (14, .int (nI q0)), (13, .int (b2i (decide (mv_sz V3 1 ≤ C)))), (12, .int (ma_tl (mv_sv V1 (80 * 1 + i1)) j)), (11, .int (nI (16 * (j % 4)))), (10, .int (nI (80 * 1 + i1))), (9, .int (nI q1)), (8, .int (nI (j / 4))), (7, .int 1), (0, .ref (ad 0)), (1, .int (nI j)), (2, .int (b2i nw)), (3, .long nv), (5, .int co), (6, .int mc)]) hx hb d_CM_ask_226 hl (by decide) rfl (fun ls hl => ?_)
                    refine lv_aload_n hx hb d_CM_ask_228 rfl (lv_at hl 10 rfl) ?_
                    refine va_get (D := (dC, dI)) (ci := 4) (v := .ref (ad 6)) (C := R_CM) (T := F_CM) (N := 27) hx hb hT i_CM hown hK hP 0 rfl rfl 10 (by decide) (hT _ m_481) (fun _ h9 => h9) rfl d_CM_ask_229 ?_
                    refine lv_iload hx hb d_CM_ask_232 (lv_at hl 1 rfl) ?_
                    refine lv_iload hx hb d_CM_ask_234 (lv_at hl 14 rfl) ?_
                    refine va_iast hx hb hK hP hD hS 6 0 rfl rfl (vp_in_nI (n := (80 * 0 + i0)) (by omega) (by omega)) d_CM_ask_236 (fun H locs hP hD hS => ?_)
                    rw [nI_clamp (n := (80 * 0 + i0)) (by omega)] at hP hD
                    have hP : va_P (dC, dI) kCl (mw_ cI cJ ad L S C key 0 most asked td tr (mv_mk (mv_bl V4) (mv_lf V4) (mv_vl V4) (mv_ct V4) (mv_sb V4) (upd (mv_sl V4) (80 * 0 + i0) co) (mv_sv V4) (mv_sz V4) (mv_ml V4)) (mv_cp o v)) H := hP
                    have hD : va_D A (mw_ cI cJ ad L S C key 0 most asked td tr (mv_mk (mv_bl V4) (mv_lf V4) (mv_vl V4) (mv_ct V4) (mv_sb V4) (upd (mv_sl V4) (80 * 0 + i0) co) (mv_sv V4) (mv_sz V4) (mv_ml V4)) (mv_cp o v)) := hD
                    refine lv_aload_n hx hb d_CM_ask_237 rfl (lv_at hl 10 rfl) ?_
                    refine va_get (D := (dC, dI)) (ci := 4) (v := .ref (ad 7)) (C := R_CM) (T := F_CM) (N := 27) hx hb hT i_CM hown hK hP 0 rfl rfl 11 (by decide) (hT _ m_482) (fun _ h9 => h9) rfl d_CM_ask_238 ?_
                    refine lv_iload hx hb d_CM_ask_241 (lv_at hl 1 rfl) ?_
                    refine lv_iload_n hx hb d_CM_ask_243 rfl (lv_at hl 12 rfl) ?_
                    refine lv_if_eq (tgt := 251) hx hb d_CM_ask_244 (by decide) (fun c_35 => ?_) (fun c_35 => ?_)
                    · have hc244 := c_35
                      refine lv_lload hx hb d_CM_ask_251 (lv_at hl 0 rfl) ?_
                      have e253 : (((mv_sv V4) (80 * 0 + i0)) : Int64) = (if nw = true then nv else mv_sv V4 (80 * 0 + i0)) := (if_neg (by rw [b2i_0.mp hc244]; decide)).symm
                      refine W.eq (g2 := F0 m 253 ls [.long (if nw = true then nv else mv_sv V4 (80 * 0 + i0)), .int (nI (80 * 0 + i0)), .ref (ad 7)]) (by rw [← e253]) ?_
                      refine va_last hx hb hK hP hD hS 7 1 rfl rfl (vp_in_nI (n := (80 * 0 + i0)) (by omega) (by omega)) d_CM_ask_253 (fun H locs hP hD hS => ?_)
                      rw [nI_clamp (n := (80 * 0 + i0)) (by omega)] at hP hD
                      have hP : va_P (dC, dI) kCl (mw_ cI cJ ad L S C key 0 most asked td tr (mv_mk (mv_bl V4) (mv_lf V4) (mv_vl V4) (mv_ct V4) (mv_sb V4) (upd (mv_sl V4) (80 * 0 + i0) co) (vp_updL (mv_sv V4) (80 * 0 + i0) (if nw = true then nv else mv_sv V4 (80 * 0 + i0))) (mv_sz V4) (mv_ml V4)) (mv_cp o v)) H := hP
                      have hD : va_D A (mw_ cI cJ ad L S C key 0 most asked td tr (mv_mk (mv_bl V4) (mv_lf V4) (mv_vl V4) (mv_ct V4) (mv_sb V4) (upd (mv_sl V4) (80 * 0 + i0) co) (vp_updL (mv_sv V4) (80 * 0 + i0) (if nw = true then nv else mv_sv V4 (80 * 0 + i0))) (mv_sz V4) (mv_ml V4)) (mv_cp o v)) := hD
                      refine lv_aload_n hx hb d_CM_ask_254 rfl (lv_at hl 10 rfl) ?_
                      refine lv_iconst (v := 0) hx hb d_CM_ask_255 (by decide) ?_
                      refine lv_iload hx hb d_CM_ask_256 (lv_at hl 2 rfl) ?_
                      have hP : va_P (dC, dI) kCl (mw_ cI cJ ad L S C key 0 most asked td tr (ma_s0 V4 (80 * 0 + i0) co (if nw = true then nv else mv_sv V4 (80 * 0 + i0))) (mv_cp o v)) H := hP
                      have hD : va_D A (mw_ cI cJ ad L S C key 0 most asked td tr (ma_s0 V4 (80 * 0 + i0) co (if nw = true then nv else mv_sv V4 (80 * 0 + i0))) (mv_cp o v)) := hD
                      refine mc_i (va_runV (As := [.int 0, .int (nI q0)]) (rest := []) ⟨hx, hb, hml, hown, hT⟩ (c_CM_fill ok (v := ma_s0 V4 (80 * 0 + i0) co (if nw = true then nv else mv_sv V4 (80 * 0 + i0))) 0 (by omega) (show mv_sz V4 0 ≤ 80 by omega) q0 hq0) (cwV 2 hT (gi_V m_590 m_587 m_589 m_16 m_27) rfl rfl rfl p_CM_fill ⟨Nat.le_of_ble_eq_true rfl, Nat.le_of_ble_eq_true rfl⟩) ⟨mP_blind, va_recv hK hP (ci := 4) (q0 := 0) rfl rfl, mP_pre hK hP hD⟩ rfl rfl hl.1 rfl (lv_room (Nat.le_of_ble_eq_true rfl)) d_CM_ask_258 ⟨Nat.le_refl _, Nat.le_refl _⟩) hS (fun H locs hP hD hS => ?_)
                      obtain ⟨V6, hV6⟩ : ∃ V : Mv, V = mv_fill L S 0 q0 (ma_s0 V4 (80 * 0 + i0) co (if nw = true then nv else mv_sv V4 (80 * 0 + i0))) := ⟨_, rfl⟩
                      rw [← hV6] at hP hD
                      have hP : va_P (dC, dI) kCl (mw_ cI cJ ad L S C key 0 most asked td tr (V6) (mv_cp o v)) H := hP
                      have hD : va_D A (mw_ cI cJ ad L S C key 0 most asked td tr (V6) (mv_cp o v)) := hD
                      refine W.eq (g2 := F0 m 261 ls [.int (b2i (decide (mv_sz V6 0 ≤ C)))]) (by rw [hV6]) ?_
                      refine lv_istore (lv' := [(18, .int (b2i (decide (mv_sz V6 0 ≤ C)))), (16, .long ((mv_sv V4) (80 * 0 + i0))), (15, .int (nI (80 * 0 + i0))), (14, .int (nI q0)), (13, .int (b2i (decide (mv_sz V3 1 ≤ C)))), (12, .int (ma_tl (mv_sv V1 (80 * 1 + i1)) j)), (11, .int (nI (16 * (j % 4)))), (10, .int (nI (80 * 1 + i1))), (9, .int (nI q1)), (8, .int (nI (j / 4))), (7, .int 1), (0, .ref (ad 0)), (1, .int (nI j)), (2, .int (b2i nw)), (3, .long nv), (5, .int co), (6, .int mc)]) hx hb d_CM_ask_261 hl (by decide) rfl (fun ls hl => ?_)
                      refine lv_iload hx hb d_CM_ask_263 (lv_at hl 4 rfl) ?_
                      refine lv_if_eq (tgt := 273) hx hb d_CM_ask_265 (by decide) (fun c_36 => ?_) (fun c_36 => ?_)
                      · have hf1 := c_36
                        refine lv_aload_n hx hb d_CM_ask_273 rfl (lv_at hl 11 rfl) ?_
                        refine mc_v (va_runV (As := []) (rest := []) ⟨hx, hb, hml, hown, hT⟩ (c_CM_takeBack ok ) (cwV 0 hT (gi_V m_598 m_595 m_597 m_18 m_27) rfl rfl rfl p_CM_takeBack ⟨Nat.le_of_ble_eq_true rfl, Nat.le_of_ble_eq_true rfl⟩) ⟨mP_blind, va_recv hK hP (ci := 4) (q0 := 0) rfl rfl, mP_pre hK hP hD⟩ rfl rfl hl.1 rfl (lv_room (Nat.le_of_ble_eq_true rfl)) d_CM_ask_274 ⟨Nat.le_refl _, Nat.le_refl _⟩) hS (fun H locs hP hD hS => ?_)
                        have hP : va_P (dC, dI) kCl (mw_ cI cJ ad L S C key 0 most asked td tr (mv_cp V6 (mv_cp o v)) (mv_cp o v)) H := hP
                        have hD : va_D A (mw_ cI cJ ad L S C key 0 most asked td tr (mv_cp V6 (mv_cp o v)) (mv_cp o v)) := hD
                        refine lv_aload_n hx hb d_CM_ask_277 rfl (lv_at hl 11 rfl) ?_
                        refine lv_iconst (v := 3) hx hb d_CM_ask_278 (by decide) ?_
                        refine va_put (D := (dC, dI)) (ci := 4) (v := .int 3) (ty := .int) (C := R_CM) (T := F_CM) (N := 27) hx hb hT i_CM t_CM t_CM_ok n_CM hown hK hP hD hS 0 rfl rfl 0 (by decide) (hT _ m_471) (fun _ h9 => h9) rfl (by decide +kernel) rfl rfl (Nat.le_of_ble_eq_true rfl) d_CM_ask_279 (fun H locs hP hD hS => ?_)
                        have hP : va_P (dC, dI) kCl (mw_ cI cJ ad L S C key 3 most asked td tr (mv_cp V6 (mv_cp o v)) (mv_cp o v)) H := hP
                        have hD : va_D A (mw_ cI cJ ad L S C key 3 most asked td tr (mv_cp V6 (mv_cp o v)) (mv_cp o v)) := hD
                        refine lv_lconst (v := 0) hx hb d_CM_ask_282 (by decide) ?_
                        exact W.lret hx hb hr (fun t9 ht _ => aQl_end ((3, most, asked, td, tr, mv_cp V6 (mv_cp o v), mv_cp o v)) (Or.inr (Or.inr ⟨j, q1, i1, q0, i0, V1, V3, V4, V6, hj, rfl, hco0, hco1, hq1, hm1, hV1, hi1, hai1, hV3, hq0, hl0, hV4, hi0, hai0, hV6, Or.inr ⟨fun h9 => by first | exact absurd h9.1 (of_decide_eq_false (b2i_0.mp hf1)) | exact absurd h9.2 (of_decide_eq_false (b2i_0.mp hf0)), rfl, rfl⟩⟩)) rfl hP hD hS ht) hS.2.2 d_CM_ask_283 hlocks
                      · have hf1 := c_36
                        refine lv_iload hx hb d_CM_ask_268 (lv_at hl 0 rfl) ?_
                        refine lv_if_ne (tgt := 284) hx hb d_CM_ask_270 (by decide) (fun c_37 => ?_) (fun c_37 => ?_)
                        · have hf0 := c_37
                          refine lv_aload_n hx hb d_CM_ask_284 rfl (lv_at hl 11 rfl) ?_
                          refine lv_aload_n hx hb d_CM_ask_285 rfl (lv_at hl 11 rfl) ?_
                          refine va_get (D := (dC, dI)) (ci := 4) (v := .ref (ad 8)) (C := R_CM) (T := F_CM) (N := 27) hx hb hT i_CM hown hK hP 0 rfl rfl 12 (by decide) (hT _ m_483) (fun _ h9 => h9) rfl d_CM_ask_286 ?_
                          refine lv_iconst (v := 0) hx hb d_CM_ask_289 (by decide) ?_
                          refine va_iald hx hb hK hP 8 0 rfl rfl (vp_in_nI (n := 0) (by omega) (by omega)) d_CM_ask_290 ?_
                          refine W.eq (g2 := F0 m 291 ls [.int (nI ((mv_sz V6) 0)), .ref (ad 0)]) (rfl) ?_
                          refine lv_aload_n hx hb d_CM_ask_291 rfl (lv_at hl 11 rfl) ?_
                          refine va_get (D := (dC, dI)) (ci := 4) (v := .int most) (C := R_CM) (T := F_CM) (N := 27) hx hb hT i_CM hown hK hP 0 rfl rfl 14 (by decide) (hT _ m_485) (fun _ h9 => h9) rfl d_CM_ask_292 ?_
                          refine lv_icmp_le (tgt := 307) hx hb d_CM_ask_295 (by decide) (fun c_38 => ?_) (fun c_38 => ?_)
                          · have hc295 := c_38
                            refine lv_aload_n hx hb d_CM_ask_307 rfl (lv_at hl 11 rfl) ?_
                            refine va_get (D := (dC, dI)) (ci := 4) (v := .int most) (C := R_CM) (T := F_CM) (N := 27) hx hb hT i_CM hown hK hP 0 rfl rfl 14 (by decide) (hT _ m_485) (fun _ h9 => h9) rfl d_CM_ask_308 ?_
                            refine va_put (D := (dC, dI)) (ci := 4) (v := .int most) (ty := .int) (C := R_CM) (T := F_CM) (N := 27) hx hb hT i_CM t_CM t_CM_ok n_CM hown hK hP hD hS 0 rfl rfl 14 (by decide) (hT _ m_485) (fun _ h9 => h9) rfl (by decide +kernel) rfl rfl (Nat.le_of_ble_eq_true rfl) d_CM_ask_311 (fun H locs hP hD hS => ?_)
                            have hP : va_P (dC, dI) kCl (mw_ cI cJ ad L S C key 0 most asked td tr (V6) (mv_cp o v)) H := hP
                            have hD : va_D A (mw_ cI cJ ad L S C key 0 most asked td tr (V6) (mv_cp o v)) := hD
                            refine lv_aload_n hx hb d_CM_ask_314 rfl (lv_at hl 11 rfl) ?_
                            refine lv_dup hx hb d_CM_ask_315 rfl ?_
                            refine va_get (D := (dC, dI)) (ci := 4) (v := .int asked) (C := R_CM) (T := F_CM) (N := 27) hx hb hT i_CM hown hK hP 0 rfl rfl 15 (by decide) (hT _ m_486) (fun _ h9 => h9) rfl d_CM_ask_316 ?_
                            refine lv_iconst (v := 1) hx hb d_CM_ask_319 (by decide) ?_
                            refine lv_iadd hx hb d_CM_ask_320 ?_
                            refine va_put (D := (dC, dI)) (ci := 4) (v := .int (asked + 1)) (ty := .int) (C := R_CM) (T := F_CM) (N := 27) hx hb hT i_CM t_CM t_CM_ok n_CM hown hK hP hD hS 0 rfl rfl 15 (by decide) (hT _ m_486) (fun _ h9 => h9) rfl (by decide +kernel) rfl rfl (Nat.le_of_ble_eq_true rfl) d_CM_ask_321 (fun H locs hP hD hS => ?_)
                            have hP : va_P (dC, dI) kCl (mw_ cI cJ ad L S C key 0 most (asked + 1) td tr (V6) (mv_cp o v)) H := hP
                            have hD : va_D A (mw_ cI cJ ad L S C key 0 most (asked + 1) td tr (V6) (mv_cp o v)) := hD
                            refine lv_aload_n hx hb d_CM_ask_324 rfl (lv_at hl 11 rfl) ?_
                            refine lv_iload hx hb d_CM_ask_325 (lv_at hl 3 rfl) ?_
                            refine lv_iload hx hb d_CM_ask_327 (lv_at hl 8 rfl) ?_
                            refine mc_v (va_runV (As := [.int (nI q0), .int (nI q1)]) (rest := []) ⟨hx, hb, hml, hown, hT⟩ (c_CM_mark ok htd (nI q0) (nI q1)) (cwV 2 hT (gi_V m_602 m_599 m_601 m_19 m_27) rfl rfl rfl p_CM_mark ⟨Nat.le_of_ble_eq_true rfl, Nat.le_of_ble_eq_true rfl⟩) ⟨mP_blind, va_recv hK hP (ci := 4) (q0 := 0) rfl rfl, mP_pre hK hP hD⟩ rfl rfl hl.1 rfl (lv_room (Nat.le_of_ble_eq_true rfl)) d_CM_ask_329 ⟨Nat.le_refl _, Nat.le_refl _⟩) hS (fun H locs hP hD hS => ?_)
                            have hP : va_P (dC, dI) kCl (mw_ cI cJ ad L S C key 0 most (asked + 1) (td + 1) (upd (upd tr (2 * td) (nI q0)) (2 * td + 1) (nI q1)) (V6) (mv_cp o v)) H := hP
                            have hD : va_D A (mw_ cI cJ ad L S C key 0 most (asked + 1) (td + 1) (upd (upd tr (2 * td) (nI q0)) (2 * td + 1) (nI q1)) (V6) (mv_cp o v)) := hD
                            refine lv_lload hx hb d_CM_ask_332 (lv_at hl 1 rfl) ?_
                            exact W.lret hx hb hr (fun t9 ht _ => aQl_end ((0, most, asked + 1, td + 1, upd (upd tr (2 * td) (nI q0)) (2 * td + 1) (nI q1), V6, mv_cp o v)) (Or.inr (Or.inr ⟨j, q1, i1, q0, i0, V1, V3, V4, V6, hj, rfl, hco0, hco1, hq1, hm1, hV1, hi1, hai1, hV3, hq0, hl0, hV4, hi0, hai0, hV6, Or.inl ⟨of_decide_eq_true (b2i_n.mp hf1), of_decide_eq_true (b2i_n.mp hf0), rfl, by first | rw [if_pos (Int32.not_le.mp hc295)] | rw [if_neg (Int32.not_lt.mpr hc295)]⟩⟩)) rfl hP hD hS ht) hS.2.2 d_CM_ask_334 hlocks
                          · have hc295 := c_38
                            refine lv_aload_n hx hb d_CM_ask_298 rfl (lv_at hl 11 rfl) ?_
                            refine va_get (D := (dC, dI)) (ci := 4) (v := .ref (ad 8)) (C := R_CM) (T := F_CM) (N := 27) hx hb hT i_CM hown hK hP 0 rfl rfl 12 (by decide) (hT _ m_483) (fun _ h9 => h9) rfl d_CM_ask_299 ?_
                            refine lv_iconst (v := 0) hx hb d_CM_ask_302 (by decide) ?_
                            refine va_iald hx hb hK hP 8 0 rfl rfl (vp_in_nI (n := 0) (by omega) (by omega)) d_CM_ask_303 ?_
                            refine W.eq (g2 := F0 m 304 ls [.int (nI ((mv_sz V6) 0)), .ref (ad 0)]) (rfl) ?_
                            refine lv_goto (tgt := 311) hx hb d_CM_ask_304 (by decide) ?_
                            refine va_put (D := (dC, dI)) (ci := 4) (v := .int (nI ((mv_sz V6) 0))) (ty := .int) (C := R_CM) (T := F_CM) (N := 27) hx hb hT i_CM t_CM t_CM_ok n_CM hown hK hP hD hS 0 rfl rfl 14 (by decide) (hT _ m_485) (fun _ h9 => h9) rfl (by decide +kernel) rfl rfl (Nat.le_of_ble_eq_true rfl) d_CM_ask_311 (fun H locs hP hD hS => ?_)
                            have hP : va_P (dC, dI) kCl (mw_ cI cJ ad L S C key 0 (nI ((mv_sz V6) 0)) asked td tr (V6) (mv_cp o v)) H := hP
                            have hD : va_D A (mw_ cI cJ ad L S C key 0 (nI ((mv_sz V6) 0)) asked td tr (V6) (mv_cp o v)) := hD
                            refine lv_aload_n hx hb d_CM_ask_314 rfl (lv_at hl 11 rfl) ?_
                            refine lv_dup hx hb d_CM_ask_315 rfl ?_
                            refine va_get (D := (dC, dI)) (ci := 4) (v := .int asked) (C := R_CM) (T := F_CM) (N := 27) hx hb hT i_CM hown hK hP 0 rfl rfl 15 (by decide) (hT _ m_486) (fun _ h9 => h9) rfl d_CM_ask_316 ?_
                            refine lv_iconst (v := 1) hx hb d_CM_ask_319 (by decide) ?_
                            refine lv_iadd hx hb d_CM_ask_320 ?_
                            refine va_put (D := (dC, dI)) (ci := 4) (v := .int (asked + 1)) (ty := .int) (C := R_CM) (T := F_CM) (N := 27) hx hb hT i_CM t_CM t_CM_ok n_CM hown hK hP hD hS 0 rfl rfl 15 (by decide) (hT _ m_486) (fun _ h9 => h9) rfl (by decide +kernel) rfl rfl (Nat.le_of_ble_eq_true rfl) d_CM_ask_321 (fun H locs hP hD hS => ?_)
                            have hP : va_P (dC, dI) kCl (mw_ cI cJ ad L S C key 0 (nI ((mv_sz V6) 0)) (asked + 1) td tr (V6) (mv_cp o v)) H := hP
                            have hD : va_D A (mw_ cI cJ ad L S C key 0 (nI ((mv_sz V6) 0)) (asked + 1) td tr (V6) (mv_cp o v)) := hD
                            refine lv_aload_n hx hb d_CM_ask_324 rfl (lv_at hl 11 rfl) ?_
                            refine lv_iload hx hb d_CM_ask_325 (lv_at hl 3 rfl) ?_
                            refine lv_iload hx hb d_CM_ask_327 (lv_at hl 8 rfl) ?_
                            refine mc_v (va_runV (As := [.int (nI q0), .int (nI q1)]) (rest := []) ⟨hx, hb, hml, hown, hT⟩ (c_CM_mark ok htd (nI q0) (nI q1)) (cwV 2 hT (gi_V m_602 m_599 m_601 m_19 m_27) rfl rfl rfl p_CM_mark ⟨Nat.le_of_ble_eq_true rfl, Nat.le_of_ble_eq_true rfl⟩) ⟨mP_blind, va_recv hK hP (ci := 4) (q0 := 0) rfl rfl, mP_pre hK hP hD⟩ rfl rfl hl.1 rfl (lv_room (Nat.le_of_ble_eq_true rfl)) d_CM_ask_329 ⟨Nat.le_refl _, Nat.le_refl _⟩) hS (fun H locs hP hD hS => ?_)
                            have hP : va_P (dC, dI) kCl (mw_ cI cJ ad L S C key 0 (nI ((mv_sz V6) 0)) (asked + 1) (td + 1) (upd (upd tr (2 * td) (nI q0)) (2 * td + 1) (nI q1)) (V6) (mv_cp o v)) H := hP
                            have hD : va_D A (mw_ cI cJ ad L S C key 0 (nI ((mv_sz V6) 0)) (asked + 1) (td + 1) (upd (upd tr (2 * td) (nI q0)) (2 * td + 1) (nI q1)) (V6) (mv_cp o v)) := hD
                            refine lv_lload hx hb d_CM_ask_332 (lv_at hl 1 rfl) ?_
                            exact W.lret hx hb hr (fun t9 ht _ => aQl_end ((0, (nI ((mv_sz V6) 0)), asked + 1, td + 1, upd (upd tr (2 * td) (nI q0)) (2 * td + 1) (nI q1), V6, mv_cp o v)) (Or.inr (Or.inr ⟨j, q1, i1, q0, i0, V1, V3, V4, V6, hj, rfl, hco0, hco1, hq1, hm1, hV1, hi1, hai1, hV3, hq0, hl0, hV4, hi0, hai0, hV6, Or.inl ⟨of_decide_eq_true (b2i_n.mp hf1), of_decide_eq_true (b2i_n.mp hf0), rfl, by first | rw [if_pos (Int32.not_le.mp hc295)] | rw [if_neg (Int32.not_lt.mpr hc295)]⟩⟩)) rfl hP hD hS ht) hS.2.2 d_CM_ask_334 hlocks
                        · have hf0 := c_37
                          refine lv_aload_n hx hb d_CM_ask_273 rfl (lv_at hl 11 rfl) ?_
                          refine mc_v (va_runV (As := []) (rest := []) ⟨hx, hb, hml, hown, hT⟩ (c_CM_takeBack ok ) (cwV 0 hT (gi_V m_598 m_595 m_597 m_18 m_27) rfl rfl rfl p_CM_takeBack ⟨Nat.le_of_ble_eq_true rfl, Nat.le_of_ble_eq_true rfl⟩) ⟨mP_blind, va_recv hK hP (ci := 4) (q0 := 0) rfl rfl, mP_pre hK hP hD⟩ rfl rfl hl.1 rfl (lv_room (Nat.le_of_ble_eq_true rfl)) d_CM_ask_274 ⟨Nat.le_refl _, Nat.le_refl _⟩) hS (fun H locs hP hD hS => ?_)
                          have hP : va_P (dC, dI) kCl (mw_ cI cJ ad L S C key 0 most asked td tr (mv_cp V6 (mv_cp o v)) (mv_cp o v)) H := hP
                          have hD : va_D A (mw_ cI cJ ad L S C key 0 most asked td tr (mv_cp V6 (mv_cp o v)) (mv_cp o v)) := hD
                          refine lv_aload_n hx hb d_CM_ask_277 rfl (lv_at hl 11 rfl) ?_
                          refine lv_iconst (v := 3) hx hb d_CM_ask_278 (by decide) ?_
                          refine va_put (D := (dC, dI)) (ci := 4) (v := .int 3) (ty := .int) (C := R_CM) (T := F_CM) (N := 27) hx hb hT i_CM t_CM t_CM_ok n_CM hown hK hP hD hS 0 rfl rfl 0 (by decide) (hT _ m_471) (fun _ h9 => h9) rfl (by decide +kernel) rfl rfl (Nat.le_of_ble_eq_true rfl) d_CM_ask_279 (fun H locs hP hD hS => ?_)
                          have hP : va_P (dC, dI) kCl (mw_ cI cJ ad L S C key 3 most asked td tr (mv_cp V6 (mv_cp o v)) (mv_cp o v)) H := hP
                          have hD : va_D A (mw_ cI cJ ad L S C key 3 most asked td tr (mv_cp V6 (mv_cp o v)) (mv_cp o v)) := hD
                          refine lv_lconst (v := 0) hx hb d_CM_ask_282 (by decide) ?_
                          exact W.lret hx hb hr (fun t9 ht _ => aQl_end ((3, most, asked, td, tr, mv_cp V6 (mv_cp o v), mv_cp o v)) (Or.inr (Or.inr ⟨j, q1, i1, q0, i0, V1, V3, V4, V6, hj, rfl, hco0, hco1, hq1, hm1, hV1, hi1, hai1, hV3, hq0, hl0, hV4, hi0, hai0, hV6, Or.inr ⟨fun h9 => by first | exact absurd h9.1 (of_decide_eq_false (b2i_0.mp hf1)) | exact absurd h9.2 (of_decide_eq_false (b2i_0.mp hf0)), rfl, rfl⟩⟩)) rfl hP hD hS ht) hS.2.2 d_CM_ask_283 hlocks
                    · have hc244 := c_35
                      refine lv_lload_n hx hb d_CM_ask_247 rfl (lv_at hl 13 rfl) ?_
                      refine lv_goto (tgt := 253) hx hb d_CM_ask_248 (by decide) ?_
                      have e253 : (nv : Int64) = (if nw = true then nv else mv_sv V4 (80 * 0 + i0)) := (if_pos (b2i_n.mp hc244)).symm
                      refine W.eq (g2 := F0 m 253 ls [.long (if nw = true then nv else mv_sv V4 (80 * 0 + i0)), .int (nI (80 * 0 + i0)), .ref (ad 7)]) (by rw [← e253]) ?_
                      refine va_last hx hb hK hP hD hS 7 1 rfl rfl (vp_in_nI (n := (80 * 0 + i0)) (by omega) (by omega)) d_CM_ask_253 (fun H locs hP hD hS => ?_)
                      rw [nI_clamp (n := (80 * 0 + i0)) (by omega)] at hP hD
                      have hP : va_P (dC, dI) kCl (mw_ cI cJ ad L S C key 0 most asked td tr (mv_mk (mv_bl V4) (mv_lf V4) (mv_vl V4) (mv_ct V4) (mv_sb V4) (upd (mv_sl V4) (80 * 0 + i0) co) (vp_updL (mv_sv V4) (80 * 0 + i0) (if nw = true then nv else mv_sv V4 (80 * 0 + i0))) (mv_sz V4) (mv_ml V4)) (mv_cp o v)) H := hP
                      have hD : va_D A (mw_ cI cJ ad L S C key 0 most asked td tr (mv_mk (mv_bl V4) (mv_lf V4) (mv_vl V4) (mv_ct V4) (mv_sb V4) (upd (mv_sl V4) (80 * 0 + i0) co) (vp_updL (mv_sv V4) (80 * 0 + i0) (if nw = true then nv else mv_sv V4 (80 * 0 + i0))) (mv_sz V4) (mv_ml V4)) (mv_cp o v)) := hD
                      refine lv_aload_n hx hb d_CM_ask_254 rfl (lv_at hl 10 rfl) ?_
                      refine lv_iconst (v := 0) hx hb d_CM_ask_255 (by decide) ?_
                      refine lv_iload hx hb d_CM_ask_256 (lv_at hl 2 rfl) ?_
                      have hP : va_P (dC, dI) kCl (mw_ cI cJ ad L S C key 0 most asked td tr (ma_s0 V4 (80 * 0 + i0) co (if nw = true then nv else mv_sv V4 (80 * 0 + i0))) (mv_cp o v)) H := hP
                      have hD : va_D A (mw_ cI cJ ad L S C key 0 most asked td tr (ma_s0 V4 (80 * 0 + i0) co (if nw = true then nv else mv_sv V4 (80 * 0 + i0))) (mv_cp o v)) := hD
                      refine mc_i (va_runV (As := [.int 0, .int (nI q0)]) (rest := []) ⟨hx, hb, hml, hown, hT⟩ (c_CM_fill ok (v := ma_s0 V4 (80 * 0 + i0) co (if nw = true then nv else mv_sv V4 (80 * 0 + i0))) 0 (by omega) (show mv_sz V4 0 ≤ 80 by omega) q0 hq0) (cwV 2 hT (gi_V m_590 m_587 m_589 m_16 m_27) rfl rfl rfl p_CM_fill ⟨Nat.le_of_ble_eq_true rfl, Nat.le_of_ble_eq_true rfl⟩) ⟨mP_blind, va_recv hK hP (ci := 4) (q0 := 0) rfl rfl, mP_pre hK hP hD⟩ rfl rfl hl.1 rfl (lv_room (Nat.le_of_ble_eq_true rfl)) d_CM_ask_258 ⟨Nat.le_refl _, Nat.le_refl _⟩) hS (fun H locs hP hD hS => ?_)
                      obtain ⟨V6, hV6⟩ : ∃ V : Mv, V = mv_fill L S 0 q0 (ma_s0 V4 (80 * 0 + i0) co (if nw = true then nv else mv_sv V4 (80 * 0 + i0))) := ⟨_, rfl⟩
                      rw [← hV6] at hP hD
                      have hP : va_P (dC, dI) kCl (mw_ cI cJ ad L S C key 0 most asked td tr (V6) (mv_cp o v)) H := hP
                      have hD : va_D A (mw_ cI cJ ad L S C key 0 most asked td tr (V6) (mv_cp o v)) := hD
                      refine W.eq (g2 := F0 m 261 ls [.int (b2i (decide (mv_sz V6 0 ≤ C)))]) (by rw [hV6]) ?_
                      refine lv_istore (lv' := [(18, .int (b2i (decide (mv_sz V6 0 ≤ C)))), (16, .long ((mv_sv V4) (80 * 0 + i0))), (15, .int (nI (80 * 0 + i0))), (14, .int (nI q0)), (13, .int (b2i (decide (mv_sz V3 1 ≤ C)))), (12, .int (ma_tl (mv_sv V1 (80 * 1 + i1)) j)), (11, .int (nI (16 * (j % 4)))), (10, .int (nI (80 * 1 + i1))), (9, .int (nI q1)), (8, .int (nI (j / 4))), (7, .int 1), (0, .ref (ad 0)), (1, .int (nI j)), (2, .int (b2i nw)), (3, .long nv), (5, .int co), (6, .int mc)]) hx hb d_CM_ask_261 hl (by decide) rfl (fun ls hl => ?_)
                      refine lv_iload hx hb d_CM_ask_263 (lv_at hl 4 rfl) ?_
                      refine lv_if_eq (tgt := 273) hx hb d_CM_ask_265 (by decide) (fun c_39 => ?_) (fun c_39 => ?_)
                      · have hf1 := c_39
                        refine lv_aload_n hx hb d_CM_ask_273 rfl (lv_at hl 11 rfl) ?_
                        refine mc_v (va_runV (As := []) (rest := []) ⟨hx, hb, hml, hown, hT⟩ (c_CM_takeBack ok ) (cwV 0 hT (gi_V m_598 m_595 m_597 m_18 m_27) rfl rfl rfl p_CM_takeBack ⟨Nat.le_of_ble_eq_true rfl, Nat.le_of_ble_eq_true rfl⟩) ⟨mP_blind, va_recv hK hP (ci := 4) (q0 := 0) rfl rfl, mP_pre hK hP hD⟩ rfl rfl hl.1 rfl (lv_room (Nat.le_of_ble_eq_true rfl)) d_CM_ask_274 ⟨Nat.le_refl _, Nat.le_refl _⟩) hS (fun H locs hP hD hS => ?_)
                        have hP : va_P (dC, dI) kCl (mw_ cI cJ ad L S C key 0 most asked td tr (mv_cp V6 (mv_cp o v)) (mv_cp o v)) H := hP
                        have hD : va_D A (mw_ cI cJ ad L S C key 0 most asked td tr (mv_cp V6 (mv_cp o v)) (mv_cp o v)) := hD
                        refine lv_aload_n hx hb d_CM_ask_277 rfl (lv_at hl 11 rfl) ?_
                        refine lv_iconst (v := 3) hx hb d_CM_ask_278 (by decide) ?_
                        refine va_put (D := (dC, dI)) (ci := 4) (v := .int 3) (ty := .int) (C := R_CM) (T := F_CM) (N := 27) hx hb hT i_CM t_CM t_CM_ok n_CM hown hK hP hD hS 0 rfl rfl 0 (by decide) (hT _ m_471) (fun _ h9 => h9) rfl (by decide +kernel) rfl rfl (Nat.le_of_ble_eq_true rfl) d_CM_ask_279 (fun H locs hP hD hS => ?_)
                        have hP : va_P (dC, dI) kCl (mw_ cI cJ ad L S C key 3 most asked td tr (mv_cp V6 (mv_cp o v)) (mv_cp o v)) H := hP
                        have hD : va_D A (mw_ cI cJ ad L S C key 3 most asked td tr (mv_cp V6 (mv_cp o v)) (mv_cp o v)) := hD
                        refine lv_lconst (v := 0) hx hb d_CM_ask_282 (by decide) ?_
                        exact W.lret hx hb hr (fun t9 ht _ => aQl_end ((3, most, asked, td, tr, mv_cp V6 (mv_cp o v), mv_cp o v)) (Or.inr (Or.inr ⟨j, q1, i1, q0, i0, V1, V3, V4, V6, hj, rfl, hco0, hco1, hq1, hm1, hV1, hi1, hai1, hV3, hq0, hl0, hV4, hi0, hai0, hV6, Or.inr ⟨fun h9 => by first | exact absurd h9.1 (of_decide_eq_false (b2i_0.mp hf1)) | exact absurd h9.2 (of_decide_eq_false (b2i_0.mp hf0)), rfl, rfl⟩⟩)) rfl hP hD hS ht) hS.2.2 d_CM_ask_283 hlocks
                      · have hf1 := c_39
                        refine lv_iload hx hb d_CM_ask_268 (lv_at hl 0 rfl) ?_
                        refine lv_if_ne (tgt := 284) hx hb d_CM_ask_270 (by decide) (fun c_40 => ?_) (fun c_40 => ?_)
                        · have hf0 := c_40
                          refine lv_aload_n hx hb d_CM_ask_284 rfl (lv_at hl 11 rfl) ?_
                          refine lv_aload_n hx hb d_CM_ask_285 rfl (lv_at hl 11 rfl) ?_
                          refine va_get (D := (dC, dI)) (ci := 4) (v := .ref (ad 8)) (C := R_CM) (T := F_CM) (N := 27) hx hb hT i_CM hown hK hP 0 rfl rfl 12 (by decide) (hT _ m_483) (fun _ h9 => h9) rfl d_CM_ask_286 ?_
                          refine lv_iconst (v := 0) hx hb d_CM_ask_289 (by decide) ?_
                          refine va_iald hx hb hK hP 8 0 rfl rfl (vp_in_nI (n := 0) (by omega) (by omega)) d_CM_ask_290 ?_
                          refine W.eq (g2 := F0 m 291 ls [.int (nI ((mv_sz V6) 0)), .ref (ad 0)]) (rfl) ?_
                          refine lv_aload_n hx hb d_CM_ask_291 rfl (lv_at hl 11 rfl) ?_
                          refine va_get (D := (dC, dI)) (ci := 4) (v := .int most) (C := R_CM) (T := F_CM) (N := 27) hx hb hT i_CM hown hK hP 0 rfl rfl 14 (by decide) (hT _ m_485) (fun _ h9 => h9) rfl d_CM_ask_292 ?_
                          refine lv_icmp_le (tgt := 307) hx hb d_CM_ask_295 (by decide) (fun c_41 => ?_) (fun c_41 => ?_)
                          · have hc295 := c_41
                            refine lv_aload_n hx hb d_CM_ask_307 rfl (lv_at hl 11 rfl) ?_
                            refine va_get (D := (dC, dI)) (ci := 4) (v := .int most) (C := R_CM) (T := F_CM) (N := 27) hx hb hT i_CM hown hK hP 0 rfl rfl 14 (by decide) (hT _ m_485) (fun _ h9 => h9) rfl d_CM_ask_308 ?_
                            refine va_put (D := (dC, dI)) (ci := 4) (v := .int most) (ty := .int) (C := R_CM) (T := F_CM) (N := 27) hx hb hT i_CM t_CM t_CM_ok n_CM hown hK hP hD hS 0 rfl rfl 14 (by decide) (hT _ m_485) (fun _ h9 => h9) rfl (by decide +kernel) rfl rfl (Nat.le_of_ble_eq_true rfl) d_CM_ask_311 (fun H locs hP hD hS => ?_)
                            have hP : va_P (dC, dI) kCl (mw_ cI cJ ad L S C key 0 most asked td tr (V6) (mv_cp o v)) H := hP
                            have hD : va_D A (mw_ cI cJ ad L S C key 0 most asked td tr (V6) (mv_cp o v)) := hD
                            refine lv_aload_n hx hb d_CM_ask_314 rfl (lv_at hl 11 rfl) ?_
                            refine lv_dup hx hb d_CM_ask_315 rfl ?_
                            refine va_get (D := (dC, dI)) (ci := 4) (v := .int asked) (C := R_CM) (T := F_CM) (N := 27) hx hb hT i_CM hown hK hP 0 rfl rfl 15 (by decide) (hT _ m_486) (fun _ h9 => h9) rfl d_CM_ask_316 ?_
                            refine lv_iconst (v := 1) hx hb d_CM_ask_319 (by decide) ?_
                            refine lv_iadd hx hb d_CM_ask_320 ?_
                            refine va_put (D := (dC, dI)) (ci := 4) (v := .int (asked + 1)) (ty := .int) (C := R_CM) (T := F_CM) (N := 27) hx hb hT i_CM t_CM t_CM_ok n_CM hown hK hP hD hS 0 rfl rfl 15 (by decide) (hT _ m_486) (fun _ h9 => h9) rfl (by decide +kernel) rfl rfl (Nat.le_of_ble_eq_true rfl) d_CM_ask_321 (fun H locs hP hD hS => ?_)
                            have hP : va_P (dC, dI) kCl (mw_ cI cJ ad L S C key 0 most (asked + 1) td tr (V6) (mv_cp o v)) H := hP
                            have hD : va_D A (mw_ cI cJ ad L S C key 0 most (asked + 1) td tr (V6) (mv_cp o v)) := hD
                            refine lv_aload_n hx hb d_CM_ask_324 rfl (lv_at hl 11 rfl) ?_
                            refine lv_iload hx hb d_CM_ask_325 (lv_at hl 3 rfl) ?_
                            refine lv_iload hx hb d_CM_ask_327 (lv_at hl 8 rfl) ?_
                            refine mc_v (va_runV (As := [.int (nI q0), .int (nI q1)]) (rest := []) ⟨hx, hb, hml, hown, hT⟩ (c_CM_mark ok htd (nI q0) (nI q1)) (cwV 2 hT (gi_V m_602 m_599 m_601 m_19 m_27) rfl rfl rfl p_CM_mark ⟨Nat.le_of_ble_eq_true rfl, Nat.le_of_ble_eq_true rfl⟩) ⟨mP_blind, va_recv hK hP (ci := 4) (q0 := 0) rfl rfl, mP_pre hK hP hD⟩ rfl rfl hl.1 rfl (lv_room (Nat.le_of_ble_eq_true rfl)) d_CM_ask_329 ⟨Nat.le_refl _, Nat.le_refl _⟩) hS (fun H locs hP hD hS => ?_)
                            have hP : va_P (dC, dI) kCl (mw_ cI cJ ad L S C key 0 most (asked + 1) (td + 1) (upd (upd tr (2 * td) (nI q0)) (2 * td + 1) (nI q1)) (V6) (mv_cp o v)) H := hP
                            have hD : va_D A (mw_ cI cJ ad L S C key 0 most (asked + 1) (td + 1) (upd (upd tr (2 * td) (nI q0)) (2 * td + 1) (nI q1)) (V6) (mv_cp o v)) := hD
                            refine lv_lload hx hb d_CM_ask_332 (lv_at hl 1 rfl) ?_
                            exact W.lret hx hb hr (fun t9 ht _ => aQl_end ((0, most, asked + 1, td + 1, upd (upd tr (2 * td) (nI q0)) (2 * td + 1) (nI q1), V6, mv_cp o v)) (Or.inr (Or.inr ⟨j, q1, i1, q0, i0, V1, V3, V4, V6, hj, rfl, hco0, hco1, hq1, hm1, hV1, hi1, hai1, hV3, hq0, hl0, hV4, hi0, hai0, hV6, Or.inl ⟨of_decide_eq_true (b2i_n.mp hf1), of_decide_eq_true (b2i_n.mp hf0), rfl, by first | rw [if_pos (Int32.not_le.mp hc295)] | rw [if_neg (Int32.not_lt.mpr hc295)]⟩⟩)) rfl hP hD hS ht) hS.2.2 d_CM_ask_334 hlocks
                          · have hc295 := c_41
                            refine lv_aload_n hx hb d_CM_ask_298 rfl (lv_at hl 11 rfl) ?_
                            refine va_get (D := (dC, dI)) (ci := 4) (v := .ref (ad 8)) (C := R_CM) (T := F_CM) (N := 27) hx hb hT i_CM hown hK hP 0 rfl rfl 12 (by decide) (hT _ m_483) (fun _ h9 => h9) rfl d_CM_ask_299 ?_
                            refine lv_iconst (v := 0) hx hb d_CM_ask_302 (by decide) ?_
                            refine va_iald hx hb hK hP 8 0 rfl rfl (vp_in_nI (n := 0) (by omega) (by omega)) d_CM_ask_303 ?_
                            refine W.eq (g2 := F0 m 304 ls [.int (nI ((mv_sz V6) 0)), .ref (ad 0)]) (rfl) ?_
                            refine lv_goto (tgt := 311) hx hb d_CM_ask_304 (by decide) ?_
                            refine va_put (D := (dC, dI)) (ci := 4) (v := .int (nI ((mv_sz V6) 0))) (ty := .int) (C := R_CM) (T := F_CM) (N := 27) hx hb hT i_CM t_CM t_CM_ok n_CM hown hK hP hD hS 0 rfl rfl 14 (by decide) (hT _ m_485) (fun _ h9 => h9) rfl (by decide +kernel) rfl rfl (Nat.le_of_ble_eq_true rfl) d_CM_ask_311 (fun H locs hP hD hS => ?_)
                            have hP : va_P (dC, dI) kCl (mw_ cI cJ ad L S C key 0 (nI ((mv_sz V6) 0)) asked td tr (V6) (mv_cp o v)) H := hP
                            have hD : va_D A (mw_ cI cJ ad L S C key 0 (nI ((mv_sz V6) 0)) asked td tr (V6) (mv_cp o v)) := hD
                            refine lv_aload_n hx hb d_CM_ask_314 rfl (lv_at hl 11 rfl) ?_
                            refine lv_dup hx hb d_CM_ask_315 rfl ?_
                            refine va_get (D := (dC, dI)) (ci := 4) (v := .int asked) (C := R_CM) (T := F_CM) (N := 27) hx hb hT i_CM hown hK hP 0 rfl rfl 15 (by decide) (hT _ m_486) (fun _ h9 => h9) rfl d_CM_ask_316 ?_
                            refine lv_iconst (v := 1) hx hb d_CM_ask_319 (by decide) ?_
                            refine lv_iadd hx hb d_CM_ask_320 ?_
                            refine va_put (D := (dC, dI)) (ci := 4) (v := .int (asked + 1)) (ty := .int) (C := R_CM) (T := F_CM) (N := 27) hx hb hT i_CM t_CM t_CM_ok n_CM hown hK hP hD hS 0 rfl rfl 15 (by decide) (hT _ m_486) (fun _ h9 => h9) rfl (by decide +kernel) rfl rfl (Nat.le_of_ble_eq_true rfl) d_CM_ask_321 (fun H locs hP hD hS => ?_)
                            have hP : va_P (dC, dI) kCl (mw_ cI cJ ad L S C key 0 (nI ((mv_sz V6) 0)) (asked + 1) td tr (V6) (mv_cp o v)) H := hP
                            have hD : va_D A (mw_ cI cJ ad L S C key 0 (nI ((mv_sz V6) 0)) (asked + 1) td tr (V6) (mv_cp o v)) := hD
                            refine lv_aload_n hx hb d_CM_ask_324 rfl (lv_at hl 11 rfl) ?_
                            refine lv_iload hx hb d_CM_ask_325 (lv_at hl 3 rfl) ?_
                            refine lv_iload hx hb d_CM_ask_327 (lv_at hl 8 rfl) ?_
                            refine mc_v (va_runV (As := [.int (nI q0), .int (nI q1)]) (rest := []) ⟨hx, hb, hml, hown, hT⟩ (c_CM_mark ok htd (nI q0) (nI q1)) (cwV 2 hT (gi_V m_602 m_599 m_601 m_19 m_27) rfl rfl rfl p_CM_mark ⟨Nat.le_of_ble_eq_true rfl, Nat.le_of_ble_eq_true rfl⟩) ⟨mP_blind, va_recv hK hP (ci := 4) (q0 := 0) rfl rfl, mP_pre hK hP hD⟩ rfl rfl hl.1 rfl (lv_room (Nat.le_of_ble_eq_true rfl)) d_CM_ask_329 ⟨Nat.le_refl _, Nat.le_refl _⟩) hS (fun H locs hP hD hS => ?_)
                            have hP : va_P (dC, dI) kCl (mw_ cI cJ ad L S C key 0 (nI ((mv_sz V6) 0)) (asked + 1) (td + 1) (upd (upd tr (2 * td) (nI q0)) (2 * td + 1) (nI q1)) (V6) (mv_cp o v)) H := hP
                            have hD : va_D A (mw_ cI cJ ad L S C key 0 (nI ((mv_sz V6) 0)) (asked + 1) (td + 1) (upd (upd tr (2 * td) (nI q0)) (2 * td + 1) (nI q1)) (V6) (mv_cp o v)) := hD
                            refine lv_lload hx hb d_CM_ask_332 (lv_at hl 1 rfl) ?_
                            exact W.lret hx hb hr (fun t9 ht _ => aQl_end ((0, (nI ((mv_sz V6) 0)), asked + 1, td + 1, upd (upd tr (2 * td) (nI q0)) (2 * td + 1) (nI q1), V6, mv_cp o v)) (Or.inr (Or.inr ⟨j, q1, i1, q0, i0, V1, V3, V4, V6, hj, rfl, hco0, hco1, hq1, hm1, hV1, hi1, hai1, hV3, hq0, hl0, hV4, hi0, hai0, hV6, Or.inl ⟨of_decide_eq_true (b2i_n.mp hf1), of_decide_eq_true (b2i_n.mp hf0), rfl, by first | rw [if_pos (Int32.not_le.mp hc295)] | rw [if_neg (Int32.not_lt.mpr hc295)]⟩⟩)) rfl hP hD hS ht) hS.2.2 d_CM_ask_334 hlocks
                        · have hf0 := c_40
                          refine lv_aload_n hx hb d_CM_ask_273 rfl (lv_at hl 11 rfl) ?_
                          refine mc_v (va_runV (As := []) (rest := []) ⟨hx, hb, hml, hown, hT⟩ (c_CM_takeBack ok ) (cwV 0 hT (gi_V m_598 m_595 m_597 m_18 m_27) rfl rfl rfl p_CM_takeBack ⟨Nat.le_of_ble_eq_true rfl, Nat.le_of_ble_eq_true rfl⟩) ⟨mP_blind, va_recv hK hP (ci := 4) (q0 := 0) rfl rfl, mP_pre hK hP hD⟩ rfl rfl hl.1 rfl (lv_room (Nat.le_of_ble_eq_true rfl)) d_CM_ask_274 ⟨Nat.le_refl _, Nat.le_refl _⟩) hS (fun H locs hP hD hS => ?_)
                          have hP : va_P (dC, dI) kCl (mw_ cI cJ ad L S C key 0 most asked td tr (mv_cp V6 (mv_cp o v)) (mv_cp o v)) H := hP
                          have hD : va_D A (mw_ cI cJ ad L S C key 0 most asked td tr (mv_cp V6 (mv_cp o v)) (mv_cp o v)) := hD
                          refine lv_aload_n hx hb d_CM_ask_277 rfl (lv_at hl 11 rfl) ?_
                          refine lv_iconst (v := 3) hx hb d_CM_ask_278 (by decide) ?_
                          refine va_put (D := (dC, dI)) (ci := 4) (v := .int 3) (ty := .int) (C := R_CM) (T := F_CM) (N := 27) hx hb hT i_CM t_CM t_CM_ok n_CM hown hK hP hD hS 0 rfl rfl 0 (by decide) (hT _ m_471) (fun _ h9 => h9) rfl (by decide +kernel) rfl rfl (Nat.le_of_ble_eq_true rfl) d_CM_ask_279 (fun H locs hP hD hS => ?_)
                          have hP : va_P (dC, dI) kCl (mw_ cI cJ ad L S C key 3 most asked td tr (mv_cp V6 (mv_cp o v)) (mv_cp o v)) H := hP
                          have hD : va_D A (mw_ cI cJ ad L S C key 3 most asked td tr (mv_cp V6 (mv_cp o v)) (mv_cp o v)) := hD
                          refine lv_lconst (v := 0) hx hb d_CM_ask_282 (by decide) ?_
                          exact W.lret hx hb hr (fun t9 ht _ => aQl_end ((3, most, asked, td, tr, mv_cp V6 (mv_cp o v), mv_cp o v)) (Or.inr (Or.inr ⟨j, q1, i1, q0, i0, V1, V3, V4, V6, hj, rfl, hco0, hco1, hq1, hm1, hV1, hi1, hai1, hV3, hq0, hl0, hV4, hi0, hai0, hV6, Or.inr ⟨fun h9 => by first | exact absurd h9.1 (of_decide_eq_false (b2i_0.mp hf1)) | exact absurd h9.2 (of_decide_eq_false (b2i_0.mp hf0)), rfl, rfl⟩⟩)) rfl hP hD hS ht) hS.2.2 d_CM_ask_283 hlocks
                  · have hc190 := c_34
                    refine lv_iload_n hx hb d_CM_ask_193 rfl (lv_at hl 8 rfl) ?_
                    refine lv_aload_n hx hb d_CM_ask_194 rfl (lv_at hl 7 rfl) ?_
                    refine lv_iconst (v := 0) hx hb d_CM_ask_195 (by decide) ?_
                    refine zc_i (va_runV (As := [.int 0]) (rest := [.int (nI j)]) ⟨hx, hb, hml, hown, hT⟩ (c_CM_leavesOf ok hP 0 (by omega)) (cwV 1 hT (gi_V m_466 m_463 m_465 m_9 m_27) rfl rfl rfl p_CM_leavesOf ⟨Nat.le_of_ble_eq_true rfl, Nat.le_of_ble_eq_true rfl⟩) ⟨zP_blind, va_recv hK hP (ci := 4) (q0 := 0) rfl rfl, zP_pre hK⟩ rfl rfl hl.1 rfl (lv_room (Nat.le_of_ble_eq_true rfl)) d_CM_ask_196 ⟨Nat.le_refl _, Nat.le_refl _⟩) hS (fun locs hS => ?_)
                    refine W.eq (g2 := F0 m 199 ls [.int (nI (2 ^ L)), .int (nI j)]) (by rw [mL_a (L := L) (T := 0) rfl]) ?_
                    refine lv_irem hx hb d_CM_ask_199 (nI_ne0 (n := (2 ^ L)) (by omega) (by omega)) ?_
                    refine W.eq (g2 := F0 m 200 ls [.int (nI (j % (2 ^ L)))]) (congrArg (fun q9 : Int32 => F0 m 200 ls (.int q9 :: [])) (pk_rem (a := j) (d := (2 ^ L)) (by omega) (by omega) (by omega))) ?_
                    refine lv_goto (tgt := 207) hx hb d_CM_ask_200 (by decide) ?_
                    obtain ⟨q0, hq0, hl0⟩ := hlf9 j hj q1 hq1 i1 hm1 (by rw [← hV1]; exact hi1) (by rw [← hV1]; exact hai1)
                    rw [← hV1] at hl0
                    refine W.eq (g2 := F0 m 207 ls [.int (nI q0)]) (by rw [← hl0]; unfold ma_lf; first | rw [if_pos hc190] | rw [if_neg hc190]) ?_
                    refine lv_istore (lv' := [(14, .int (nI q0)), (13, .int (b2i (decide (mv_sz V3 1 ≤ C)))), (12, .int (ma_tl (mv_sv V1 (80 * 1 + i1)) j)), (11, .int (nI (16 * (j % 4)))), (10, .int (nI (80 * 1 + i1))), (9, .int (nI q1)), (8, .int (nI (j / 4))), (7, .int 1), (0, .ref (ad 0)), (1, .int (nI j)), (2, .int (b2i nw)), (3, .long nv), (5, .int co), (6, .int mc)]) hx hb d_CM_ask_207 hl (by decide) rfl (fun ls hl => ?_)
                    refine lv_aload_n hx hb d_CM_ask_209 rfl (lv_at hl 8 rfl) ?_
                    refine lv_iconst (v := 0) hx hb d_CM_ask_210 (by decide) ?_
                    refine lv_iload_n hx hb d_CM_ask_211 rfl (lv_at hl 9 rfl) ?_
                    refine lv_iload hx hb d_CM_ask_212 (lv_at hl 0 rfl) ?_
                    have hz30 : mv_sz V3 0 ≤ 40 := by
                      rw [hV3, mv_fill_o (by decide)]
                      show mv_sz V1 0 ≤ 40
                      rw [hV1, mv_gather_o (by decide)]; exact hz0
                    refine mc_i (va_runV (As := [.int 0, .int (nI j), .int (nI q0)]) (rest := []) ⟨hx, hb, hml, hown, hT⟩ (c_CM_gather ok (v := V3) 0 (by omega) hz30 (nI j) q0 hq0) (cwV 3 hT (gi_V m_572 m_569 m_571 m_13 m_27) rfl rfl rfl p_CM_gather ⟨Nat.le_of_ble_eq_true rfl, Nat.le_of_ble_eq_true rfl⟩) ⟨mP_blind, va_recv hK hP (ci := 4) (q0 := 0) rfl rfl, mP_pre hK hP hD⟩ rfl rfl hl.1 rfl (lv_room (Nat.le_of_ble_eq_true rfl)) d_CM_ask_214 ⟨Nat.le_refl _, Nat.le_refl _⟩) hS (fun H locs hP hD hS => ?_)
                    obtain ⟨i0, hi0, hai0, -⟩ := mv_gather_at (T := 0) (b := nI j) (lf := q0) (v := V3) (by omega) qL1 qL5 qS4 hz30
                    have hzG0 := mv_gather_sz (T := 0) (b := nI j) (lf := q0) (v := V3) qL1 qL5 qS4 hz30
                    refine W.eq (g2 := F0 m 217 ls [.int (nI (80 * 0 + i0))]) (by rw [hai0]) ?_
                    obtain ⟨V4, hV4⟩ : ∃ V : Mv, V = mv_gather L S 0 (nI j) q0 V3 := ⟨_, rfl⟩
                    rw [← hV4] at hP hD hi0 hai0 hzG0
                    have hP : va_P (dC, dI) kCl (mw_ cI cJ ad L S C key 0 most asked td tr (V4) (mv_cp o v)) H := hP
                    have hD : va_D A (mw_ cI cJ ad L S C key 0 most asked td tr (V4) (mv_cp o v)) := hD
                    refine lv_istore (lv' := [(15, .int (nI (80 * 0 + i0))), (14, .int (nI q0)), (13, .int (b2i (decide (mv_sz V3 1 ≤ C)))), (12, .int (ma_tl (mv_sv V1 (80 * 1 + i1)) j)), (11, .int (nI (16 * (j % 4)))), (10, .int (nI (80 * 1 + i1))), (9, .int (nI q1)), (8, .int (nI (j / 4))), (7, .int 1), (0, .ref (ad 0)), (1, .int (nI j)), (2, .int (b2i nw)), (3, .long nv), (5, .int co), (6, .int mc)]) hx hb d_CM_ask_217 hl (by decide) rfl (fun ls hl => ?_)
                    refine lv_aload_n hx hb d_CM_ask_219 rfl (lv_at hl 9 rfl) ?_
                    refine va_get (D := (dC, dI)) (ci := 4) (v := .ref (ad 7)) (C := R_CM) (T := F_CM) (N := 27) hx hb hT i_CM hown hK hP 0 rfl rfl 11 (by decide) (hT _ m_482) (fun _ h9 => h9) rfl d_CM_ask_220 ?_
                    refine lv_iload hx hb d_CM_ask_223 (lv_at hl 0 rfl) ?_
                    refine va_lald hx hb hK hP 7 1 rfl rfl (vp_in_nI (n := (80 * 0 + i0)) (by omega) (by omega)) d_CM_ask_225 ?_
                    refine W.eq (g2 := F0 m 226 ls [.long ((mv_sv V4) (80 * 0 + i0))]) (by rw [nI_clamp (n := (80 * 0 + i0)) (by omega)] <;> rfl) ?_
                    refine lv_lstore (lv' := [(16, .long ((mv_sv V4) (80 * 0 + i0))), (15, .int (nI (80 * 0 + i0))), (14, .int (nI q0)), (13, .int (b2i (decide (mv_sz V3 1 ≤ C)))), (12, .int (ma_tl (mv_sv V1 (80 * 1 + i1)) j)), (11, .int (nI (16 * (j % 4)))), (10, .int (nI (80 * 1 + i1))), (9, .int (nI q1)), (8, .int (nI (j / 4))), (7, .int 1), (0, .ref (ad 0)), (1, .int (nI j)), (2, .int (b2i nw)), (3, .long nv), (5, .int co), (6, .int mc)]) hx hb d_CM_ask_226 hl (by decide) rfl (fun ls hl => ?_)
                    refine lv_aload_n hx hb d_CM_ask_228 rfl (lv_at hl 10 rfl) ?_
                    refine va_get (D := (dC, dI)) (ci := 4) (v := .ref (ad 6)) (C := R_CM) (T := F_CM) (N := 27) hx hb hT i_CM hown hK hP 0 rfl rfl 10 (by decide) (hT _ m_481) (fun _ h9 => h9) rfl d_CM_ask_229 ?_
                    refine lv_iload hx hb d_CM_ask_232 (lv_at hl 1 rfl) ?_
                    refine lv_iload hx hb d_CM_ask_234 (lv_at hl 14 rfl) ?_
                    refine va_iast hx hb hK hP hD hS 6 0 rfl rfl (vp_in_nI (n := (80 * 0 + i0)) (by omega) (by omega)) d_CM_ask_236 (fun H locs hP hD hS => ?_)
                    rw [nI_clamp (n := (80 * 0 + i0)) (by omega)] at hP hD
                    have hP : va_P (dC, dI) kCl (mw_ cI cJ ad L S C key 0 most asked td tr (mv_mk (mv_bl V4) (mv_lf V4) (mv_vl V4) (mv_ct V4) (mv_sb V4) (upd (mv_sl V4) (80 * 0 + i0) co) (mv_sv V4) (mv_sz V4) (mv_ml V4)) (mv_cp o v)) H := hP
                    have hD : va_D A (mw_ cI cJ ad L S C key 0 most asked td tr (mv_mk (mv_bl V4) (mv_lf V4) (mv_vl V4) (mv_ct V4) (mv_sb V4) (upd (mv_sl V4) (80 * 0 + i0) co) (mv_sv V4) (mv_sz V4) (mv_ml V4)) (mv_cp o v)) := hD
                    refine lv_aload_n hx hb d_CM_ask_237 rfl (lv_at hl 10 rfl) ?_
                    refine va_get (D := (dC, dI)) (ci := 4) (v := .ref (ad 7)) (C := R_CM) (T := F_CM) (N := 27) hx hb hT i_CM hown hK hP 0 rfl rfl 11 (by decide) (hT _ m_482) (fun _ h9 => h9) rfl d_CM_ask_238 ?_
                    refine lv_iload hx hb d_CM_ask_241 (lv_at hl 1 rfl) ?_
                    refine lv_iload_n hx hb d_CM_ask_243 rfl (lv_at hl 12 rfl) ?_
                    refine lv_if_eq (tgt := 251) hx hb d_CM_ask_244 (by decide) (fun c_42 => ?_) (fun c_42 => ?_)
                    · have hc244 := c_42
                      refine lv_lload hx hb d_CM_ask_251 (lv_at hl 0 rfl) ?_
                      have e253 : (((mv_sv V4) (80 * 0 + i0)) : Int64) = (if nw = true then nv else mv_sv V4 (80 * 0 + i0)) := (if_neg (by rw [b2i_0.mp hc244]; decide)).symm
                      refine W.eq (g2 := F0 m 253 ls [.long (if nw = true then nv else mv_sv V4 (80 * 0 + i0)), .int (nI (80 * 0 + i0)), .ref (ad 7)]) (by rw [← e253]) ?_
                      refine va_last hx hb hK hP hD hS 7 1 rfl rfl (vp_in_nI (n := (80 * 0 + i0)) (by omega) (by omega)) d_CM_ask_253 (fun H locs hP hD hS => ?_)
                      rw [nI_clamp (n := (80 * 0 + i0)) (by omega)] at hP hD
                      have hP : va_P (dC, dI) kCl (mw_ cI cJ ad L S C key 0 most asked td tr (mv_mk (mv_bl V4) (mv_lf V4) (mv_vl V4) (mv_ct V4) (mv_sb V4) (upd (mv_sl V4) (80 * 0 + i0) co) (vp_updL (mv_sv V4) (80 * 0 + i0) (if nw = true then nv else mv_sv V4 (80 * 0 + i0))) (mv_sz V4) (mv_ml V4)) (mv_cp o v)) H := hP
                      have hD : va_D A (mw_ cI cJ ad L S C key 0 most asked td tr (mv_mk (mv_bl V4) (mv_lf V4) (mv_vl V4) (mv_ct V4) (mv_sb V4) (upd (mv_sl V4) (80 * 0 + i0) co) (vp_updL (mv_sv V4) (80 * 0 + i0) (if nw = true then nv else mv_sv V4 (80 * 0 + i0))) (mv_sz V4) (mv_ml V4)) (mv_cp o v)) := hD
                      refine lv_aload_n hx hb d_CM_ask_254 rfl (lv_at hl 10 rfl) ?_
                      refine lv_iconst (v := 0) hx hb d_CM_ask_255 (by decide) ?_
                      refine lv_iload hx hb d_CM_ask_256 (lv_at hl 2 rfl) ?_
                      have hP : va_P (dC, dI) kCl (mw_ cI cJ ad L S C key 0 most asked td tr (ma_s0 V4 (80 * 0 + i0) co (if nw = true then nv else mv_sv V4 (80 * 0 + i0))) (mv_cp o v)) H := hP
                      have hD : va_D A (mw_ cI cJ ad L S C key 0 most asked td tr (ma_s0 V4 (80 * 0 + i0) co (if nw = true then nv else mv_sv V4 (80 * 0 + i0))) (mv_cp o v)) := hD
                      refine mc_i (va_runV (As := [.int 0, .int (nI q0)]) (rest := []) ⟨hx, hb, hml, hown, hT⟩ (c_CM_fill ok (v := ma_s0 V4 (80 * 0 + i0) co (if nw = true then nv else mv_sv V4 (80 * 0 + i0))) 0 (by omega) (show mv_sz V4 0 ≤ 80 by omega) q0 hq0) (cwV 2 hT (gi_V m_590 m_587 m_589 m_16 m_27) rfl rfl rfl p_CM_fill ⟨Nat.le_of_ble_eq_true rfl, Nat.le_of_ble_eq_true rfl⟩) ⟨mP_blind, va_recv hK hP (ci := 4) (q0 := 0) rfl rfl, mP_pre hK hP hD⟩ rfl rfl hl.1 rfl (lv_room (Nat.le_of_ble_eq_true rfl)) d_CM_ask_258 ⟨Nat.le_refl _, Nat.le_refl _⟩) hS (fun H locs hP hD hS => ?_)
                      obtain ⟨V6, hV6⟩ : ∃ V : Mv, V = mv_fill L S 0 q0 (ma_s0 V4 (80 * 0 + i0) co (if nw = true then nv else mv_sv V4 (80 * 0 + i0))) := ⟨_, rfl⟩
                      rw [← hV6] at hP hD
                      have hP : va_P (dC, dI) kCl (mw_ cI cJ ad L S C key 0 most asked td tr (V6) (mv_cp o v)) H := hP
                      have hD : va_D A (mw_ cI cJ ad L S C key 0 most asked td tr (V6) (mv_cp o v)) := hD
                      refine W.eq (g2 := F0 m 261 ls [.int (b2i (decide (mv_sz V6 0 ≤ C)))]) (by rw [hV6]) ?_
                      refine lv_istore (lv' := [(18, .int (b2i (decide (mv_sz V6 0 ≤ C)))), (16, .long ((mv_sv V4) (80 * 0 + i0))), (15, .int (nI (80 * 0 + i0))), (14, .int (nI q0)), (13, .int (b2i (decide (mv_sz V3 1 ≤ C)))), (12, .int (ma_tl (mv_sv V1 (80 * 1 + i1)) j)), (11, .int (nI (16 * (j % 4)))), (10, .int (nI (80 * 1 + i1))), (9, .int (nI q1)), (8, .int (nI (j / 4))), (7, .int 1), (0, .ref (ad 0)), (1, .int (nI j)), (2, .int (b2i nw)), (3, .long nv), (5, .int co), (6, .int mc)]) hx hb d_CM_ask_261 hl (by decide) rfl (fun ls hl => ?_)
                      refine lv_iload hx hb d_CM_ask_263 (lv_at hl 4 rfl) ?_
                      refine lv_if_eq (tgt := 273) hx hb d_CM_ask_265 (by decide) (fun c_43 => ?_) (fun c_43 => ?_)
                      · have hf1 := c_43
                        refine lv_aload_n hx hb d_CM_ask_273 rfl (lv_at hl 11 rfl) ?_
                        refine mc_v (va_runV (As := []) (rest := []) ⟨hx, hb, hml, hown, hT⟩ (c_CM_takeBack ok ) (cwV 0 hT (gi_V m_598 m_595 m_597 m_18 m_27) rfl rfl rfl p_CM_takeBack ⟨Nat.le_of_ble_eq_true rfl, Nat.le_of_ble_eq_true rfl⟩) ⟨mP_blind, va_recv hK hP (ci := 4) (q0 := 0) rfl rfl, mP_pre hK hP hD⟩ rfl rfl hl.1 rfl (lv_room (Nat.le_of_ble_eq_true rfl)) d_CM_ask_274 ⟨Nat.le_refl _, Nat.le_refl _⟩) hS (fun H locs hP hD hS => ?_)
                        have hP : va_P (dC, dI) kCl (mw_ cI cJ ad L S C key 0 most asked td tr (mv_cp V6 (mv_cp o v)) (mv_cp o v)) H := hP
                        have hD : va_D A (mw_ cI cJ ad L S C key 0 most asked td tr (mv_cp V6 (mv_cp o v)) (mv_cp o v)) := hD
                        refine lv_aload_n hx hb d_CM_ask_277 rfl (lv_at hl 11 rfl) ?_
                        refine lv_iconst (v := 3) hx hb d_CM_ask_278 (by decide) ?_
                        refine va_put (D := (dC, dI)) (ci := 4) (v := .int 3) (ty := .int) (C := R_CM) (T := F_CM) (N := 27) hx hb hT i_CM t_CM t_CM_ok n_CM hown hK hP hD hS 0 rfl rfl 0 (by decide) (hT _ m_471) (fun _ h9 => h9) rfl (by decide +kernel) rfl rfl (Nat.le_of_ble_eq_true rfl) d_CM_ask_279 (fun H locs hP hD hS => ?_)
                        have hP : va_P (dC, dI) kCl (mw_ cI cJ ad L S C key 3 most asked td tr (mv_cp V6 (mv_cp o v)) (mv_cp o v)) H := hP
                        have hD : va_D A (mw_ cI cJ ad L S C key 3 most asked td tr (mv_cp V6 (mv_cp o v)) (mv_cp o v)) := hD
                        refine lv_lconst (v := 0) hx hb d_CM_ask_282 (by decide) ?_
                        exact W.lret hx hb hr (fun t9 ht _ => aQl_end ((3, most, asked, td, tr, mv_cp V6 (mv_cp o v), mv_cp o v)) (Or.inr (Or.inr ⟨j, q1, i1, q0, i0, V1, V3, V4, V6, hj, rfl, hco0, hco1, hq1, hm1, hV1, hi1, hai1, hV3, hq0, hl0, hV4, hi0, hai0, hV6, Or.inr ⟨fun h9 => by first | exact absurd h9.1 (of_decide_eq_false (b2i_0.mp hf1)) | exact absurd h9.2 (of_decide_eq_false (b2i_0.mp hf0)), rfl, rfl⟩⟩)) rfl hP hD hS ht) hS.2.2 d_CM_ask_283 hlocks
                      · have hf1 := c_43
                        refine lv_iload hx hb d_CM_ask_268 (lv_at hl 0 rfl) ?_
                        refine lv_if_ne (tgt := 284) hx hb d_CM_ask_270 (by decide) (fun c_44 => ?_) (fun c_44 => ?_)
                        · have hf0 := c_44
                          refine lv_aload_n hx hb d_CM_ask_284 rfl (lv_at hl 11 rfl) ?_
                          refine lv_aload_n hx hb d_CM_ask_285 rfl (lv_at hl 11 rfl) ?_
                          refine va_get (D := (dC, dI)) (ci := 4) (v := .ref (ad 8)) (C := R_CM) (T := F_CM) (N := 27) hx hb hT i_CM hown hK hP 0 rfl rfl 12 (by decide) (hT _ m_483) (fun _ h9 => h9) rfl d_CM_ask_286 ?_
                          refine lv_iconst (v := 0) hx hb d_CM_ask_289 (by decide) ?_
                          refine va_iald hx hb hK hP 8 0 rfl rfl (vp_in_nI (n := 0) (by omega) (by omega)) d_CM_ask_290 ?_
                          refine W.eq (g2 := F0 m 291 ls [.int (nI ((mv_sz V6) 0)), .ref (ad 0)]) (rfl) ?_
                          refine lv_aload_n hx hb d_CM_ask_291 rfl (lv_at hl 11 rfl) ?_
                          refine va_get (D := (dC, dI)) (ci := 4) (v := .int most) (C := R_CM) (T := F_CM) (N := 27) hx hb hT i_CM hown hK hP 0 rfl rfl 14 (by decide) (hT _ m_485) (fun _ h9 => h9) rfl d_CM_ask_292 ?_
                          refine lv_icmp_le (tgt := 307) hx hb d_CM_ask_295 (by decide) (fun c_45 => ?_) (fun c_45 => ?_)
                          · have hc295 := c_45
                            refine lv_aload_n hx hb d_CM_ask_307 rfl (lv_at hl 11 rfl) ?_
                            refine va_get (D := (dC, dI)) (ci := 4) (v := .int most) (C := R_CM) (T := F_CM) (N := 27) hx hb hT i_CM hown hK hP 0 rfl rfl 14 (by decide) (hT _ m_485) (fun _ h9 => h9) rfl d_CM_ask_308 ?_
                            refine va_put (D := (dC, dI)) (ci := 4) (v := .int most) (ty := .int) (C := R_CM) (T := F_CM) (N := 27) hx hb hT i_CM t_CM t_CM_ok n_CM hown hK hP hD hS 0 rfl rfl 14 (by decide) (hT _ m_485) (fun _ h9 => h9) rfl (by decide +kernel) rfl rfl (Nat.le_of_ble_eq_true rfl) d_CM_ask_311 (fun H locs hP hD hS => ?_)
                            have hP : va_P (dC, dI) kCl (mw_ cI cJ ad L S C key 0 most asked td tr (V6) (mv_cp o v)) H := hP
                            have hD : va_D A (mw_ cI cJ ad L S C key 0 most asked td tr (V6) (mv_cp o v)) := hD
                            refine lv_aload_n hx hb d_CM_ask_314 rfl (lv_at hl 11 rfl) ?_
                            refine lv_dup hx hb d_CM_ask_315 rfl ?_
                            refine va_get (D := (dC, dI)) (ci := 4) (v := .int asked) (C := R_CM) (T := F_CM) (N := 27) hx hb hT i_CM hown hK hP 0 rfl rfl 15 (by decide) (hT _ m_486) (fun _ h9 => h9) rfl d_CM_ask_316 ?_
                            refine lv_iconst (v := 1) hx hb d_CM_ask_319 (by decide) ?_
                            refine lv_iadd hx hb d_CM_ask_320 ?_
                            refine va_put (D := (dC, dI)) (ci := 4) (v := .int (asked + 1)) (ty := .int) (C := R_CM) (T := F_CM) (N := 27) hx hb hT i_CM t_CM t_CM_ok n_CM hown hK hP hD hS 0 rfl rfl 15 (by decide) (hT _ m_486) (fun _ h9 => h9) rfl (by decide +kernel) rfl rfl (Nat.le_of_ble_eq_true rfl) d_CM_ask_321 (fun H locs hP hD hS => ?_)
                            have hP : va_P (dC, dI) kCl (mw_ cI cJ ad L S C key 0 most (asked + 1) td tr (V6) (mv_cp o v)) H := hP
                            have hD : va_D A (mw_ cI cJ ad L S C key 0 most (asked + 1) td tr (V6) (mv_cp o v)) := hD
                            refine lv_aload_n hx hb d_CM_ask_324 rfl (lv_at hl 11 rfl) ?_
                            refine lv_iload hx hb d_CM_ask_325 (lv_at hl 3 rfl) ?_
                            refine lv_iload hx hb d_CM_ask_327 (lv_at hl 8 rfl) ?_
                            refine mc_v (va_runV (As := [.int (nI q0), .int (nI q1)]) (rest := []) ⟨hx, hb, hml, hown, hT⟩ (c_CM_mark ok htd (nI q0) (nI q1)) (cwV 2 hT (gi_V m_602 m_599 m_601 m_19 m_27) rfl rfl rfl p_CM_mark ⟨Nat.le_of_ble_eq_true rfl, Nat.le_of_ble_eq_true rfl⟩) ⟨mP_blind, va_recv hK hP (ci := 4) (q0 := 0) rfl rfl, mP_pre hK hP hD⟩ rfl rfl hl.1 rfl (lv_room (Nat.le_of_ble_eq_true rfl)) d_CM_ask_329 ⟨Nat.le_refl _, Nat.le_refl _⟩) hS (fun H locs hP hD hS => ?_)
                            have hP : va_P (dC, dI) kCl (mw_ cI cJ ad L S C key 0 most (asked + 1) (td + 1) (upd (upd tr (2 * td) (nI q0)) (2 * td + 1) (nI q1)) (V6) (mv_cp o v)) H := hP
                            have hD : va_D A (mw_ cI cJ ad L S C key 0 most (asked + 1) (td + 1) (upd (upd tr (2 * td) (nI q0)) (2 * td + 1) (nI q1)) (V6) (mv_cp o v)) := hD
                            refine lv_lload hx hb d_CM_ask_332 (lv_at hl 1 rfl) ?_
                            exact W.lret hx hb hr (fun t9 ht _ => aQl_end ((0, most, asked + 1, td + 1, upd (upd tr (2 * td) (nI q0)) (2 * td + 1) (nI q1), V6, mv_cp o v)) (Or.inr (Or.inr ⟨j, q1, i1, q0, i0, V1, V3, V4, V6, hj, rfl, hco0, hco1, hq1, hm1, hV1, hi1, hai1, hV3, hq0, hl0, hV4, hi0, hai0, hV6, Or.inl ⟨of_decide_eq_true (b2i_n.mp hf1), of_decide_eq_true (b2i_n.mp hf0), rfl, by first | rw [if_pos (Int32.not_le.mp hc295)] | rw [if_neg (Int32.not_lt.mpr hc295)]⟩⟩)) rfl hP hD hS ht) hS.2.2 d_CM_ask_334 hlocks
                          · have hc295 := c_45
                            refine lv_aload_n hx hb d_CM_ask_298 rfl (lv_at hl 11 rfl) ?_
                            refine va_get (D := (dC, dI)) (ci := 4) (v := .ref (ad 8)) (C := R_CM) (T := F_CM) (N := 27) hx hb hT i_CM hown hK hP 0 rfl rfl 12 (by decide) (hT _ m_483) (fun _ h9 => h9) rfl d_CM_ask_299 ?_
                            refine lv_iconst (v := 0) hx hb d_CM_ask_302 (by decide) ?_
                            refine va_iald hx hb hK hP 8 0 rfl rfl (vp_in_nI (n := 0) (by omega) (by omega)) d_CM_ask_303 ?_
                            refine W.eq (g2 := F0 m 304 ls [.int (nI ((mv_sz V6) 0)), .ref (ad 0)]) (rfl) ?_
                            refine lv_goto (tgt := 311) hx hb d_CM_ask_304 (by decide) ?_
                            refine va_put (D := (dC, dI)) (ci := 4) (v := .int (nI ((mv_sz V6) 0))) (ty := .int) (C := R_CM) (T := F_CM) (N := 27) hx hb hT i_CM t_CM t_CM_ok n_CM hown hK hP hD hS 0 rfl rfl 14 (by decide) (hT _ m_485) (fun _ h9 => h9) rfl (by decide +kernel) rfl rfl (Nat.le_of_ble_eq_true rfl) d_CM_ask_311 (fun H locs hP hD hS => ?_)
                            have hP : va_P (dC, dI) kCl (mw_ cI cJ ad L S C key 0 (nI ((mv_sz V6) 0)) asked td tr (V6) (mv_cp o v)) H := hP
                            have hD : va_D A (mw_ cI cJ ad L S C key 0 (nI ((mv_sz V6) 0)) asked td tr (V6) (mv_cp o v)) := hD
                            refine lv_aload_n hx hb d_CM_ask_314 rfl (lv_at hl 11 rfl) ?_
                            refine lv_dup hx hb d_CM_ask_315 rfl ?_
                            refine va_get (D := (dC, dI)) (ci := 4) (v := .int asked) (C := R_CM) (T := F_CM) (N := 27) hx hb hT i_CM hown hK hP 0 rfl rfl 15 (by decide) (hT _ m_486) (fun _ h9 => h9) rfl d_CM_ask_316 ?_
                            refine lv_iconst (v := 1) hx hb d_CM_ask_319 (by decide) ?_
                            refine lv_iadd hx hb d_CM_ask_320 ?_
                            refine va_put (D := (dC, dI)) (ci := 4) (v := .int (asked + 1)) (ty := .int) (C := R_CM) (T := F_CM) (N := 27) hx hb hT i_CM t_CM t_CM_ok n_CM hown hK hP hD hS 0 rfl rfl 15 (by decide) (hT _ m_486) (fun _ h9 => h9) rfl (by decide +kernel) rfl rfl (Nat.le_of_ble_eq_true rfl) d_CM_ask_321 (fun H locs hP hD hS => ?_)
                            have hP : va_P (dC, dI) kCl (mw_ cI cJ ad L S C key 0 (nI ((mv_sz V6) 0)) (asked + 1) td tr (V6) (mv_cp o v)) H := hP
                            have hD : va_D A (mw_ cI cJ ad L S C key 0 (nI ((mv_sz V6) 0)) (asked + 1) td tr (V6) (mv_cp o v)) := hD
                            refine lv_aload_n hx hb d_CM_ask_324 rfl (lv_at hl 11 rfl) ?_
                            refine lv_iload hx hb d_CM_ask_325 (lv_at hl 3 rfl) ?_
                            refine lv_iload hx hb d_CM_ask_327 (lv_at hl 8 rfl) ?_
                            refine mc_v (va_runV (As := [.int (nI q0), .int (nI q1)]) (rest := []) ⟨hx, hb, hml, hown, hT⟩ (c_CM_mark ok htd (nI q0) (nI q1)) (cwV 2 hT (gi_V m_602 m_599 m_601 m_19 m_27) rfl rfl rfl p_CM_mark ⟨Nat.le_of_ble_eq_true rfl, Nat.le_of_ble_eq_true rfl⟩) ⟨mP_blind, va_recv hK hP (ci := 4) (q0 := 0) rfl rfl, mP_pre hK hP hD⟩ rfl rfl hl.1 rfl (lv_room (Nat.le_of_ble_eq_true rfl)) d_CM_ask_329 ⟨Nat.le_refl _, Nat.le_refl _⟩) hS (fun H locs hP hD hS => ?_)
                            have hP : va_P (dC, dI) kCl (mw_ cI cJ ad L S C key 0 (nI ((mv_sz V6) 0)) (asked + 1) (td + 1) (upd (upd tr (2 * td) (nI q0)) (2 * td + 1) (nI q1)) (V6) (mv_cp o v)) H := hP
                            have hD : va_D A (mw_ cI cJ ad L S C key 0 (nI ((mv_sz V6) 0)) (asked + 1) (td + 1) (upd (upd tr (2 * td) (nI q0)) (2 * td + 1) (nI q1)) (V6) (mv_cp o v)) := hD
                            refine lv_lload hx hb d_CM_ask_332 (lv_at hl 1 rfl) ?_
                            exact W.lret hx hb hr (fun t9 ht _ => aQl_end ((0, (nI ((mv_sz V6) 0)), asked + 1, td + 1, upd (upd tr (2 * td) (nI q0)) (2 * td + 1) (nI q1), V6, mv_cp o v)) (Or.inr (Or.inr ⟨j, q1, i1, q0, i0, V1, V3, V4, V6, hj, rfl, hco0, hco1, hq1, hm1, hV1, hi1, hai1, hV3, hq0, hl0, hV4, hi0, hai0, hV6, Or.inl ⟨of_decide_eq_true (b2i_n.mp hf1), of_decide_eq_true (b2i_n.mp hf0), rfl, by first | rw [if_pos (Int32.not_le.mp hc295)] | rw [if_neg (Int32.not_lt.mpr hc295)]⟩⟩)) rfl hP hD hS ht) hS.2.2 d_CM_ask_334 hlocks
                        · have hf0 := c_44
                          refine lv_aload_n hx hb d_CM_ask_273 rfl (lv_at hl 11 rfl) ?_
                          refine mc_v (va_runV (As := []) (rest := []) ⟨hx, hb, hml, hown, hT⟩ (c_CM_takeBack ok ) (cwV 0 hT (gi_V m_598 m_595 m_597 m_18 m_27) rfl rfl rfl p_CM_takeBack ⟨Nat.le_of_ble_eq_true rfl, Nat.le_of_ble_eq_true rfl⟩) ⟨mP_blind, va_recv hK hP (ci := 4) (q0 := 0) rfl rfl, mP_pre hK hP hD⟩ rfl rfl hl.1 rfl (lv_room (Nat.le_of_ble_eq_true rfl)) d_CM_ask_274 ⟨Nat.le_refl _, Nat.le_refl _⟩) hS (fun H locs hP hD hS => ?_)
                          have hP : va_P (dC, dI) kCl (mw_ cI cJ ad L S C key 0 most asked td tr (mv_cp V6 (mv_cp o v)) (mv_cp o v)) H := hP
                          have hD : va_D A (mw_ cI cJ ad L S C key 0 most asked td tr (mv_cp V6 (mv_cp o v)) (mv_cp o v)) := hD
                          refine lv_aload_n hx hb d_CM_ask_277 rfl (lv_at hl 11 rfl) ?_
                          refine lv_iconst (v := 3) hx hb d_CM_ask_278 (by decide) ?_
                          refine va_put (D := (dC, dI)) (ci := 4) (v := .int 3) (ty := .int) (C := R_CM) (T := F_CM) (N := 27) hx hb hT i_CM t_CM t_CM_ok n_CM hown hK hP hD hS 0 rfl rfl 0 (by decide) (hT _ m_471) (fun _ h9 => h9) rfl (by decide +kernel) rfl rfl (Nat.le_of_ble_eq_true rfl) d_CM_ask_279 (fun H locs hP hD hS => ?_)
                          have hP : va_P (dC, dI) kCl (mw_ cI cJ ad L S C key 3 most asked td tr (mv_cp V6 (mv_cp o v)) (mv_cp o v)) H := hP
                          have hD : va_D A (mw_ cI cJ ad L S C key 3 most asked td tr (mv_cp V6 (mv_cp o v)) (mv_cp o v)) := hD
                          refine lv_lconst (v := 0) hx hb d_CM_ask_282 (by decide) ?_
                          exact W.lret hx hb hr (fun t9 ht _ => aQl_end ((3, most, asked, td, tr, mv_cp V6 (mv_cp o v), mv_cp o v)) (Or.inr (Or.inr ⟨j, q1, i1, q0, i0, V1, V3, V4, V6, hj, rfl, hco0, hco1, hq1, hm1, hV1, hi1, hai1, hV3, hq0, hl0, hV4, hi0, hai0, hV6, Or.inr ⟨fun h9 => by first | exact absurd h9.1 (of_decide_eq_false (b2i_0.mp hf1)) | exact absurd h9.2 (of_decide_eq_false (b2i_0.mp hf0)), rfl, rfl⟩⟩)) rfl hP hD hS ht) hS.2.2 d_CM_ask_283 hlocks
                    · have hc244 := c_42
                      refine lv_lload_n hx hb d_CM_ask_247 rfl (lv_at hl 13 rfl) ?_
                      refine lv_goto (tgt := 253) hx hb d_CM_ask_248 (by decide) ?_
                      have e253 : (nv : Int64) = (if nw = true then nv else mv_sv V4 (80 * 0 + i0)) := (if_pos (b2i_n.mp hc244)).symm
                      refine W.eq (g2 := F0 m 253 ls [.long (if nw = true then nv else mv_sv V4 (80 * 0 + i0)), .int (nI (80 * 0 + i0)), .ref (ad 7)]) (by rw [← e253]) ?_
                      refine va_last hx hb hK hP hD hS 7 1 rfl rfl (vp_in_nI (n := (80 * 0 + i0)) (by omega) (by omega)) d_CM_ask_253 (fun H locs hP hD hS => ?_)
                      rw [nI_clamp (n := (80 * 0 + i0)) (by omega)] at hP hD
                      have hP : va_P (dC, dI) kCl (mw_ cI cJ ad L S C key 0 most asked td tr (mv_mk (mv_bl V4) (mv_lf V4) (mv_vl V4) (mv_ct V4) (mv_sb V4) (upd (mv_sl V4) (80 * 0 + i0) co) (vp_updL (mv_sv V4) (80 * 0 + i0) (if nw = true then nv else mv_sv V4 (80 * 0 + i0))) (mv_sz V4) (mv_ml V4)) (mv_cp o v)) H := hP
                      have hD : va_D A (mw_ cI cJ ad L S C key 0 most asked td tr (mv_mk (mv_bl V4) (mv_lf V4) (mv_vl V4) (mv_ct V4) (mv_sb V4) (upd (mv_sl V4) (80 * 0 + i0) co) (vp_updL (mv_sv V4) (80 * 0 + i0) (if nw = true then nv else mv_sv V4 (80 * 0 + i0))) (mv_sz V4) (mv_ml V4)) (mv_cp o v)) := hD
                      refine lv_aload_n hx hb d_CM_ask_254 rfl (lv_at hl 10 rfl) ?_
                      refine lv_iconst (v := 0) hx hb d_CM_ask_255 (by decide) ?_
                      refine lv_iload hx hb d_CM_ask_256 (lv_at hl 2 rfl) ?_
                      have hP : va_P (dC, dI) kCl (mw_ cI cJ ad L S C key 0 most asked td tr (ma_s0 V4 (80 * 0 + i0) co (if nw = true then nv else mv_sv V4 (80 * 0 + i0))) (mv_cp o v)) H := hP
                      have hD : va_D A (mw_ cI cJ ad L S C key 0 most asked td tr (ma_s0 V4 (80 * 0 + i0) co (if nw = true then nv else mv_sv V4 (80 * 0 + i0))) (mv_cp o v)) := hD
                      refine mc_i (va_runV (As := [.int 0, .int (nI q0)]) (rest := []) ⟨hx, hb, hml, hown, hT⟩ (c_CM_fill ok (v := ma_s0 V4 (80 * 0 + i0) co (if nw = true then nv else mv_sv V4 (80 * 0 + i0))) 0 (by omega) (show mv_sz V4 0 ≤ 80 by omega) q0 hq0) (cwV 2 hT (gi_V m_590 m_587 m_589 m_16 m_27) rfl rfl rfl p_CM_fill ⟨Nat.le_of_ble_eq_true rfl, Nat.le_of_ble_eq_true rfl⟩) ⟨mP_blind, va_recv hK hP (ci := 4) (q0 := 0) rfl rfl, mP_pre hK hP hD⟩ rfl rfl hl.1 rfl (lv_room (Nat.le_of_ble_eq_true rfl)) d_CM_ask_258 ⟨Nat.le_refl _, Nat.le_refl _⟩) hS (fun H locs hP hD hS => ?_)
                      obtain ⟨V6, hV6⟩ : ∃ V : Mv, V = mv_fill L S 0 q0 (ma_s0 V4 (80 * 0 + i0) co (if nw = true then nv else mv_sv V4 (80 * 0 + i0))) := ⟨_, rfl⟩
                      rw [← hV6] at hP hD
                      have hP : va_P (dC, dI) kCl (mw_ cI cJ ad L S C key 0 most asked td tr (V6) (mv_cp o v)) H := hP
                      have hD : va_D A (mw_ cI cJ ad L S C key 0 most asked td tr (V6) (mv_cp o v)) := hD
                      refine W.eq (g2 := F0 m 261 ls [.int (b2i (decide (mv_sz V6 0 ≤ C)))]) (by rw [hV6]) ?_
                      refine lv_istore (lv' := [(18, .int (b2i (decide (mv_sz V6 0 ≤ C)))), (16, .long ((mv_sv V4) (80 * 0 + i0))), (15, .int (nI (80 * 0 + i0))), (14, .int (nI q0)), (13, .int (b2i (decide (mv_sz V3 1 ≤ C)))), (12, .int (ma_tl (mv_sv V1 (80 * 1 + i1)) j)), (11, .int (nI (16 * (j % 4)))), (10, .int (nI (80 * 1 + i1))), (9, .int (nI q1)), (8, .int (nI (j / 4))), (7, .int 1), (0, .ref (ad 0)), (1, .int (nI j)), (2, .int (b2i nw)), (3, .long nv), (5, .int co), (6, .int mc)]) hx hb d_CM_ask_261 hl (by decide) rfl (fun ls hl => ?_)
                      refine lv_iload hx hb d_CM_ask_263 (lv_at hl 4 rfl) ?_
                      refine lv_if_eq (tgt := 273) hx hb d_CM_ask_265 (by decide) (fun c_46 => ?_) (fun c_46 => ?_)
                      · have hf1 := c_46
                        refine lv_aload_n hx hb d_CM_ask_273 rfl (lv_at hl 11 rfl) ?_
                        refine mc_v (va_runV (As := []) (rest := []) ⟨hx, hb, hml, hown, hT⟩ (c_CM_takeBack ok ) (cwV 0 hT (gi_V m_598 m_595 m_597 m_18 m_27) rfl rfl rfl p_CM_takeBack ⟨Nat.le_of_ble_eq_true rfl, Nat.le_of_ble_eq_true rfl⟩) ⟨mP_blind, va_recv hK hP (ci := 4) (q0 := 0) rfl rfl, mP_pre hK hP hD⟩ rfl rfl hl.1 rfl (lv_room (Nat.le_of_ble_eq_true rfl)) d_CM_ask_274 ⟨Nat.le_refl _, Nat.le_refl _⟩) hS (fun H locs hP hD hS => ?_)
                        have hP : va_P (dC, dI) kCl (mw_ cI cJ ad L S C key 0 most asked td tr (mv_cp V6 (mv_cp o v)) (mv_cp o v)) H := hP
                        have hD : va_D A (mw_ cI cJ ad L S C key 0 most asked td tr (mv_cp V6 (mv_cp o v)) (mv_cp o v)) := hD
                        refine lv_aload_n hx hb d_CM_ask_277 rfl (lv_at hl 11 rfl) ?_
                        refine lv_iconst (v := 3) hx hb d_CM_ask_278 (by decide) ?_
                        refine va_put (D := (dC, dI)) (ci := 4) (v := .int 3) (ty := .int) (C := R_CM) (T := F_CM) (N := 27) hx hb hT i_CM t_CM t_CM_ok n_CM hown hK hP hD hS 0 rfl rfl 0 (by decide) (hT _ m_471) (fun _ h9 => h9) rfl (by decide +kernel) rfl rfl (Nat.le_of_ble_eq_true rfl) d_CM_ask_279 (fun H locs hP hD hS => ?_)
                        have hP : va_P (dC, dI) kCl (mw_ cI cJ ad L S C key 3 most asked td tr (mv_cp V6 (mv_cp o v)) (mv_cp o v)) H := hP
                        have hD : va_D A (mw_ cI cJ ad L S C key 3 most asked td tr (mv_cp V6 (mv_cp o v)) (mv_cp o v)) := hD
                        refine lv_lconst (v := 0) hx hb d_CM_ask_282 (by decide) ?_
                        exact W.lret hx hb hr (fun t9 ht _ => aQl_end ((3, most, asked, td, tr, mv_cp V6 (mv_cp o v), mv_cp o v)) (Or.inr (Or.inr ⟨j, q1, i1, q0, i0, V1, V3, V4, V6, hj, rfl, hco0, hco1, hq1, hm1, hV1, hi1, hai1, hV3, hq0, hl0, hV4, hi0, hai0, hV6, Or.inr ⟨fun h9 => by first | exact absurd h9.1 (of_decide_eq_false (b2i_0.mp hf1)) | exact absurd h9.2 (of_decide_eq_false (b2i_0.mp hf0)), rfl, rfl⟩⟩)) rfl hP hD hS ht) hS.2.2 d_CM_ask_283 hlocks
                      · have hf1 := c_46
                        refine lv_iload hx hb d_CM_ask_268 (lv_at hl 0 rfl) ?_
                        refine lv_if_ne (tgt := 284) hx hb d_CM_ask_270 (by decide) (fun c_47 => ?_) (fun c_47 => ?_)
                        · have hf0 := c_47
                          refine lv_aload_n hx hb d_CM_ask_284 rfl (lv_at hl 11 rfl) ?_
                          refine lv_aload_n hx hb d_CM_ask_285 rfl (lv_at hl 11 rfl) ?_
                          refine va_get (D := (dC, dI)) (ci := 4) (v := .ref (ad 8)) (C := R_CM) (T := F_CM) (N := 27) hx hb hT i_CM hown hK hP 0 rfl rfl 12 (by decide) (hT _ m_483) (fun _ h9 => h9) rfl d_CM_ask_286 ?_
                          refine lv_iconst (v := 0) hx hb d_CM_ask_289 (by decide) ?_
                          refine va_iald hx hb hK hP 8 0 rfl rfl (vp_in_nI (n := 0) (by omega) (by omega)) d_CM_ask_290 ?_
                          refine W.eq (g2 := F0 m 291 ls [.int (nI ((mv_sz V6) 0)), .ref (ad 0)]) (rfl) ?_
                          refine lv_aload_n hx hb d_CM_ask_291 rfl (lv_at hl 11 rfl) ?_
                          refine va_get (D := (dC, dI)) (ci := 4) (v := .int most) (C := R_CM) (T := F_CM) (N := 27) hx hb hT i_CM hown hK hP 0 rfl rfl 14 (by decide) (hT _ m_485) (fun _ h9 => h9) rfl d_CM_ask_292 ?_
                          refine lv_icmp_le (tgt := 307) hx hb d_CM_ask_295 (by decide) (fun c_48 => ?_) (fun c_48 => ?_)
                          · have hc295 := c_48
                            refine lv_aload_n hx hb d_CM_ask_307 rfl (lv_at hl 11 rfl) ?_
                            refine va_get (D := (dC, dI)) (ci := 4) (v := .int most) (C := R_CM) (T := F_CM) (N := 27) hx hb hT i_CM hown hK hP 0 rfl rfl 14 (by decide) (hT _ m_485) (fun _ h9 => h9) rfl d_CM_ask_308 ?_
                            refine va_put (D := (dC, dI)) (ci := 4) (v := .int most) (ty := .int) (C := R_CM) (T := F_CM) (N := 27) hx hb hT i_CM t_CM t_CM_ok n_CM hown hK hP hD hS 0 rfl rfl 14 (by decide) (hT _ m_485) (fun _ h9 => h9) rfl (by decide +kernel) rfl rfl (Nat.le_of_ble_eq_true rfl) d_CM_ask_311 (fun H locs hP hD hS => ?_)
                            have hP : va_P (dC, dI) kCl (mw_ cI cJ ad L S C key 0 most asked td tr (V6) (mv_cp o v)) H := hP
                            have hD : va_D A (mw_ cI cJ ad L S C key 0 most asked td tr (V6) (mv_cp o v)) := hD
                            refine lv_aload_n hx hb d_CM_ask_314 rfl (lv_at hl 11 rfl) ?_
                            refine lv_dup hx hb d_CM_ask_315 rfl ?_
                            refine va_get (D := (dC, dI)) (ci := 4) (v := .int asked) (C := R_CM) (T := F_CM) (N := 27) hx hb hT i_CM hown hK hP 0 rfl rfl 15 (by decide) (hT _ m_486) (fun _ h9 => h9) rfl d_CM_ask_316 ?_
                            refine lv_iconst (v := 1) hx hb d_CM_ask_319 (by decide) ?_
                            refine lv_iadd hx hb d_CM_ask_320 ?_
                            refine va_put (D := (dC, dI)) (ci := 4) (v := .int (asked + 1)) (ty := .int) (C := R_CM) (T := F_CM) (N := 27) hx hb hT i_CM t_CM t_CM_ok n_CM hown hK hP hD hS 0 rfl rfl 15 (by decide) (hT _ m_486) (fun _ h9 => h9) rfl (by decide +kernel) rfl rfl (Nat.le_of_ble_eq_true rfl) d_CM_ask_321 (fun H locs hP hD hS => ?_)
                            have hP : va_P (dC, dI) kCl (mw_ cI cJ ad L S C key 0 most (asked + 1) td tr (V6) (mv_cp o v)) H := hP
                            have hD : va_D A (mw_ cI cJ ad L S C key 0 most (asked + 1) td tr (V6) (mv_cp o v)) := hD
                            refine lv_aload_n hx hb d_CM_ask_324 rfl (lv_at hl 11 rfl) ?_
                            refine lv_iload hx hb d_CM_ask_325 (lv_at hl 3 rfl) ?_
                            refine lv_iload hx hb d_CM_ask_327 (lv_at hl 8 rfl) ?_
                            refine mc_v (va_runV (As := [.int (nI q0), .int (nI q1)]) (rest := []) ⟨hx, hb, hml, hown, hT⟩ (c_CM_mark ok htd (nI q0) (nI q1)) (cwV 2 hT (gi_V m_602 m_599 m_601 m_19 m_27) rfl rfl rfl p_CM_mark ⟨Nat.le_of_ble_eq_true rfl, Nat.le_of_ble_eq_true rfl⟩) ⟨mP_blind, va_recv hK hP (ci := 4) (q0 := 0) rfl rfl, mP_pre hK hP hD⟩ rfl rfl hl.1 rfl (lv_room (Nat.le_of_ble_eq_true rfl)) d_CM_ask_329 ⟨Nat.le_refl _, Nat.le_refl _⟩) hS (fun H locs hP hD hS => ?_)
                            have hP : va_P (dC, dI) kCl (mw_ cI cJ ad L S C key 0 most (asked + 1) (td + 1) (upd (upd tr (2 * td) (nI q0)) (2 * td + 1) (nI q1)) (V6) (mv_cp o v)) H := hP
                            have hD : va_D A (mw_ cI cJ ad L S C key 0 most (asked + 1) (td + 1) (upd (upd tr (2 * td) (nI q0)) (2 * td + 1) (nI q1)) (V6) (mv_cp o v)) := hD
                            refine lv_lload hx hb d_CM_ask_332 (lv_at hl 1 rfl) ?_
                            exact W.lret hx hb hr (fun t9 ht _ => aQl_end ((0, most, asked + 1, td + 1, upd (upd tr (2 * td) (nI q0)) (2 * td + 1) (nI q1), V6, mv_cp o v)) (Or.inr (Or.inr ⟨j, q1, i1, q0, i0, V1, V3, V4, V6, hj, rfl, hco0, hco1, hq1, hm1, hV1, hi1, hai1, hV3, hq0, hl0, hV4, hi0, hai0, hV6, Or.inl ⟨of_decide_eq_true (b2i_n.mp hf1), of_decide_eq_true (b2i_n.mp hf0), rfl, by first | rw [if_pos (Int32.not_le.mp hc295)] | rw [if_neg (Int32.not_lt.mpr hc295)]⟩⟩)) rfl hP hD hS ht) hS.2.2 d_CM_ask_334 hlocks
                          · have hc295 := c_48
                            refine lv_aload_n hx hb d_CM_ask_298 rfl (lv_at hl 11 rfl) ?_
                            refine va_get (D := (dC, dI)) (ci := 4) (v := .ref (ad 8)) (C := R_CM) (T := F_CM) (N := 27) hx hb hT i_CM hown hK hP 0 rfl rfl 12 (by decide) (hT _ m_483) (fun _ h9 => h9) rfl d_CM_ask_299 ?_
                            refine lv_iconst (v := 0) hx hb d_CM_ask_302 (by decide) ?_
                            refine va_iald hx hb hK hP 8 0 rfl rfl (vp_in_nI (n := 0) (by omega) (by omega)) d_CM_ask_303 ?_
                            refine W.eq (g2 := F0 m 304 ls [.int (nI ((mv_sz V6) 0)), .ref (ad 0)]) (rfl) ?_
                            refine lv_goto (tgt := 311) hx hb d_CM_ask_304 (by decide) ?_
                            refine va_put (D := (dC, dI)) (ci := 4) (v := .int (nI ((mv_sz V6) 0))) (ty := .int) (C := R_CM) (T := F_CM) (N := 27) hx hb hT i_CM t_CM t_CM_ok n_CM hown hK hP hD hS 0 rfl rfl 14 (by decide) (hT _ m_485) (fun _ h9 => h9) rfl (by decide +kernel) rfl rfl (Nat.le_of_ble_eq_true rfl) d_CM_ask_311 (fun H locs hP hD hS => ?_)
                            have hP : va_P (dC, dI) kCl (mw_ cI cJ ad L S C key 0 (nI ((mv_sz V6) 0)) asked td tr (V6) (mv_cp o v)) H := hP
                            have hD : va_D A (mw_ cI cJ ad L S C key 0 (nI ((mv_sz V6) 0)) asked td tr (V6) (mv_cp o v)) := hD
                            refine lv_aload_n hx hb d_CM_ask_314 rfl (lv_at hl 11 rfl) ?_
                            refine lv_dup hx hb d_CM_ask_315 rfl ?_
                            refine va_get (D := (dC, dI)) (ci := 4) (v := .int asked) (C := R_CM) (T := F_CM) (N := 27) hx hb hT i_CM hown hK hP 0 rfl rfl 15 (by decide) (hT _ m_486) (fun _ h9 => h9) rfl d_CM_ask_316 ?_
                            refine lv_iconst (v := 1) hx hb d_CM_ask_319 (by decide) ?_
                            refine lv_iadd hx hb d_CM_ask_320 ?_
                            refine va_put (D := (dC, dI)) (ci := 4) (v := .int (asked + 1)) (ty := .int) (C := R_CM) (T := F_CM) (N := 27) hx hb hT i_CM t_CM t_CM_ok n_CM hown hK hP hD hS 0 rfl rfl 15 (by decide) (hT _ m_486) (fun _ h9 => h9) rfl (by decide +kernel) rfl rfl (Nat.le_of_ble_eq_true rfl) d_CM_ask_321 (fun H locs hP hD hS => ?_)
                            have hP : va_P (dC, dI) kCl (mw_ cI cJ ad L S C key 0 (nI ((mv_sz V6) 0)) (asked + 1) td tr (V6) (mv_cp o v)) H := hP
                            have hD : va_D A (mw_ cI cJ ad L S C key 0 (nI ((mv_sz V6) 0)) (asked + 1) td tr (V6) (mv_cp o v)) := hD
                            refine lv_aload_n hx hb d_CM_ask_324 rfl (lv_at hl 11 rfl) ?_
                            refine lv_iload hx hb d_CM_ask_325 (lv_at hl 3 rfl) ?_
                            refine lv_iload hx hb d_CM_ask_327 (lv_at hl 8 rfl) ?_
                            refine mc_v (va_runV (As := [.int (nI q0), .int (nI q1)]) (rest := []) ⟨hx, hb, hml, hown, hT⟩ (c_CM_mark ok htd (nI q0) (nI q1)) (cwV 2 hT (gi_V m_602 m_599 m_601 m_19 m_27) rfl rfl rfl p_CM_mark ⟨Nat.le_of_ble_eq_true rfl, Nat.le_of_ble_eq_true rfl⟩) ⟨mP_blind, va_recv hK hP (ci := 4) (q0 := 0) rfl rfl, mP_pre hK hP hD⟩ rfl rfl hl.1 rfl (lv_room (Nat.le_of_ble_eq_true rfl)) d_CM_ask_329 ⟨Nat.le_refl _, Nat.le_refl _⟩) hS (fun H locs hP hD hS => ?_)
                            have hP : va_P (dC, dI) kCl (mw_ cI cJ ad L S C key 0 (nI ((mv_sz V6) 0)) (asked + 1) (td + 1) (upd (upd tr (2 * td) (nI q0)) (2 * td + 1) (nI q1)) (V6) (mv_cp o v)) H := hP
                            have hD : va_D A (mw_ cI cJ ad L S C key 0 (nI ((mv_sz V6) 0)) (asked + 1) (td + 1) (upd (upd tr (2 * td) (nI q0)) (2 * td + 1) (nI q1)) (V6) (mv_cp o v)) := hD
                            refine lv_lload hx hb d_CM_ask_332 (lv_at hl 1 rfl) ?_
                            exact W.lret hx hb hr (fun t9 ht _ => aQl_end ((0, (nI ((mv_sz V6) 0)), asked + 1, td + 1, upd (upd tr (2 * td) (nI q0)) (2 * td + 1) (nI q1), V6, mv_cp o v)) (Or.inr (Or.inr ⟨j, q1, i1, q0, i0, V1, V3, V4, V6, hj, rfl, hco0, hco1, hq1, hm1, hV1, hi1, hai1, hV3, hq0, hl0, hV4, hi0, hai0, hV6, Or.inl ⟨of_decide_eq_true (b2i_n.mp hf1), of_decide_eq_true (b2i_n.mp hf0), rfl, by first | rw [if_pos (Int32.not_le.mp hc295)] | rw [if_neg (Int32.not_lt.mpr hc295)]⟩⟩)) rfl hP hD hS ht) hS.2.2 d_CM_ask_334 hlocks
                        · have hf0 := c_47
                          refine lv_aload_n hx hb d_CM_ask_273 rfl (lv_at hl 11 rfl) ?_
                          refine mc_v (va_runV (As := []) (rest := []) ⟨hx, hb, hml, hown, hT⟩ (c_CM_takeBack ok ) (cwV 0 hT (gi_V m_598 m_595 m_597 m_18 m_27) rfl rfl rfl p_CM_takeBack ⟨Nat.le_of_ble_eq_true rfl, Nat.le_of_ble_eq_true rfl⟩) ⟨mP_blind, va_recv hK hP (ci := 4) (q0 := 0) rfl rfl, mP_pre hK hP hD⟩ rfl rfl hl.1 rfl (lv_room (Nat.le_of_ble_eq_true rfl)) d_CM_ask_274 ⟨Nat.le_refl _, Nat.le_refl _⟩) hS (fun H locs hP hD hS => ?_)
                          have hP : va_P (dC, dI) kCl (mw_ cI cJ ad L S C key 0 most asked td tr (mv_cp V6 (mv_cp o v)) (mv_cp o v)) H := hP
                          have hD : va_D A (mw_ cI cJ ad L S C key 0 most asked td tr (mv_cp V6 (mv_cp o v)) (mv_cp o v)) := hD
                          refine lv_aload_n hx hb d_CM_ask_277 rfl (lv_at hl 11 rfl) ?_
                          refine lv_iconst (v := 3) hx hb d_CM_ask_278 (by decide) ?_
                          refine va_put (D := (dC, dI)) (ci := 4) (v := .int 3) (ty := .int) (C := R_CM) (T := F_CM) (N := 27) hx hb hT i_CM t_CM t_CM_ok n_CM hown hK hP hD hS 0 rfl rfl 0 (by decide) (hT _ m_471) (fun _ h9 => h9) rfl (by decide +kernel) rfl rfl (Nat.le_of_ble_eq_true rfl) d_CM_ask_279 (fun H locs hP hD hS => ?_)
                          have hP : va_P (dC, dI) kCl (mw_ cI cJ ad L S C key 3 most asked td tr (mv_cp V6 (mv_cp o v)) (mv_cp o v)) H := hP
                          have hD : va_D A (mw_ cI cJ ad L S C key 3 most asked td tr (mv_cp V6 (mv_cp o v)) (mv_cp o v)) := hD
                          refine lv_lconst (v := 0) hx hb d_CM_ask_282 (by decide) ?_
                          exact W.lret hx hb hr (fun t9 ht _ => aQl_end ((3, most, asked, td, tr, mv_cp V6 (mv_cp o v), mv_cp o v)) (Or.inr (Or.inr ⟨j, q1, i1, q0, i0, V1, V3, V4, V6, hj, rfl, hco0, hco1, hq1, hm1, hV1, hi1, hai1, hV3, hq0, hl0, hV4, hi0, hai0, hV6, Or.inr ⟨fun h9 => by first | exact absurd h9.1 (of_decide_eq_false (b2i_0.mp hf1)) | exact absurd h9.2 (of_decide_eq_false (b2i_0.mp hf0)), rfl, rfl⟩⟩)) rfl hP hD hS ht) hS.2.2 d_CM_ask_283 hlocks
                · exact absurd (by decide) c_33
              · exact absurd c_32 (by decide)
            · have hbad : b < 0 ∨ 63 < b := Or.inr (Int32.not_le.mp c_31)
              refine lv_iconst (v := 1) hx hb d_CM_ask_48 (by decide) ?_
              refine lv_goto (tgt := 62) hx hb d_CM_ask_49 (by decide) ?_
              refine va_put (D := (dC, dI)) (ci := 4) (v := .int 1) (ty := .int) (C := R_CM) (T := F_CM) (N := 27) hx hb hT i_CM t_CM t_CM_ok n_CM hown hK hP hD hS 0 rfl rfl 0 (by decide) (hT _ m_471) (fun _ h9 => h9) rfl (by decide +kernel) rfl rfl (Nat.le_of_ble_eq_true rfl) d_CM_ask_62 (fun H locs hP hD hS => ?_)
              have hP : va_P (dC, dI) kCl (mw_ cI cJ ad L S C key 1 most asked td tr (v) (o)) H := hP
              have hD : va_D A (mw_ cI cJ ad L S C key 1 most asked td tr (v) (o)) := hD
              refine lv_aload_n hx hb d_CM_ask_65 rfl (lv_at hl 1 rfl) ?_
              refine va_get (D := (dC, dI)) (ci := 4) (v := .int 1) (C := R_CM) (T := F_CM) (N := 27) hx hb hT i_CM hown hK hP 0 rfl rfl 0 (by decide) (hT _ m_471) (fun _ h9 => h9) rfl d_CM_ask_66 ?_
              refine lv_if_le (tgt := 74) hx hb d_CM_ask_69 (by decide) (fun c_49 => ?_) (fun c_49 => ?_)
              · exact absurd c_49 (by decide)
              · refine lv_lconst (v := 0) hx hb d_CM_ask_72 (by decide) ?_
                exact W.lret hx hb hr (fun t9 ht _ => aQl_end ((1, most, asked, td, tr, v, o)) (Or.inl ⟨hbad, rfl, rfl⟩) rfl hP hD hS ht) hS.2.2 d_CM_ask_73 hlocks
