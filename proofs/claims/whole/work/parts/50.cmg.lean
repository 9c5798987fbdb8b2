set_option maxHeartbeats 8000000 in
set_option maxRecDepth 100000 in
/-- CoinTreeModel.gather -/
theorem c_CM_gather {l : Launch} {dC : Nat → ClassId} {dI : Nat → Nat → Nat} {cI cJ : ClassId} {A : Nat → Prop} {ad : Nat → Nat} {L S C : Nat} {key : Int64} {th most asked : Int32} {td : Nat} {tr : Nat → Int32} {v o : Mv} (ok : mk_ok L S C) (T : Nat) (hT2 : T < 2) (hz : mv_sz v T ≤ 40) (b : Int32) (lf : Nat) (hlf : lf < 2 ^ mL L T) : Met l y_CM_gather (k_CM_gather :: bw) { frames := 2, cells := 0, slots := 0, locals := 42 } (mP (dC, dI) kCl [(cI, .int), (cJ, .long)] [.ref (ad 0), .int (nI T), .int b, .int (nI lf)] (mw_ cI cJ ad L S C key th most asked td tr (v) (o)) A) (mQi (dC, dI) kCl (mv_at (mv_gather L S T b lf v) T b) (mw_ cI cJ ad L S C key th most asked td tr (mv_gather L S T b lf v) (o)) A) 0 0 A := by
  refine Met.ofZ (own := "CoinTreeModel") (by decide) rfl [.ref (ad 0), .int (nI T), .int b, .int (nI lf)] (Nat.le_of_ble_eq_true rfl) (fun _ _ h => h.1) ?_
  intro p e s m below meth c ls C0 hv hl
  obtain ⟨hx, hb, hr, hml, hown, hT, hlocks⟩ := C0
  obtain ⟨-, hP, hK, hD⟩ := hv
  have hS : va_S A s.heap s.heap [] := va_S.rf
  have hl : lv_has ls 9 [(0, .ref (ad 0)), (1, .int (nI T)), (2, .int b), (3, .int (nI lf))] := hl
  obtain ⟨qL1, qL5, qS1, qS4, qC⟩ := id ok
  have qM5 := (mL_le (T := T) qL1 qL5).2
  have q32 := p2_le qM5
  
  refine lv_aload_n hx hb d_CM_gather_0 rfl (lv_at hl 0 rfl) ?_
  refine lv_iload_n hx hb d_CM_gather_1 rfl (lv_at hl 1 rfl) ?_
  refine zc_i (va_runV (As := [.int (nI T)]) (rest := []) ⟨hx, hb, hml, hown, hT⟩ (c_CM_levelsOf ok hP T (by omega)) (cwV 1 hT (gi_V m_470 m_467 m_469 m_10 m_27) rfl rfl rfl p_CM_levelsOf ⟨Nat.le_of_ble_eq_true rfl, Nat.le_of_ble_eq_true rfl⟩) ⟨zP_blind, va_recv hK hP (ci := 4) (q0 := 0) rfl rfl, zP_pre hK⟩ rfl rfl hl.1 rfl (lv_room (Nat.le_of_ble_eq_true rfl)) d_CM_gather_2 ⟨Nat.le_refl _, Nat.le_refl _⟩) hS (fun locs hS => ?_)
  refine lv_istore (lv' := [(4, .int (nI (mL L T))), (0, .ref (ad 0)), (1, .int (nI T)), (2, .int b), (3, .int (nI lf))]) hx hb d_CM_gather_5 hl (by decide) rfl (fun ls hl => ?_)
  refine lv_iconst (v := 0) hx hb d_CM_gather_7 (by decide) ?_
  refine lv_istore (lv' := [(5, .int 0), (4, .int (nI (mL L T))), (0, .ref (ad 0)), (1, .int (nI T)), (2, .int b), (3, .int (nI lf))]) hx hb d_CM_gather_8 hl (by decide) rfl (fun ls hl => ?_)
  have lp1 : ∀ (N : Nat) (i : Nat) (ls : Array Slot) (H : Heap) (locs : List Loc), mL L T + 1 - i < N → i ≤ mL L T + 1 →  va_P (dC, dI) kCl (mw_ cI cJ ad L S C key th most asked td tr (lp_ (mv_gWf (mL L T) S T lf) i v) (o)) H → va_D A (mw_ cI cJ ad L S C key th most asked td tr (lp_ (mv_gWf (mL L T) S T lf) i v) (o)) → va_S A s.heap H locs → lv_has ls 9 [(5, .int (nI i)), (0, .ref (ad 0)), (1, .int (nI T)), (2, .int b), (3, .int (nI lf)), (4, .int (nI (mL L T)))] → W p l e ({ frames := 2, cells := 0, slots := 0, locals := 42 } : Room) s m ([.ref (ad 0), .int (nI T), .int b, .int (nI lf)] : List Value).toArray below meth c H locs 0 0 (MQ below (mQi (dC, dI) kCl (mv_at (mv_gather L S T b lf v) T b) (mw_ cI cJ ad L S C key th most asked td tr (mv_gather L S T b lf v) (o)) A) ([.ref (ad 0), .int (nI T), .int b, .int (nI lf)] : List Value).toArray s 0 0 A) (F0 m 10 ls []) := by
    intro N1
    induction N1 with
    | zero => intro i ls H locs hN; omega
    | succ N1 ih1 =>
      intro i ls H locs hN1 hi hP hD hS hl
      refine lv_iload hx hb d_CM_gather_10 (lv_at hl 0 rfl) ?_
      refine lv_iload hx hb d_CM_gather_12 (lv_at hl 5 rfl) ?_
      refine lv_icmp_gt (tgt := 111) hx hb d_CM_gather_14 (by decide) (fun c_1 => ?_) (fun c_1 => ?_)
      · have c_1 := (nI_ltI (a := (mL L T)) (b := i) (by omega) (by omega)).mp c_1
        have hi2 : i = mL L T + 1 := by omega
        rw [hi2] at hP hD
        have hP : va_P (dC, dI) kCl (mw_ cI cJ ad L S C key th most asked td tr (mv_gW (mL L T) S T lf v) (o)) H := hP
        have hD : va_D A (mw_ cI cJ ad L S C key th most asked td tr (mv_gW (mL L T) S T lf v) (o)) := hD
        have hzW : mv_sz (mv_gW (mL L T) S T lf v) T ≤ _ := mv_gW_sz (mL L T + 1)
        have hiS : (mL L T + 1) * S ≤ 6 * 4 := Nat.mul_le_mul (by have := (mL_le (T := T) qL1 qL5).2; omega) qS4
        obtain ⟨VW, hVW⟩ : ∃ V : Mv, V = mv_gW (mL L T) S T lf v := ⟨_, rfl⟩
        rw [← hVW] at hP hD hzW
        refine lv_aload_n hx hb d_CM_gather_111 rfl (lv_at hl 1 rfl) ?_
        refine lv_iload_n hx hb d_CM_gather_112 rfl (lv_at hl 2 rfl) ?_
        refine lv_iload_n hx hb d_CM_gather_113 rfl (lv_at hl 3 rfl) ?_
        refine zc_i (va_runV (As := [.int (nI T), .int b]) (rest := []) ⟨hx, hb, hml, hown, hT⟩ (c_CM_find ok hP T (by omega) (by omega) b) (cwV 2 hT (gi_V m_583 m_580 m_582 m_15 m_27) rfl rfl rfl p_CM_find ⟨Nat.le_of_ble_eq_true rfl, Nat.le_of_ble_eq_true rfl⟩) ⟨zP_blind, va_recv hK hP (ci := 4) (q0 := 0) rfl rfl, zP_pre hK⟩ rfl rfl hl.1 rfl (lv_room (Nat.le_of_ble_eq_true rfl)) d_CM_gather_114 ⟨Nat.le_refl _, Nat.le_refl _⟩) hS (fun locs hS => ?_)
        refine lv_iconst (v := (-1)) hx hb d_CM_gather_117 (by decide) ?_
        refine lv_icmp_ne (tgt := 129) hx hb d_CM_gather_118 (by decide) (fun c_2 => ?_) (fun c_2 => ?_)
        · have hVG : VW = mv_gather L S T b lf v := by unfold mv_gather; rw [← hVW]; exact (if_neg c_2).symm
          have hzG : mv_sz (mv_gather L S T b lf v) T ≤ 65 := by rw [← hVG]; omega
          rw [hVG] at hP hD
          refine lv_aload_n hx hb d_CM_gather_129 rfl (lv_at hl 1 rfl) ?_
          refine lv_iload_n hx hb d_CM_gather_130 rfl (lv_at hl 2 rfl) ?_
          refine lv_iload_n hx hb d_CM_gather_131 rfl (lv_at hl 3 rfl) ?_
          refine zc_i (va_runV (As := [.int (nI T), .int b]) (rest := []) ⟨hx, hb, hml, hown, hT⟩ (c_CM_find ok hP T (by omega) (by omega) b) (cwV 2 hT (gi_V m_583 m_580 m_582 m_15 m_27) rfl rfl rfl p_CM_find ⟨Nat.le_of_ble_eq_true rfl, Nat.le_of_ble_eq_true rfl⟩) ⟨zP_blind, va_recv hK hP (ci := 4) (q0 := 0) rfl rfl, zP_pre hK⟩ rfl rfl hl.1 rfl (lv_room (Nat.le_of_ble_eq_true rfl)) d_CM_gather_132 ⟨Nat.le_refl _, Nat.le_refl _⟩) hS (fun locs hS => ?_)
          exact W.iret hx hb hr (fun t9 ht _ => mQi_end (rfl) (rfl) hP hD hS ht) hS.2.2 d_CM_gather_135 hlocks
        · have hVG : mv_push VW T b 0 0 = mv_gather L S T b lf v := by unfold mv_gather; rw [← hVW]; exact (if_pos c_2).symm
          refine lv_aload_n hx hb d_CM_gather_121 rfl (lv_at hl 1 rfl) ?_
          refine lv_iload_n hx hb d_CM_gather_122 rfl (lv_at hl 2 rfl) ?_
          refine lv_iload_n hx hb d_CM_gather_123 rfl (lv_at hl 3 rfl) ?_
          refine lv_iconst (v := 0) hx hb d_CM_gather_124 (by decide) ?_
          refine lv_lconst (v := 0) hx hb d_CM_gather_125 (by decide) ?_
          refine mc_v (va_runV (As := [.int (nI T), .int b, .int 0, .long 0]) (rest := []) ⟨hx, hb, hml, hown, hT⟩ (c_CM_push ok T (by omega) (by omega) b 0 0) (cwV 4 hT (gi_V m_579 m_576 m_578 m_14 m_27) rfl rfl rfl p_CM_push ⟨Nat.le_of_ble_eq_true rfl, Nat.le_of_ble_eq_true rfl⟩) ⟨mP_blind, va_recv hK hP (ci := 4) (q0 := 0) rfl rfl, mP_pre hK hP hD⟩ rfl rfl hl.1 rfl (lv_room (Nat.le_of_ble_eq_true rfl)) d_CM_gather_126 ⟨Nat.le_refl _, Nat.le_refl _⟩) hS (fun H locs hP hD hS => ?_)
          have hP : va_P (dC, dI) kCl (mw_ cI cJ ad L S C key th most asked td tr (mv_push VW T b 0 0) (o)) H := hP
          have hD : va_D A (mw_ cI cJ ad L S C key th most asked td tr (mv_push VW T b 0 0) (o)) := hD
          have hzG : mv_sz (mv_gather L S T b lf v) T ≤ 65 := by rw [← hVG, show mv_sz (mv_push VW T b 0 0) T = mv_sz VW T + 1 from upN_s]; omega
          rw [hVG] at hP hD
          refine lv_aload_n hx hb d_CM_gather_129 rfl (lv_at hl 1 rfl) ?_
          refine lv_iload_n hx hb d_CM_gather_130 rfl (lv_at hl 2 rfl) ?_
          refine lv_iload_n hx hb d_CM_gather_131 rfl (lv_at hl 3 rfl) ?_
          refine zc_i (va_runV (As := [.int (nI T), .int b]) (rest := []) ⟨hx, hb, hml, hown, hT⟩ (c_CM_find ok hP T (by omega) (by omega) b) (cwV 2 hT (gi_V m_583 m_580 m_582 m_15 m_27) rfl rfl rfl p_CM_find ⟨Nat.le_of_ble_eq_true rfl, Nat.le_of_ble_eq_true rfl⟩) ⟨zP_blind, va_recv hK hP (ci := 4) (q0 := 0) rfl rfl, zP_pre hK⟩ rfl rfl hl.1 rfl (lv_room (Nat.le_of_ble_eq_true rfl)) d_CM_gather_132 ⟨Nat.le_refl _, Nat.le_refl _⟩) hS (fun locs hS => ?_)
          exact W.iret hx hb hr (fun t9 ht _ => mQi_end (rfl) (rfl) hP hD hS ht) hS.2.2 d_CM_gather_135 hlocks
      · have c_1 := (not_congr (nI_ltI (a := (mL L T)) (b := i) (by omega) (by omega))).mp c_1
        refine lv_aload_n hx hb d_CM_gather_17 rfl (lv_at hl 1 rfl) ?_
        refine lv_iload_n hx hb d_CM_gather_18 rfl (lv_at hl 2 rfl) ?_
        refine zc_i (va_runV (As := [.int (nI T)]) (rest := []) ⟨hx, hb, hml, hown, hT⟩ (c_CM_leavesOf ok hP T (by omega)) (cwV 1 hT (gi_V m_466 m_463 m_465 m_9 m_27) rfl rfl rfl p_CM_leavesOf ⟨Nat.le_of_ble_eq_true rfl, Nat.le_of_ble_eq_true rfl⟩) ⟨zP_blind, va_recv hK hP (ci := 4) (q0 := 0) rfl rfl, zP_pre hK⟩ rfl rfl hl.1 rfl (lv_room (Nat.le_of_ble_eq_true rfl)) d_CM_gather_19 ⟨Nat.le_refl _, Nat.le_refl _⟩) hS (fun locs hS => ?_)
        refine lv_iload_n hx hb d_CM_gather_22 rfl (lv_at hl 4 rfl) ?_
        refine lv_iadd hx hb d_CM_gather_23 ?_
        refine W.eq (g2 := F0 m 24 ls [.int (nI ((2 ^ mL L T) + lf))]) (congrArg (fun q9 : Int32 => F0 m 24 ls (.int q9 :: [])) (nI_add (2 ^ mL L T) lf)) ?_
        refine lv_iload hx hb d_CM_gather_24 (lv_at hl 5 rfl) ?_
        refine lv_iload hx hb d_CM_gather_26 (lv_at hl 0 rfl) ?_
        refine lv_isub hx hb d_CM_gather_28 ?_
        refine W.eq (g2 := F0 m 29 ls [.int (nI ((mL L T) - i)), .int (nI ((2 ^ mL L T) + lf))]) (congrArg (fun q9 : Int32 => F0 m 29 ls (.int q9 :: .int (nI ((2 ^ mL L T) + lf)) :: [])) (pk_sub (a := (mL L T)) (b := i) (by omega))) ?_
        refine lv_ishr hx hb d_CM_gather_29 ?_
        refine W.eq (g2 := F0 m 30 ls [.int (nI (((2 ^ mL L T) + lf) / 2 ^ ((mL L T) - i)))]) (congrArg (fun q9 : Int32 => F0 m 30 ls (.int q9 :: [])) (nm_shr (a := ((2 ^ mL L T) + lf)) (b := ((mL L T) - i)) (by omega) (by omega))) ?_
        obtain ⟨nd, hnd⟩ : ∃ nd : Nat, nd = mnd (mL L T) lf (mL L T - i) := ⟨_, rfl⟩
        have hnd64 : nd < 64 := by rw [hnd]; exact mnd_lt (mL_le qL1 qL5).2 hlf
        have hzi := mv_gW_sz (D := mL L T) (S := S) (T := T) (lf := lf) (v := v) i
        have hiS : i * S ≤ 6 * 4 := Nat.mul_le_mul (by omega) qS4
        refine W.eq (g2 := F0 m 30 ls [.int (nI nd)]) (by rw [hnd]; rfl) ?_
        generalize hV0 : lp_ (mv_gWf (mL L T) S T lf) i v = V0 at hP hD hzi
        refine lv_istore (lv' := [(6, .int (nI nd)), (5, .int (nI i)), (0, .ref (ad 0)), (1, .int (nI T)), (2, .int b), (3, .int (nI lf)), (4, .int (nI (mL L T)))]) hx hb d_CM_gather_30 hl (by decide) rfl (fun ls hl => ?_)
        refine lv_iconst (v := 0) hx hb d_CM_gather_32 (by decide) ?_
        refine lv_istore (lv' := [(7, .int 0), (6, .int (nI nd)), (5, .int (nI i)), (0, .ref (ad 0)), (1, .int (nI T)), (2, .int b), (3, .int (nI lf)), (4, .int (nI (mL L T)))]) hx hb d_CM_gather_33 hl (by decide) rfl (fun ls hl => ?_)
        have lp2 : ∀ (N : Nat) (k : Nat) (ls : Array Slot) (H : Heap) (locs : List Loc), S - k < N → k ≤ S →  va_P (dC, dI) kCl (mw_ cI cJ ad L S C key th most asked td tr (lp_ (mv_gf T nd) k V0) (o)) H → va_D A (mw_ cI cJ ad L S C key th most asked td tr (lp_ (mv_gf T nd) k V0) (o)) → va_S A s.heap H locs → lv_has ls 9 [(7, .int (nI k)), (5, .int (nI i)), (0, .ref (ad 0)), (1, .int (nI T)), (2, .int b), (3, .int (nI lf)), (4, .int (nI (mL L T))), (6, .int (nI nd))] → W p l e ({ frames := 2, cells := 0, slots := 0, locals := 42 } : Room) s m ([.ref (ad 0), .int (nI T), .int b, .int (nI lf)] : List Value).toArray below meth c H locs 0 0 (MQ below (mQi (dC, dI) kCl (mv_at (mv_gather L S T b lf v) T b) (mw_ cI cJ ad L S C key th most asked td tr (mv_gather L S T b lf v) (o)) A) ([.ref (ad 0), .int (nI T), .int b, .int (nI lf)] : List Value).toArray s 0 0 A) (F0 m 35 ls []) := by
          intro N2
          induction N2 with
          | zero => intro k ls H locs hN; omega
          | succ N2 ih2 =>
            intro k ls H locs hN2 hk hP hD hS hl
            refine lv_iload hx hb d_CM_gather_35 (lv_at hl 0 rfl) ?_
            refine lv_aload_n hx hb d_CM_gather_37 rfl (lv_at hl 2 rfl) ?_
            refine va_get (D := (dC, dI)) (ci := 4) (v := .int (nI S)) (C := R_CM) (T := F_CM) (N := 27) hx hb hT i_CM hown hK hP 0 rfl rfl 2 (by decide) (hT _ m_473) (fun _ h9 => h9) rfl d_CM_gather_38 ?_
            refine lv_icmp_ge (tgt := 105) hx hb d_CM_gather_41 (by decide) (fun c_3 => ?_) (fun c_3 => ?_)
            · have c_3 := (nI_leI (a := S) (b := k) (by omega) (by omega)).mp c_3
              have hkS : k = S := by omega
              rw [hkS, ← hV0, hnd] at hP hD
              have hP : va_P (dC, dI) kCl (mw_ cI cJ ad L S C key th most asked td tr (lp_ (mv_gWf (mL L T) S T lf) (i + 1) v) (o)) H := hP
              have hD : va_D A (mw_ cI cJ ad L S C key th most asked td tr (lp_ (mv_gWf (mL L T) S T lf) (i + 1) v) (o)) := hD
              refine lv_iinc (v := nI (i + 1)) (lv' := [(5, .int (nI (i + 1))), (7, .int (nI k)), (0, .ref (ad 0)), (1, .int (nI T)), (2, .int b), (3, .int (nI lf)), (4, .int (nI (mL L T))), (6, .int (nI nd))]) hx hb d_CM_gather_105 hl (k := 1) rfl (nI_1 i) (by decide) rfl (fun ls hl => ?_)
              refine lv_goto (tgt := 10) hx hb d_CM_gather_108 (by decide) ?_
              exact ih1 (i + 1) ls H locs (by omega) (by omega) hP hD hS (lv_sub hl [0, 2, 3, 4, 5, 6] rfl)
            · have c_3 := (not_congr (nI_leI (a := S) (b := k) (by omega) (by omega))).mp c_3
              have hzk := mv_lp_sz (T := T) (nd := nd) (v := V0) k
              generalize hV1 : lp_ (mv_gf T nd) k V0 = V1 at hP hD hzk
              refine lv_iload_n hx hb d_CM_gather_44 rfl (lv_at hl 3 rfl) ?_
              refine lv_iload hx hb d_CM_gather_45 (lv_at hl 7 rfl) ?_
              refine lv_iload hx hb d_CM_gather_47 (lv_at hl 0 rfl) ?_
              refine zc_i (va_runS (As := [.int (nI T), .int (nI nd), .int (nI k)]) (rest := []) ⟨hx, hb, hml, hown, hT⟩ (c_CM_place T nd k) (cwS 3 hT (gi_S m_575 m_573 m_574 m_27) rfl rfl rfl p_CM_place ⟨Nat.le_of_ble_eq_true rfl, Nat.le_of_ble_eq_true rfl⟩) ⟨zP_blind, zP_pre hK⟩ rfl rfl hl.1 rfl (lv_room (Nat.le_of_ble_eq_true rfl)) d_CM_gather_49 ⟨Nat.le_refl _, Nat.le_refl _⟩) hS (fun locs hS => ?_)
              refine lv_istore (lv' := [(8, .int (nI (256 * T + 4 * nd + k))), (7, .int (nI k)), (5, .int (nI i)), (0, .ref (ad 0)), (1, .int (nI T)), (2, .int b), (3, .int (nI lf)), (4, .int (nI (mL L T))), (6, .int (nI nd))]) hx hb d_CM_gather_52 hl (by decide) rfl (fun ls hl => ?_)
              refine lv_aload_n hx hb d_CM_gather_54 rfl (lv_at hl 3 rfl) ?_
              refine va_get (D := (dC, dI)) (ci := 4) (v := .ref (ad 1)) (C := R_CM) (T := F_CM) (N := 27) hx hb hT i_CM hown hK hP 0 rfl rfl 5 (by decide) (hT _ m_476) (fun _ h9 => h9) rfl d_CM_gather_55 ?_
              refine lv_iload hx hb d_CM_gather_58 (lv_at hl 0 rfl) ?_
              refine va_iald hx hb hK hP 1 0 rfl rfl (vp_in_nI (n := (256 * T + 4 * nd + k)) (by omega) (by omega)) d_CM_gather_60 ?_
              refine W.eq (g2 := F0 m 61 ls [.int ((mv_bl V1) (256 * T + 4 * nd + k))]) (by rw [nI_clamp (n := (256 * T + 4 * nd + k)) (by omega)] <;> rfl) ?_
              refine lv_iconst (v := (-1)) hx hb d_CM_gather_61 (by decide) ?_
              refine lv_icmp_eq (tgt := 99) hx hb d_CM_gather_62 (by decide) (fun c_4 => ?_) (fun c_4 => ?_)
              · have hV2 : lp_ (mv_gf T nd) (k + 1) V0 = V1 := by
                  show mv_gf T nd k (lp_ (mv_gf T nd) k V0) = V1
                  rw [hV1]; exact if_pos c_4
                rw [← hV2] at hP hD
                refine lv_iinc (v := nI (k + 1)) (lv' := [(7, .int (nI (k + 1))), (8, .int (nI (256 * T + 4 * nd + k))), (5, .int (nI i)), (0, .ref (ad 0)), (1, .int (nI T)), (2, .int b), (3, .int (nI lf)), (4, .int (nI (mL L T))), (6, .int (nI nd))]) hx hb d_CM_gather_99 hl (k := 1) rfl (nI_1 k) (by decide) rfl (fun ls hl => ?_)
                refine lv_goto (tgt := 35) hx hb d_CM_gather_102 (by decide) ?_
                exact ih2 (k + 1) ls H locs (by omega) (by omega) hP hD hS (lv_sub hl [0, 2, 3, 4, 5, 6, 7, 8] rfl)
              · have hc62 := c_4
                refine lv_aload_n hx hb d_CM_gather_65 rfl (lv_at hl 3 rfl) ?_
                refine lv_iload_n hx hb d_CM_gather_66 rfl (lv_at hl 4 rfl) ?_
                refine lv_aload_n hx hb d_CM_gather_67 rfl (lv_at hl 3 rfl) ?_
                refine va_get (D := (dC, dI)) (ci := 4) (v := .ref (ad 1)) (C := R_CM) (T := F_CM) (N := 27) hx hb hT i_CM hown hK hP 0 rfl rfl 5 (by decide) (hT _ m_476) (fun _ h9 => h9) rfl d_CM_gather_68 ?_
                refine lv_iload hx hb d_CM_gather_71 (lv_at hl 0 rfl) ?_
                refine va_iald hx hb hK hP 1 0 rfl rfl (vp_in_nI (n := (256 * T + 4 * nd + k)) (by omega) (by omega)) d_CM_gather_73 ?_
                refine W.eq (g2 := F0 m 74 ls [.int ((mv_bl V1) (256 * T + 4 * nd + k)), .int (nI T), .ref (ad 0)]) (by rw [nI_clamp (n := (256 * T + 4 * nd + k)) (by omega)] <;> rfl) ?_
                refine lv_aload_n hx hb d_CM_gather_74 rfl (lv_at hl 3 rfl) ?_
                refine va_get (D := (dC, dI)) (ci := 4) (v := .ref (ad 2)) (C := R_CM) (T := F_CM) (N := 27) hx hb hT i_CM hown hK hP 0 rfl rfl 6 (by decide) (hT _ m_477) (fun _ h9 => h9) rfl d_CM_gather_75 ?_
                refine lv_iload hx hb d_CM_gather_78 (lv_at hl 0 rfl) ?_
                refine va_iald hx hb hK hP 2 0 rfl rfl (vp_in_nI (n := (256 * T + 4 * nd + k)) (by omega) (by omega)) d_CM_gather_80 ?_
                refine W.eq (g2 := F0 m 81 ls [.int ((mv_lf V1) (256 * T + 4 * nd + k)), .int ((mv_bl V1) (256 * T + 4 * nd + k)), .int (nI T), .ref (ad 0)]) (by rw [nI_clamp (n := (256 * T + 4 * nd + k)) (by omega)] <;> rfl) ?_
                refine lv_aload_n hx hb d_CM_gather_81 rfl (lv_at hl 3 rfl) ?_
                refine va_get (D := (dC, dI)) (ci := 4) (v := .ref (ad 3)) (C := R_CM) (T := F_CM) (N := 27) hx hb hT i_CM hown hK hP 0 rfl rfl 7 (by decide) (hT _ m_478) (fun _ h9 => h9) rfl d_CM_gather_82 ?_
                refine lv_iload hx hb d_CM_gather_85 (lv_at hl 0 rfl) ?_
                refine va_lald hx hb hK hP 3 1 rfl rfl (vp_in_nI (n := (256 * T + 4 * nd + k)) (by omega) (by omega)) d_CM_gather_87 ?_
                refine W.eq (g2 := F0 m 88 ls [.long ((mv_vl V1) (256 * T + 4 * nd + k)), .int ((mv_lf V1) (256 * T + 4 * nd + k)), .int ((mv_bl V1) (256 * T + 4 * nd + k)), .int (nI T), .ref (ad 0)]) (by rw [nI_clamp (n := (256 * T + 4 * nd + k)) (by omega)] <;> rfl) ?_
                refine mc_v (va_runV (As := [.int (nI T), .int ((mv_bl V1) (256 * T + 4 * nd + k)), .int ((mv_lf V1) (256 * T + 4 * nd + k)), .long ((mv_vl V1) (256 * T + 4 * nd + k))]) (rest := []) ⟨hx, hb, hml, hown, hT⟩ (c_CM_push ok T (by omega) (by omega) ((mv_bl V1) (256 * T + 4 * nd + k)) ((mv_lf V1) (256 * T + 4 * nd + k)) ((mv_vl V1) (256 * T + 4 * nd + k))) (cwV 4 hT (gi_V m_579 m_576 m_578 m_14 m_27) rfl rfl rfl p_CM_push ⟨Nat.le_of_ble_eq_true rfl, Nat.le_of_ble_eq_true rfl⟩) ⟨mP_blind, va_recv hK hP (ci := 4) (q0 := 0) rfl rfl, mP_pre hK hP hD⟩ rfl rfl hl.1 rfl (lv_room (Nat.le_of_ble_eq_true rfl)) d_CM_gather_88 ⟨Nat.le_refl _, Nat.le_refl _⟩) hS (fun H locs hP hD hS => ?_)
                have hP : va_P (dC, dI) kCl (mw_ cI cJ ad L S C key th most asked td tr (mv_push V1 T ((mv_bl V1) (256 * T + 4 * nd + k)) ((mv_lf V1) (256 * T + 4 * nd + k)) ((mv_vl V1) (256 * T + 4 * nd + k))) (o)) H := hP
                have hD : va_D A (mw_ cI cJ ad L S C key th most asked td tr (mv_push V1 T ((mv_bl V1) (256 * T + 4 * nd + k)) ((mv_lf V1) (256 * T + 4 * nd + k)) ((mv_vl V1) (256 * T + 4 * nd + k))) (o)) := hD
                refine lv_aload_n hx hb d_CM_gather_91 rfl (lv_at hl 3 rfl) ?_
                refine va_get (D := (dC, dI)) (ci := 4) (v := .ref (ad 1)) (C := R_CM) (T := F_CM) (N := 27) hx hb hT i_CM hown hK hP 0 rfl rfl 5 (by decide) (hT _ m_476) (fun _ h9 => h9) rfl d_CM_gather_92 ?_
                refine lv_iload hx hb d_CM_gather_95 (lv_at hl 0 rfl) ?_
                refine lv_iconst (v := (-1)) hx hb d_CM_gather_97 (by decide) ?_
                refine va_iast hx hb hK hP hD hS 1 0 rfl rfl (vp_in_nI (n := (256 * T + 4 * nd + k)) (by omega) (by omega)) d_CM_gather_98 (fun H locs hP hD hS => ?_)
                rw [nI_clamp (n := (256 * T + 4 * nd + k)) (by omega)] at hP hD
                have hP : va_P (dC, dI) kCl (mw_ cI cJ ad L S C key th most asked td tr (mv_mk (upd (mv_bl (mv_push V1 T ((mv_bl V1) (256 * T + 4 * nd + k)) ((mv_lf V1) (256 * T + 4 * nd + k)) ((mv_vl V1) (256 * T + 4 * nd + k)))) (256 * T + 4 * nd + k) (-1)) (mv_lf (mv_push V1 T ((mv_bl V1) (256 * T + 4 * nd + k)) ((mv_lf V1) (256 * T + 4 * nd + k)) ((mv_vl V1) (256 * T + 4 * nd + k)))) (mv_vl (mv_push V1 T ((mv_bl V1) (256 * T + 4 * nd + k)) ((mv_lf V1) (256 * T + 4 * nd + k)) ((mv_vl V1) (256 * T + 4 * nd + k)))) (mv_ct (mv_push V1 T ((mv_bl V1) (256 * T + 4 * nd + k)) ((mv_lf V1) (256 * T + 4 * nd + k)) ((mv_vl V1) (256 * T + 4 * nd + k)))) (mv_sb (mv_push V1 T ((mv_bl V1) (256 * T + 4 * nd + k)) ((mv_lf V1) (256 * T + 4 * nd + k)) ((mv_vl V1) (256 * T + 4 * nd + k)))) (mv_sl (mv_push V1 T ((mv_bl V1) (256 * T + 4 * nd + k)) ((mv_lf V1) (256 * T + 4 * nd + k)) ((mv_vl V1) (256 * T + 4 * nd + k)))) (mv_sv (mv_push V1 T ((mv_bl V1) (256 * T + 4 * nd + k)) ((mv_lf V1) (256 * T + 4 * nd + k)) ((mv_vl V1) (256 * T + 4 * nd + k)))) (mv_sz (mv_push V1 T ((mv_bl V1) (256 * T + 4 * nd + k)) ((mv_lf V1) (256 * T + 4 * nd + k)) ((mv_vl V1) (256 * T + 4 * nd + k)))) (mv_ml (mv_push V1 T ((mv_bl V1) (256 * T + 4 * nd + k)) ((mv_lf V1) (256 * T + 4 * nd + k)) ((mv_vl V1) (256 * T + 4 * nd + k))))) (o)) H := hP
                have hD : va_D A (mw_ cI cJ ad L S C key th most asked td tr (mv_mk (upd (mv_bl (mv_push V1 T ((mv_bl V1) (256 * T + 4 * nd + k)) ((mv_lf V1) (256 * T + 4 * nd + k)) ((mv_vl V1) (256 * T + 4 * nd + k)))) (256 * T + 4 * nd + k) (-1)) (mv_lf (mv_push V1 T ((mv_bl V1) (256 * T + 4 * nd + k)) ((mv_lf V1) (256 * T + 4 * nd + k)) ((mv_vl V1) (256 * T + 4 * nd + k)))) (mv_vl (mv_push V1 T ((mv_bl V1) (256 * T + 4 * nd + k)) ((mv_lf V1) (256 * T + 4 * nd + k)) ((mv_vl V1) (256 * T + 4 * nd + k)))) (mv_ct (mv_push V1 T ((mv_bl V1) (256 * T + 4 * nd + k)) ((mv_lf V1) (256 * T + 4 * nd + k)) ((mv_vl V1) (256 * T + 4 * nd + k)))) (mv_sb (mv_push V1 T ((mv_bl V1) (256 * T + 4 * nd + k)) ((mv_lf V1) (256 * T + 4 * nd + k)) ((mv_vl V1) (256 * T + 4 * nd + k)))) (mv_sl (mv_push V1 T ((mv_bl V1) (256 * T + 4 * nd + k)) ((mv_lf V1) (256 * T + 4 * nd + k)) ((mv_vl V1) (256 * T + 4 * nd + k)))) (mv_sv (mv_push V1 T ((mv_bl V1) (256 * T + 4 * nd + k)) ((mv_lf V1) (256 * T + 4 * nd + k)) ((mv_vl V1) (256 * T + 4 * nd + k)))) (mv_sz (mv_push V1 T ((mv_bl V1) (256 * T + 4 * nd + k)) ((mv_lf V1) (256 * T + 4 * nd + k)) ((mv_vl V1) (256 * T + 4 * nd + k)))) (mv_ml (mv_push V1 T ((mv_bl V1) (256 * T + 4 * nd + k)) ((mv_lf V1) (256 * T + 4 * nd + k)) ((mv_vl V1) (256 * T + 4 * nd + k))))) (o)) := hD
                have hP : va_P (dC, dI) kCl (mw_ cI cJ ad L S C key th most asked td tr (mv_emp (mv_push V1 T (mv_bl V1 (256 * T + 4 * nd + k)) (mv_lf V1 (256 * T + 4 * nd + k)) (mv_vl V1 (256 * T + 4 * nd + k))) (256 * T + 4 * nd + k)) (o)) H := hP
                have hD : va_D A (mw_ cI cJ ad L S C key th most asked td tr (mv_emp (mv_push V1 T (mv_bl V1 (256 * T + 4 * nd + k)) (mv_lf V1 (256 * T + 4 * nd + k)) (mv_vl V1 (256 * T + 4 * nd + k))) (256 * T + 4 * nd + k)) (o)) := hD
                have hV2 : lp_ (mv_gf T nd) (k + 1) V0 = mv_emp (mv_push V1 T (mv_bl V1 (256 * T + 4 * nd + k)) (mv_lf V1 (256 * T + 4 * nd + k)) (mv_vl V1 (256 * T + 4 * nd + k))) (256 * T + 4 * nd + k) := by
                  show mv_gf T nd k (lp_ (mv_gf T nd) k V0) = _
                  rw [hV1]; exact if_neg hc62
                rw [← hV2] at hP hD
                refine lv_iinc (v := nI (k + 1)) (lv' := [(7, .int (nI (k + 1))), (8, .int (nI (256 * T + 4 * nd + k))), (5, .int (nI i)), (0, .ref (ad 0)), (1, .int (nI T)), (2, .int b), (3, .int (nI lf)), (4, .int (nI (mL L T))), (6, .int (nI nd))]) hx hb d_CM_gather_99 hl (k := 1) rfl (nI_1 k) (by decide) rfl (fun ls hl => ?_)
                refine lv_goto (tgt := 35) hx hb d_CM_gather_102 (by decide) ?_
                exact ih2 (k + 1) ls H locs (by omega) (by omega) hP hD hS (lv_sub hl [0, 2, 3, 4, 5, 6, 7, 8] rfl)
        exact lp2 ((S - 0) + 1) 0 ls _ _ (by omega) (by omega) hP hD hS (lv_sub hl [0, 2, 3, 4, 5, 6, 7, 1] rfl)
  exact lp1 ((mL L T + 1 - 0) + 1) 0 ls _ _ (by omega) (by omega) hP hD hS (lv_sub hl [0, 2, 3, 4, 5, 1] rfl)
