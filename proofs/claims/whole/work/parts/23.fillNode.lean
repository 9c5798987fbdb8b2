set_option maxHeartbeats 4000000 in
set_option maxRecDepth 100000 in
/-- Tree.fillNode -/
theorem c_TR_fillNode {l : Launch} {dC : Nat → ClassId} {dI : Nat → Nat → Nat} {cI cJ : ClassId} {A : Nat → Prop} {ad : Nat → Nat} {L S C B : Nat} {t : Ts} (ok : tr_ok L S C B) (nd lv : Int32) : Met l y_TR_fillNode (k_TR_fillNode :: bw) { frames := 2, cells := 0, slots := 0, locals := 42 } (mP (dC, dI) kCl [(cI, .int), (cJ, .long)] [.ref (ad 0), .int nd, .int lv] (tw_ cI cJ ad L S C B (ts_mk (ts_nodes t) (ts_cnts t) (ts_stash t) (ts_trail t) (ts_plan t) (ts_tgt t) (ts_way t) (ts_sought t))) A) (mQi (dC, dI) kCl (nI (tr_fN L S B (ts_plan t) nd lv (ts_tgt t)).2) (tw_ cI cJ ad L S C B (ts_mk (ts_nodes t) (ts_cnts t) (ts_stash t) (ts_trail t) (ts_plan t) ((tr_fN L S B (ts_plan t) nd lv (ts_tgt t)).1) (ts_way t) (ts_sought t))) A) 0 0 A := by
  refine Met.ofZ (own := "CoinTree$Tree") (by decide) rfl [.ref (ad 0), .int nd, .int lv] (Nat.le_of_ble_eq_true rfl) (fun _ _ h => h.1) ?_
  intro p e s m below meth c ls C0 hv hl
  obtain ⟨hx, hb, hr, hml, hown, hT, hlocks⟩ := C0
  obtain ⟨-, hP, hK, hD⟩ := hv
  have hS : va_S A s.heap s.heap [] := va_S.rf
  have hl : lv_has ls 5 [(0, .ref (ad 0)), (1, .int nd), (2, .int lv)] := hl
  refine lv_iconst (v := 0) hx hb d_TR_fillNode_0 (by decide) ?_
  refine lv_istore_n (lv' := [(3, .int 0), (0, .ref (ad 0)), (1, .int nd), (2, .int lv)]) hx hb d_TR_fillNode_1 rfl hl (by decide) rfl (fun ls hl => ?_)
  refine lv_iconst (v := 0) hx hb d_TR_fillNode_2 (by decide) ?_
  refine lv_istore (lv' := [(4, .int 0), (3, .int 0), (0, .ref (ad 0)), (1, .int nd), (2, .int lv)]) hx hb d_TR_fillNode_3 hl (by decide) rfl (fun ls hl => ?_)
  have lp : ∀ (N k : Nat) (ls : Array Slot) (H : Heap) (locs : List Loc), (rw_cnt B (ts_plan t).2.2.2) - k < N → k ≤ (rw_cnt B (ts_plan t).2.2.2) → va_P (dC, dI) kCl (tw_ cI cJ ad L S C B (ts_mk (ts_nodes t) (ts_cnts t) (ts_stash t) (ts_trail t) (ts_plan t) ((lp_ (tr_fNf L S B (ts_plan t) nd lv) k (ts_tgt t, 0)).1) (ts_way t) (ts_sought t))) H → va_D A (tw_ cI cJ ad L S C B (ts_mk (ts_nodes t) (ts_cnts t) (ts_stash t) (ts_trail t) (ts_plan t) ((lp_ (tr_fNf L S B (ts_plan t) nd lv) k (ts_tgt t, 0)).1) (ts_way t) (ts_sought t))) → va_S A s.heap H locs → lv_has ls 5 [(4, .int (nI k)), (3, .int (nI (lp_ (tr_fNf L S B (ts_plan t) nd lv) k (ts_tgt t, 0)).2)), (0, .ref (ad 0)), (1, .int nd), (2, .int lv)] → W p l e ({ frames := 2, cells := 0, slots := 0, locals := 42 } : Room) s m ([.ref (ad 0), .int nd, .int lv] : List Value).toArray below meth c H locs 0 0 (MQ below (mQi (dC, dI) kCl (nI (tr_fN L S B (ts_plan t) nd lv (ts_tgt t)).2) (tw_ cI cJ ad L S C B (ts_mk (ts_nodes t) (ts_cnts t) (ts_stash t) (ts_trail t) (ts_plan t) ((tr_fN L S B (ts_plan t) nd lv (ts_tgt t)).1) (ts_way t) (ts_sought t))) A) ([.ref (ad 0), .int nd, .int lv] : List Value).toArray s 0 0 A) (F0 m 5 ls []) := by
    intro N
    induction N with
    | zero => intro k ls H locs hN; omega
    | succ N ih =>
      intro k ls H locs hN hk hP hD hS hl
      refine lv_iload hx hb d_TR_fillNode_5 (lv_at hl 0 rfl) ?_
      refine lv_aload_n hx hb d_TR_fillNode_7 rfl (lv_at hl 2 rfl) ?_
      refine va_get (D := (dC, dI)) (ci := 2) (v := .ref (ad 12)) (C := R_TR) (T := F_TR) (N := 12) hx hb hT i_TR hown hK hP 0 rfl rfl 8 (by decide) (hT _ m_109) (fun _ h9 => h9) rfl d_TR_fillNode_8 ?_
      refine va_get (D := (dC, dI)) (ci := 0) (v := .int (ts_plan t).2.2.2) (C := R_RW) (T := F_RW) (N := 4) hx hb hT i_RW hown hK hP 12 rfl rfl 3 (by decide) (hT _ m_85) (fun _ h9 => h9) rfl d_TR_fillNode_11 ?_
      refine lv_icmp_ge (tgt := 88) hx hb d_TR_fillNode_14 (by decide) (fun c_1 => ?_) (fun c_1 => ?_)
      · have hq : (lp_ (tr_fNf L S B (ts_plan t) nd lv) k (ts_tgt t, 0)) = tr_fN L S B (ts_plan t) nd lv (ts_tgt t) := by rw [Nat.le_antisymm hk (rw_c1 (tr_B_lt ok) hk c_1)]; rfl
        refine lv_iload_n hx hb d_TR_fillNode_88 rfl (lv_at hl 1 rfl) ?_
        exact W.iret hx hb hr (fun t9 ht _ => mQi_end (by rw [hq]) (by rw [hq]) hP hD hS ht) hS.2.2 d_TR_fillNode_89 hlocks
      · refine lv_iload hx hb d_TR_fillNode_17 (lv_at hl 0 rfl) ?_
        refine lv_aload_n hx hb d_TR_fillNode_19 rfl (lv_at hl 2 rfl) ?_
        refine va_get (D := (dC, dI)) (ci := 2) (v := .ref (ad 16)) (C := R_TR) (T := F_TR) (N := 12) hx hb hT i_TR hown hK hP 0 rfl rfl 9 (by decide) (hT _ m_110) (fun _ h9 => h9) rfl d_TR_fillNode_20 ?_
        refine va_alen (v := nI B) hx hb hK hP 16 0 rfl rfl rfl d_TR_fillNode_23 ?_
        refine lv_icmp_ge (tgt := 88) hx hb d_TR_fillNode_24 (by decide) (fun c_2 => ?_) (fun c_2 => ?_)
        · have hq : (lp_ (tr_fNf L S B (ts_plan t) nd lv) k (ts_tgt t, 0)) = tr_fN L S B (ts_plan t) nd lv (ts_tgt t) := by rw [Nat.le_antisymm hk (rw_c2 (tr_B_lt ok) hk c_2)]; rfl
          refine lv_iload_n hx hb d_TR_fillNode_88 rfl (lv_at hl 1 rfl) ?_
          exact W.iret hx hb hr (fun t9 ht _ => mQi_end (by rw [hq]) (by rw [hq]) hP hD hS ht) hS.2.2 d_TR_fillNode_89 hlocks
        · have hlt := rw_c3 (tr_B_lt ok) hk c_1 c_2
          have hkB : k < B := Nat.lt_of_lt_of_le hlt (rw_cnt_le _ _)
          have hk31 : k < 2 ^ 31 := by have := tr_B_lt ok; omega
          have hqS := tr_fN_le (L := L) (S := S) (B := B) (pl := ts_plan t) (nd := nd) (lv := lv) (tg := ts_tgt t) k
          refine lv_iload_n hx hb d_TR_fillNode_27 rfl (lv_at hl 1 rfl) ?_
          refine lv_aload_n hx hb d_TR_fillNode_28 rfl (lv_at hl 2 rfl) ?_
          refine va_get (D := (dC, dI)) (ci := 2) (v := .int (nI S)) (C := R_TR) (T := F_TR) (N := 12) hx hb hT i_TR hown hK hP 0 rfl rfl 2 (by decide) (hT _ m_101) (fun _ h9 => h9) rfl d_TR_fillNode_29 ?_
          refine lv_icmp_ge (tgt := 88) hx hb d_TR_fillNode_32 (by decide) (fun c_3 => ?_) (fun c_3 => ?_)
          · have hq : (lp_ (tr_fNf L S B (ts_plan t) nd lv) k (ts_tgt t, 0)) = tr_fN L S B (ts_plan t) nd lv (ts_tgt t) := tr_fN_end hk (Nat.not_lt.mpr ((nI_leI (tr_S_lt ok) (by have := tr_S_lt ok; omega)).mp c_3))
            refine lv_iload_n hx hb d_TR_fillNode_88 rfl (lv_at hl 1 rfl) ?_
            exact W.iret hx hb hr (fun t9 ht _ => mQi_end (by rw [hq]) (by rw [hq]) hP hD hS ht) hS.2.2 d_TR_fillNode_89 hlocks
          · have hql : (lp_ (tr_fNf L S B (ts_plan t) nd lv) k (ts_tgt t, 0)).2 < S := Nat.lt_of_not_le fun h9 => c_3 (nI_le h9 (by have := tr_S_lt ok; omega))
            refine lv_aload_n hx hb d_TR_fillNode_35 rfl (lv_at hl 2 rfl) ?_
            refine va_get (D := (dC, dI)) (ci := 2) (v := .ref (ad 16)) (C := R_TR) (T := F_TR) (N := 12) hx hb hT i_TR hown hK hP 0 rfl rfl 9 (by decide) (hT _ m_110) (fun _ h9 => h9) rfl d_TR_fillNode_36 ?_
            refine lv_iload hx hb d_TR_fillNode_39 (lv_at hl 0 rfl) ?_
            refine va_iald hx hb hK hP 16 0 rfl rfl (vp_in_nI hkB (tr_B_lt ok)) d_TR_fillNode_41 ?_
            rw [nI_clamp hk31]
            refine lv_iconst (v := (-1)) hx hb d_TR_fillNode_42 (by decide) ?_
            refine lv_icmp_ne (tgt := 82) hx hb d_TR_fillNode_43 (by decide) (fun c_4 => ?_) (fun c_4 => ?_)
            · refine lv_iinc (v := nI (k + 1)) (lv' := [(4, .int (nI (k + 1))), (3, .int (nI (lp_ (tr_fNf L S B (ts_plan t) nd lv) k (ts_tgt t, 0)).2)), (0, .ref (ad 0)), (1, .int nd), (2, .int lv)]) hx hb d_TR_fillNode_82 hl (k := 0) rfl (nI_1 k) (by decide) rfl (fun ls hl => ?_)
              refine lv_goto (tgt := 5) hx hb d_TR_fillNode_85 (by decide) ?_
              exact ih (k + 1) ls H locs (by omega) (by omega) (show va_P (dC, dI) kCl (tw_ cI cJ ad L S C B (ts_mk (ts_nodes t) (ts_cnts t) (ts_stash t) (ts_trail t) (ts_plan t) ((lp_ (tr_fNf L S B (ts_plan t) nd lv) (k + 1) (ts_tgt t, 0)).1) (ts_way t) (ts_sought t))) H by (try rw [show (lp_ (tr_fNf L S B (ts_plan t) nd lv) (k + 1) (ts_tgt t, 0)) = (lp_ (tr_fNf L S B (ts_plan t) nd lv) k (ts_tgt t, 0)) from tr_fNf_a hql c_4]); exact hP) (show va_D A (tw_ cI cJ ad L S C B (ts_mk (ts_nodes t) (ts_cnts t) (ts_stash t) (ts_trail t) (ts_plan t) ((lp_ (tr_fNf L S B (ts_plan t) nd lv) (k + 1) (ts_tgt t, 0)).1) (ts_way t) (ts_sought t))) by (try rw [show (lp_ (tr_fNf L S B (ts_plan t) nd lv) (k + 1) (ts_tgt t, 0)) = (lp_ (tr_fNf L S B (ts_plan t) nd lv) k (ts_tgt t, 0)) from tr_fNf_a hql c_4]); exact hD) hS (show lv_has ls 5 [(4, .int (nI (k + 1))), (3, .int (nI (lp_ (tr_fNf L S B (ts_plan t) nd lv) (k + 1) (ts_tgt t, 0)).2)), (0, .ref (ad 0)), (1, .int nd), (2, .int lv)] by (try rw [show (lp_ (tr_fNf L S B (ts_plan t) nd lv) (k + 1) (ts_tgt t, 0)) = (lp_ (tr_fNf L S B (ts_plan t) nd lv) k (ts_tgt t, 0)) from tr_fNf_a hql c_4]); exact lv_sub hl [0, 1, 2, 3, 4] rfl)
            · refine lv_aload_n hx hb d_TR_fillNode_46 rfl (lv_at hl 2 rfl) ?_
              refine lv_aload_n hx hb d_TR_fillNode_47 rfl (lv_at hl 2 rfl) ?_
              refine va_get (D := (dC, dI)) (ci := 2) (v := .ref (ad 12)) (C := R_TR) (T := F_TR) (N := 12) hx hb hT i_TR hown hK hP 0 rfl rfl 8 (by decide) (hT _ m_109) (fun _ h9 => h9) rfl d_TR_fillNode_48 ?_
              refine lv_iload hx hb d_TR_fillNode_51 (lv_at hl 0 rfl) ?_
              refine zc_i (va_runV (As := [.int (nI k)]) (rest := [.ref (ad 0)]) ⟨hx, hb, hml, hown, hT⟩ (c_RW_leafAt hP (show rw_in (tw_ cI cJ ad L S C B (ts_mk (ts_nodes t) (ts_cnts t) (ts_stash t) (ts_trail t) (ts_plan t) ((lp_ (tr_fNf L S B (ts_plan t) nd lv) k (ts_tgt t, 0)).1) (ts_way t) (ts_sought t))) 12 (ad 12) (ad 13) (ad 14) (ad 15) B cI cJ (ts_plan t) from ⟨rfl, rfl, rfl, rfl⟩) (tr_B_lt ok) (nI k)) (cwV 1 hT (gi_V m_295 m_348 m_293 m_294 m_26) rfl rfl rfl p_RW_leafAt ⟨Nat.le_of_ble_eq_true rfl, Nat.le_of_ble_eq_true rfl⟩) ⟨zP_blind, va_recv hK hP (ci := 0) (q0 := 12) rfl rfl, zP_pre hK⟩ rfl rfl hl.1 rfl (lv_room (Nat.le_of_ble_eq_true rfl)) d_TR_fillNode_53 ⟨Nat.le_refl _, Nat.le_refl _⟩) hS (fun locs hS => ?_)
              refine lv_iload_n hx hb d_TR_fillNode_56 rfl (lv_at hl 4 rfl) ?_
              refine zc_i (va_runV (As := [.int (rw_at B (ts_plan t).2.1 (nI k)), .int lv]) (rest := []) ⟨hx, hb, hml, hown, hT⟩ (c_TR_nodeOnWay (t := ts_mk (ts_nodes t) (ts_cnts t) (ts_stash t) (ts_trail t) (ts_plan t) ((lp_ (tr_fNf L S B (ts_plan t) nd lv) k (ts_tgt t, 0)).1) (ts_way t) (ts_sought t)) ok hP (rw_at B (ts_plan t).2.1 (nI k)) lv) (cwV 2 hT (gi_V m_307 m_304 m_306 m_3 m_24) rfl rfl rfl p_TR_nodeOnWay ⟨Nat.le_of_ble_eq_true rfl, Nat.le_of_ble_eq_true rfl⟩) ⟨zP_blind, va_recv hK hP (ci := 2) (q0 := 0) rfl rfl, zP_pre hK⟩ rfl rfl hl.1 rfl (lv_room (Nat.le_of_ble_eq_true rfl)) d_TR_fillNode_57 ⟨Nat.le_refl _, Nat.le_refl _⟩) hS (fun locs hS => ?_)
              refine lv_iload_n hx hb d_TR_fillNode_60 rfl (lv_at hl 3 rfl) ?_
              refine lv_icmp_ne (tgt := 82) hx hb d_TR_fillNode_61 (by decide) (fun c_5 => ?_) (fun c_5 => ?_)
              · refine lv_iinc (v := nI (k + 1)) (lv' := [(4, .int (nI (k + 1))), (3, .int (nI (lp_ (tr_fNf L S B (ts_plan t) nd lv) k (ts_tgt t, 0)).2)), (0, .ref (ad 0)), (1, .int nd), (2, .int lv)]) hx hb d_TR_fillNode_82 hl (k := 0) rfl (nI_1 k) (by decide) rfl (fun ls hl => ?_)
                refine lv_goto (tgt := 5) hx hb d_TR_fillNode_85 (by decide) ?_
                exact ih (k + 1) ls H locs (by omega) (by omega) (show va_P (dC, dI) kCl (tw_ cI cJ ad L S C B (ts_mk (ts_nodes t) (ts_cnts t) (ts_stash t) (ts_trail t) (ts_plan t) ((lp_ (tr_fNf L S B (ts_plan t) nd lv) (k + 1) (ts_tgt t, 0)).1) (ts_way t) (ts_sought t))) H by (try rw [show (lp_ (tr_fNf L S B (ts_plan t) nd lv) (k + 1) (ts_tgt t, 0)) = (lp_ (tr_fNf L S B (ts_plan t) nd lv) k (ts_tgt t, 0)) from tr_fNf_b hql c_4 c_5]); exact hP) (show va_D A (tw_ cI cJ ad L S C B (ts_mk (ts_nodes t) (ts_cnts t) (ts_stash t) (ts_trail t) (ts_plan t) ((lp_ (tr_fNf L S B (ts_plan t) nd lv) (k + 1) (ts_tgt t, 0)).1) (ts_way t) (ts_sought t))) by (try rw [show (lp_ (tr_fNf L S B (ts_plan t) nd lv) (k + 1) (ts_tgt t, 0)) = (lp_ (tr_fNf L S B (ts_plan t) nd lv) k (ts_tgt t, 0)) from tr_fNf_b hql c_4 c_5]); exact hD) hS (show lv_has ls 5 [(4, .int (nI (k + 1))), (3, .int (nI (lp_ (tr_fNf L S B (ts_plan t) nd lv) (k + 1) (ts_tgt t, 0)).2)), (0, .ref (ad 0)), (1, .int nd), (2, .int lv)] by (try rw [show (lp_ (tr_fNf L S B (ts_plan t) nd lv) (k + 1) (ts_tgt t, 0)) = (lp_ (tr_fNf L S B (ts_plan t) nd lv) k (ts_tgt t, 0)) from tr_fNf_b hql c_4 c_5]); exact lv_sub hl [0, 1, 2, 3, 4] rfl)
              · refine lv_aload_n hx hb d_TR_fillNode_64 rfl (lv_at hl 2 rfl) ?_
                refine va_get (D := (dC, dI)) (ci := 2) (v := .ref (ad 16)) (C := R_TR) (T := F_TR) (N := 12) hx hb hT i_TR hown hK hP 0 rfl rfl 9 (by decide) (hT _ m_110) (fun _ h9 => h9) rfl d_TR_fillNode_65 ?_
                refine lv_iload hx hb d_TR_fillNode_68 (lv_at hl 0 rfl) ?_
                refine lv_iload_n hx hb d_TR_fillNode_70 rfl (lv_at hl 3 rfl) ?_
                refine lv_aload_n hx hb d_TR_fillNode_71 rfl (lv_at hl 2 rfl) ?_
                refine va_get (D := (dC, dI)) (ci := 2) (v := .int (nI S)) (C := R_TR) (T := F_TR) (N := 12) hx hb hT i_TR hown hK hP 0 rfl rfl 2 (by decide) (hT _ m_101) (fun _ h9 => h9) rfl d_TR_fillNode_72 ?_
                refine lv_imul hx hb d_TR_fillNode_75 ?_
                refine lv_iload_n hx hb d_TR_fillNode_76 rfl (lv_at hl 1 rfl) ?_
                refine lv_iadd hx hb d_TR_fillNode_77 ?_
                refine va_iast hx hb hK hP hD hS 16 0 rfl rfl (vp_in_nI hkB (tr_B_lt ok)) d_TR_fillNode_78 (fun H locs hP hD hS => ?_)
                rw [nI_clamp hk31] at hP hD
                have hP : va_P (dC, dI) kCl (tw_ cI cJ ad L S C B (ts_mk (ts_nodes t) (ts_cnts t) (ts_stash t) (ts_trail t) (ts_plan t) (upd ((lp_ (tr_fNf L S B (ts_plan t) nd lv) k (ts_tgt t, 0)).1) k ((nd * (nI S)) + (nI (lp_ (tr_fNf L S B (ts_plan t) nd lv) k (ts_tgt t, 0)).2))) (ts_way t) (ts_sought t))) H := hP
                have hD : va_D A (tw_ cI cJ ad L S C B (ts_mk (ts_nodes t) (ts_cnts t) (ts_stash t) (ts_trail t) (ts_plan t) (upd ((lp_ (tr_fNf L S B (ts_plan t) nd lv) k (ts_tgt t, 0)).1) k ((nd * (nI S)) + (nI (lp_ (tr_fNf L S B (ts_plan t) nd lv) k (ts_tgt t, 0)).2))) (ts_way t) (ts_sought t))) := hD
                refine lv_iinc (v := nI ((lp_ (tr_fNf L S B (ts_plan t) nd lv) k (ts_tgt t, 0)).2 + 1)) (lv' := [(3, .int (nI ((lp_ (tr_fNf L S B (ts_plan t) nd lv) k (ts_tgt t, 0)).2 + 1))), (4, .int (nI k)), (0, .ref (ad 0)), (1, .int nd), (2, .int lv)]) hx hb d_TR_fillNode_79 hl (k := 1) rfl (nI_1 _) (by decide) rfl (fun ls hl => ?_)
                refine lv_iinc (v := nI (k + 1)) (lv' := [(4, .int (nI (k + 1))), (3, .int (nI ((lp_ (tr_fNf L S B (ts_plan t) nd lv) k (ts_tgt t, 0)).2 + 1))), (0, .ref (ad 0)), (1, .int nd), (2, .int lv)]) hx hb d_TR_fillNode_82 hl (k := 1) rfl (nI_1 k) (by decide) rfl (fun ls hl => ?_)
                refine lv_goto (tgt := 5) hx hb d_TR_fillNode_85 (by decide) ?_
                exact ih (k + 1) ls H locs (by omega) (by omega) (show va_P (dC, dI) kCl (tw_ cI cJ ad L S C B (ts_mk (ts_nodes t) (ts_cnts t) (ts_stash t) (ts_trail t) (ts_plan t) ((lp_ (tr_fNf L S B (ts_plan t) nd lv) (k + 1) (ts_tgt t, 0)).1) (ts_way t) (ts_sought t))) H by (try rw [show (lp_ (tr_fNf L S B (ts_plan t) nd lv) (k + 1) (ts_tgt t, 0)) = (upd (lp_ (tr_fNf L S B (ts_plan t) nd lv) k (ts_tgt t, 0)).1 k (nd * nI S + nI (lp_ (tr_fNf L S B (ts_plan t) nd lv) k (ts_tgt t, 0)).2), (lp_ (tr_fNf L S B (ts_plan t) nd lv) k (ts_tgt t, 0)).2 + 1) from tr_fNf_c hql c_4 c_5]); exact hP) (show va_D A (tw_ cI cJ ad L S C B (ts_mk (ts_nodes t) (ts_cnts t) (ts_stash t) (ts_trail t) (ts_plan t) ((lp_ (tr_fNf L S B (ts_plan t) nd lv) (k + 1) (ts_tgt t, 0)).1) (ts_way t) (ts_sought t))) by (try rw [show (lp_ (tr_fNf L S B (ts_plan t) nd lv) (k + 1) (ts_tgt t, 0)) = (upd (lp_ (tr_fNf L S B (ts_plan t) nd lv) k (ts_tgt t, 0)).1 k (nd * nI S + nI (lp_ (tr_fNf L S B (ts_plan t) nd lv) k (ts_tgt t, 0)).2), (lp_ (tr_fNf L S B (ts_plan t) nd lv) k (ts_tgt t, 0)).2 + 1) from tr_fNf_c hql c_4 c_5]); exact hD) hS (show lv_has ls 5 [(4, .int (nI (k + 1))), (3, .int (nI (lp_ (tr_fNf L S B (ts_plan t) nd lv) (k + 1) (ts_tgt t, 0)).2)), (0, .ref (ad 0)), (1, .int nd), (2, .int lv)] by (try rw [show (lp_ (tr_fNf L S B (ts_plan t) nd lv) (k + 1) (ts_tgt t, 0)) = (upd (lp_ (tr_fNf L S B (ts_plan t) nd lv) k (ts_tgt t, 0)).1 k (nd * nI S + nI (lp_ (tr_fNf L S B (ts_plan t) nd lv) k (ts_tgt t, 0)).2), (lp_ (tr_fNf L S B (ts_plan t) nd lv) k (ts_tgt t, 0)).2 + 1) from tr_fNf_c hql c_4 c_5]); exact lv_sub hl [0, 1, 2, 3, 4] rfl)
  exact lp ((rw_cnt B (ts_plan t).2.2.2) + 1) 0 ls _ _ (by omega) (Nat.zero_le _) hP hD hS (lv_sub hl [0, 1, 2, 3, 4] rfl)
