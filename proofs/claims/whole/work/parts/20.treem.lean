set_option maxHeartbeats 4000000 in
set_option maxRecDepth 100000 in
/-- Tree.gatherNode -/
theorem c_TR_gatherNode {l : Launch} {dC : Nat → ClassId} {dI : Nat → Nat → Nat} {cI cJ : ClassId} {A : Nat → Prop} {ad : Nat → Nat} {L S C B : Nat} {t : Ts} (ok : tr_ok L S C B) (nd : Int32) : Met l y_TR_gatherNode (k_TR_gatherNode :: bw) { frames := 4, cells := 0, slots := 0, locals := 91 } (mP (dC, dI) kCl [(cI, .int), (cJ, .long)] [.ref (ad 0), .int nd] (tw_ cI cJ ad L S C B (ts_mk (ts_nodes t) (ts_cnts t) (ts_stash t) (ts_trail t) (ts_plan t) (ts_tgt t) (ts_way t) (ts_sought t))) A) (mQv (dC, dI) kCl (tw_ cI cJ ad L S C B (ts_mk (ts_nodes t) (ts_cnts t) (ts_stash t) (ts_trail t) (tr_gN L S B (ts_nodes t) nd (ts_plan t)) (ts_tgt t) (ts_way t) (ts_sought t))) A) 0 0 A := by
  refine Met.ofZ (own := "CoinTree$Tree") (by decide) rfl [.ref (ad 0), .int nd] (Nat.le_of_ble_eq_true rfl) (fun _ _ h => h.1) ?_
  intro p e s m below meth c ls C0 hv hl
  obtain ⟨hx, hb, hr, hml, hown, hT, hlocks⟩ := C0
  obtain ⟨-, hP, hK, hD⟩ := hv
  have hS : va_S A s.heap s.heap [] := va_S.rf
  have hl : lv_has ls 4 [(0, .ref (ad 0)), (1, .int nd)] := hl
  refine lv_iconst (v := 0) hx hb d_TR_gatherNode_0 (by decide) ?_
  refine lv_istore_n (lv' := [(2, .int 0), (0, .ref (ad 0)), (1, .int nd)]) hx hb d_TR_gatherNode_1 rfl hl (by decide) rfl (fun ls hl => ?_)
  have lp : ∀ (N k : Nat) (ls : Array Slot) (H : Heap) (locs : List Loc), S - k < N → k ≤ S → va_P (dC, dI) kCl (tw_ cI cJ ad L S C B (ts_mk (ts_nodes t) (ts_cnts t) (ts_stash t) (ts_trail t) (lp_ (tr_gNf L S B (ts_nodes t) nd) k (ts_plan t)) (ts_tgt t) (ts_way t) (ts_sought t))) H → va_D A (tw_ cI cJ ad L S C B (ts_mk (ts_nodes t) (ts_cnts t) (ts_stash t) (ts_trail t) (lp_ (tr_gNf L S B (ts_nodes t) nd) k (ts_plan t)) (ts_tgt t) (ts_way t) (ts_sought t))) → va_S A s.heap H locs → lv_has ls 4 [(2, .int (nI k)), (0, .ref (ad 0)), (1, .int nd)] → W p l e ({ frames := 4, cells := 0, slots := 0, locals := 91 } : Room) s m ([.ref (ad 0), .int nd] : List Value).toArray below meth c H locs 0 0 (MQ below (mQv (dC, dI) kCl (tw_ cI cJ ad L S C B (ts_mk (ts_nodes t) (ts_cnts t) (ts_stash t) (ts_trail t) (tr_gN L S B (ts_nodes t) nd (ts_plan t)) (ts_tgt t) (ts_way t) (ts_sought t))) A) ([.ref (ad 0), .int nd] : List Value).toArray s 0 0 A) (F0 m 2 ls []) := by
    intro N
    induction N with
    | zero => intro k ls H locs hN; omega
    | succ N ih =>
      intro k ls H locs hN hk hP hD hS hl
      refine lv_iload_n hx hb d_TR_gatherNode_2 rfl (lv_at hl 0 rfl) ?_
      refine lv_aload_n hx hb d_TR_gatherNode_3 rfl (lv_at hl 1 rfl) ?_
      refine va_get (D := (dC, dI)) (ci := 2) (v := .int (nI S)) (C := R_TR) (T := F_TR) (N := 12) hx hb hT i_TR hown hK hP 0 rfl rfl 2 (by decide) (hT _ m_101) (fun _ h9 => h9) rfl d_TR_gatherNode_4 ?_
      refine lv_icmp_ge (tgt := 48) hx hb d_TR_gatherNode_7 (by decide) (fun c_1 => ?_) (fun c_1 => ?_)
      · have hkS : k = S := Nat.le_antisymm hk ((nI_leI (tr_S_lt ok) (by have := tr_S_lt ok; omega)).mp c_1)
        subst hkS
        exact W.vret hx hb hr (fun t9 ht _ => mQv_end (rfl) hP hD hS ht) hS.2.2 d_TR_gatherNode_48 hlocks
      · have hlt : k < S := Nat.lt_of_not_le fun h9 => c_1 (nI_le h9 (by have := tr_S_lt ok; omega))
        refine lv_iload_n hx hb d_TR_gatherNode_10 rfl (lv_at hl 2 rfl) ?_
        refine lv_aload_n hx hb d_TR_gatherNode_11 rfl (lv_at hl 1 rfl) ?_
        refine va_get (D := (dC, dI)) (ci := 2) (v := .int (nI S)) (C := R_TR) (T := F_TR) (N := 12) hx hb hT i_TR hown hK hP 0 rfl rfl 2 (by decide) (hT _ m_101) (fun _ h9 => h9) rfl d_TR_gatherNode_12 ?_
        refine lv_imul hx hb d_TR_gatherNode_15 ?_
        refine lv_iload_n hx hb d_TR_gatherNode_16 rfl (lv_at hl 0 rfl) ?_
        refine lv_iadd hx hb d_TR_gatherNode_17 ?_
        refine lv_istore_n (lv' := [(3, .int ((nd * (nI S)) + (nI k))), (2, .int (nI k)), (0, .ref (ad 0)), (1, .int nd)]) hx hb d_TR_gatherNode_18 rfl hl (by decide) rfl (fun ls hl => ?_)
        refine lv_aload_n hx hb d_TR_gatherNode_19 rfl (lv_at hl 2 rfl) ?_
        refine va_get (D := (dC, dI)) (ci := 2) (v := .ref (ad 1)) (C := R_TR) (T := F_TR) (N := 12) hx hb hT i_TR hown hK hP 0 rfl rfl 4 (by decide) (hT _ m_103) (fun _ h9 => h9) rfl d_TR_gatherNode_20 ?_
        refine lv_iload_n hx hb d_TR_gatherNode_23 rfl (lv_at hl 0 rfl) ?_
        refine zc_i (va_runV (As := [.int ((nd * (nI S)) + (nI k))]) (rest := []) ⟨hx, hb, hml, hown, hT⟩ (c_RW_markAt hP (show rw_in (tw_ cI cJ ad L S C B (ts_mk (ts_nodes t) (ts_cnts t) (ts_stash t) (ts_trail t) (lp_ (tr_gNf L S B (ts_nodes t) nd) k (ts_plan t)) (ts_tgt t) (ts_way t) (ts_sought t))) 1 (ad 1) (ad 2) (ad 3) (ad 4) (tr_nN L S) cI cJ (ts_nodes t) from ⟨rfl, rfl, rfl, rfl⟩) (tr_nN_lt ok) ((nd * (nI S)) + (nI k))) (cwV 1 hT (gi_V m_291 m_312 m_289 m_290 m_26) rfl rfl rfl p_RW_markAt ⟨Nat.le_of_ble_eq_true rfl, Nat.le_of_ble_eq_true rfl⟩) ⟨zP_blind, va_recv hK hP (ci := 0) (q0 := 1) rfl rfl, zP_pre hK⟩ rfl rfl hl.1 rfl (lv_room (Nat.le_of_ble_eq_true rfl)) d_TR_gatherNode_24 ⟨Nat.le_refl _, Nat.le_refl _⟩) hS (fun locs hS => ?_)
        refine lv_if_eq (tgt := 42) hx hb d_TR_gatherNode_27 (by decide) (fun c_2 => ?_) (fun c_2 => ?_)
        · refine lv_iinc (v := nI (k + 1)) (lv' := [(2, .int (nI (k + 1))), (3, .int ((nd * (nI S)) + (nI k))), (0, .ref (ad 0)), (1, .int nd)]) hx hb d_TR_gatherNode_42 hl (k := 1) rfl (nI_1 k) (by decide) rfl (fun ls hl => ?_)
          refine lv_goto (tgt := 2) hx hb d_TR_gatherNode_45 (by decide) ?_
          exact ih (k + 1) ls H locs (by omega) (by omega) (show va_P (dC, dI) kCl (tw_ cI cJ ad L S C B (ts_mk (ts_nodes t) (ts_cnts t) (ts_stash t) (ts_trail t) (lp_ (tr_gNf L S B (ts_nodes t) nd) (k + 1) (ts_plan t)) (ts_tgt t) (ts_way t) (ts_sought t))) H by (try rw [show lp_ (tr_gNf L S B (ts_nodes t) nd) (k + 1) (ts_plan t) = lp_ (tr_gNf L S B (ts_nodes t) nd) k (ts_plan t) from if_pos c_2]); exact hP) (show va_D A (tw_ cI cJ ad L S C B (ts_mk (ts_nodes t) (ts_cnts t) (ts_stash t) (ts_trail t) (lp_ (tr_gNf L S B (ts_nodes t) nd) (k + 1) (ts_plan t)) (ts_tgt t) (ts_way t) (ts_sought t))) by (try rw [show lp_ (tr_gNf L S B (ts_nodes t) nd) (k + 1) (ts_plan t) = lp_ (tr_gNf L S B (ts_nodes t) nd) k (ts_plan t) from if_pos c_2]); exact hD) hS (show lv_has ls 4 [(2, .int (nI (k + 1))), (0, .ref (ad 0)), (1, .int nd)] by (try rw [show lp_ (tr_gNf L S B (ts_nodes t) nd) (k + 1) (ts_plan t) = lp_ (tr_gNf L S B (ts_nodes t) nd) k (ts_plan t) from if_pos c_2]); exact lv_sub hl [0, 2, 3] rfl)
        · refine lv_aload_n hx hb d_TR_gatherNode_30 rfl (lv_at hl 2 rfl) ?_
          refine va_get (D := (dC, dI)) (ci := 2) (v := .ref (ad 12)) (C := R_TR) (T := F_TR) (N := 12) hx hb hT i_TR hown hK hP 0 rfl rfl 8 (by decide) (hT _ m_109) (fun _ h9 => h9) rfl d_TR_gatherNode_31 ?_
          refine lv_aload_n hx hb d_TR_gatherNode_34 rfl (lv_at hl 2 rfl) ?_
          refine va_get (D := (dC, dI)) (ci := 2) (v := .ref (ad 1)) (C := R_TR) (T := F_TR) (N := 12) hx hb hT i_TR hown hK hP 0 rfl rfl 4 (by decide) (hT _ m_103) (fun _ h9 => h9) rfl d_TR_gatherNode_35 ?_
          refine lv_iload_n hx hb d_TR_gatherNode_38 rfl (lv_at hl 0 rfl) ?_
          refine mc_v (va_runV (As := [.ref (ad 1), .int ((nd * (nI S)) + (nI k))]) (rest := []) ⟨hx, hb, hml, hown, hT⟩ (c_RW_append (show rw_in (tw_ cI cJ ad L S C B (ts_mk (ts_nodes t) (ts_cnts t) (ts_stash t) (ts_trail t) (lp_ (tr_gNf L S B (ts_nodes t) nd) k (ts_plan t)) (ts_tgt t) (ts_way t) (ts_sought t))) 12 (ad 12) (ad 13) (ad 14) (ad 15) B cI cJ (lp_ (tr_gNf L S B (ts_nodes t) nd) k (ts_plan t)) from ⟨rfl, rfl, rfl, rfl⟩) (tr_B_lt ok) (show rw_in (tw_ cI cJ ad L S C B (ts_mk (ts_nodes t) (ts_cnts t) (ts_stash t) (ts_trail t) (lp_ (tr_gNf L S B (ts_nodes t) nd) k (ts_plan t)) (ts_tgt t) (ts_way t) (ts_sought t))) 1 (ad 1) (ad 2) (ad 3) (ad 4) (tr_nN L S) cI cJ (ts_nodes t) from ⟨rfl, rfl, rfl, rfl⟩) (tr_nN_lt ok) (by decide) ((nd * (nI S)) + (nI k))) (cwV 2 hT (gi_V m_279 m_276 m_277 m_278 m_26) rfl rfl rfl p_RW_append ⟨Nat.le_of_ble_eq_true rfl, Nat.le_of_ble_eq_true rfl⟩) ⟨mP_blind, va_recv hK hP (ci := 0) (q0 := 12) rfl rfl, mP_pre hK hP hD⟩ rfl rfl hl.1 rfl (lv_room (Nat.le_of_ble_eq_true rfl)) d_TR_gatherNode_39 ⟨Nat.le_refl _, Nat.le_refl _⟩) hS (fun H locs hP hD hS => ?_)
          have hP : va_P (dC, dI) kCl (tw_ cI cJ ad L S C B (ts_mk (ts_nodes t) (ts_cnts t) (ts_stash t) (ts_trail t) (rw_app B (lp_ (tr_gNf L S B (ts_nodes t) nd) k (ts_plan t)) (tr_nN L S) (ts_nodes t) ((nd * (nI S)) + (nI k))) (ts_tgt t) (ts_way t) (ts_sought t))) H := hP
          have hD : va_D A (tw_ cI cJ ad L S C B (ts_mk (ts_nodes t) (ts_cnts t) (ts_stash t) (ts_trail t) (rw_app B (lp_ (tr_gNf L S B (ts_nodes t) nd) k (ts_plan t)) (tr_nN L S) (ts_nodes t) ((nd * (nI S)) + (nI k))) (ts_tgt t) (ts_way t) (ts_sought t))) := hD
          refine lv_iinc (v := nI (k + 1)) (lv' := [(2, .int (nI (k + 1))), (3, .int ((nd * (nI S)) + (nI k))), (0, .ref (ad 0)), (1, .int nd)]) hx hb d_TR_gatherNode_42 hl (k := 1) rfl (nI_1 k) (by decide) rfl (fun ls hl => ?_)
          refine lv_goto (tgt := 2) hx hb d_TR_gatherNode_45 (by decide) ?_
          exact ih (k + 1) ls H locs (by omega) (by omega) (show va_P (dC, dI) kCl (tw_ cI cJ ad L S C B (ts_mk (ts_nodes t) (ts_cnts t) (ts_stash t) (ts_trail t) (lp_ (tr_gNf L S B (ts_nodes t) nd) (k + 1) (ts_plan t)) (ts_tgt t) (ts_way t) (ts_sought t))) H by (try rw [show lp_ (tr_gNf L S B (ts_nodes t) nd) (k + 1) (ts_plan t) = rw_app B (lp_ (tr_gNf L S B (ts_nodes t) nd) k (ts_plan t)) (tr_nN L S) (ts_nodes t) (nd * nI S + nI k) from if_neg c_2]); exact hP) (show va_D A (tw_ cI cJ ad L S C B (ts_mk (ts_nodes t) (ts_cnts t) (ts_stash t) (ts_trail t) (lp_ (tr_gNf L S B (ts_nodes t) nd) (k + 1) (ts_plan t)) (ts_tgt t) (ts_way t) (ts_sought t))) by (try rw [show lp_ (tr_gNf L S B (ts_nodes t) nd) (k + 1) (ts_plan t) = rw_app B (lp_ (tr_gNf L S B (ts_nodes t) nd) k (ts_plan t)) (tr_nN L S) (ts_nodes t) (nd * nI S + nI k) from if_neg c_2]); exact hD) hS (show lv_has ls 4 [(2, .int (nI (k + 1))), (0, .ref (ad 0)), (1, .int nd)] by (try rw [show lp_ (tr_gNf L S B (ts_nodes t) nd) (k + 1) (ts_plan t) = rw_app B (lp_ (tr_gNf L S B (ts_nodes t) nd) k (ts_plan t)) (tr_nN L S) (ts_nodes t) (nd * nI S + nI k) from if_neg c_2]); exact lv_sub hl [0, 2, 3] rfl)
  exact lp (S + 1) 0 ls _ _ (by omega) (Nat.zero_le _) hP hD hS (lv_sub hl [0, 1, 2] rfl)

set_option maxHeartbeats 4000000 in
set_option maxRecDepth 100000 in
/-- Tree.settle -/
theorem c_TR_settle {l : Launch} {dC : Nat → ClassId} {dI : Nat → Nat → Nat} {cI cJ : ClassId} {A : Nat → Prop} {ad : Nat → Nat} {L S C B : Nat} {t : Ts} (ok : tr_ok L S C B) (lf : Int32) (v : Int64) : Met l y_TR_settle (k_TR_settle :: bw) { frames := 2, cells := 0, slots := 0, locals := 46 } (mP (dC, dI) kCl [(cI, .int), (cJ, .long)] [.ref (ad 0), .int lf, .long v] (tw_ cI cJ ad L S C B (ts_mk (ts_nodes t) (ts_cnts t) (ts_stash t) (ts_trail t) (ts_plan t) (ts_tgt t) (ts_way t) (ts_sought t))) A) (mQv (dC, dI) kCl (tw_ cI cJ ad L S C B (tr_settle B t lf v)) A) 0 0 A := by
  refine Met.ofZ (own := "CoinTree$Tree") (by decide) rfl [.ref (ad 0), .int lf, .long v] (Nat.le_of_ble_eq_true rfl) (fun _ _ h => h.1) ?_
  intro p e s m below meth c ls C0 hv hl
  obtain ⟨hx, hb, hr, hml, hown, hT, hlocks⟩ := C0
  obtain ⟨-, hP, hK, hD⟩ := hv
  have hS : va_S A s.heap s.heap [] := va_S.rf
  have hl : lv_has ls 4 [(0, .ref (ad 0)), (1, .int lf), (2, .long v)] := hl
  refine lv_aload_n hx hb d_TR_settle_0 rfl (lv_at hl 0 rfl) ?_
  refine va_get (D := (dC, dI)) (ci := 2) (v := .ref (ad 12)) (C := R_TR) (T := F_TR) (N := 12) hx hb hT i_TR hown hK hP 0 rfl rfl 8 (by decide) (hT _ m_109) (fun _ h9 => h9) rfl d_TR_settle_1 ?_
  refine lv_aload_n hx hb d_TR_settle_4 rfl (lv_at hl 0 rfl) ?_
  refine va_get (D := (dC, dI)) (ci := 2) (v := .int (ts_sought t)) (C := R_TR) (T := F_TR) (N := 12) hx hb hT i_TR hown hK hP 0 rfl rfl 11 (by decide) (hT _ m_112) (fun _ h9 => h9) rfl d_TR_settle_5 ?_
  refine lv_aload_n hx hb d_TR_settle_8 rfl (lv_at hl 0 rfl) ?_
  refine va_get (D := (dC, dI)) (ci := 2) (v := .ref (ad 12)) (C := R_TR) (T := F_TR) (N := 12) hx hb hT i_TR hown hK hP 0 rfl rfl 8 (by decide) (hT _ m_109) (fun _ h9 => h9) rfl d_TR_settle_9 ?_
  refine lv_aload_n hx hb d_TR_settle_12 rfl (lv_at hl 0 rfl) ?_
  refine va_get (D := (dC, dI)) (ci := 2) (v := .int (ts_sought t)) (C := R_TR) (T := F_TR) (N := 12) hx hb hT i_TR hown hK hP 0 rfl rfl 11 (by decide) (hT _ m_112) (fun _ h9 => h9) rfl d_TR_settle_13 ?_
  refine zc_i (va_runV (As := [.int (ts_sought t)]) (rest := [.int (ts_sought t), .ref (ad 12)]) ⟨hx, hb, hml, hown, hT⟩ (c_RW_markAt hP (show rw_in (tw_ cI cJ ad L S C B (ts_mk (ts_nodes t) (ts_cnts t) (ts_stash t) (ts_trail t) (ts_plan t) (ts_tgt t) (ts_way t) (ts_sought t))) 12 (ad 12) (ad 13) (ad 14) (ad 15) B cI cJ (ts_plan t) from ⟨rfl, rfl, rfl, rfl⟩) (tr_B_lt ok) (ts_sought t)) (cwV 1 hT (gi_V m_291 m_312 m_289 m_290 m_26) rfl rfl rfl p_RW_markAt ⟨Nat.le_of_ble_eq_true rfl, Nat.le_of_ble_eq_true rfl⟩) ⟨zP_blind, va_recv hK hP (ci := 0) (q0 := 12) rfl rfl, zP_pre hK⟩ rfl rfl hl.1 rfl (lv_room (Nat.le_of_ble_eq_true rfl)) d_TR_settle_16 ⟨Nat.le_refl _, Nat.le_refl _⟩) hS (fun locs hS => ?_)
  refine lv_iload_n hx hb d_TR_settle_19 rfl (lv_at hl 1 rfl) ?_
  refine lv_lload_n hx hb d_TR_settle_20 rfl (lv_at hl 2 rfl) ?_
  refine mc_v (va_runV (As := [.int (ts_sought t), .int (rw_at B (ts_plan t).1 (ts_sought t)), .int lf, .long v]) (rest := []) ⟨hx, hb, hml, hown, hT⟩ (c_RW_put (show rw_in (tw_ cI cJ ad L S C B (ts_mk (ts_nodes t) (ts_cnts t) (ts_stash t) (ts_trail t) (ts_plan t) (ts_tgt t) (ts_way t) (ts_sought t))) 12 (ad 12) (ad 13) (ad 14) (ad 15) B cI cJ (ts_plan t) from ⟨rfl, rfl, rfl, rfl⟩) (tr_B_lt ok) (ts_sought t) (rw_at B (ts_plan t).1 (ts_sought t)) lf v) (cwV 4 hT (gi_V m_303 m_335 m_301 m_302 m_26) rfl rfl rfl p_RW_put ⟨Nat.le_of_ble_eq_true rfl, Nat.le_of_ble_eq_true rfl⟩) ⟨mP_blind, va_recv hK hP (ci := 0) (q0 := 12) rfl rfl, mP_pre hK hP hD⟩ rfl rfl hl.1 rfl (lv_room (Nat.le_of_ble_eq_true rfl)) d_TR_settle_21 ⟨Nat.le_refl _, Nat.le_refl _⟩) hS (fun H locs hP hD hS => ?_)
  have hP : va_P (dC, dI) kCl (tw_ cI cJ ad L S C B (ts_mk (ts_nodes t) (ts_cnts t) (ts_stash t) (ts_trail t) (rw_put B (ts_plan t) (ts_sought t) (rw_at B (ts_plan t).1 (ts_sought t)) lf v) (ts_tgt t) (ts_way t) (ts_sought t))) H := hP
  have hD : va_D A (tw_ cI cJ ad L S C B (ts_mk (ts_nodes t) (ts_cnts t) (ts_stash t) (ts_trail t) (rw_put B (ts_plan t) (ts_sought t) (rw_at B (ts_plan t).1 (ts_sought t)) lf v) (ts_tgt t) (ts_way t) (ts_sought t))) := hD
  exact W.vret hx hb hr (fun t9 ht _ => mQv_end (rfl) hP hD hS ht) hS.2.2 d_TR_settle_24 hlocks
