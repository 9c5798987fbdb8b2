set_option maxHeartbeats 4000000 in
set_option maxRecDepth 100000 in
/-- Tree.emptyNode -/
theorem c_TR_emptyNode {l : Launch} {dC : Nat → ClassId} {dI : Nat → Nat → Nat} {cI cJ : ClassId} {A : Nat → Prop} {ad : Nat → Nat} {L S C B : Nat} {t : Ts} (ok : tr_ok L S C B) (nd : Int32) : Met l y_TR_emptyNode (k_TR_emptyNode :: bw) { frames := 2, cells := 0, slots := 0, locals := 46 } (mP (dC, dI) kCl [(cI, .int), (cJ, .long)] [.ref (ad 0), .int nd] (tw_ cI cJ ad L S C B (ts_mk (ts_nodes t) (ts_cnts t) (ts_stash t) (ts_trail t) (ts_plan t) (ts_tgt t) (ts_way t) (ts_sought t))) A) (mQv (dC, dI) kCl (tw_ cI cJ ad L S C B (ts_mk ((tr_eN L S nd (ts_nodes t, ts_cnts t)).1) ((tr_eN L S nd (ts_nodes t, ts_cnts t)).2) (ts_stash t) (ts_trail t) (ts_plan t) (ts_tgt t) (ts_way t) (ts_sought t))) A) 0 0 A := by
  refine Met.ofZ (own := "CoinTree$Tree") (by decide) rfl [.ref (ad 0), .int nd] (Nat.le_of_ble_eq_true rfl) (fun _ _ h => h.1) ?_
  intro p e s m below meth c ls C0 hv hl
  obtain ⟨hx, hb, hr, hml, hown, hT, hlocks⟩ := C0
  obtain ⟨-, hP, hK, hD⟩ := hv
  have hS : va_S A s.heap s.heap [] := va_S.rf
  have hl : lv_has ls 3 [(0, .ref (ad 0)), (1, .int nd)] := hl
  refine lv_iconst (v := 0) hx hb d_TR_emptyNode_0 (by decide) ?_
  refine lv_istore_n (lv' := [(2, .int 0), (0, .ref (ad 0)), (1, .int nd)]) hx hb d_TR_emptyNode_1 rfl hl (by decide) rfl (fun ls hl => ?_)
  have lp : ∀ (N k : Nat) (ls : Array Slot) (H : Heap) (locs : List Loc), S - k < N → k ≤ S → va_P (dC, dI) kCl (tw_ cI cJ ad L S C B (ts_mk (lp_ (tr_eNf L S nd) k (ts_nodes t)) (ts_cnts t) (ts_stash t) (ts_trail t) (ts_plan t) (ts_tgt t) (ts_way t) (ts_sought t))) H → va_D A (tw_ cI cJ ad L S C B (ts_mk (lp_ (tr_eNf L S nd) k (ts_nodes t)) (ts_cnts t) (ts_stash t) (ts_trail t) (ts_plan t) (ts_tgt t) (ts_way t) (ts_sought t))) → va_S A s.heap H locs → lv_has ls 3 [(2, .int (nI k)), (0, .ref (ad 0)), (1, .int nd)] → W p l e ({ frames := 2, cells := 0, slots := 0, locals := 46 } : Room) s m ([.ref (ad 0), .int nd] : List Value).toArray below meth c H locs 0 0 (MQ below (mQv (dC, dI) kCl (tw_ cI cJ ad L S C B (ts_mk ((tr_eN L S nd (ts_nodes t, ts_cnts t)).1) ((tr_eN L S nd (ts_nodes t, ts_cnts t)).2) (ts_stash t) (ts_trail t) (ts_plan t) (ts_tgt t) (ts_way t) (ts_sought t))) A) ([.ref (ad 0), .int nd] : List Value).toArray s 0 0 A) (F0 m 2 ls []) := by
    intro N
    induction N with
    | zero => intro k ls H locs hN; omega
    | succ N ih =>
      intro k ls H locs hN hk hP hD hS hl
      refine lv_iload_n hx hb d_TR_emptyNode_2 rfl (lv_at hl 0 rfl) ?_
      refine lv_aload_n hx hb d_TR_emptyNode_3 rfl (lv_at hl 1 rfl) ?_
      refine va_get (D := (dC, dI)) (ci := 2) (v := .int (nI S)) (C := R_TR) (T := F_TR) (N := 12) hx hb hT i_TR hown hK hP 0 rfl rfl 2 (by decide) (hT _ m_101) (fun _ h9 => h9) rfl d_TR_emptyNode_4 ?_
      refine lv_icmp_ge (tgt := 34) hx hb d_TR_emptyNode_7 (by decide) (fun c_1 => ?_) (fun c_1 => ?_)
      · have hkS : S = k := (Nat.le_antisymm hk ((nI_leI (tr_S_lt ok) (by have := tr_S_lt ok; omega)).mp c_1)).symm
        subst hkS
        refine lv_aload_n hx hb d_TR_emptyNode_34 rfl (lv_at hl 1 rfl) ?_
        refine lv_iload_n hx hb d_TR_emptyNode_35 rfl (lv_at hl 2 rfl) ?_
        refine zc_i (va_runV (As := [.int nd]) (rest := []) ⟨hx, hb, hml, hown, hT⟩ (c_TR_hasNode (t := ts_mk (lp_ (tr_eNf L S nd) S (ts_nodes t)) (ts_cnts t) (ts_stash t) (ts_trail t) (ts_plan t) (ts_tgt t) (ts_way t) (ts_sought t)) ok hP nd) (cwV 1 hT (gi_V m_376 m_373 m_374 m_375 m_24) rfl rfl rfl p_TR_hasNode ⟨Nat.le_of_ble_eq_true rfl, Nat.le_of_ble_eq_true rfl⟩) ⟨zP_blind, va_recv hK hP (ci := 2) (q0 := 0) rfl rfl, zP_pre hK⟩ rfl rfl hl.1 rfl (lv_room (Nat.le_of_ble_eq_true rfl)) d_TR_emptyNode_36 ⟨Nat.le_refl _, Nat.le_refl _⟩) hS (fun locs hS => ?_)
        refine lv_if_eq (tgt := 52) hx hb d_TR_emptyNode_39 (by decide) (fun c_2 => ?_) (fun c_2 => ?_)
        · exact W.vret hx hb hr (fun t9 ht _ => mQv_end (by first | exact congrArg (fun x => tw_ cI cJ ad L S C B (ts_mk (lp_ (tr_eNf L S nd) S (ts_nodes t)) x (ts_stash t) (ts_trail t) (ts_plan t) (ts_tgt t) (ts_way t) (ts_sought t))) (if_pos (b2i_n.mp c_2)).symm | exact congrArg (fun x => tw_ cI cJ ad L S C B (ts_mk (lp_ (tr_eNf L S nd) S (ts_nodes t)) x (ts_stash t) (ts_trail t) (ts_plan t) (ts_tgt t) (ts_way t) (ts_sought t))) (if_neg (by rw [b2i_0.mp c_2]; decide)).symm) hP hD hS ht) hS.2.2 d_TR_emptyNode_52 hlocks
        · refine lv_aload_n hx hb d_TR_emptyNode_42 rfl (lv_at hl 1 rfl) ?_
          refine va_get (D := (dC, dI)) (ci := 2) (v := .ref (ad 5)) (C := R_TR) (T := F_TR) (N := 12) hx hb hT i_TR hown hK hP 0 rfl rfl 5 (by decide) (hT _ m_104) (fun _ h9 => h9) rfl d_TR_emptyNode_43 ?_
          refine lv_iload_n hx hb d_TR_emptyNode_46 rfl (lv_at hl 2 rfl) ?_
          refine lv_dup2_11 hx hb d_TR_emptyNode_47 rfl rfl ?_
          refine va_iald hx hb hK hP 5 0 rfl rfl (tr_nd_vp ok (b2i_n.mp c_2)) d_TR_emptyNode_48 ?_
          refine lv_iconst (v := 1) hx hb d_TR_emptyNode_49 (by decide) ?_
          refine lv_iadd hx hb d_TR_emptyNode_50 ?_
          refine va_iast hx hb hK hP hD hS 5 0 rfl rfl (tr_nd_vp ok (b2i_n.mp c_2)) d_TR_emptyNode_51 (fun H locs hP hD hS => ?_)
          have hP : va_P (dC, dI) kCl (tw_ cI cJ ad L S C B (ts_mk (lp_ (tr_eNf L S nd) S (ts_nodes t)) (upd (ts_cnts t) nd.toNatClampNeg (((ts_cnts t) nd.toNatClampNeg) + 1)) (ts_stash t) (ts_trail t) (ts_plan t) (ts_tgt t) (ts_way t) (ts_sought t))) H := hP
          have hD : va_D A (tw_ cI cJ ad L S C B (ts_mk (lp_ (tr_eNf L S nd) S (ts_nodes t)) (upd (ts_cnts t) nd.toNatClampNeg (((ts_cnts t) nd.toNatClampNeg) + 1)) (ts_stash t) (ts_trail t) (ts_plan t) (ts_tgt t) (ts_way t) (ts_sought t))) := hD
          exact W.vret hx hb hr (fun t9 ht _ => mQv_end (by first | exact congrArg (fun x => tw_ cI cJ ad L S C B (ts_mk (lp_ (tr_eNf L S nd) S (ts_nodes t)) x (ts_stash t) (ts_trail t) (ts_plan t) (ts_tgt t) (ts_way t) (ts_sought t))) (if_pos (b2i_n.mp c_2)).symm | exact congrArg (fun x => tw_ cI cJ ad L S C B (ts_mk (lp_ (tr_eNf L S nd) S (ts_nodes t)) x (ts_stash t) (ts_trail t) (ts_plan t) (ts_tgt t) (ts_way t) (ts_sought t))) (if_neg (by rw [b2i_0.mp c_2]; decide)).symm) hP hD hS ht) hS.2.2 d_TR_emptyNode_52 hlocks
      · have hlt : k < S := Nat.lt_of_not_le fun h9 => c_1 (nI_le h9 (by have := tr_S_lt ok; omega))
        refine lv_aload_n hx hb d_TR_emptyNode_10 rfl (lv_at hl 1 rfl) ?_
        refine va_get (D := (dC, dI)) (ci := 2) (v := .ref (ad 1)) (C := R_TR) (T := F_TR) (N := 12) hx hb hT i_TR hown hK hP 0 rfl rfl 4 (by decide) (hT _ m_103) (fun _ h9 => h9) rfl d_TR_emptyNode_11 ?_
        refine lv_iload_n hx hb d_TR_emptyNode_14 rfl (lv_at hl 2 rfl) ?_
        refine lv_aload_n hx hb d_TR_emptyNode_15 rfl (lv_at hl 1 rfl) ?_
        refine va_get (D := (dC, dI)) (ci := 2) (v := .int (nI S)) (C := R_TR) (T := F_TR) (N := 12) hx hb hT i_TR hown hK hP 0 rfl rfl 2 (by decide) (hT _ m_101) (fun _ h9 => h9) rfl d_TR_emptyNode_16 ?_
        refine lv_imul hx hb d_TR_emptyNode_19 ?_
        refine lv_iload_n hx hb d_TR_emptyNode_20 rfl (lv_at hl 0 rfl) ?_
        refine lv_iadd hx hb d_TR_emptyNode_21 ?_
        refine lv_iconst (v := 0) hx hb d_TR_emptyNode_22 (by decide) ?_
        refine lv_iconst (v := 0) hx hb d_TR_emptyNode_23 (by decide) ?_
        refine lv_lconst (v := 0) hx hb d_TR_emptyNode_24 (by decide) ?_
        refine mc_v (va_runV (As := [.int ((nd * (nI S)) + (nI k)), .int 0, .int 0, .long 0]) (rest := []) ⟨hx, hb, hml, hown, hT⟩ (c_RW_put (show rw_in (tw_ cI cJ ad L S C B (ts_mk (lp_ (tr_eNf L S nd) k (ts_nodes t)) (ts_cnts t) (ts_stash t) (ts_trail t) (ts_plan t) (ts_tgt t) (ts_way t) (ts_sought t))) 1 (ad 1) (ad 2) (ad 3) (ad 4) (tr_nN L S) cI cJ (lp_ (tr_eNf L S nd) k (ts_nodes t)) from ⟨rfl, rfl, rfl, rfl⟩) (tr_nN_lt ok) ((nd * (nI S)) + (nI k)) 0 0 0) (cwV 4 hT (gi_V m_303 m_335 m_301 m_302 m_26) rfl rfl rfl p_RW_put ⟨Nat.le_of_ble_eq_true rfl, Nat.le_of_ble_eq_true rfl⟩) ⟨mP_blind, va_recv hK hP (ci := 0) (q0 := 1) rfl rfl, mP_pre hK hP hD⟩ rfl rfl hl.1 rfl (lv_room (Nat.le_of_ble_eq_true rfl)) d_TR_emptyNode_25 ⟨Nat.le_refl _, Nat.le_refl _⟩) hS (fun H locs hP hD hS => ?_)
        have hP : va_P (dC, dI) kCl (tw_ cI cJ ad L S C B (ts_mk (rw_put (tr_nN L S) (lp_ (tr_eNf L S nd) k (ts_nodes t)) ((nd * (nI S)) + (nI k)) 0 0 0) (ts_cnts t) (ts_stash t) (ts_trail t) (ts_plan t) (ts_tgt t) (ts_way t) (ts_sought t))) H := hP
        have hD : va_D A (tw_ cI cJ ad L S C B (ts_mk (rw_put (tr_nN L S) (lp_ (tr_eNf L S nd) k (ts_nodes t)) ((nd * (nI S)) + (nI k)) 0 0 0) (ts_cnts t) (ts_stash t) (ts_trail t) (ts_plan t) (ts_tgt t) (ts_way t) (ts_sought t))) := hD
        refine lv_iinc (v := nI (k + 1)) (lv' := [(2, .int (nI (k + 1))), (0, .ref (ad 0)), (1, .int nd)]) hx hb d_TR_emptyNode_28 hl (k := 0) rfl (nI_1 k) (by decide) rfl (fun ls hl => ?_)
        refine lv_goto (tgt := 2) hx hb d_TR_emptyNode_31 (by decide) ?_
        exact ih (k + 1) ls H locs (by omega) (by omega) (show va_P (dC, dI) kCl (tw_ cI cJ ad L S C B (ts_mk (lp_ (tr_eNf L S nd) (k + 1) (ts_nodes t)) (ts_cnts t) (ts_stash t) (ts_trail t) (ts_plan t) (ts_tgt t) (ts_way t) (ts_sought t))) H by exact hP) (show va_D A (tw_ cI cJ ad L S C B (ts_mk (lp_ (tr_eNf L S nd) (k + 1) (ts_nodes t)) (ts_cnts t) (ts_stash t) (ts_trail t) (ts_plan t) (ts_tgt t) (ts_way t) (ts_sought t))) by exact hD) hS (show lv_has ls 3 [(2, .int (nI (k + 1))), (0, .ref (ad 0)), (1, .int nd)] by exact lv_sub hl [0, 1, 2] rfl)
  exact lp (S + 1) 0 ls _ _ (by omega) (Nat.zero_le _) hP hD hS (lv_sub hl [0, 1, 2] rfl)
