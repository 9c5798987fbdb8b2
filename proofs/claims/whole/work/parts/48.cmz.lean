set_option maxHeartbeats 4000000 in
set_option maxRecDepth 100000 in
/-- CoinTreeModel.levelsOf -/
theorem c_CM_levelsOf {l : Launch} {dC : Nat → ClassId} {dI : Nat → Nat → Nat} {cI cJ : ClassId} {H : Heap} {ad : Nat → Nat} {L S C : Nat} {key : Int64} {th most asked : Int32} {td : Nat} {tr : Nat → Int32} {v o : Mv} (ok : mk_ok L S C) (hP : va_P (dC, dI) kCl (mw_ cI cJ ad L S C key th most asked td tr (v) (o)) H) (T : Nat) (hT2 : T < 2) : Met l y_CM_levelsOf (k_CM_levelsOf :: bw) { frames := 0, cells := 0, slots := 0, locals := 0 } (zP (dC, dI) kCl [(cI, .int), (cJ, .long)] [.ref (ad 0), .int (nI T)] H) (zQi H (nI (mL L T))) 0 0 (fun _ => False) := by
  refine Met.ofZ (own := "CoinTreeModel") (by decide) rfl [.ref (ad 0), .int (nI T)] (Nat.le_of_ble_eq_true rfl) (fun _ _ h => h.1) ?_
  intro p e s m below meth c ls C0 hv hl
  obtain ⟨hx, hb, hr, hml, hown, hT, hlocks⟩ := C0
  obtain ⟨-, rfl, hK⟩ := hv
  have hS : va_S (fun _ => False) s.heap s.heap [] := va_S.rf
  have hl : lv_has ls 2 [(0, .ref (ad 0)), (1, .int (nI T))] := hl
  obtain ⟨qL1, qL5, qS1, qS4, qC⟩ := id ok
  
  refine lv_iload_n hx hb d_CM_levelsOf_0 rfl (lv_at hl 1 rfl) ?_
  refine lv_if_ne (tgt := 11) hx hb d_CM_levelsOf_1 (by decide) (fun c_1 => ?_) (fun c_1 => ?_)
  · have c_1 : ¬ T = 0 := fun h => c_1 (congrArg nI h)
    refine lv_aload_n hx hb d_CM_levelsOf_11 rfl (lv_at hl 0 rfl) ?_
    refine va_get (D := (dC, dI)) (ci := 4) (v := .int (nI L)) (C := R_CM) (T := F_CM) (N := 27) hx hb hT i_CM hown hK hP 0 rfl rfl 1 (by decide) (hT _ m_472) (fun _ h9 => h9) rfl d_CM_levelsOf_12 ?_
    refine lv_iconst (v := 1) hx hb d_CM_levelsOf_15 (by decide) ?_
    refine lv_icmp_le (tgt := 28) hx hb d_CM_levelsOf_16 (by decide) (fun c_2 => ?_) (fun c_2 => ?_)
    · have c_2 := (nI_leI (a := L) (b := 1) (by omega) (by omega)).mp c_2
      refine lv_iconst (v := 1) hx hb d_CM_levelsOf_28 (by decide) ?_
      exact W.iret hx hb hr (fun t9 ht _ => zQi_end (by first | exact congrArg nI (mL_a c_1).symm | exact congrArg nI (mL_b c_1 (by omega)).symm | exact congrArg nI (mL_c c_1 (by omega)).symm) rfl ht) hS.2.2 d_CM_levelsOf_29 hlocks
    · have c_2 := (not_congr (nI_leI (a := L) (b := 1) (by omega) (by omega))).mp c_2
      refine lv_aload_n hx hb d_CM_levelsOf_19 rfl (lv_at hl 0 rfl) ?_
      refine va_get (D := (dC, dI)) (ci := 4) (v := .int (nI L)) (C := R_CM) (T := F_CM) (N := 27) hx hb hT i_CM hown hK hP 0 rfl rfl 1 (by decide) (hT _ m_472) (fun _ h9 => h9) rfl d_CM_levelsOf_20 ?_
      refine lv_iconst (v := 1) hx hb d_CM_levelsOf_23 (by decide) ?_
      refine lv_isub hx hb d_CM_levelsOf_24 ?_
      refine W.eq (g2 := F0 m 25 ls [.int (nI (L - 1))]) (congrArg (fun q9 : Int32 => F0 m 25 ls (.int q9 :: [])) (pk_sub (a := L) (b := 1) (by omega))) ?_
      refine lv_goto (tgt := 29) hx hb d_CM_levelsOf_25 (by decide) ?_
      exact W.iret hx hb hr (fun t9 ht _ => zQi_end (by first | exact congrArg nI (mL_a c_1).symm | exact congrArg nI (mL_b c_1 (by omega)).symm | exact congrArg nI (mL_c c_1 (by omega)).symm) rfl ht) hS.2.2 d_CM_levelsOf_29 hlocks
  · have c_1 : T = 0 := (nI_eq (a := T) (b := 0) (by omega) (by omega)).mp c_1
    refine lv_aload_n hx hb d_CM_levelsOf_4 rfl (lv_at hl 0 rfl) ?_
    refine va_get (D := (dC, dI)) (ci := 4) (v := .int (nI L)) (C := R_CM) (T := F_CM) (N := 27) hx hb hT i_CM hown hK hP 0 rfl rfl 1 (by decide) (hT _ m_472) (fun _ h9 => h9) rfl d_CM_levelsOf_5 ?_
    refine lv_goto (tgt := 29) hx hb d_CM_levelsOf_8 (by decide) ?_
    exact W.iret hx hb hr (fun t9 ht _ => zQi_end (by first | exact congrArg nI (mL_a c_1).symm | exact congrArg nI (mL_b c_1 (by omega)).symm | exact congrArg nI (mL_c c_1 (by omega)).symm) rfl ht) hS.2.2 d_CM_levelsOf_29 hlocks

set_option maxHeartbeats 4000000 in
set_option maxRecDepth 100000 in
/-- CoinTreeModel.leavesOf -/
theorem c_CM_leavesOf {l : Launch} {dC : Nat → ClassId} {dI : Nat → Nat → Nat} {cI cJ : ClassId} {H : Heap} {ad : Nat → Nat} {L S C : Nat} {key : Int64} {th most asked : Int32} {td : Nat} {tr : Nat → Int32} {v o : Mv} (ok : mk_ok L S C) (hP : va_P (dC, dI) kCl (mw_ cI cJ ad L S C key th most asked td tr (v) (o)) H) (T : Nat) (hT2 : T < 2) : Met l y_CM_leavesOf (k_CM_leavesOf :: bw) { frames := 1, cells := 0, slots := 0, locals := 21 } (zP (dC, dI) kCl [(cI, .int), (cJ, .long)] [.ref (ad 0), .int (nI T)] H) (zQi H (nI (2 ^ mL L T))) 0 0 (fun _ => False) := by
  refine Met.ofZ (own := "CoinTreeModel") (by decide) rfl [.ref (ad 0), .int (nI T)] (Nat.le_of_ble_eq_true rfl) (fun _ _ h => h.1) ?_
  intro p e s m below meth c ls C0 hv hl
  obtain ⟨hx, hb, hr, hml, hown, hT, hlocks⟩ := C0
  obtain ⟨-, rfl, hK⟩ := hv
  have hS : va_S (fun _ => False) s.heap s.heap [] := va_S.rf
  have hl : lv_has ls 2 [(0, .ref (ad 0)), (1, .int (nI T))] := hl
  obtain ⟨qL1, qL5, qS1, qS4, qC⟩ := id ok
  
  refine lv_iconst (v := 1) hx hb d_CM_leavesOf_0 (by decide) ?_
  refine lv_aload_n hx hb d_CM_leavesOf_1 rfl (lv_at hl 0 rfl) ?_
  refine lv_iload_n hx hb d_CM_leavesOf_2 rfl (lv_at hl 1 rfl) ?_
  refine zc_i (va_runV (As := [.int (nI T)]) (rest := [.int 1]) ⟨hx, hb, hml, hown, hT⟩ (c_CM_levelsOf ok hP T (by omega)) (cwV 1 hT (gi_V m_470 m_467 m_469 m_10 m_27) rfl rfl rfl p_CM_levelsOf ⟨Nat.le_of_ble_eq_true rfl, Nat.le_of_ble_eq_true rfl⟩) ⟨zP_blind, va_recv hK hP (ci := 4) (q0 := 0) rfl rfl, zP_pre hK⟩ rfl rfl hl.1 rfl (lv_room (Nat.le_of_ble_eq_true rfl)) d_CM_leavesOf_3 ⟨Nat.le_refl _, Nat.le_refl _⟩) hS (fun locs hS => ?_)
  refine lv_ishl hx hb d_CM_leavesOf_6 ?_
  exact W.iret hx hb hr (fun t9 ht _ => zQi_end (tr_shl (mL_le qL1 qL5).2) rfl ht) hS.2.2 d_CM_leavesOf_7 hlocks

set_option maxHeartbeats 4000000 in
set_option maxRecDepth 100000 in
/-- CoinTreeModel.place -/
theorem c_CM_place {l : Launch} {dC : Nat → ClassId} {dI : Nat → Nat → Nat} {cI cJ : ClassId} {H : Heap} (T n k : Nat) : Met l y_CM_place (k_CM_place :: bw) { frames := 0, cells := 0, slots := 0, locals := 0 } (zP (dC, dI) kCl [(cI, .int), (cJ, .long)] [.int (nI T), .int (nI n), .int (nI k)] H) (zQi H (nI (256 * T + 4 * n + k))) 0 0 (fun _ => False) := by
  refine Met.ofZ (own := "CoinTreeModel") (by decide) rfl [.int (nI T), .int (nI n), .int (nI k)] (Nat.le_of_ble_eq_true rfl) (fun _ _ h => h.1) ?_
  intro p e s m below meth c ls C0 hv hl
  obtain ⟨hx, hb, hr, hml, hown, hT, hlocks⟩ := C0
  obtain ⟨-, rfl, hK⟩ := hv
  have hS : va_S (fun _ => False) s.heap s.heap [] := va_S.rf
  have hl : lv_has ls 3 [(0, .int (nI T)), (1, .int (nI n)), (2, .int (nI k))] := hl
  refine lv_sipush (v := 256) hx hb d_CM_place_0 (by decide) ?_
  refine lv_iload_n hx hb d_CM_place_3 rfl (lv_at hl 0 rfl) ?_
  refine lv_imul hx hb d_CM_place_4 ?_
  refine W.eq (g2 := F0 m 5 ls [.int (nI (256 * T))]) (congrArg (fun q9 : Int32 => F0 m 5 ls (.int q9 :: [])) (pk_mul 256 T)) ?_
  refine lv_iconst (v := 4) hx hb d_CM_place_5 (by decide) ?_
  refine lv_iload_n hx hb d_CM_place_6 rfl (lv_at hl 1 rfl) ?_
  refine lv_imul hx hb d_CM_place_7 ?_
  refine W.eq (g2 := F0 m 8 ls [.int (nI (4 * n)), .int (nI (256 * T))]) (congrArg (fun q9 : Int32 => F0 m 8 ls (.int q9 :: .int (nI (256 * T)) :: [])) (pk_mul 4 n)) ?_
  refine lv_iadd hx hb d_CM_place_8 ?_
  refine W.eq (g2 := F0 m 9 ls [.int (nI ((256 * T) + (4 * n)))]) (congrArg (fun q9 : Int32 => F0 m 9 ls (.int q9 :: [])) (nI_add (256 * T) (4 * n))) ?_
  refine lv_iload_n hx hb d_CM_place_9 rfl (lv_at hl 2 rfl) ?_
  refine lv_iadd hx hb d_CM_place_10 ?_
  refine W.eq (g2 := F0 m 11 ls [.int (nI (((256 * T) + (4 * n)) + k))]) (congrArg (fun q9 : Int32 => F0 m 11 ls (.int q9 :: [])) (nI_add ((256 * T) + (4 * n)) k)) ?_
  exact W.iret hx hb hr (fun t9 ht _ => zQi_end (rfl) rfl ht) hS.2.2 d_CM_place_11 hlocks

set_option maxHeartbeats 4000000 in
set_option maxRecDepth 100000 in
/-- CoinTreeModel.find -/
theorem c_CM_find {l : Launch} {dC : Nat → ClassId} {dI : Nat → Nat → Nat} {cI cJ : ClassId} {H : Heap} {ad : Nat → Nat} {L S C : Nat} {key : Int64} {th most asked : Int32} {td : Nat} {tr : Nat → Int32} {v o : Mv} (ok : mk_ok L S C) (hP : va_P (dC, dI) kCl (mw_ cI cJ ad L S C key th most asked td tr (v) (o)) H) (T : Nat) (hT2 : T < 2) (hz : mv_sz v T ≤ 80) (b : Int32) : Met l y_CM_find (k_CM_find :: bw) { frames := 0, cells := 0, slots := 0, locals := 0 } (zP (dC, dI) kCl [(cI, .int), (cJ, .long)] [.ref (ad 0), .int (nI T), .int b] H) (zQi H (mv_find v T b (mv_sz v T) 0)) 0 0 (fun _ => False) := by
  refine Met.ofZ (own := "CoinTreeModel") (by decide) rfl [.ref (ad 0), .int (nI T), .int b] (Nat.le_of_ble_eq_true rfl) (fun _ _ h => h.1) ?_
  intro p e s m below meth c ls C0 hv hl
  obtain ⟨hx, hb, hr, hml, hown, hT, hlocks⟩ := C0
  obtain ⟨-, rfl, hK⟩ := hv
  have hS : va_S (fun _ => False) s.heap s.heap [] := va_S.rf
  have hl : lv_has ls 4 [(0, .ref (ad 0)), (1, .int (nI T)), (2, .int b)] := hl
  obtain ⟨qL1, qL5, qS1, qS4, qC⟩ := id ok
  
  refine lv_iconst (v := 0) hx hb d_CM_find_0 (by decide) ?_
  refine lv_istore_n (lv' := [(3, .int 0), (0, .ref (ad 0)), (1, .int (nI T)), (2, .int b)]) hx hb d_CM_find_1 rfl hl (by decide) rfl (fun ls hl => ?_)
  have lp1 : ∀ (N : Nat) (j : Nat) (ls : Array Slot) (locs : List Loc), mv_sz v T - j < N → j ≤ mv_sz v T → mv_find v T b (mv_sz v T - j) j = mv_find v T b (mv_sz v T) 0 →  va_S (fun _ => False) s.heap s.heap locs → lv_has ls 4 [(3, .int (nI j)), (0, .ref (ad 0)), (1, .int (nI T)), (2, .int b)] → W p l e ({ frames := 0, cells := 0, slots := 0, locals := 0 } : Room) s m ([.ref (ad 0), .int (nI T), .int b] : List Value).toArray below meth c s.heap locs 0 0 (MQ below (zQi s.heap (mv_find v T b (mv_sz v T) 0)) ([.ref (ad 0), .int (nI T), .int b] : List Value).toArray s 0 0 (fun _ => False)) (F0 m 2 ls []) := by
    intro N1
    induction N1 with
    | zero => intro j ls locs hN; omega
    | succ N1 ih1 =>
      intro j ls locs hN1 hj hf hS hl
      refine lv_iload_n hx hb d_CM_find_2 rfl (lv_at hl 0 rfl) ?_
      refine lv_aload_n hx hb d_CM_find_3 rfl (lv_at hl 1 rfl) ?_
      refine va_get (D := (dC, dI)) (ci := 4) (v := .ref (ad 8)) (C := R_CM) (T := F_CM) (N := 27) hx hb hT i_CM hown hK hP 0 rfl rfl 12 (by decide) (hT _ m_483) (fun _ h9 => h9) rfl d_CM_find_4 ?_
      refine lv_iload_n hx hb d_CM_find_7 rfl (lv_at hl 2 rfl) ?_
      refine va_iald hx hb hK hP 8 0 rfl rfl (vp_in_nI (n := T) (by omega) (by omega)) d_CM_find_8 ?_
      refine W.eq (g2 := F0 m 9 ls [.int (nI ((mv_sz v) T)), .int (nI j)]) (by rw [nI_clamp (n := T) (by omega)] <;> rfl) ?_
      refine lv_icmp_ge (tgt := 40) hx hb d_CM_find_9 (by decide) (fun c_1 => ?_) (fun c_1 => ?_)
      · have c_1 := (nI_leI (a := ((mv_sz v) T)) (b := j) (by omega) (by omega)).mp c_1
        refine lv_iconst (v := (-1)) hx hb d_CM_find_40 (by decide) ?_
        exact W.iret hx hb hr (fun t9 ht _ => zQi_end (mv_find_z hf (by omega)) rfl ht) hS.2.2 d_CM_find_41 hlocks
      · have c_1 := (not_congr (nI_leI (a := ((mv_sz v) T)) (b := j) (by omega) (by omega))).mp c_1
        refine lv_aload_n hx hb d_CM_find_12 rfl (lv_at hl 1 rfl) ?_
        refine va_get (D := (dC, dI)) (ci := 4) (v := .ref (ad 5)) (C := R_CM) (T := F_CM) (N := 27) hx hb hT i_CM hown hK hP 0 rfl rfl 9 (by decide) (hT _ m_480) (fun _ h9 => h9) rfl d_CM_find_13 ?_
        refine lv_bipush (v := 80) hx hb d_CM_find_16 (by decide) ?_
        refine lv_iload_n hx hb d_CM_find_18 rfl (lv_at hl 2 rfl) ?_
        refine lv_imul hx hb d_CM_find_19 ?_
        refine W.eq (g2 := F0 m 20 ls [.int (nI (80 * T)), .ref (ad 5)]) (congrArg (fun q9 : Int32 => F0 m 20 ls (.int q9 :: .ref (ad 5) :: [])) (pk_mul 80 T)) ?_
        refine lv_iload_n hx hb d_CM_find_20 rfl (lv_at hl 0 rfl) ?_
        refine lv_iadd hx hb d_CM_find_21 ?_
        refine W.eq (g2 := F0 m 22 ls [.int (nI ((80 * T) + j)), .ref (ad 5)]) (congrArg (fun q9 : Int32 => F0 m 22 ls (.int q9 :: .ref (ad 5) :: [])) (nI_add (80 * T) j)) ?_
        refine va_iald hx hb hK hP 5 0 rfl rfl (vp_in_nI (n := ((80 * T) + j)) (by omega) (by omega)) d_CM_find_22 ?_
        refine W.eq (g2 := F0 m 23 ls [.int ((mv_sb v) ((80 * T) + j))]) (by rw [nI_clamp (n := ((80 * T) + j)) (by omega)] <;> rfl) ?_
        refine lv_iload_n hx hb d_CM_find_23 rfl (lv_at hl 3 rfl) ?_
        refine lv_icmp_ne (tgt := 34) hx hb d_CM_find_24 (by decide) (fun c_2 => ?_) (fun c_2 => ?_)
        · refine lv_iinc (v := nI (j + 1)) (lv' := [(3, .int (nI (j + 1))), (0, .ref (ad 0)), (1, .int (nI T)), (2, .int b)]) hx hb d_CM_find_34 hl (k := 0) rfl (nI_1 j) (by decide) rfl (fun ls hl => ?_)
          refine lv_goto (tgt := 2) hx hb d_CM_find_37 (by decide) ?_
          exact ih1 (j + 1) ls  locs (by omega) (by omega) (mv_find_n hf (by omega) c_2)  hS (lv_sub hl [0, 1, 2, 3] rfl)
        · refine lv_bipush (v := 80) hx hb d_CM_find_27 (by decide) ?_
          refine lv_iload_n hx hb d_CM_find_29 rfl (lv_at hl 2 rfl) ?_
          refine lv_imul hx hb d_CM_find_30 ?_
          refine W.eq (g2 := F0 m 31 ls [.int (nI (80 * T))]) (congrArg (fun q9 : Int32 => F0 m 31 ls (.int q9 :: [])) (pk_mul 80 T)) ?_
          refine lv_iload_n hx hb d_CM_find_31 rfl (lv_at hl 0 rfl) ?_
          refine lv_iadd hx hb d_CM_find_32 ?_
          refine W.eq (g2 := F0 m 33 ls [.int (nI ((80 * T) + j))]) (congrArg (fun q9 : Int32 => F0 m 33 ls (.int q9 :: [])) (nI_add (80 * T) j)) ?_
          exact W.iret hx hb hr (fun t9 ht _ => zQi_end (mv_find_y hf (by omega) c_2) rfl ht) hS.2.2 d_CM_find_33 hlocks
  exact lp1 ((mv_sz v T - 0) + 1) 0 ls  _ (by omega) (by omega) rfl  hS (lv_sub hl [0, 1, 2, 3] rfl)
