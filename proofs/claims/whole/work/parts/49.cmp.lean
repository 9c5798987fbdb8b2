set_option maxHeartbeats 8000000 in
set_option maxRecDepth 100000 in
/-- CoinTreeModel.push -/
theorem c_CM_push {l : Launch} {dC : Nat → ClassId} {dI : Nat → Nat → Nat} {cI cJ : ClassId} {A : Nat → Prop} {ad : Nat → Nat} {L S C : Nat} {key : Int64} {th most asked : Int32} {td : Nat} {tr : Nat → Int32} {v o : Mv} (ok : mk_ok L S C) (T : Nat) (hT2 : T < 2) (hz : mv_sz v T < 80) (b l9 : Int32) (x9 : Int64) : Met l y_CM_push (k_CM_push :: bw) { frames := 0, cells := 0, slots := 0, locals := 0 } (mP (dC, dI) kCl [(cI, .int), (cJ, .long)] [.ref (ad 0), .int (nI T), .int b, .int l9, .long x9] (mw_ cI cJ ad L S C key th most asked td tr (v) (o)) A) (mQv (dC, dI) kCl (mw_ cI cJ ad L S C key th most asked td tr (mv_push v T b l9 x9) (o)) A) 0 0 A := by
  refine Met.ofZ (own := "CoinTreeModel") (by decide) rfl [.ref (ad 0), .int (nI T), .int b, .int l9, .long x9] (Nat.le_of_ble_eq_true rfl) (fun _ _ h => h.1) ?_
  intro p e s m below meth c ls C0 hv hl
  obtain ⟨hx, hb, hr, hml, hown, hT, hlocks⟩ := C0
  obtain ⟨-, hP, hK, hD⟩ := hv
  have hS : va_S A s.heap s.heap [] := va_S.rf
  have hl : lv_has ls 7 [(0, .ref (ad 0)), (1, .int (nI T)), (2, .int b), (3, .int l9), (4, .long x9)] := hl
  obtain ⟨qL1, qL5, qS1, qS4, qC⟩ := id ok
  
  refine lv_bipush (v := 80) hx hb d_CM_push_0 (by decide) ?_
  refine lv_iload_n hx hb d_CM_push_2 rfl (lv_at hl 1 rfl) ?_
  refine lv_imul hx hb d_CM_push_3 ?_
  refine W.eq (g2 := F0 m 4 ls [.int (nI (80 * T))]) (congrArg (fun q9 : Int32 => F0 m 4 ls (.int q9 :: [])) (pk_mul 80 T)) ?_
  refine lv_aload_n hx hb d_CM_push_4 rfl (lv_at hl 0 rfl) ?_
  refine va_get (D := (dC, dI)) (ci := 4) (v := .ref (ad 8)) (C := R_CM) (T := F_CM) (N := 27) hx hb hT i_CM hown hK hP 0 rfl rfl 12 (by decide) (hT _ m_483) (fun _ h9 => h9) rfl d_CM_push_5 ?_
  refine lv_iload_n hx hb d_CM_push_8 rfl (lv_at hl 1 rfl) ?_
  refine va_iald hx hb hK hP 8 0 rfl rfl (vp_in_nI (n := T) (by omega) (by omega)) d_CM_push_9 ?_
  refine W.eq (g2 := F0 m 10 ls [.int (nI ((mv_sz v) T)), .int (nI (80 * T))]) (by rw [nI_clamp (n := T) (by omega)] <;> rfl) ?_
  refine lv_iadd hx hb d_CM_push_10 ?_
  refine W.eq (g2 := F0 m 11 ls [.int (nI ((80 * T) + ((mv_sz v) T)))]) (congrArg (fun q9 : Int32 => F0 m 11 ls (.int q9 :: [])) (nI_add (80 * T) ((mv_sz v) T))) ?_
  refine lv_istore (lv' := [(6, .int (nI ((80 * T) + ((mv_sz v) T)))), (0, .ref (ad 0)), (1, .int (nI T)), (2, .int b), (3, .int l9), (4, .long x9)]) hx hb d_CM_push_11 hl (by decide) rfl (fun ls hl => ?_)
  refine lv_aload_n hx hb d_CM_push_13 rfl (lv_at hl 1 rfl) ?_
  refine va_get (D := (dC, dI)) (ci := 4) (v := .ref (ad 5)) (C := R_CM) (T := F_CM) (N := 27) hx hb hT i_CM hown hK hP 0 rfl rfl 9 (by decide) (hT _ m_480) (fun _ h9 => h9) rfl d_CM_push_14 ?_
  refine lv_iload hx hb d_CM_push_17 (lv_at hl 0 rfl) ?_
  refine lv_iload_n hx hb d_CM_push_19 rfl (lv_at hl 3 rfl) ?_
  refine va_iast hx hb hK hP hD hS 5 0 rfl rfl (vp_in_nI (n := ((80 * T) + ((mv_sz v) T))) (by omega) (by omega)) d_CM_push_20 (fun H locs hP hD hS => ?_)
  rw [nI_clamp (n := ((80 * T) + ((mv_sz v) T))) (by omega)] at hP hD
  have hP : va_P (dC, dI) kCl (mw_ cI cJ ad L S C key th most asked td tr (mv_mk (mv_bl v) (mv_lf v) (mv_vl v) (mv_ct v) (upd (mv_sb v) ((80 * T) + ((mv_sz v) T)) b) (mv_sl v) (mv_sv v) (mv_sz v) (mv_ml v)) (o)) H := hP
  have hD : va_D A (mw_ cI cJ ad L S C key th most asked td tr (mv_mk (mv_bl v) (mv_lf v) (mv_vl v) (mv_ct v) (upd (mv_sb v) ((80 * T) + ((mv_sz v) T)) b) (mv_sl v) (mv_sv v) (mv_sz v) (mv_ml v)) (o)) := hD
  refine lv_aload_n hx hb d_CM_push_21 rfl (lv_at hl 1 rfl) ?_
  refine va_get (D := (dC, dI)) (ci := 4) (v := .ref (ad 6)) (C := R_CM) (T := F_CM) (N := 27) hx hb hT i_CM hown hK hP 0 rfl rfl 10 (by decide) (hT _ m_481) (fun _ h9 => h9) rfl d_CM_push_22 ?_
  refine lv_iload hx hb d_CM_push_25 (lv_at hl 0 rfl) ?_
  refine lv_iload_n hx hb d_CM_push_27 rfl (lv_at hl 4 rfl) ?_
  refine va_iast hx hb hK hP hD hS 6 0 rfl rfl (vp_in_nI (n := ((80 * T) + ((mv_sz v) T))) (by omega) (by omega)) d_CM_push_28 (fun H locs hP hD hS => ?_)
  rw [nI_clamp (n := ((80 * T) + ((mv_sz v) T))) (by omega)] at hP hD
  have hP : va_P (dC, dI) kCl (mw_ cI cJ ad L S C key th most asked td tr (mv_mk (mv_bl v) (mv_lf v) (mv_vl v) (mv_ct v) (upd (mv_sb v) ((80 * T) + ((mv_sz v) T)) b) (upd (mv_sl v) ((80 * T) + ((mv_sz v) T)) l9) (mv_sv v) (mv_sz v) (mv_ml v)) (o)) H := hP
  have hD : va_D A (mw_ cI cJ ad L S C key th most asked td tr (mv_mk (mv_bl v) (mv_lf v) (mv_vl v) (mv_ct v) (upd (mv_sb v) ((80 * T) + ((mv_sz v) T)) b) (upd (mv_sl v) ((80 * T) + ((mv_sz v) T)) l9) (mv_sv v) (mv_sz v) (mv_ml v)) (o)) := hD
  refine lv_aload_n hx hb d_CM_push_29 rfl (lv_at hl 1 rfl) ?_
  refine va_get (D := (dC, dI)) (ci := 4) (v := .ref (ad 7)) (C := R_CM) (T := F_CM) (N := 27) hx hb hT i_CM hown hK hP 0 rfl rfl 11 (by decide) (hT _ m_482) (fun _ h9 => h9) rfl d_CM_push_30 ?_
  refine lv_iload hx hb d_CM_push_33 (lv_at hl 0 rfl) ?_
  refine lv_lload hx hb d_CM_push_35 (lv_at hl 5 rfl) ?_
  refine va_last hx hb hK hP hD hS 7 1 rfl rfl (vp_in_nI (n := ((80 * T) + ((mv_sz v) T))) (by omega) (by omega)) d_CM_push_37 (fun H locs hP hD hS => ?_)
  rw [nI_clamp (n := ((80 * T) + ((mv_sz v) T))) (by omega)] at hP hD
  have hP : va_P (dC, dI) kCl (mw_ cI cJ ad L S C key th most asked td tr (mv_mk (mv_bl v) (mv_lf v) (mv_vl v) (mv_ct v) (upd (mv_sb v) ((80 * T) + ((mv_sz v) T)) b) (upd (mv_sl v) ((80 * T) + ((mv_sz v) T)) l9) (vp_updL (mv_sv v) ((80 * T) + ((mv_sz v) T)) x9) (mv_sz v) (mv_ml v)) (o)) H := hP
  have hD : va_D A (mw_ cI cJ ad L S C key th most asked td tr (mv_mk (mv_bl v) (mv_lf v) (mv_vl v) (mv_ct v) (upd (mv_sb v) ((80 * T) + ((mv_sz v) T)) b) (upd (mv_sl v) ((80 * T) + ((mv_sz v) T)) l9) (vp_updL (mv_sv v) ((80 * T) + ((mv_sz v) T)) x9) (mv_sz v) (mv_ml v)) (o)) := hD
  refine lv_aload_n hx hb d_CM_push_38 rfl (lv_at hl 1 rfl) ?_
  refine va_get (D := (dC, dI)) (ci := 4) (v := .ref (ad 8)) (C := R_CM) (T := F_CM) (N := 27) hx hb hT i_CM hown hK hP 0 rfl rfl 12 (by decide) (hT _ m_483) (fun _ h9 => h9) rfl d_CM_push_39 ?_
  refine lv_iload_n hx hb d_CM_push_42 rfl (lv_at hl 2 rfl) ?_
  refine lv_dup2_11 hx hb d_CM_push_43 rfl rfl ?_
  refine va_iald hx hb hK hP 8 0 rfl rfl (vp_in_nI (n := T) (by omega) (by omega)) d_CM_push_44 ?_
  refine W.eq (g2 := F0 m 45 ls [.int (nI ((mv_sz v) T)), .int (nI T), .ref (ad 8)]) (by rw [nI_clamp (n := T) (by omega)] <;> rfl) ?_
  refine lv_iconst (v := 1) hx hb d_CM_push_45 (by decide) ?_
  refine lv_iadd hx hb d_CM_push_46 ?_
  refine W.eq (g2 := F0 m 47 ls [.int (nI (((mv_sz v) T) + 1)), .int (nI T), .ref (ad 8)]) (congrArg (fun q9 : Int32 => F0 m 47 ls (.int q9 :: .int (nI T) :: .ref (ad 8) :: [])) (nI_add ((mv_sz v) T) 1)) ?_
  refine va_iast hx hb hK hP hD hS 8 0 rfl rfl (vp_in_nI (n := T) (by omega) (by omega)) d_CM_push_47 (fun H locs hP hD hS => ?_)
  rw [nI_clamp (n := T) (by omega)] at hP hD
  rw [up_nI (x := (((mv_sz v) T) + 1))] at hP hD
  have hP : va_P (dC, dI) kCl (mw_ cI cJ ad L S C key th most asked td tr (mv_mk (mv_bl v) (mv_lf v) (mv_vl v) (mv_ct v) (upd (mv_sb v) ((80 * T) + ((mv_sz v) T)) b) (upd (mv_sl v) ((80 * T) + ((mv_sz v) T)) l9) (vp_updL (mv_sv v) ((80 * T) + ((mv_sz v) T)) x9) (upN (mv_sz v) T (((mv_sz v) T) + 1)) (mv_ml v)) (o)) H := hP
  have hD : va_D A (mw_ cI cJ ad L S C key th most asked td tr (mv_mk (mv_bl v) (mv_lf v) (mv_vl v) (mv_ct v) (upd (mv_sb v) ((80 * T) + ((mv_sz v) T)) b) (upd (mv_sl v) ((80 * T) + ((mv_sz v) T)) l9) (vp_updL (mv_sv v) ((80 * T) + ((mv_sz v) T)) x9) (upN (mv_sz v) T (((mv_sz v) T) + 1)) (mv_ml v)) (o)) := hD
  exact W.vret hx hb hr (fun t9 ht _ => mQv_end (rfl) hP hD hS ht) hS.2.2 d_CM_push_48 hlocks

set_option maxHeartbeats 8000000 in
set_option maxRecDepth 100000 in
/-- CoinTreeModel.pull -/
theorem c_CM_pull {l : Launch} {dC : Nat → ClassId} {dI : Nat → Nat → Nat} {cI cJ : ClassId} {A : Nat → Prop} {ad : Nat → Nat} {L S C : Nat} {key : Int64} {th most asked : Int32} {td : Nat} {tr : Nat → Int32} {v o : Mv} (ok : mk_ok L S C) (T : Nat) (hT2 : T < 2) (k : Nat) (hk : k < mv_sz v T) (hz : mv_sz v T ≤ 80) : Met l y_CM_pull (k_CM_pull :: bw) { frames := 0, cells := 0, slots := 0, locals := 0 } (mP (dC, dI) kCl [(cI, .int), (cJ, .long)] [.ref (ad 0), .int (nI T), .int (nI k)] (mw_ cI cJ ad L S C key th most asked td tr (v) (o)) A) (mQv (dC, dI) kCl (mw_ cI cJ ad L S C key th most asked td tr (mv_pull v T k) (o)) A) 0 0 A := by
  refine Met.ofZ (own := "CoinTreeModel") (by decide) rfl [.ref (ad 0), .int (nI T), .int (nI k)] (Nat.le_of_ble_eq_true rfl) (fun _ _ h => h.1) ?_
  intro p e s m below meth c ls C0 hv hl
  obtain ⟨hx, hb, hr, hml, hown, hT, hlocks⟩ := C0
  obtain ⟨-, hP, hK, hD⟩ := hv
  have hS : va_S A s.heap s.heap [] := va_S.rf
  have hl : lv_has ls 4 [(0, .ref (ad 0)), (1, .int (nI T)), (2, .int (nI k))] := hl
  obtain ⟨qL1, qL5, qS1, qS4, qC⟩ := id ok
  
  refine lv_aload_n hx hb d_CM_pull_0 rfl (lv_at hl 0 rfl) ?_
  refine va_get (D := (dC, dI)) (ci := 4) (v := .ref (ad 8)) (C := R_CM) (T := F_CM) (N := 27) hx hb hT i_CM hown hK hP 0 rfl rfl 12 (by decide) (hT _ m_483) (fun _ h9 => h9) rfl d_CM_pull_1 ?_
  refine lv_iload_n hx hb d_CM_pull_4 rfl (lv_at hl 1 rfl) ?_
  refine lv_dup2_11 hx hb d_CM_pull_5 rfl rfl ?_
  refine va_iald hx hb hK hP 8 0 rfl rfl (vp_in_nI (n := T) (by omega) (by omega)) d_CM_pull_6 ?_
  refine W.eq (g2 := F0 m 7 ls [.int (nI ((mv_sz v) T)), .int (nI T), .ref (ad 8)]) (by rw [nI_clamp (n := T) (by omega)] <;> rfl) ?_
  refine lv_iconst (v := 1) hx hb d_CM_pull_7 (by decide) ?_
  refine lv_isub hx hb d_CM_pull_8 ?_
  refine W.eq (g2 := F0 m 9 ls [.int (nI (((mv_sz v) T) - 1)), .int (nI T), .ref (ad 8)]) (congrArg (fun q9 : Int32 => F0 m 9 ls (.int q9 :: .int (nI T) :: .ref (ad 8) :: [])) (pk_sub (a := ((mv_sz v) T)) (b := 1) (by omega))) ?_
  refine va_iast hx hb hK hP hD hS 8 0 rfl rfl (vp_in_nI (n := T) (by omega) (by omega)) d_CM_pull_9 (fun H locs hP hD hS => ?_)
  rw [nI_clamp (n := T) (by omega)] at hP hD
  rw [up_nI (x := (((mv_sz v) T) - 1))] at hP hD
  have hP : va_P (dC, dI) kCl (mw_ cI cJ ad L S C key th most asked td tr (mv_mk (mv_bl v) (mv_lf v) (mv_vl v) (mv_ct v) (mv_sb v) (mv_sl v) (mv_sv v) (upN (mv_sz v) T (((mv_sz v) T) - 1)) (mv_ml v)) (o)) H := hP
  have hD : va_D A (mw_ cI cJ ad L S C key th most asked td tr (mv_mk (mv_bl v) (mv_lf v) (mv_vl v) (mv_ct v) (mv_sb v) (mv_sl v) (mv_sv v) (upN (mv_sz v) T (((mv_sz v) T) - 1)) (mv_ml v)) (o)) := hD
  refine lv_bipush (v := 80) hx hb d_CM_pull_10 (by decide) ?_
  refine lv_iload_n hx hb d_CM_pull_12 rfl (lv_at hl 1 rfl) ?_
  refine lv_imul hx hb d_CM_pull_13 ?_
  refine W.eq (g2 := F0 m 14 ls [.int (nI (80 * T))]) (congrArg (fun q9 : Int32 => F0 m 14 ls (.int q9 :: [])) (pk_mul 80 T)) ?_
  refine lv_iload_n hx hb d_CM_pull_14 rfl (lv_at hl 2 rfl) ?_
  refine lv_iadd hx hb d_CM_pull_15 ?_
  refine W.eq (g2 := F0 m 16 ls [.int (nI ((80 * T) + k))]) (congrArg (fun q9 : Int32 => F0 m 16 ls (.int q9 :: [])) (nI_add (80 * T) k)) ?_
  refine lv_istore_n (lv' := [(3, .int (nI ((80 * T) + k))), (0, .ref (ad 0)), (1, .int (nI T)), (2, .int (nI k))]) hx hb d_CM_pull_16 rfl hl (by decide) rfl (fun ls hl => ?_)
  rw [← shf_0 (b := 80 * T + k) (f := mv_sb v), ← shf_0 (b := 80 * T + k) (f := mv_sl v), ← shf_0 (b := 80 * T + k) (f := mv_sv v)] at hP hD
  have lp1 : ∀ (N : Nat) (j : Nat) (ls : Array Slot) (H : Heap) (locs : List Loc), mv_sz v T - 1 - k - j < N → j ≤ mv_sz v T - 1 - k →  va_P (dC, dI) kCl (mw_ cI cJ ad L S C key th most asked td tr (mv_mk (mv_bl v) (mv_lf v) (mv_vl v) (mv_ct v) (shf (80 * T + k) j (mv_sb v)) (shf (80 * T + k) j (mv_sl v)) (shf (80 * T + k) j (mv_sv v)) (upN (mv_sz v) T (mv_sz v T - 1)) (mv_ml v)) (o)) H → va_D A (mw_ cI cJ ad L S C key th most asked td tr (mv_mk (mv_bl v) (mv_lf v) (mv_vl v) (mv_ct v) (shf (80 * T + k) j (mv_sb v)) (shf (80 * T + k) j (mv_sl v)) (shf (80 * T + k) j (mv_sv v)) (upN (mv_sz v) T (mv_sz v T - 1)) (mv_ml v)) (o)) → va_S A s.heap H locs → lv_has ls 4 [(3, .int (nI (80 * T + k + j))), (0, .ref (ad 0)), (1, .int (nI T)), (2, .int (nI k))] → W p l e ({ frames := 0, cells := 0, slots := 0, locals := 0 } : Room) s m ([.ref (ad 0), .int (nI T), .int (nI k)] : List Value).toArray below meth c H locs 0 0 (MQ below (mQv (dC, dI) kCl (mw_ cI cJ ad L S C key th most asked td tr (mv_pull v T k) (o)) A) ([.ref (ad 0), .int (nI T), .int (nI k)] : List Value).toArray s 0 0 A) (F0 m 17 ls []) := by
    intro N1
    induction N1 with
    | zero => intro j ls H locs hN; omega
    | succ N1 ih1 =>
      intro j ls H locs hN1 hj hP hD hS hl
      refine lv_iload_n hx hb d_CM_pull_17 rfl (lv_at hl 0 rfl) ?_
      refine lv_bipush (v := 80) hx hb d_CM_pull_18 (by decide) ?_
      refine lv_iload_n hx hb d_CM_pull_20 rfl (lv_at hl 2 rfl) ?_
      refine lv_imul hx hb d_CM_pull_21 ?_
      refine W.eq (g2 := F0 m 22 ls [.int (nI (80 * T)), .int (nI (80 * T + k + j))]) (congrArg (fun q9 : Int32 => F0 m 22 ls (.int q9 :: .int (nI (80 * T + k + j)) :: [])) (pk_mul 80 T)) ?_
      refine lv_aload_n hx hb d_CM_pull_22 rfl (lv_at hl 1 rfl) ?_
      refine va_get (D := (dC, dI)) (ci := 4) (v := .ref (ad 8)) (C := R_CM) (T := F_CM) (N := 27) hx hb hT i_CM hown hK hP 0 rfl rfl 12 (by decide) (hT _ m_483) (fun _ h9 => h9) rfl d_CM_pull_23 ?_
      refine lv_iload_n hx hb d_CM_pull_26 rfl (lv_at hl 2 rfl) ?_
      refine va_iald hx hb hK hP 8 0 rfl rfl (vp_in_nI (n := T) (by omega) (by omega)) d_CM_pull_27 ?_
      refine W.eq (g2 := F0 m 28 ls [.int (nI ((upN (mv_sz v) T (mv_sz v T - 1)) T)), .int (nI (80 * T)), .int (nI (80 * T + k + j))]) (by rw [nI_clamp (n := T) (by omega)] <;> rfl) ?_
      refine lv_iadd hx hb d_CM_pull_28 ?_
      refine W.eq (g2 := F0 m 29 ls [.int (nI ((80 * T) + ((upN (mv_sz v) T (mv_sz v T - 1)) T))), .int (nI (80 * T + k + j))]) (congrArg (fun q9 : Int32 => F0 m 29 ls (.int q9 :: .int (nI (80 * T + k + j)) :: [])) (nI_add (80 * T) ((upN (mv_sz v) T (mv_sz v T - 1)) T))) ?_
      refine W.eq (g2 := F0 m 29 ls [.int (nI (80 * T + (mv_sz v T - 1))), .int (nI (80 * T + k + j))]) (by rw [upN_s]) ?_
      refine lv_icmp_ge (tgt := 80) hx hb d_CM_pull_29 (by decide) (fun c_1 => ?_) (fun c_1 => ?_)
      · have c_1 := (nI_leI (a := (80 * T + (mv_sz v T - 1))) (b := (80 * T + k + j)) (by omega) (by omega)).mp c_1
        have hj2 : j = mv_sz v T - 1 - k := by omega
        subst hj2
        exact W.vret hx hb hr (fun t9 ht _ => mQv_end rfl hP hD hS ht) hS.2.2 d_CM_pull_80 hlocks
      · have c_1 := (not_congr (nI_leI (a := (80 * T + (mv_sz v T - 1))) (b := (80 * T + k + j)) (by omega) (by omega))).mp c_1
        refine lv_aload_n hx hb d_CM_pull_32 rfl (lv_at hl 1 rfl) ?_
        refine va_get (D := (dC, dI)) (ci := 4) (v := .ref (ad 5)) (C := R_CM) (T := F_CM) (N := 27) hx hb hT i_CM hown hK hP 0 rfl rfl 9 (by decide) (hT _ m_480) (fun _ h9 => h9) rfl d_CM_pull_33 ?_
        refine lv_iload_n hx hb d_CM_pull_36 rfl (lv_at hl 0 rfl) ?_
        refine lv_aload_n hx hb d_CM_pull_37 rfl (lv_at hl 1 rfl) ?_
        refine va_get (D := (dC, dI)) (ci := 4) (v := .ref (ad 5)) (C := R_CM) (T := F_CM) (N := 27) hx hb hT i_CM hown hK hP 0 rfl rfl 9 (by decide) (hT _ m_480) (fun _ h9 => h9) rfl d_CM_pull_38 ?_
        refine lv_iload_n hx hb d_CM_pull_41 rfl (lv_at hl 0 rfl) ?_
        refine lv_iconst (v := 1) hx hb d_CM_pull_42 (by decide) ?_
        refine lv_iadd hx hb d_CM_pull_43 ?_
        refine W.eq (g2 := F0 m 44 ls [.int (nI ((80 * T + k + j) + 1)), .ref (ad 5), .int (nI (80 * T + k + j)), .ref (ad 5)]) (congrArg (fun q9 : Int32 => F0 m 44 ls (.int q9 :: .ref (ad 5) :: .int (nI (80 * T + k + j)) :: .ref (ad 5) :: [])) (nI_add (80 * T + k + j) 1)) ?_
        refine va_iald hx hb hK hP 5 0 rfl rfl (vp_in_nI (n := ((80 * T + k + j) + 1)) (by omega) (by omega)) d_CM_pull_44 ?_
        refine W.eq (g2 := F0 m 45 ls [.int ((shf (80 * T + k) j (mv_sb v)) ((80 * T + k + j) + 1)), .int (nI (80 * T + k + j)), .ref (ad 5)]) (by rw [nI_clamp (n := ((80 * T + k + j) + 1)) (by omega)] <;> rfl) ?_
        refine va_iast hx hb hK hP hD hS 5 0 rfl rfl (vp_in_nI (n := (80 * T + k + j)) (by omega) (by omega)) d_CM_pull_45 (fun H locs hP hD hS => ?_)
        rw [nI_clamp (n := (80 * T + k + j)) (by omega)] at hP hD
        have hP : va_P (dC, dI) kCl (mw_ cI cJ ad L S C key th most asked td tr (mv_mk (mv_bl v) (mv_lf v) (mv_vl v) (mv_ct v) (upd (shf (80 * T + k) j (mv_sb v)) (80 * T + k + j) ((shf (80 * T + k) j (mv_sb v)) ((80 * T + k + j) + 1))) (shf (80 * T + k) j (mv_sl v)) (shf (80 * T + k) j (mv_sv v)) (upN (mv_sz v) T (mv_sz v T - 1)) (mv_ml v)) (o)) H := hP
        have hD : va_D A (mw_ cI cJ ad L S C key th most asked td tr (mv_mk (mv_bl v) (mv_lf v) (mv_vl v) (mv_ct v) (upd (shf (80 * T + k) j (mv_sb v)) (80 * T + k + j) ((shf (80 * T + k) j (mv_sb v)) ((80 * T + k + j) + 1))) (shf (80 * T + k) j (mv_sl v)) (shf (80 * T + k) j (mv_sv v)) (upN (mv_sz v) T (mv_sz v T - 1)) (mv_ml v)) (o)) := hD
        rw [shf_s (b := 80 * T + k) (n := j) (f := mv_sb v)] at hP hD
        refine lv_aload_n hx hb d_CM_pull_46 rfl (lv_at hl 1 rfl) ?_
        refine va_get (D := (dC, dI)) (ci := 4) (v := .ref (ad 6)) (C := R_CM) (T := F_CM) (N := 27) hx hb hT i_CM hown hK hP 0 rfl rfl 10 (by decide) (hT _ m_481) (fun _ h9 => h9) rfl d_CM_pull_47 ?_
        refine lv_iload_n hx hb d_CM_pull_50 rfl (lv_at hl 0 rfl) ?_
        refine lv_aload_n hx hb d_CM_pull_51 rfl (lv_at hl 1 rfl) ?_
        refine va_get (D := (dC, dI)) (ci := 4) (v := .ref (ad 6)) (C := R_CM) (T := F_CM) (N := 27) hx hb hT i_CM hown hK hP 0 rfl rfl 10 (by decide) (hT _ m_481) (fun _ h9 => h9) rfl d_CM_pull_52 ?_
        refine lv_iload_n hx hb d_CM_pull_55 rfl (lv_at hl 0 rfl) ?_
        refine lv_iconst (v := 1) hx hb d_CM_pull_56 (by decide) ?_
        refine lv_iadd hx hb d_CM_pull_57 ?_
        refine W.eq (g2 := F0 m 58 ls [.int (nI ((80 * T + k + j) + 1)), .ref (ad 6), .int (nI (80 * T + k + j)), .ref (ad 6)]) (congrArg (fun q9 : Int32 => F0 m 58 ls (.int q9 :: .ref (ad 6) :: .int (nI (80 * T + k + j)) :: .ref (ad 6) :: [])) (nI_add (80 * T + k + j) 1)) ?_
        refine va_iald hx hb hK hP 6 0 rfl rfl (vp_in_nI (n := ((80 * T + k + j) + 1)) (by omega) (by omega)) d_CM_pull_58 ?_
        refine W.eq (g2 := F0 m 59 ls [.int ((shf (80 * T + k) j (mv_sl v)) ((80 * T + k + j) + 1)), .int (nI (80 * T + k + j)), .ref (ad 6)]) (by rw [nI_clamp (n := ((80 * T + k + j) + 1)) (by omega)] <;> rfl) ?_
        refine va_iast hx hb hK hP hD hS 6 0 rfl rfl (vp_in_nI (n := (80 * T + k + j)) (by omega) (by omega)) d_CM_pull_59 (fun H locs hP hD hS => ?_)
        rw [nI_clamp (n := (80 * T + k + j)) (by omega)] at hP hD
        have hP : va_P (dC, dI) kCl (mw_ cI cJ ad L S C key th most asked td tr (mv_mk (mv_bl v) (mv_lf v) (mv_vl v) (mv_ct v) (shf (80 * T + k) (j + 1) (mv_sb v)) (upd (shf (80 * T + k) j (mv_sl v)) (80 * T + k + j) ((shf (80 * T + k) j (mv_sl v)) ((80 * T + k + j) + 1))) (shf (80 * T + k) j (mv_sv v)) (upN (mv_sz v) T (mv_sz v T - 1)) (mv_ml v)) (o)) H := hP
        have hD : va_D A (mw_ cI cJ ad L S C key th most asked td tr (mv_mk (mv_bl v) (mv_lf v) (mv_vl v) (mv_ct v) (shf (80 * T + k) (j + 1) (mv_sb v)) (upd (shf (80 * T + k) j (mv_sl v)) (80 * T + k + j) ((shf (80 * T + k) j (mv_sl v)) ((80 * T + k + j) + 1))) (shf (80 * T + k) j (mv_sv v)) (upN (mv_sz v) T (mv_sz v T - 1)) (mv_ml v)) (o)) := hD
        rw [shf_s (b := 80 * T + k) (n := j) (f := mv_sl v)] at hP hD
        refine lv_aload_n hx hb d_CM_pull_60 rfl (lv_at hl 1 rfl) ?_
        refine va_get (D := (dC, dI)) (ci := 4) (v := .ref (ad 7)) (C := R_CM) (T := F_CM) (N := 27) hx hb hT i_CM hown hK hP 0 rfl rfl 11 (by decide) (hT _ m_482) (fun _ h9 => h9) rfl d_CM_pull_61 ?_
        refine lv_iload_n hx hb d_CM_pull_64 rfl (lv_at hl 0 rfl) ?_
        refine lv_aload_n hx hb d_CM_pull_65 rfl (lv_at hl 1 rfl) ?_
        refine va_get (D := (dC, dI)) (ci := 4) (v := .ref (ad 7)) (C := R_CM) (T := F_CM) (N := 27) hx hb hT i_CM hown hK hP 0 rfl rfl 11 (by decide) (hT _ m_482) (fun _ h9 => h9) rfl d_CM_pull_66 ?_
        refine lv_iload_n hx hb d_CM_pull_69 rfl (lv_at hl 0 rfl) ?_
        refine lv_iconst (v := 1) hx hb d_CM_pull_70 (by decide) ?_
        refine lv_iadd hx hb d_CM_pull_71 ?_
        refine W.eq (g2 := F0 m 72 ls [.int (nI ((80 * T + k + j) + 1)), .ref (ad 7), .int (nI (80 * T + k + j)), .ref (ad 7)]) (congrArg (fun q9 : Int32 => F0 m 72 ls (.int q9 :: .ref (ad 7) :: .int (nI (80 * T + k + j)) :: .ref (ad 7) :: [])) (nI_add (80 * T + k + j) 1)) ?_
        refine va_lald hx hb hK hP 7 1 rfl rfl (vp_in_nI (n := ((80 * T + k + j) + 1)) (by omega) (by omega)) d_CM_pull_72 ?_
        refine W.eq (g2 := F0 m 73 ls [.long ((shf (80 * T + k) j (mv_sv v)) ((80 * T + k + j) + 1)), .int (nI (80 * T + k + j)), .ref (ad 7)]) (by rw [nI_clamp (n := ((80 * T + k + j) + 1)) (by omega)] <;> rfl) ?_
        refine va_last hx hb hK hP hD hS 7 1 rfl rfl (vp_in_nI (n := (80 * T + k + j)) (by omega) (by omega)) d_CM_pull_73 (fun H locs hP hD hS => ?_)
        rw [nI_clamp (n := (80 * T + k + j)) (by omega)] at hP hD
        have hP : va_P (dC, dI) kCl (mw_ cI cJ ad L S C key th most asked td tr (mv_mk (mv_bl v) (mv_lf v) (mv_vl v) (mv_ct v) (shf (80 * T + k) (j + 1) (mv_sb v)) (shf (80 * T + k) (j + 1) (mv_sl v)) (vp_updL (shf (80 * T + k) j (mv_sv v)) (80 * T + k + j) ((shf (80 * T + k) j (mv_sv v)) ((80 * T + k + j) + 1))) (upN (mv_sz v) T (mv_sz v T - 1)) (mv_ml v)) (o)) H := hP
        have hD : va_D A (mw_ cI cJ ad L S C key th most asked td tr (mv_mk (mv_bl v) (mv_lf v) (mv_vl v) (mv_ct v) (shf (80 * T + k) (j + 1) (mv_sb v)) (shf (80 * T + k) (j + 1) (mv_sl v)) (vp_updL (shf (80 * T + k) j (mv_sv v)) (80 * T + k + j) ((shf (80 * T + k) j (mv_sv v)) ((80 * T + k + j) + 1))) (upN (mv_sz v) T (mv_sz v T - 1)) (mv_ml v)) (o)) := hD
        rw [shf_sL (b := 80 * T + k) (n := j) (f := mv_sv v)] at hP hD
        refine lv_iinc (v := nI ((80 * T + k + j) + 1)) (lv' := [(3, .int (nI ((80 * T + k + j) + 1))), (0, .ref (ad 0)), (1, .int (nI T)), (2, .int (nI k))]) hx hb d_CM_pull_74 hl (k := 0) rfl (nI_1 (80 * T + k + j)) (by decide) rfl (fun ls hl => ?_)
        refine lv_goto (tgt := 17) hx hb d_CM_pull_77 (by decide) ?_
        exact ih1 (j + 1) ls H locs (by omega) (by omega) hP hD hS (lv_sub hl [0, 1, 2, 3] rfl)
  exact lp1 ((mv_sz v T - 1 - k - 0) + 1) 0 ls _ _ (by omega) (by omega) hP hD hS (lv_sub hl [0, 1, 2, 3] rfl)
