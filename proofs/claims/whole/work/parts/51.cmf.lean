set_option maxHeartbeats 8000000 in
set_option maxRecDepth 100000 in
/-- CoinTreeModel.fill -/
theorem c_CM_fill {l : Launch} {dC : Nat → ClassId} {dI : Nat → Nat → Nat} {cI cJ : ClassId} {A : Nat → Prop} {ad : Nat → Nat} {L S C : Nat} {key : Int64} {th most asked : Int32} {td : Nat} {tr : Nat → Int32} {v o : Mv} (ok : mk_ok L S C) (T : Nat) (hT2 : T < 2) (hz : mv_sz v T ≤ 80) (lf : Nat) (hlf : lf < 2 ^ mL L T) : Met l y_CM_fill (k_CM_fill :: bw) { frames := 2, cells := 0, slots := 0, locals := 42 } (mP (dC, dI) kCl [(cI, .int), (cJ, .long)] [.ref (ad 0), .int (nI T), .int (nI lf)] (mw_ cI cJ ad L S C key th most asked td tr (v) (o)) A) (mQi (dC, dI) kCl (b2i (decide (mv_sz (mv_fill L S T lf v) T ≤ C))) (mw_ cI cJ ad L S C key th most asked td tr (mv_fill L S T lf v) (o)) A) 0 0 A := by
  refine Met.ofZ (own := "CoinTreeModel") (by decide) rfl [.ref (ad 0), .int (nI T), .int (nI lf)] (Nat.le_of_ble_eq_true rfl) (fun _ _ h => h.1) ?_
  intro p e s m below meth c ls C0 hv hl
  obtain ⟨hx, hb, hr, hml, hown, hT, hlocks⟩ := C0
  obtain ⟨-, hP, hK, hD⟩ := hv
  have hS : va_S A s.heap s.heap [] := va_S.rf
  have hl : lv_has ls 10 [(0, .ref (ad 0)), (1, .int (nI T)), (2, .int (nI lf))] := hl
  obtain ⟨qL1, qL5, qS1, qS4, qC⟩ := id ok
  have qM5 := (mL_le (T := T) qL1 qL5).2
  have q32 := p2_le qM5
  
  refine lv_aload_n hx hb d_CM_fill_0 rfl (lv_at hl 0 rfl) ?_
  refine lv_iload_n hx hb d_CM_fill_1 rfl (lv_at hl 1 rfl) ?_
  refine zc_i (va_runV (As := [.int (nI T)]) (rest := []) ⟨hx, hb, hml, hown, hT⟩ (c_CM_levelsOf ok hP T (by omega)) (cwV 1 hT (gi_V m_470 m_467 m_469 m_10 m_27) rfl rfl rfl p_CM_levelsOf ⟨Nat.le_of_ble_eq_true rfl, Nat.le_of_ble_eq_true rfl⟩) ⟨zP_blind, va_recv hK hP (ci := 4) (q0 := 0) rfl rfl, zP_pre hK⟩ rfl rfl hl.1 rfl (lv_room (Nat.le_of_ble_eq_true rfl)) d_CM_fill_2 ⟨Nat.le_refl _, Nat.le_refl _⟩) hS (fun locs hS => ?_)
  refine lv_istore_n (lv' := [(3, .int (nI (mL L T))), (0, .ref (ad 0)), (1, .int (nI T)), (2, .int (nI lf))]) hx hb d_CM_fill_5 rfl hl (by decide) rfl (fun ls hl => ?_)
  refine lv_iconst (v := 0) hx hb d_CM_fill_6 (by decide) ?_
  refine lv_istore (lv' := [(4, .int 0), (3, .int (nI (mL L T))), (0, .ref (ad 0)), (1, .int (nI T)), (2, .int (nI lf))]) hx hb d_CM_fill_7 hl (by decide) rfl (fun ls hl => ?_)
  have lp1 : ∀ (N : Nat) (i : Nat) (ls : Array Slot) (H : Heap) (locs : List Loc), mL L T + 1 - i < N → i ≤ mL L T + 1 →  va_P (dC, dI) kCl (mw_ cI cJ ad L S C key th most asked td tr (lp_ (mv_fU (mL L T) S T lf) i v) (o)) H → va_D A (mw_ cI cJ ad L S C key th most asked td tr (lp_ (mv_fU (mL L T) S T lf) i v) (o)) → va_S A s.heap H locs → lv_has ls 10 [(4, .int (nI i)), (0, .ref (ad 0)), (1, .int (nI T)), (2, .int (nI lf)), (3, .int (nI (mL L T)))] → W p l e ({ frames := 2, cells := 0, slots := 0, locals := 42 } : Room) s m ([.ref (ad 0), .int (nI T), .int (nI lf)] : List Value).toArray below meth c H locs 0 0 (MQ below (mQi (dC, dI) kCl (b2i (decide (mv_sz (mv_fill L S T lf v) T ≤ C))) (mw_ cI cJ ad L S C key th most asked td tr (mv_fill L S T lf v) (o)) A) ([.ref (ad 0), .int (nI T), .int (nI lf)] : List Value).toArray s 0 0 A) (F0 m 9 ls []) := by
    intro N1
    induction N1 with
    | zero => intro i ls H locs hN; omega
    | succ N1 ih1 =>
      intro i ls H locs hN1 hi hP hD hS hl
      refine lv_iload hx hb d_CM_fill_9 (lv_at hl 0 rfl) ?_
      refine lv_iload_n hx hb d_CM_fill_11 rfl (lv_at hl 4 rfl) ?_
      refine lv_icmp_gt (tgt := 176) hx hb d_CM_fill_12 (by decide) (fun c_1 => ?_) (fun c_1 => ?_)
      · have c_1 := (nI_ltI (a := (mL L T)) (b := i) (by omega) (by omega)).mp c_1
        have hi2 : i = mL L T + 1 := by omega
        rw [hi2] at hP hD
        have hP : va_P (dC, dI) kCl (mw_ cI cJ ad L S C key th most asked td tr (mv_fill L S T lf v) (o)) H := hP
        have hD : va_D A (mw_ cI cJ ad L S C key th most asked td tr (mv_fill L S T lf v) (o)) := hD
        have hzE : mv_sz (mv_fill L S T lf v) T ≤ mv_sz v T := mv_fU_sz (mL L T + 1)
        refine lv_aload_n hx hb d_CM_fill_176 rfl (lv_at hl 1 rfl) ?_
        refine va_get (D := (dC, dI)) (ci := 4) (v := .ref (ad 8)) (C := R_CM) (T := F_CM) (N := 27) hx hb hT i_CM hown hK hP 0 rfl rfl 12 (by decide) (hT _ m_483) (fun _ h9 => h9) rfl d_CM_fill_177 ?_
        refine lv_iload_n hx hb d_CM_fill_180 rfl (lv_at hl 2 rfl) ?_
        refine va_iald hx hb hK hP 8 0 rfl rfl (vp_in_nI (n := T) (by omega) (by omega)) d_CM_fill_181 ?_
        refine W.eq (g2 := F0 m 182 ls [.int (nI ((mv_sz (mv_fill L S T lf v)) T))]) (by rw [nI_clamp (n := T) (by omega)] <;> rfl) ?_
        refine lv_aload_n hx hb d_CM_fill_182 rfl (lv_at hl 1 rfl) ?_
        refine va_get (D := (dC, dI)) (ci := 4) (v := .int (nI C)) (C := R_CM) (T := F_CM) (N := 27) hx hb hT i_CM hown hK hP 0 rfl rfl 3 (by decide) (hT _ m_474) (fun _ h9 => h9) rfl d_CM_fill_183 ?_
        refine lv_icmp_gt (tgt := 193) hx hb d_CM_fill_186 (by decide) (fun c_2 => ?_) (fun c_2 => ?_)
        · have c_2 := (nI_ltI (a := C) (b := ((mv_sz (mv_fill L S T lf v)) T)) (by omega) (by omega)).mp c_2
          refine lv_iconst (v := 0) hx hb d_CM_fill_193 (by decide) ?_
          exact W.zret (ty := .boolean) hx hb hr nar_0 (fun t9 ht _ => mQi_end (b2i_f (decide_eq_false (by omega))) (rfl) hP hD hS ht) hS.2.2 d_CM_fill_194 hlocks
        · have c_2 := (not_congr (nI_ltI (a := C) (b := ((mv_sz (mv_fill L S T lf v)) T)) (by omega) (by omega))).mp c_2
          refine lv_iconst (v := 1) hx hb d_CM_fill_189 (by decide) ?_
          refine lv_goto (tgt := 194) hx hb d_CM_fill_190 (by decide) ?_
          exact W.zret (ty := .boolean) hx hb hr nar_1 (fun t9 ht _ => mQi_end (b2i_t (decide_eq_true (by omega))) (rfl) hP hD hS ht) hS.2.2 d_CM_fill_194 hlocks
      · have c_1 := (not_congr (nI_ltI (a := (mL L T)) (b := i) (by omega) (by omega))).mp c_1
        refine lv_aload_n hx hb d_CM_fill_15 rfl (lv_at hl 1 rfl) ?_
        refine lv_iload_n hx hb d_CM_fill_16 rfl (lv_at hl 2 rfl) ?_
        refine zc_i (va_runV (As := [.int (nI T)]) (rest := []) ⟨hx, hb, hml, hown, hT⟩ (c_CM_leavesOf ok hP T (by omega)) (cwV 1 hT (gi_V m_466 m_463 m_465 m_9 m_27) rfl rfl rfl p_CM_leavesOf ⟨Nat.le_of_ble_eq_true rfl, Nat.le_of_ble_eq_true rfl⟩) ⟨zP_blind, va_recv hK hP (ci := 4) (q0 := 0) rfl rfl, zP_pre hK⟩ rfl rfl hl.1 rfl (lv_room (Nat.le_of_ble_eq_true rfl)) d_CM_fill_17 ⟨Nat.le_refl _, Nat.le_refl _⟩) hS (fun locs hS => ?_)
        refine lv_iload_n hx hb d_CM_fill_20 rfl (lv_at hl 3 rfl) ?_
        refine lv_iadd hx hb d_CM_fill_21 ?_
        refine W.eq (g2 := F0 m 22 ls [.int (nI ((2 ^ mL L T) + lf))]) (congrArg (fun q9 : Int32 => F0 m 22 ls (.int q9 :: [])) (nI_add (2 ^ mL L T) lf)) ?_
        refine lv_iload hx hb d_CM_fill_22 (lv_at hl 0 rfl) ?_
        refine lv_ishr hx hb d_CM_fill_24 ?_
        refine W.eq (g2 := F0 m 25 ls [.int (nI (((2 ^ mL L T) + lf) / 2 ^ i))]) (congrArg (fun q9 : Int32 => F0 m 25 ls (.int q9 :: [])) (nm_shr (a := ((2 ^ mL L T) + lf)) (b := i) (by omega) (by omega))) ?_
        obtain ⟨nd, hnd⟩ : ∃ nd : Nat, nd = mnd (mL L T) lf i := ⟨_, rfl⟩
        have hnd64 : nd < 64 := by rw [hnd]; exact mnd_lt (mL_le qL1 qL5).2 hlf
        have hzi := mv_fU_sz (D := mL L T) (S := S) (T := T) (lf := lf) (v := v) i
        refine W.eq (g2 := F0 m 25 ls [.int (nI nd)]) (by rw [hnd]; rfl) ?_
        generalize hV0 : lp_ (mv_fU (mL L T) S T lf) i v = V0 at hP hD hzi
        refine lv_istore (lv' := [(5, .int (nI nd)), (4, .int (nI i)), (0, .ref (ad 0)), (1, .int (nI T)), (2, .int (nI lf)), (3, .int (nI (mL L T)))]) hx hb d_CM_fill_25 hl (by decide) rfl (fun ls hl => ?_)
        refine lv_iconst (v := 0) hx hb d_CM_fill_27 (by decide) ?_
        refine lv_istore (lv' := [(6, .int 0), (5, .int (nI nd)), (4, .int (nI i)), (0, .ref (ad 0)), (1, .int (nI T)), (2, .int (nI lf)), (3, .int (nI (mL L T)))]) hx hb d_CM_fill_28 hl (by decide) rfl (fun ls hl => ?_)
        refine lv_iconst (v := 0) hx hb d_CM_fill_30 (by decide) ?_
        refine lv_istore (lv' := [(7, .int 0), (6, .int 0), (5, .int (nI nd)), (4, .int (nI i)), (0, .ref (ad 0)), (1, .int (nI T)), (2, .int (nI lf)), (3, .int (nI (mL L T)))]) hx hb d_CM_fill_31 hl (by decide) rfl (fun ls hl => ?_)
        have lp2 : ∀ (N : Nat) (V : Mv) (k : Nat) (q : Nat) (ls : Array Slot) (H : Heap) (locs : List Loc), mv_sz V T - k < N → k ≤ mv_sz V T → q ≤ S → mv_sz V T ≤ 80 → mv_fL (mL L T) S T i nd (mv_sz V T - k) V k q = mv_fL (mL L T) S T i nd (mv_sz V0 T) V0 0 0 →  va_P (dC, dI) kCl (mw_ cI cJ ad L S C key th most asked td tr (V) (o)) H → va_D A (mw_ cI cJ ad L S C key th most asked td tr (V) (o)) → va_S A s.heap H locs → lv_has ls 10 [(7, .int (nI k)), (6, .int (nI q)), (4, .int (nI i)), (0, .ref (ad 0)), (1, .int (nI T)), (2, .int (nI lf)), (3, .int (nI (mL L T))), (5, .int (nI nd))] → W p l e ({ frames := 2, cells := 0, slots := 0, locals := 42 } : Room) s m ([.ref (ad 0), .int (nI T), .int (nI lf)] : List Value).toArray below meth c H locs 0 0 (MQ below (mQi (dC, dI) kCl (b2i (decide (mv_sz (mv_fill L S T lf v) T ≤ C))) (mw_ cI cJ ad L S C key th most asked td tr (mv_fill L S T lf v) (o)) A) ([.ref (ad 0), .int (nI T), .int (nI lf)] : List Value).toArray s 0 0 A) (F0 m 33 ls []) := by
          intro N2
          induction N2 with
          | zero => intro V k q ls H locs hN; omega
          | succ N2 ih2 =>
            intro V k q ls H locs hN2 hk hq hzV hF hP hD hS hl
            refine lv_iload hx hb d_CM_fill_33 (lv_at hl 0 rfl) ?_
            refine lv_aload_n hx hb d_CM_fill_35 rfl (lv_at hl 3 rfl) ?_
            refine va_get (D := (dC, dI)) (ci := 4) (v := .ref (ad 8)) (C := R_CM) (T := F_CM) (N := 27) hx hb hT i_CM hown hK hP 0 rfl rfl 12 (by decide) (hT _ m_483) (fun _ h9 => h9) rfl d_CM_fill_36 ?_
            refine lv_iload_n hx hb d_CM_fill_39 rfl (lv_at hl 4 rfl) ?_
            refine va_iald hx hb hK hP 8 0 rfl rfl (vp_in_nI (n := T) (by omega) (by omega)) d_CM_fill_40 ?_
            refine W.eq (g2 := F0 m 41 ls [.int (nI ((mv_sz V) T)), .int (nI k)]) (by rw [nI_clamp (n := T) (by omega)] <;> rfl) ?_
            refine lv_icmp_ge (tgt := 154) hx hb d_CM_fill_41 (by decide) (fun c_3 => ?_) (fun c_3 => ?_)
            · have c_3 := (nI_leI (a := ((mv_sz V) T)) (b := k) (by omega) (by omega)).mp c_3
              have hVF : V = mv_fL (mL L T) S T i nd (mv_sz V0 T) V0 0 0 := (mv_fL_z (by omega)).symm.trans hF
              refine lv_aload_n hx hb d_CM_fill_154 rfl (lv_at hl 3 rfl) ?_
              refine va_get (D := (dC, dI)) (ci := 4) (v := .ref (ad 4)) (C := R_CM) (T := F_CM) (N := 27) hx hb hT i_CM hown hK hP 0 rfl rfl 8 (by decide) (hT _ m_479) (fun _ h9 => h9) rfl d_CM_fill_155 ?_
              refine lv_bipush (v := 64) hx hb d_CM_fill_158 (by decide) ?_
              refine lv_iload_n hx hb d_CM_fill_160 rfl (lv_at hl 4 rfl) ?_
              refine lv_imul hx hb d_CM_fill_161 ?_
              refine W.eq (g2 := F0 m 162 ls [.int (nI (64 * T)), .ref (ad 4)]) (congrArg (fun q9 : Int32 => F0 m 162 ls (.int q9 :: .ref (ad 4) :: [])) (pk_mul 64 T)) ?_
              refine lv_iload hx hb d_CM_fill_162 (lv_at hl 7 rfl) ?_
              refine lv_iadd hx hb d_CM_fill_164 ?_
              refine W.eq (g2 := F0 m 165 ls [.int (nI ((64 * T) + nd)), .ref (ad 4)]) (congrArg (fun q9 : Int32 => F0 m 165 ls (.int q9 :: .ref (ad 4) :: [])) (nI_add (64 * T) nd)) ?_
              refine lv_dup2_11 hx hb d_CM_fill_165 rfl rfl ?_
              refine va_iald hx hb hK hP 4 0 rfl rfl (vp_in_nI (n := ((64 * T) + nd)) (by omega) (by omega)) d_CM_fill_166 ?_
              refine W.eq (g2 := F0 m 167 ls [.int ((mv_ct V) ((64 * T) + nd)), .int (nI ((64 * T) + nd)), .ref (ad 4)]) (by rw [nI_clamp (n := ((64 * T) + nd)) (by omega)] <;> rfl) ?_
              refine lv_iconst (v := 1) hx hb d_CM_fill_167 (by decide) ?_
              refine lv_iadd hx hb d_CM_fill_168 ?_
              refine va_iast hx hb hK hP hD hS 4 0 rfl rfl (vp_in_nI (n := ((64 * T) + nd)) (by omega) (by omega)) d_CM_fill_169 (fun H locs hP hD hS => ?_)
              rw [nI_clamp (n := ((64 * T) + nd)) (by omega)] at hP hD
              have hP : va_P (dC, dI) kCl (mw_ cI cJ ad L S C key th most asked td tr (mv_mk (mv_bl V) (mv_lf V) (mv_vl V) (upd (mv_ct V) ((64 * T) + nd) (((mv_ct V) ((64 * T) + nd)) + 1)) (mv_sb V) (mv_sl V) (mv_sv V) (mv_sz V) (mv_ml V)) (o)) H := hP
              have hD : va_D A (mw_ cI cJ ad L S C key th most asked td tr (mv_mk (mv_bl V) (mv_lf V) (mv_vl V) (upd (mv_ct V) ((64 * T) + nd) (((mv_ct V) ((64 * T) + nd)) + 1)) (mv_sb V) (mv_sl V) (mv_sv V) (mv_sz V) (mv_ml V)) (o)) := hD
              have hP : va_P (dC, dI) kCl (mw_ cI cJ ad L S C key th most asked td tr (mv_cnt V (64 * T + nd)) (o)) H := hP
              have hD : va_D A (mw_ cI cJ ad L S C key th most asked td tr (mv_cnt V (64 * T + nd)) (o)) := hD
              rw [hVF, ← hV0, hnd] at hP hD
              have hP : va_P (dC, dI) kCl (mw_ cI cJ ad L S C key th most asked td tr (lp_ (mv_fU (mL L T) S T lf) (i + 1) v) (o)) H := hP
              have hD : va_D A (mw_ cI cJ ad L S C key th most asked td tr (lp_ (mv_fU (mL L T) S T lf) (i + 1) v) (o)) := hD
              refine lv_iinc (v := nI (i + 1)) (lv' := [(4, .int (nI (i + 1))), (7, .int (nI k)), (6, .int (nI q)), (0, .ref (ad 0)), (1, .int (nI T)), (2, .int (nI lf)), (3, .int (nI (mL L T))), (5, .int (nI nd))]) hx hb d_CM_fill_170 hl (k := 2) rfl (nI_1 i) (by decide) rfl (fun ls hl => ?_)
              refine lv_goto (tgt := 9) hx hb d_CM_fill_173 (by decide) ?_
              exact ih1 (i + 1) ls H locs (by omega) (by omega) hP hD hS (lv_sub hl [0, 3, 4, 5, 6] rfl)
            · have c_3 := (not_congr (nI_leI (a := ((mv_sz V) T)) (b := k) (by omega) (by omega))).mp c_3
              refine lv_iload hx hb d_CM_fill_44 (lv_at hl 1 rfl) ?_
              refine lv_aload_n hx hb d_CM_fill_46 rfl (lv_at hl 3 rfl) ?_
              refine va_get (D := (dC, dI)) (ci := 4) (v := .int (nI S)) (C := R_CM) (T := F_CM) (N := 27) hx hb hT i_CM hown hK hP 0 rfl rfl 2 (by decide) (hT _ m_473) (fun _ h9 => h9) rfl d_CM_fill_47 ?_
              refine lv_icmp_ge (tgt := 154) hx hb d_CM_fill_50 (by decide) (fun c_4 => ?_) (fun c_4 => ?_)
              · have c_4 := (nI_leI (a := S) (b := q) (by omega) (by omega)).mp c_4
                have hVF : V = mv_fL (mL L T) S T i nd (mv_sz V0 T) V0 0 0 := (mv_fL_f (by omega)).symm.trans hF
                refine lv_aload_n hx hb d_CM_fill_154 rfl (lv_at hl 3 rfl) ?_
                refine va_get (D := (dC, dI)) (ci := 4) (v := .ref (ad 4)) (C := R_CM) (T := F_CM) (N := 27) hx hb hT i_CM hown hK hP 0 rfl rfl 8 (by decide) (hT _ m_479) (fun _ h9 => h9) rfl d_CM_fill_155 ?_
                refine lv_bipush (v := 64) hx hb d_CM_fill_158 (by decide) ?_
                refine lv_iload_n hx hb d_CM_fill_160 rfl (lv_at hl 4 rfl) ?_
                refine lv_imul hx hb d_CM_fill_161 ?_
                refine W.eq (g2 := F0 m 162 ls [.int (nI (64 * T)), .ref (ad 4)]) (congrArg (fun q9 : Int32 => F0 m 162 ls (.int q9 :: .ref (ad 4) :: [])) (pk_mul 64 T)) ?_
                refine lv_iload hx hb d_CM_fill_162 (lv_at hl 7 rfl) ?_
                refine lv_iadd hx hb d_CM_fill_164 ?_
                refine W.eq (g2 := F0 m 165 ls [.int (nI ((64 * T) + nd)), .ref (ad 4)]) (congrArg (fun q9 : Int32 => F0 m 165 ls (.int q9 :: .ref (ad 4) :: [])) (nI_add (64 * T) nd)) ?_
                refine lv_dup2_11 hx hb d_CM_fill_165 rfl rfl ?_
                refine va_iald hx hb hK hP 4 0 rfl rfl (vp_in_nI (n := ((64 * T) + nd)) (by omega) (by omega)) d_CM_fill_166 ?_
                refine W.eq (g2 := F0 m 167 ls [.int ((mv_ct V) ((64 * T) + nd)), .int (nI ((64 * T) + nd)), .ref (ad 4)]) (by rw [nI_clamp (n := ((64 * T) + nd)) (by omega)] <;> rfl) ?_
                refine lv_iconst (v := 1) hx hb d_CM_fill_167 (by decide) ?_
                refine lv_iadd hx hb d_CM_fill_168 ?_
                refine va_iast hx hb hK hP hD hS 4 0 rfl rfl (vp_in_nI (n := ((64 * T) + nd)) (by omega) (by omega)) d_CM_fill_169 (fun H locs hP hD hS => ?_)
                rw [nI_clamp (n := ((64 * T) + nd)) (by omega)] at hP hD
                have hP : va_P (dC, dI) kCl (mw_ cI cJ ad L S C key th most asked td tr (mv_mk (mv_bl V) (mv_lf V) (mv_vl V) (upd (mv_ct V) ((64 * T) + nd) (((mv_ct V) ((64 * T) + nd)) + 1)) (mv_sb V) (mv_sl V) (mv_sv V) (mv_sz V) (mv_ml V)) (o)) H := hP
                have hD : va_D A (mw_ cI cJ ad L S C key th most asked td tr (mv_mk (mv_bl V) (mv_lf V) (mv_vl V) (upd (mv_ct V) ((64 * T) + nd) (((mv_ct V) ((64 * T) + nd)) + 1)) (mv_sb V) (mv_sl V) (mv_sv V) (mv_sz V) (mv_ml V)) (o)) := hD
                have hP : va_P (dC, dI) kCl (mw_ cI cJ ad L S C key th most asked td tr (mv_cnt V (64 * T + nd)) (o)) H := hP
                have hD : va_D A (mw_ cI cJ ad L S C key th most asked td tr (mv_cnt V (64 * T + nd)) (o)) := hD
                rw [hVF, ← hV0, hnd] at hP hD
                have hP : va_P (dC, dI) kCl (mw_ cI cJ ad L S C key th most asked td tr (lp_ (mv_fU (mL L T) S T lf) (i + 1) v) (o)) H := hP
                have hD : va_D A (mw_ cI cJ ad L S C key th most asked td tr (lp_ (mv_fU (mL L T) S T lf) (i + 1) v) (o)) := hD
                refine lv_iinc (v := nI (i + 1)) (lv' := [(4, .int (nI (i + 1))), (7, .int (nI k)), (6, .int (nI q)), (0, .ref (ad 0)), (1, .int (nI T)), (2, .int (nI lf)), (3, .int (nI (mL L T))), (5, .int (nI nd))]) hx hb d_CM_fill_170 hl (k := 2) rfl (nI_1 i) (by decide) rfl (fun ls hl => ?_)
                refine lv_goto (tgt := 9) hx hb d_CM_fill_173 (by decide) ?_
                exact ih1 (i + 1) ls H locs (by omega) (by omega) hP hD hS (lv_sub hl [0, 3, 4, 5, 6] rfl)
              · have c_4 := (not_congr (nI_leI (a := S) (b := q) (by omega) (by omega))).mp c_4
                refine lv_bipush (v := 80) hx hb d_CM_fill_53 (by decide) ?_
                refine lv_iload_n hx hb d_CM_fill_55 rfl (lv_at hl 4 rfl) ?_
                refine lv_imul hx hb d_CM_fill_56 ?_
                refine W.eq (g2 := F0 m 57 ls [.int (nI (80 * T))]) (congrArg (fun q9 : Int32 => F0 m 57 ls (.int q9 :: [])) (pk_mul 80 T)) ?_
                refine lv_iload hx hb d_CM_fill_57 (lv_at hl 0 rfl) ?_
                refine lv_iadd hx hb d_CM_fill_59 ?_
                refine W.eq (g2 := F0 m 60 ls [.int (nI ((80 * T) + k))]) (congrArg (fun q9 : Int32 => F0 m 60 ls (.int q9 :: [])) (nI_add (80 * T) k)) ?_
                refine lv_istore (lv' := [(8, .int (nI ((80 * T) + k))), (7, .int (nI k)), (6, .int (nI q)), (4, .int (nI i)), (0, .ref (ad 0)), (1, .int (nI T)), (2, .int (nI lf)), (3, .int (nI (mL L T))), (5, .int (nI nd))]) hx hb d_CM_fill_60 hl (by decide) rfl (fun ls hl => ?_)
                refine lv_aload_n hx hb d_CM_fill_62 rfl (lv_at hl 4 rfl) ?_
                refine lv_iload_n hx hb d_CM_fill_63 rfl (lv_at hl 5 rfl) ?_
                refine zc_i (va_runV (As := [.int (nI T)]) (rest := []) ⟨hx, hb, hml, hown, hT⟩ (c_CM_leavesOf ok hP T (by omega)) (cwV 1 hT (gi_V m_466 m_463 m_465 m_9 m_27) rfl rfl rfl p_CM_leavesOf ⟨Nat.le_of_ble_eq_true rfl, Nat.le_of_ble_eq_true rfl⟩) ⟨zP_blind, va_recv hK hP (ci := 4) (q0 := 0) rfl rfl, zP_pre hK⟩ rfl rfl hl.1 rfl (lv_room (Nat.le_of_ble_eq_true rfl)) d_CM_fill_64 ⟨Nat.le_refl _, Nat.le_refl _⟩) hS (fun locs hS => ?_)
                refine lv_aload_n hx hb d_CM_fill_67 rfl (lv_at hl 4 rfl) ?_
                refine va_get (D := (dC, dI)) (ci := 4) (v := .ref (ad 6)) (C := R_CM) (T := F_CM) (N := 27) hx hb hT i_CM hown hK hP 0 rfl rfl 10 (by decide) (hT _ m_481) (fun _ h9 => h9) rfl d_CM_fill_68 ?_
                refine lv_iload hx hb d_CM_fill_71 (lv_at hl 0 rfl) ?_
                refine va_iald hx hb hK hP 6 0 rfl rfl (vp_in_nI (n := ((80 * T) + k)) (by omega) (by omega)) d_CM_fill_73 ?_
                refine W.eq (g2 := F0 m 74 ls [.int ((mv_sl V) ((80 * T) + k)), .int (nI (2 ^ mL L T))]) (by rw [nI_clamp (n := ((80 * T) + k)) (by omega)] <;> rfl) ?_
                refine lv_iadd hx hb d_CM_fill_74 ?_
                refine lv_iload hx hb d_CM_fill_75 (lv_at hl 3 rfl) ?_
                refine lv_ishr hx hb d_CM_fill_77 ?_
                refine lv_iload hx hb d_CM_fill_78 (lv_at hl 8 rfl) ?_
                refine lv_icmp_ne (tgt := 148) hx hb d_CM_fill_80 (by decide) (fun c_5 => ?_) (fun c_5 => ?_)
                · have hc80 := c_5
                  refine lv_iinc (v := nI (k + 1)) (lv' := [(7, .int (nI (k + 1))), (8, .int (nI ((80 * T) + k))), (6, .int (nI q)), (4, .int (nI i)), (0, .ref (ad 0)), (1, .int (nI T)), (2, .int (nI lf)), (3, .int (nI (mL L T))), (5, .int (nI nd))]) hx hb d_CM_fill_148 hl (k := 1) rfl (nI_1 k) (by decide) rfl (fun ls hl => ?_)
                  refine lv_goto (tgt := 33) hx hb d_CM_fill_151 (by decide) ?_
                  exact ih2 V (k + 1) q ls H locs (by omega) (by omega) (by omega) (by omega) ((mv_fL_n (by omega) (by omega) hc80).symm.trans hF) hP hD hS (lv_sub hl [0, 2, 3, 4, 5, 6, 7, 8] rfl)
                · have hc80 := c_5
                  refine lv_iload_n hx hb d_CM_fill_83 rfl (lv_at hl 5 rfl) ?_
                  refine lv_iload hx hb d_CM_fill_84 (lv_at hl 8 rfl) ?_
                  refine lv_iload hx hb d_CM_fill_86 (lv_at hl 2 rfl) ?_
                  refine zc_i (va_runS (As := [.int (nI T), .int (nI nd), .int (nI q)]) (rest := []) ⟨hx, hb, hml, hown, hT⟩ (c_CM_place T nd q) (cwS 3 hT (gi_S m_575 m_573 m_574 m_27) rfl rfl rfl p_CM_place ⟨Nat.le_of_ble_eq_true rfl, Nat.le_of_ble_eq_true rfl⟩) ⟨zP_blind, zP_pre hK⟩ rfl rfl hl.1 rfl (lv_room (Nat.le_of_ble_eq_true rfl)) d_CM_fill_88 ⟨Nat.le_refl _, Nat.le_refl _⟩) hS (fun locs hS => ?_)
                  refine lv_istore (lv' := [(9, .int (nI (256 * T + 4 * nd + q))), (8, .int (nI ((80 * T) + k))), (7, .int (nI k)), (6, .int (nI q)), (4, .int (nI i)), (0, .ref (ad 0)), (1, .int (nI T)), (2, .int (nI lf)), (3, .int (nI (mL L T))), (5, .int (nI nd))]) hx hb d_CM_fill_91 hl (by decide) rfl (fun ls hl => ?_)
                  refine lv_aload_n hx hb d_CM_fill_93 rfl (lv_at hl 5 rfl) ?_
                  refine va_get (D := (dC, dI)) (ci := 4) (v := .ref (ad 1)) (C := R_CM) (T := F_CM) (N := 27) hx hb hT i_CM hown hK hP 0 rfl rfl 5 (by decide) (hT _ m_476) (fun _ h9 => h9) rfl d_CM_fill_94 ?_
                  refine lv_iload hx hb d_CM_fill_97 (lv_at hl 0 rfl) ?_
                  refine lv_aload_n hx hb d_CM_fill_99 rfl (lv_at hl 5 rfl) ?_
                  refine va_get (D := (dC, dI)) (ci := 4) (v := .ref (ad 5)) (C := R_CM) (T := F_CM) (N := 27) hx hb hT i_CM hown hK hP 0 rfl rfl 9 (by decide) (hT _ m_480) (fun _ h9 => h9) rfl d_CM_fill_100 ?_
                  refine lv_iload hx hb d_CM_fill_103 (lv_at hl 1 rfl) ?_
                  refine va_iald hx hb hK hP 5 0 rfl rfl (vp_in_nI (n := ((80 * T) + k)) (by omega) (by omega)) d_CM_fill_105 ?_
                  refine W.eq (g2 := F0 m 106 ls [.int ((mv_sb V) ((80 * T) + k)), .int (nI (256 * T + 4 * nd + q)), .ref (ad 1)]) (by rw [nI_clamp (n := ((80 * T) + k)) (by omega)] <;> rfl) ?_
                  refine va_iast hx hb hK hP hD hS 1 0 rfl rfl (vp_in_nI (n := (256 * T + 4 * nd + q)) (by omega) (by omega)) d_CM_fill_106 (fun H locs hP hD hS => ?_)
                  rw [nI_clamp (n := (256 * T + 4 * nd + q)) (by omega)] at hP hD
                  have hP : va_P (dC, dI) kCl (mw_ cI cJ ad L S C key th most asked td tr (mv_mk (upd (mv_bl V) (256 * T + 4 * nd + q) ((mv_sb V) ((80 * T) + k))) (mv_lf V) (mv_vl V) (mv_ct V) (mv_sb V) (mv_sl V) (mv_sv V) (mv_sz V) (mv_ml V)) (o)) H := hP
                  have hD : va_D A (mw_ cI cJ ad L S C key th most asked td tr (mv_mk (upd (mv_bl V) (256 * T + 4 * nd + q) ((mv_sb V) ((80 * T) + k))) (mv_lf V) (mv_vl V) (mv_ct V) (mv_sb V) (mv_sl V) (mv_sv V) (mv_sz V) (mv_ml V)) (o)) := hD
                  refine lv_aload_n hx hb d_CM_fill_107 rfl (lv_at hl 5 rfl) ?_
                  refine va_get (D := (dC, dI)) (ci := 4) (v := .ref (ad 2)) (C := R_CM) (T := F_CM) (N := 27) hx hb hT i_CM hown hK hP 0 rfl rfl 6 (by decide) (hT _ m_477) (fun _ h9 => h9) rfl d_CM_fill_108 ?_
                  refine lv_iload hx hb d_CM_fill_111 (lv_at hl 0 rfl) ?_
                  refine lv_aload_n hx hb d_CM_fill_113 rfl (lv_at hl 5 rfl) ?_
                  refine va_get (D := (dC, dI)) (ci := 4) (v := .ref (ad 6)) (C := R_CM) (T := F_CM) (N := 27) hx hb hT i_CM hown hK hP 0 rfl rfl 10 (by decide) (hT _ m_481) (fun _ h9 => h9) rfl d_CM_fill_114 ?_
                  refine lv_iload hx hb d_CM_fill_117 (lv_at hl 1 rfl) ?_
                  refine va_iald hx hb hK hP 6 0 rfl rfl (vp_in_nI (n := ((80 * T) + k)) (by omega) (by omega)) d_CM_fill_119 ?_
                  refine W.eq (g2 := F0 m 120 ls [.int ((mv_sl V) ((80 * T) + k)), .int (nI (256 * T + 4 * nd + q)), .ref (ad 2)]) (by rw [nI_clamp (n := ((80 * T) + k)) (by omega)] <;> rfl) ?_
                  refine va_iast hx hb hK hP hD hS 2 0 rfl rfl (vp_in_nI (n := (256 * T + 4 * nd + q)) (by omega) (by omega)) d_CM_fill_120 (fun H locs hP hD hS => ?_)
                  rw [nI_clamp (n := (256 * T + 4 * nd + q)) (by omega)] at hP hD
                  have hP : va_P (dC, dI) kCl (mw_ cI cJ ad L S C key th most asked td tr (mv_mk (upd (mv_bl V) (256 * T + 4 * nd + q) ((mv_sb V) ((80 * T) + k))) (upd (mv_lf V) (256 * T + 4 * nd + q) ((mv_sl V) ((80 * T) + k))) (mv_vl V) (mv_ct V) (mv_sb V) (mv_sl V) (mv_sv V) (mv_sz V) (mv_ml V)) (o)) H := hP
                  have hD : va_D A (mw_ cI cJ ad L S C key th most asked td tr (mv_mk (upd (mv_bl V) (256 * T + 4 * nd + q) ((mv_sb V) ((80 * T) + k))) (upd (mv_lf V) (256 * T + 4 * nd + q) ((mv_sl V) ((80 * T) + k))) (mv_vl V) (mv_ct V) (mv_sb V) (mv_sl V) (mv_sv V) (mv_sz V) (mv_ml V)) (o)) := hD
                  refine lv_aload_n hx hb d_CM_fill_121 rfl (lv_at hl 5 rfl) ?_
                  refine va_get (D := (dC, dI)) (ci := 4) (v := .ref (ad 3)) (C := R_CM) (T := F_CM) (N := 27) hx hb hT i_CM hown hK hP 0 rfl rfl 7 (by decide) (hT _ m_478) (fun _ h9 => h9) rfl d_CM_fill_122 ?_
                  refine lv_iload hx hb d_CM_fill_125 (lv_at hl 0 rfl) ?_
                  refine lv_aload_n hx hb d_CM_fill_127 rfl (lv_at hl 5 rfl) ?_
                  refine va_get (D := (dC, dI)) (ci := 4) (v := .ref (ad 7)) (C := R_CM) (T := F_CM) (N := 27) hx hb hT i_CM hown hK hP 0 rfl rfl 11 (by decide) (hT _ m_482) (fun _ h9 => h9) rfl d_CM_fill_128 ?_
                  refine lv_iload hx hb d_CM_fill_131 (lv_at hl 1 rfl) ?_
                  refine va_lald hx hb hK hP 7 1 rfl rfl (vp_in_nI (n := ((80 * T) + k)) (by omega) (by omega)) d_CM_fill_133 ?_
                  refine W.eq (g2 := F0 m 134 ls [.long ((mv_sv V) ((80 * T) + k)), .int (nI (256 * T + 4 * nd + q)), .ref (ad 3)]) (by rw [nI_clamp (n := ((80 * T) + k)) (by omega)] <;> rfl) ?_
                  refine va_last hx hb hK hP hD hS 3 1 rfl rfl (vp_in_nI (n := (256 * T + 4 * nd + q)) (by omega) (by omega)) d_CM_fill_134 (fun H locs hP hD hS => ?_)
                  rw [nI_clamp (n := (256 * T + 4 * nd + q)) (by omega)] at hP hD
                  have hP : va_P (dC, dI) kCl (mw_ cI cJ ad L S C key th most asked td tr (mv_mk (upd (mv_bl V) (256 * T + 4 * nd + q) ((mv_sb V) ((80 * T) + k))) (upd (mv_lf V) (256 * T + 4 * nd + q) ((mv_sl V) ((80 * T) + k))) (vp_updL (mv_vl V) (256 * T + 4 * nd + q) ((mv_sv V) ((80 * T) + k))) (mv_ct V) (mv_sb V) (mv_sl V) (mv_sv V) (mv_sz V) (mv_ml V)) (o)) H := hP
                  have hD : va_D A (mw_ cI cJ ad L S C key th most asked td tr (mv_mk (upd (mv_bl V) (256 * T + 4 * nd + q) ((mv_sb V) ((80 * T) + k))) (upd (mv_lf V) (256 * T + 4 * nd + q) ((mv_sl V) ((80 * T) + k))) (vp_updL (mv_vl V) (256 * T + 4 * nd + q) ((mv_sv V) ((80 * T) + k))) (mv_ct V) (mv_sb V) (mv_sl V) (mv_sv V) (mv_sz V) (mv_ml V)) (o)) := hD
                  have hP : va_P (dC, dI) kCl (mw_ cI cJ ad L S C key th most asked td tr (mv_put V (256 * T + 4 * nd + q) (80 * T + k)) (o)) H := hP
                  have hD : va_D A (mw_ cI cJ ad L S C key th most asked td tr (mv_put V (256 * T + 4 * nd + q) (80 * T + k)) (o)) := hD
                  refine lv_aload_n hx hb d_CM_fill_135 rfl (lv_at hl 5 rfl) ?_
                  refine lv_iload_n hx hb d_CM_fill_136 rfl (lv_at hl 6 rfl) ?_
                  refine lv_iload hx hb d_CM_fill_137 (lv_at hl 2 rfl) ?_
                  refine mc_v (va_runV (As := [.int (nI T), .int (nI k)]) (rest := []) ⟨hx, hb, hml, hown, hT⟩ (c_CM_pull ok (v := mv_put V (256 * T + 4 * nd + q) (80 * T + k)) T (by omega) k (show k < mv_sz V T by omega) (show mv_sz V T ≤ 80 by omega)) (cwV 2 hT (gi_V m_594 m_591 m_593 m_17 m_27) rfl rfl rfl p_CM_pull ⟨Nat.le_of_ble_eq_true rfl, Nat.le_of_ble_eq_true rfl⟩) ⟨mP_blind, va_recv hK hP (ci := 4) (q0 := 0) rfl rfl, mP_pre hK hP hD⟩ rfl rfl hl.1 rfl (lv_room (Nat.le_of_ble_eq_true rfl)) d_CM_fill_139 ⟨Nat.le_refl _, Nat.le_refl _⟩) hS (fun H locs hP hD hS => ?_)
                  have hP : va_P (dC, dI) kCl (mw_ cI cJ ad L S C key th most asked td tr (mv_pull (mv_put V (256 * T + 4 * nd + q) (80 * T + k)) T k) (o)) H := hP
                  have hD : va_D A (mw_ cI cJ ad L S C key th most asked td tr (mv_pull (mv_put V (256 * T + 4 * nd + q) (80 * T + k)) T k) (o)) := hD
                  have hzp : mv_sz (mv_pull (mv_put V (256 * T + 4 * nd + q) (80 * T + k)) T k) T = mv_sz V T - 1 := upN_s
                  refine lv_iinc (v := nI (q + 1)) (lv' := [(6, .int (nI (q + 1))), (9, .int (nI (256 * T + 4 * nd + q))), (8, .int (nI ((80 * T) + k))), (7, .int (nI k)), (4, .int (nI i)), (0, .ref (ad 0)), (1, .int (nI T)), (2, .int (nI lf)), (3, .int (nI (mL L T))), (5, .int (nI nd))]) hx hb d_CM_fill_142 hl (k := 3) rfl (nI_1 q) (by decide) rfl (fun ls hl => ?_)
                  refine lv_goto (tgt := 151) hx hb d_CM_fill_145 (by decide) ?_
                  refine lv_goto (tgt := 33) hx hb d_CM_fill_151 (by decide) ?_
                  exact ih2 (mv_pull (mv_put V (256 * T + 4 * nd + q) (80 * T + k)) T k) k (q + 1) ls H locs (by omega) (by omega) (by omega) (by omega) ((mv_fL_y (by omega) (by omega) hc80).symm.trans hF) hP hD hS (lv_sub hl [3, 0, 4, 5, 6, 7, 8, 9] rfl)
        exact lp2 ((mv_sz V0 T - 0) + 1) V0 0 0 ls _ _ (by omega) (by omega) (by omega) (by omega) rfl hP hD hS (lv_sub hl [0, 1, 3, 4, 5, 6, 7, 2] rfl)
  exact lp1 ((mL L T + 1 - 0) + 1) 0 ls _ _ (by omega) (by omega) hP hD hS (lv_sub hl [0, 2, 3, 4, 1] rfl)
