set_option maxHeartbeats 8000000 in
set_option maxRecDepth 100000 in
/-- CoinTree.ask -/
theorem c_CT_ask {l : Launch} (hl9 : l.stackTraces = false) {dC : Nat → ClassId} {dI : Nat → Nat → Nat} {cI cJ : ClassId} {A : Nat → Prop} {x ml : Nat} {a0 a1 : Nat → Nat} {L M S C : Nat} {key : Int64} {z : Cs} (ok0 : tr_ok L S C 64) (ok1 : tr_ok M S C 16) (ht0 : (ts_trail (cs_t0 z)).2 < 600) (ht1 : (ts_trail (cs_t1 z)).2 < 600) (b : Int32) (nw : Bool) (nv : Int64) (co mc : Int32) : vx_Met l y_CT_ask (k_CT_ask :: bw) { frames := 6, cells := 1, slots := 6, locals := 137 } (yP (dC, dI) kCl [(cI, .int), (cJ, .long)] [.ref x, .int b, .int (b2i nw), .long nv, .int co, .int mc] (cw_ cI cJ x ml a0 a1 L M S C key (cs_mk (cs_ml z) (cs_asked z) (cs_most z) (cs_t0 z) (cs_t1 z))) A) (yQl (dC, dI) kCl (fun u => cw_ cI cJ x ml a0 a1 L M S C key u) (ak_ret L M S C z b nw nv co mc) A) (yX (dC, dI) kCl (fun u => cw_ cI cJ x ml a0 a1 L M S C key u) (ak_thr L M S C z b nw nv co mc) A) 1 6 A := by
  refine Met.ofX (own := "CoinTree") (by decide) rfl [.ref x, .int b, .int (b2i nw), .long nv, .int co, .int mc] (Nat.le_of_ble_eq_true rfl) (fun _ _ h => h.1) ?_
  intro p e s m below meth c ls C0 hex hv hl
  obtain ⟨hx, hb, hr, hml, hown, hT, hlocks⟩ := C0
  obtain ⟨-, hP, hK, hD, xe, hA⟩ := hv
  have hS : va_S A s.heap s.heap [] := va_S.rf
  have hl : lv_has ls 13 [(0, .ref x), (1, .int b), (2, .int (b2i nw)), (3, .long nv), (5, .int co), (6, .int mc)] := hl
  refine lv_iload_n hx hb d_CT_ask_0 rfl (lv_at hl 1 rfl) ?_
  refine lv_if_lt (tgt := 10) hx hb d_CT_ask_1 (by decide) (fun c_1 => ?_) (fun c_1 => ?_)
  · exact xt_io hx hb hl9 hown hT xe hS (hl.1.trans hml.symm) (is := 127) (tx := "no such block") (by decide) d_CT_ask_10 d_CT_ask_13 d_CT_ask_14 d_CT_ask_16 d_CT_ask_19 hex (Nat.le_of_ble_eq_true rfl) (Nat.le_of_ble_eq_true rfl) (by decide) (by decide) hlocks hS.2.2 (by decide) (by decide) (fun t9 _ h1 h2 => yX_end (z) (Or.inl ⟨rfl, by first | exact Or.inl c_1 | exact Or.inr (Int32.not_lt.mp c_2), rfl⟩) rfl hP hD hS h1 h2)
  · refine lv_iload_n hx hb d_CT_ask_4 rfl (lv_at hl 1 rfl) ?_
    refine lv_bipush (v := 64) hx hb d_CT_ask_5 (by decide) ?_
    refine lv_icmp_lt (tgt := 20) hx hb d_CT_ask_7 (by decide) (fun c_2 => ?_) (fun c_2 => ?_)
    · obtain ⟨j, hj, rfl⟩ := ak_b c_1 c_2
      refine lv_aload_n hx hb d_CT_ask_20 rfl (lv_at hl 0 rfl) ?_
      refine va_get (D := (dC, dI)) (ci := 3) (v := .ref (a0 0)) (C := R_CT) (T := F_CT) (N := 8) hx hb hT i_CT hown hK hP 0 rfl rfl 3 (by decide) (hT _ m_145) (fun _ h9 => h9) rfl d_CT_ask_21 ?_
      refine lv_iload hx hb d_CT_ask_24 (lv_at hl 4 rfl) ?_
      refine zc_i (va_runV (As := [.int co]) (rest := []) ⟨hx, hb, hml, hown, hT⟩ (c_TR_hasLeaf (t := cs_t0 z) ok0 (hP.sub (ws' := tw_ cI cJ a0 L S C 64 (cs_t0 z)) [2, 3, 4, 5, 6, 7, 8, 9, 10, 11, 12, 13, 14, 15, 16, 17, 18] rfl) co) (cwV 1 hT (gi_V m_255 m_252 m_253 m_254 m_24) rfl rfl rfl p_TR_hasLeaf ⟨Nat.le_of_ble_eq_true rfl, Nat.le_of_ble_eq_true rfl⟩) ⟨zP_blind, va_recv hK hP (ci := 2) (q0 := 2) rfl rfl, zP_pre hK⟩ rfl rfl hl.1 rfl (lv_room (Nat.le_of_ble_eq_true rfl)) d_CT_ask_26 ⟨by decide, by decide⟩) hS (fun locs hS => ?_)
      refine lv_if_eq (tgt := 44) hx hb d_CT_ask_29 (by decide) (fun c_3 => ?_) (fun c_3 => ?_)
      · have hc0 := c_3
        exact xt_ia hx hb hl9 hown hT xe hS (hl.1.trans hml.symm) (is := 134) (tx := "a coin is no leaf of its tree") (by decide) d_CT_ask_44 d_CT_ask_47 d_CT_ask_48 d_CT_ask_50 d_CT_ask_53 hex (Nat.le_of_ble_eq_true rfl) (Nat.le_of_ble_eq_true rfl) (by decide) (by decide) hlocks hS.2.2 (by decide) (by decide) (fun t9 _ h1 h2 => yX_end (z) (Or.inr (Or.inl ⟨rfl, ⟨j, rfl, hj⟩, by first | exact Or.inl (b2i_0.mp hc0) | exact Or.inr (b2i_0.mp hc1), rfl⟩)) rfl hP hD hS h1 h2)
      · have hc0 := c_3
        refine lv_aload_n hx hb d_CT_ask_32 rfl (lv_at hl 0 rfl) ?_
        refine va_get (D := (dC, dI)) (ci := 3) (v := .ref (a1 0)) (C := R_CT) (T := F_CT) (N := 8) hx hb hT i_CT hown hK hP 0 rfl rfl 4 (by decide) (hT _ m_146) (fun _ h9 => h9) rfl d_CT_ask_33 ?_
        refine lv_iload hx hb d_CT_ask_36 (lv_at hl 5 rfl) ?_
        refine zc_i (va_runV (As := [.int mc]) (rest := []) ⟨hx, hb, hml, hown, hT⟩ (c_TR_hasLeaf (t := cs_t1 z) ok1 (hP.sub (ws' := tw_ cI cJ a1 M S C 16 (cs_t1 z)) [19, 20, 21, 22, 23, 24, 25, 26, 27, 28, 29, 30, 31, 32, 33, 34, 35] rfl) mc) (cwV 1 hT (gi_V m_255 m_252 m_253 m_254 m_24) rfl rfl rfl p_TR_hasLeaf ⟨Nat.le_of_ble_eq_true rfl, Nat.le_of_ble_eq_true rfl⟩) ⟨zP_blind, va_recv hK hP (ci := 2) (q0 := 19) rfl rfl, zP_pre hK⟩ rfl rfl hl.1 rfl (lv_room (Nat.le_of_ble_eq_true rfl)) d_CT_ask_38 ⟨by decide, by decide⟩) hS (fun locs hS => ?_)
        refine lv_if_ne (tgt := 54) hx hb d_CT_ask_41 (by decide) (fun c_4 => ?_) (fun c_4 => ?_)
        · have hc1 := c_4
          refine lv_iload_n hx hb d_CT_ask_54 rfl (lv_at hl 1 rfl) ?_
          refine lv_iconst (v := 4) hx hb d_CT_ask_55 (by decide) ?_
          refine lv_idiv hx hb d_CT_ask_56 (by decide) ?_
          refine W.eq (g2 := F0 m 57 ls [.int (nI (j / 4))]) (by rw [ak_div hj]) ?_
          refine lv_istore (lv' := [(7, .int (nI (j / 4))), (0, .ref x), (1, .int (nI j)), (2, .int (b2i nw)), (3, .long nv), (5, .int co), (6, .int mc)]) hx hb d_CT_ask_57 hl (by decide) rfl (fun ls hl => ?_)
          refine lv_iload_n hx hb d_CT_ask_59 rfl (lv_at hl 2 rfl) ?_
          refine lv_iconst (v := 4) hx hb d_CT_ask_60 (by decide) ?_
          refine lv_irem hx hb d_CT_ask_61 (by decide) ?_
          refine lv_bipush (v := 16) hx hb d_CT_ask_62 (by decide) ?_
          refine lv_imul hx hb d_CT_ask_64 ?_
          refine W.eq (g2 := F0 m 65 ls [.int (nI (j % 4 * 16))]) (by rw [ak_rem hj]) ?_
          refine lv_istore (lv' := [(8, .int (nI (j % 4 * 16))), (7, .int (nI (j / 4))), (0, .ref x), (1, .int (nI j)), (2, .int (b2i nw)), (3, .long nv), (5, .int co), (6, .int mc)]) hx hb d_CT_ask_65 hl (by decide) rfl (fun ls hl => ?_)
          refine lv_aload_n hx hb d_CT_ask_67 rfl (lv_at hl 2 rfl) ?_
          refine va_get (D := (dC, dI)) (ci := 3) (v := .ref (a1 0)) (C := R_CT) (T := F_CT) (N := 8) hx hb hT i_CT hown hK hP 0 rfl rfl 4 (by decide) (hT _ m_146) (fun _ h9 => h9) rfl d_CT_ask_68 ?_
          refine lv_iload hx hb d_CT_ask_71 (lv_at hl 1 rfl) ?_
          refine lv_aload_n hx hb d_CT_ask_73 rfl (lv_at hl 2 rfl) ?_
          refine va_get (D := (dC, dI)) (ci := 3) (v := .ref ml) (C := R_CT) (T := F_CT) (N := 8) hx hb hT i_CT hown hK hP 0 rfl rfl 5 (by decide) (hT _ m_147) (fun _ h9 => h9) rfl d_CT_ask_74 ?_
          refine lv_iload hx hb d_CT_ask_77 (lv_at hl 1 rfl) ?_
          refine va_iald hx hb hK hP 1 0 rfl rfl (vp_in_nI (by omega) (by omega)) d_CT_ask_79 ?_
          rw [nI_clamp (show j / 4 < 2 ^ 31 by omega)]
          refine tj_v (wr := (x, .inr (3, [.int (nI S), .int (nI C), .long key, .ref (a0 0), .ref (a1 0), .ref ml, .int (cs_asked z), .int (cs_most z)])) :: (ml, .inl (cI, 16, .inl (cs_ml z))) :: tw_ cI cJ a0 L S C 64 (cs_t0 z)) (va_runV (As := [.int (nI (j / 4)), .int ((cs_ml z) (j / 4))]) (rest := []) ⟨hx, hb, hml, hown, hT⟩ (c_TR_gather (A := va_A (tw_ cI cJ a1 M S C 16 (cs_t1 z)) s.heap.size) (t := cs_t1 z) ok1 (nI (j / 4)) ((cs_ml z) (j / 4))) (cwV 2 hT (gi_V m_275 m_272 m_273 m_274 m_24) rfl rfl rfl p_TR_gather ⟨Nat.le_of_ble_eq_true rfl, Nat.le_of_ble_eq_true rfl⟩) ⟨mP_blind, va_recv hK hP (ci := 2) (q0 := 19) rfl rfl, mP_pre hK (hP.sub (ws' := tw_ cI cJ a1 M S C 16 (cs_t1 z)) [19, 20, 21, 22, 23, 24, 25, 26, 27, 28, 29, 30, 31, 32, 33, 34, 35] rfl) (hD.sub (ws' := tw_ cI cJ a1 M S C 16 (cs_t1 z)) [19, 20, 21, 22, 23, 24, 25, 26, 27, 28, 29, 30, 31, 32, 33, 34, 35] (by decide) rfl).self⟩ rfl rfl hl.1 rfl (lv_room (Nat.le_of_ble_eq_true rfl)) d_CT_ask_80 ⟨by decide, by decide⟩) hS hA hP hD [19, 20, 21, 22, 23, 24, 25, 26, 27, 28, 29, 30, 31, 32, 33, 34, 35] [0, 1, 2, 3, 4, 5, 6, 7, 8, 9, 10, 11, 12, 13, 14, 15, 16, 17, 18] rfl rfl (by decide) (by decide) (fun H locs hP hD hS => ?_)
          have hP : va_P (dC, dI) kCl (((x, .inr (3, [.int (nI S), .int (nI C), .long key, .ref (a0 0), .ref (a1 0), .ref ml, .int (cs_asked z), .int (cs_most z)])) :: (ml, .inl (cI, 16, .inl (cs_ml z))) :: tw_ cI cJ a0 L S C 64 (cs_t0 z)) ++ tw_ cI cJ a1 M S C 16 (tr_gather M S C 16 (cs_t1 z) (nI (j / 4)) ((cs_ml z) (j / 4)))) H := hP
          have hD : va_D A (((x, .inr (3, [.int (nI S), .int (nI C), .long key, .ref (a0 0), .ref (a1 0), .ref ml, .int (cs_asked z), .int (cs_most z)])) :: (ml, .inl (cI, 16, .inl (cs_ml z))) :: tw_ cI cJ a0 L S C 64 (cs_t0 z)) ++ tw_ cI cJ a1 M S C 16 (tr_gather M S C 16 (cs_t1 z) (nI (j / 4)) ((cs_ml z) (j / 4)))) := hD
          obtain ⟨T1a, hT1a⟩ : ∃ T : Ts, T = tr_gather M S C 16 (cs_t1 z) (nI (j / 4)) ((cs_ml z) (j / 4)) := ⟨_, rfl⟩
          rw [← hT1a] at hP hD
          have hP : va_P (dC, dI) kCl (cw_ cI cJ x ml a0 a1 L M S C key (cs_mk (cs_ml z) (cs_asked z) (cs_most z) (cs_t0 z) T1a)) H := hP
          have hD : va_D A (cw_ cI cJ x ml a0 a1 L M S C key (cs_mk (cs_ml z) (cs_asked z) (cs_most z) (cs_t0 z) T1a)) := hD
          refine lv_aload_n hx hb d_CT_ask_83 rfl (lv_at hl 2 rfl) ?_
          refine va_get (D := (dC, dI)) (ci := 3) (v := .ref (a1 0)) (C := R_CT) (T := F_CT) (N := 8) hx hb hT i_CT hown hK hP 0 rfl rfl 4 (by decide) (hT _ m_146) (fun _ h9 => h9) rfl d_CT_ask_84 ?_
          refine zc_l (va_runV (As := []) (rest := []) ⟨hx, hb, hml, hown, hT⟩ (c_TR_soughtValue (t := T1a) ok1 (hP.sub (ws' := tw_ cI cJ a1 M S C 16 T1a) [19, 20, 21, 22, 23, 24, 25, 26, 27, 28, 29, 30, 31, 32, 33, 34, 35] rfl) ) (cwV 0 hT (gi_V m_324 m_321 m_322 m_323 m_24) rfl rfl rfl p_TR_soughtValue ⟨Nat.le_of_ble_eq_true rfl, Nat.le_of_ble_eq_true rfl⟩) ⟨zP_blind, va_recv hK hP (ci := 2) (q0 := 19) rfl rfl, zP_pre hK⟩ rfl rfl hl.1 rfl (lv_room (Nat.le_of_ble_eq_true rfl)) d_CT_ask_87 ⟨by decide, by decide⟩) hS (fun locs hS => ?_)
          refine lv_lstore (lv' := [(9, .long (rw_atL 16 (ts_plan T1a).2.2.1 (ts_sought T1a))), (8, .int (nI (j % 4 * 16))), (7, .int (nI (j / 4))), (0, .ref x), (1, .int (nI j)), (2, .int (b2i nw)), (3, .long nv), (5, .int co), (6, .int mc)]) hx hb d_CT_ask_90 hl (by decide) rfl (fun ls hl => ?_)
          refine lv_aload_n hx hb d_CT_ask_92 rfl (lv_at hl 3 rfl) ?_
          refine va_get (D := (dC, dI)) (ci := 3) (v := .ref (a1 0)) (C := R_CT) (T := F_CT) (N := 8) hx hb hT i_CT hown hK hP 0 rfl rfl 4 (by decide) (hT _ m_146) (fun _ h9 => h9) rfl d_CT_ask_93 ?_
          refine lv_iload hx hb d_CT_ask_96 (lv_at hl 8 rfl) ?_
          refine lv_lload hx hb d_CT_ask_98 (lv_at hl 0 rfl) ?_
          refine lv_iload hx hb d_CT_ask_100 (lv_at hl 1 rfl) ?_
          refine lv_iload hx hb d_CT_ask_102 (lv_at hl 7 rfl) ?_
          refine lv_iconst (v := 1) hx hb d_CT_ask_104 (by decide) ?_
          refine lv_iadd hx hb d_CT_ask_105 ?_
          refine zc_l (va_runS (As := [.long (rw_atL 16 (ts_plan T1a).2.2.1 (ts_sought T1a)), .int (nI (j % 4 * 16)), .int (co + 1)]) (rest := [.int mc, .ref (a1 0)]) ⟨hx, hb, hml, hown, hT⟩ (c_CT_withNumber (rw_atL 16 (ts_plan T1a).2.2.1 (ts_sought T1a)) (nI (j % 4 * 16)) (co + 1)) (cwS 3 hT (gi_S m_328 m_326 m_327 m_22) rfl rfl rfl p_CT_withNumber ⟨Nat.le_of_ble_eq_true rfl, Nat.le_of_ble_eq_true rfl⟩) ⟨zP_blind, zP_pre hK⟩ rfl rfl hl.1 rfl (lv_room (Nat.le_of_ble_eq_true rfl)) d_CT_ask_106 ⟨by decide, by decide⟩) hS (fun locs hS => ?_)
          refine tj_v (wr := (x, .inr (3, [.int (nI S), .int (nI C), .long key, .ref (a0 0), .ref (a1 0), .ref ml, .int (cs_asked z), .int (cs_most z)])) :: (ml, .inl (cI, 16, .inl (cs_ml z))) :: tw_ cI cJ a0 L S C 64 (cs_t0 z)) (va_runV (As := [.int mc, .long (ct_with (rw_atL 16 (ts_plan T1a).2.2.1 (ts_sought T1a)) (nI (j % 4 * 16)) (co + 1))]) (rest := []) ⟨hx, hb, hml, hown, hT⟩ (c_TR_settle (A := va_A (tw_ cI cJ a1 M S C 16 T1a) H.size) (t := T1a) ok1 mc (ct_with (rw_atL 16 (ts_plan T1a).2.2.1 (ts_sought T1a)) (nI (j % 4 * 16)) (co + 1))) (cwV 2 hT (gi_V m_334 m_331 m_332 m_333 m_24) rfl rfl rfl p_TR_settle ⟨Nat.le_of_ble_eq_true rfl, Nat.le_of_ble_eq_true rfl⟩) ⟨mP_blind, va_recv hK hP (ci := 2) (q0 := 19) rfl rfl, mP_pre hK (hP.sub (ws' := tw_ cI cJ a1 M S C 16 T1a) [19, 20, 21, 22, 23, 24, 25, 26, 27, 28, 29, 30, 31, 32, 33, 34, 35] rfl) (hD.sub (ws' := tw_ cI cJ a1 M S C 16 T1a) [19, 20, 21, 22, 23, 24, 25, 26, 27, 28, 29, 30, 31, 32, 33, 34, 35] (by decide) rfl).self⟩ rfl rfl hl.1 rfl (lv_room (Nat.le_of_ble_eq_true rfl)) d_CT_ask_109 ⟨by decide, by decide⟩) hS hA hP hD [19, 20, 21, 22, 23, 24, 25, 26, 27, 28, 29, 30, 31, 32, 33, 34, 35] [0, 1, 2, 3, 4, 5, 6, 7, 8, 9, 10, 11, 12, 13, 14, 15, 16, 17, 18] rfl rfl (by decide) (by decide) (fun H locs hP hD hS => ?_)
          have hP : va_P (dC, dI) kCl (((x, .inr (3, [.int (nI S), .int (nI C), .long key, .ref (a0 0), .ref (a1 0), .ref ml, .int (cs_asked z), .int (cs_most z)])) :: (ml, .inl (cI, 16, .inl (cs_ml z))) :: tw_ cI cJ a0 L S C 64 (cs_t0 z)) ++ tw_ cI cJ a1 M S C 16 (tr_settle 16 T1a mc (ct_with (rw_atL 16 (ts_plan T1a).2.2.1 (ts_sought T1a)) (nI (j % 4 * 16)) (co + 1)))) H := hP
          have hD : va_D A (((x, .inr (3, [.int (nI S), .int (nI C), .long key, .ref (a0 0), .ref (a1 0), .ref ml, .int (cs_asked z), .int (cs_most z)])) :: (ml, .inl (cI, 16, .inl (cs_ml z))) :: tw_ cI cJ a0 L S C 64 (cs_t0 z)) ++ tw_ cI cJ a1 M S C 16 (tr_settle 16 T1a mc (ct_with (rw_atL 16 (ts_plan T1a).2.2.1 (ts_sought T1a)) (nI (j % 4 * 16)) (co + 1)))) := hD
          obtain ⟨T1b, hT1b⟩ : ∃ T : Ts, T = tr_settle 16 T1a mc (ct_with (rw_atL 16 (ts_plan T1a).2.2.1 (ts_sought T1a)) (nI (j % 4 * 16)) (co + 1)) := ⟨_, rfl⟩
          rw [← hT1b] at hP hD
          have hP : va_P (dC, dI) kCl (cw_ cI cJ x ml a0 a1 L M S C key (cs_mk (cs_ml z) (cs_asked z) (cs_most z) (cs_t0 z) T1b)) H := hP
          have hD : va_D A (cw_ cI cJ x ml a0 a1 L M S C key (cs_mk (cs_ml z) (cs_asked z) (cs_most z) (cs_t0 z) T1b)) := hD
          refine lv_aload_n hx hb d_CT_ask_112 rfl (lv_at hl 3 rfl) ?_
          refine va_get (D := (dC, dI)) (ci := 3) (v := .ref (a0 0)) (C := R_CT) (T := F_CT) (N := 8) hx hb hT i_CT hown hK hP 0 rfl rfl 3 (by decide) (hT _ m_145) (fun _ h9 => h9) rfl d_CT_ask_113 ?_
          refine lv_iload_n hx hb d_CT_ask_116 rfl (lv_at hl 4 rfl) ?_
          refine lv_aload_n hx hb d_CT_ask_117 rfl (lv_at hl 3 rfl) ?_
          refine lv_lload hx hb d_CT_ask_118 (lv_at hl 0 rfl) ?_
          refine lv_iload hx hb d_CT_ask_120 (lv_at hl 1 rfl) ?_
          refine lv_iload_n hx hb d_CT_ask_122 rfl (lv_at hl 4 rfl) ?_
          refine zc_i (va_runV (As := [.long (rw_atL 16 (ts_plan T1a).2.2.1 (ts_sought T1a)), .int (nI (j % 4 * 16)), .int (nI j)]) (rest := [.int (nI j), .ref (a0 0)]) ⟨hx, hb, hml, hown, hT⟩ (c_CT_leafTold (z := cs_mk (cs_ml z) (cs_asked z) (cs_most z) (cs_t0 z) T1b) ok0 ok1 hP (rw_atL 16 (ts_plan T1a).2.2.1 (ts_sought T1a)) (nI (j % 4 * 16)) (nI j)) (cwV 3 hT (gi_V m_339 m_336 m_338 m_5 m_22) rfl rfl rfl p_CT_leafTold ⟨Nat.le_of_ble_eq_true rfl, Nat.le_of_ble_eq_true rfl⟩) ⟨zP_blind, va_recv hK hP (ci := 3) (q0 := 0) rfl rfl, zP_pre hK⟩ rfl rfl hl.1 rfl (lv_room (Nat.le_of_ble_eq_true rfl)) d_CT_ask_123 ⟨by decide, by decide⟩) hS (fun locs hS => ?_)
          refine tj_v (wr := (x, .inr (3, [.int (nI S), .int (nI C), .long key, .ref (a0 0), .ref (a1 0), .ref ml, .int (cs_asked z), .int (cs_most z)])) :: (ml, .inl (cI, 16, .inl (cs_ml z))) :: tw_ cI cJ a1 M S C 16 T1b) (va_runV (As := [.int (nI j), .int (ct_told L (rw_atL 16 (ts_plan T1a).2.2.1 (ts_sought T1a)) (nI (j % 4 * 16)) (nI j))]) (rest := []) ⟨hx, hb, hml, hown, hT⟩ (c_TR_gather (A := va_A (tw_ cI cJ a0 L S C 64 (cs_t0 z)) H.size) (t := cs_t0 z) ok0 (nI j) (ct_told L (rw_atL 16 (ts_plan T1a).2.2.1 (ts_sought T1a)) (nI (j % 4 * 16)) (nI j))) (cwV 2 hT (gi_V m_275 m_272 m_273 m_274 m_24) rfl rfl rfl p_TR_gather ⟨Nat.le_of_ble_eq_true rfl, Nat.le_of_ble_eq_true rfl⟩) ⟨mP_blind, va_recv hK hP (ci := 2) (q0 := 2) rfl rfl, mP_pre hK (hP.sub (ws' := tw_ cI cJ a0 L S C 64 (cs_t0 z)) [2, 3, 4, 5, 6, 7, 8, 9, 10, 11, 12, 13, 14, 15, 16, 17, 18] rfl) (hD.sub (ws' := tw_ cI cJ a0 L S C 64 (cs_t0 z)) [2, 3, 4, 5, 6, 7, 8, 9, 10, 11, 12, 13, 14, 15, 16, 17, 18] (by decide) rfl).self⟩ rfl rfl hl.1 rfl (lv_room (Nat.le_of_ble_eq_true rfl)) d_CT_ask_126 ⟨by decide, by decide⟩) hS hA hP hD [2, 3, 4, 5, 6, 7, 8, 9, 10, 11, 12, 13, 14, 15, 16, 17, 18] [0, 1, 19, 20, 21, 22, 23, 24, 25, 26, 27, 28, 29, 30, 31, 32, 33, 34, 35] rfl rfl (by decide) (by decide) (fun H locs hP hD hS => ?_)
          have hP : va_P (dC, dI) kCl (((x, .inr (3, [.int (nI S), .int (nI C), .long key, .ref (a0 0), .ref (a1 0), .ref ml, .int (cs_asked z), .int (cs_most z)])) :: (ml, .inl (cI, 16, .inl (cs_ml z))) :: tw_ cI cJ a1 M S C 16 T1b) ++ tw_ cI cJ a0 L S C 64 (tr_gather L S C 64 (cs_t0 z) (nI j) (ct_told L (rw_atL 16 (ts_plan T1a).2.2.1 (ts_sought T1a)) (nI (j % 4 * 16)) (nI j)))) H := hP
          have hD : va_D A (((x, .inr (3, [.int (nI S), .int (nI C), .long key, .ref (a0 0), .ref (a1 0), .ref ml, .int (cs_asked z), .int (cs_most z)])) :: (ml, .inl (cI, 16, .inl (cs_ml z))) :: tw_ cI cJ a1 M S C 16 T1b) ++ tw_ cI cJ a0 L S C 64 (tr_gather L S C 64 (cs_t0 z) (nI j) (ct_told L (rw_atL 16 (ts_plan T1a).2.2.1 (ts_sought T1a)) (nI (j % 4 * 16)) (nI j)))) := hD
          obtain ⟨T0a, hT0a⟩ : ∃ T : Ts, T = tr_gather L S C 64 (cs_t0 z) (nI j) (ct_told L (rw_atL 16 (ts_plan T1a).2.2.1 (ts_sought T1a)) (nI (j % 4 * 16)) (nI j)) := ⟨_, rfl⟩
          rw [← hT0a] at hP hD
          have hP := hP.sub (ws' := cw_ cI cJ x ml a0 a1 L M S C key (cs_mk (cs_ml z) (cs_asked z) (cs_most z) T0a T1b)) [0, 1, 19, 20, 21, 22, 23, 24, 25, 26, 27, 28, 29, 30, 31, 32, 33, 34, 35, 2, 3, 4, 5, 6, 7, 8, 9, 10, 11, 12, 13, 14, 15, 16, 17, 18] rfl
          have hD := hD.sub (ws' := cw_ cI cJ x ml a0 a1 L M S C key (cs_mk (cs_ml z) (cs_asked z) (cs_most z) T0a T1b)) [0, 1, 19, 20, 21, 22, 23, 24, 25, 26, 27, 28, 29, 30, 31, 32, 33, 34, 35, 2, 3, 4, 5, 6, 7, 8, 9, 10, 11, 12, 13, 14, 15, 16, 17, 18] (by decide) rfl
          refine lv_aload_n hx hb d_CT_ask_129 rfl (lv_at hl 3 rfl) ?_
          refine va_get (D := (dC, dI)) (ci := 3) (v := .ref (a0 0)) (C := R_CT) (T := F_CT) (N := 8) hx hb hT i_CT hown hK hP 0 rfl rfl 3 (by decide) (hT _ m_145) (fun _ h9 => h9) rfl d_CT_ask_130 ?_
          refine zc_l (va_runV (As := []) (rest := []) ⟨hx, hb, hml, hown, hT⟩ (c_TR_soughtValue (t := T0a) ok0 (hP.sub (ws' := tw_ cI cJ a0 L S C 64 T0a) [2, 3, 4, 5, 6, 7, 8, 9, 10, 11, 12, 13, 14, 15, 16, 17, 18] rfl) ) (cwV 0 hT (gi_V m_324 m_321 m_322 m_323 m_24) rfl rfl rfl p_TR_soughtValue ⟨Nat.le_of_ble_eq_true rfl, Nat.le_of_ble_eq_true rfl⟩) ⟨zP_blind, va_recv hK hP (ci := 2) (q0 := 2) rfl rfl, zP_pre hK⟩ rfl rfl hl.1 rfl (lv_room (Nat.le_of_ble_eq_true rfl)) d_CT_ask_133 ⟨by decide, by decide⟩) hS (fun locs hS => ?_)
          refine lv_lstore (lv' := [(11, .long (rw_atL 64 (ts_plan T0a).2.2.1 (ts_sought T0a))), (9, .long (rw_atL 16 (ts_plan T1a).2.2.1 (ts_sought T1a))), (8, .int (nI (j % 4 * 16))), (7, .int (nI (j / 4))), (0, .ref x), (1, .int (nI j)), (2, .int (b2i nw)), (3, .long nv), (5, .int co), (6, .int mc)]) hx hb d_CT_ask_136 hl (by decide) rfl (fun ls hl => ?_)
          refine lv_aload_n hx hb d_CT_ask_138 rfl (lv_at hl 4 rfl) ?_
          refine va_get (D := (dC, dI)) (ci := 3) (v := .ref (a0 0)) (C := R_CT) (T := F_CT) (N := 8) hx hb hT i_CT hown hK hP 0 rfl rfl 3 (by decide) (hT _ m_145) (fun _ h9 => h9) rfl d_CT_ask_139 ?_
          refine lv_iload hx hb d_CT_ask_142 (lv_at hl 8 rfl) ?_
          refine lv_iload_n hx hb d_CT_ask_144 rfl (lv_at hl 6 rfl) ?_
          refine lv_if_eq (tgt := 152) hx hb d_CT_ask_145 (by decide) (fun c_5 => ?_) (fun c_5 => ?_)
          · have c_4 := c_5
            refine lv_lload hx hb d_CT_ask_152 (lv_at hl 0 rfl) ?_
            have e154 : ((rw_atL 64 (ts_plan T0a).2.2.1 (ts_sought T0a)) : Int64) = (if nw = true then nv else (rw_atL 64 (ts_plan T0a).2.2.1 (ts_sought T0a))) := (if_neg (by rw [b2i_0.mp c_4]; decide)).symm
            refine W.eq (g2 := F0 m 154 ls [.long (if nw = true then nv else (rw_atL 64 (ts_plan T0a).2.2.1 (ts_sought T0a))), .int co, .ref (a0 0)]) (by rw [← e154]) ?_
            refine tj_v (wr := (x, .inr (3, [.int (nI S), .int (nI C), .long key, .ref (a0 0), .ref (a1 0), .ref ml, .int (cs_asked z), .int (cs_most z)])) :: (ml, .inl (cI, 16, .inl (cs_ml z))) :: tw_ cI cJ a1 M S C 16 T1b) (va_runV (As := [.int co, .long (if nw = true then nv else (rw_atL 64 (ts_plan T0a).2.2.1 (ts_sought T0a)))]) (rest := []) ⟨hx, hb, hml, hown, hT⟩ (c_TR_settle (A := va_A (tw_ cI cJ a0 L S C 64 T0a) H.size) (t := T0a) ok0 co (if nw = true then nv else (rw_atL 64 (ts_plan T0a).2.2.1 (ts_sought T0a)))) (cwV 2 hT (gi_V m_334 m_331 m_332 m_333 m_24) rfl rfl rfl p_TR_settle ⟨Nat.le_of_ble_eq_true rfl, Nat.le_of_ble_eq_true rfl⟩) ⟨mP_blind, va_recv hK hP (ci := 2) (q0 := 2) rfl rfl, mP_pre hK (hP.sub (ws' := tw_ cI cJ a0 L S C 64 T0a) [2, 3, 4, 5, 6, 7, 8, 9, 10, 11, 12, 13, 14, 15, 16, 17, 18] rfl) (hD.sub (ws' := tw_ cI cJ a0 L S C 64 T0a) [2, 3, 4, 5, 6, 7, 8, 9, 10, 11, 12, 13, 14, 15, 16, 17, 18] (by decide) rfl).self⟩ rfl rfl hl.1 rfl (lv_room (Nat.le_of_ble_eq_true rfl)) d_CT_ask_154 ⟨by decide, by decide⟩) hS hA hP hD [2, 3, 4, 5, 6, 7, 8, 9, 10, 11, 12, 13, 14, 15, 16, 17, 18] [0, 1, 19, 20, 21, 22, 23, 24, 25, 26, 27, 28, 29, 30, 31, 32, 33, 34, 35] rfl rfl (by decide) (by decide) (fun H locs hP hD hS => ?_)
            have hP : va_P (dC, dI) kCl (((x, .inr (3, [.int (nI S), .int (nI C), .long key, .ref (a0 0), .ref (a1 0), .ref ml, .int (cs_asked z), .int (cs_most z)])) :: (ml, .inl (cI, 16, .inl (cs_ml z))) :: tw_ cI cJ a1 M S C 16 T1b) ++ tw_ cI cJ a0 L S C 64 (tr_settle 64 T0a co (if nw = true then nv else (rw_atL 64 (ts_plan T0a).2.2.1 (ts_sought T0a))))) H := hP
            have hD : va_D A (((x, .inr (3, [.int (nI S), .int (nI C), .long key, .ref (a0 0), .ref (a1 0), .ref ml, .int (cs_asked z), .int (cs_most z)])) :: (ml, .inl (cI, 16, .inl (cs_ml z))) :: tw_ cI cJ a1 M S C 16 T1b) ++ tw_ cI cJ a0 L S C 64 (tr_settle 64 T0a co (if nw = true then nv else (rw_atL 64 (ts_plan T0a).2.2.1 (ts_sought T0a))))) := hD
            obtain ⟨T0b, hT0b⟩ : ∃ T : Ts, T = tr_settle 64 T0a co (if nw = true then nv else (rw_atL 64 (ts_plan T0a).2.2.1 (ts_sought T0a))) := ⟨_, rfl⟩
            rw [← hT0b] at hP hD
            have hP := hP.sub (ws' := cw_ cI cJ x ml a0 a1 L M S C key (cs_mk (cs_ml z) (cs_asked z) (cs_most z) T0b T1b)) [0, 1, 19, 20, 21, 22, 23, 24, 25, 26, 27, 28, 29, 30, 31, 32, 33, 34, 35, 2, 3, 4, 5, 6, 7, 8, 9, 10, 11, 12, 13, 14, 15, 16, 17, 18] rfl
            have hD := hD.sub (ws' := cw_ cI cJ x ml a0 a1 L M S C key (cs_mk (cs_ml z) (cs_asked z) (cs_most z) T0b T1b)) [0, 1, 19, 20, 21, 22, 23, 24, 25, 26, 27, 28, 29, 30, 31, 32, 33, 34, 35, 2, 3, 4, 5, 6, 7, 8, 9, 10, 11, 12, 13, 14, 15, 16, 17, 18] (by decide) rfl
            refine lv_aload_n hx hb d_CT_ask_157 rfl (lv_at hl 4 rfl) ?_
            refine va_get (D := (dC, dI)) (ci := 3) (v := .ref (a1 0)) (C := R_CT) (T := F_CT) (N := 8) hx hb hT i_CT hown hK hP 0 rfl rfl 4 (by decide) (hT _ m_146) (fun _ h9 => h9) rfl d_CT_ask_158 ?_
            refine tj_i (wr := (x, .inr (3, [.int (nI S), .int (nI C), .long key, .ref (a0 0), .ref (a1 0), .ref ml, .int (cs_asked z), .int (cs_most z)])) :: (ml, .inl (cI, 16, .inl (cs_ml z))) :: tw_ cI cJ a0 L S C 64 T0b) (va_runV (As := []) (rest := []) ⟨hx, hb, hml, hown, hT⟩ (c_TR_fits (A := va_A (tw_ cI cJ a1 M S C 16 T1b) H.size) (t := T1b) ok1 ) (cwV 0 hT (gi_V m_343 m_340 m_341 m_342 m_24) rfl rfl rfl p_TR_fits ⟨Nat.le_of_ble_eq_true rfl, Nat.le_of_ble_eq_true rfl⟩) ⟨mP_blind, va_recv hK hP (ci := 2) (q0 := 19) rfl rfl, mP_pre hK (hP.sub (ws' := tw_ cI cJ a1 M S C 16 T1b) [19, 20, 21, 22, 23, 24, 25, 26, 27, 28, 29, 30, 31, 32, 33, 34, 35] rfl) (hD.sub (ws' := tw_ cI cJ a1 M S C 16 T1b) [19, 20, 21, 22, 23, 24, 25, 26, 27, 28, 29, 30, 31, 32, 33, 34, 35] (by decide) rfl).self⟩ rfl rfl hl.1 rfl (lv_room (Nat.le_of_ble_eq_true rfl)) d_CT_ask_161 ⟨by decide, by decide⟩) hS hA hP hD [19, 20, 21, 22, 23, 24, 25, 26, 27, 28, 29, 30, 31, 32, 33, 34, 35] [0, 1, 2, 3, 4, 5, 6, 7, 8, 9, 10, 11, 12, 13, 14, 15, 16, 17, 18] rfl rfl (by decide) (by decide) (fun H locs hP hD hS => ?_)
            have hP : va_P (dC, dI) kCl (((x, .inr (3, [.int (nI S), .int (nI C), .long key, .ref (a0 0), .ref (a1 0), .ref ml, .int (cs_asked z), .int (cs_most z)])) :: (ml, .inl (cI, 16, .inl (cs_ml z))) :: tw_ cI cJ a0 L S C 64 T0b) ++ tw_ cI cJ a1 M S C 16 (tr_fits M S 16 T1b)) H := hP
            have hD : va_D A (((x, .inr (3, [.int (nI S), .int (nI C), .long key, .ref (a0 0), .ref (a1 0), .ref ml, .int (cs_asked z), .int (cs_most z)])) :: (ml, .inl (cI, 16, .inl (cs_ml z))) :: tw_ cI cJ a0 L S C 64 T0b) ++ tw_ cI cJ a1 M S C 16 (tr_fits M S 16 T1b)) := hD
            obtain ⟨T1c, hT1c⟩ : ∃ T : Ts, T = tr_fits M S 16 T1b := ⟨_, rfl⟩
            rw [← hT1c] at hP hD
            have hP : va_P (dC, dI) kCl (cw_ cI cJ x ml a0 a1 L M S C key (cs_mk (cs_ml z) (cs_asked z) (cs_most z) T0b T1c)) H := hP
            have hD : va_D A (cw_ cI cJ x ml a0 a1 L M S C key (cs_mk (cs_ml z) (cs_asked z) (cs_most z) T0b T1c)) := hD
            refine lv_if_eq (tgt := 177) hx hb d_CT_ask_164 (by decide) (fun c_6 => ?_) (fun c_6 => ?_)
            · have hf1 := c_6
              have k1a : T1a = ak_t1a M S C z j := hT1a
              have k1b : T1b = ak_t1b M S C z j co mc := by rw [hT1b, k1a]; rfl
              have k0a : T0a = ak_t0a L M S C z j := by rw [hT0a, k1a]; rfl
              have k0b : T0b = ak_t0b L M S C z j nw nv co := by rw [hT0b, k0a]; rfl
              have k1c : T1c = ak_t1c M S C z j co mc := by rw [hT1c, k1b]; rfl
              have kf1 : ak_f1 M S C z j co mc = decide ((tr_fit M S 16 T1b).2 ≤ nI C) := by rw [k1b]; rfl
              exact xt_uo hx hb hl9 hown hT xe hS (hl.1.trans hml.symm) (is := 163) (tx := "a tree would be full") (by decide) d_CT_ask_177 d_CT_ask_180 d_CT_ask_181 d_CT_ask_183 d_CT_ask_186 hex (Nat.le_of_ble_eq_true rfl) (Nat.le_of_ble_eq_true rfl) (by decide) (by decide) hlocks hS.2.2 (by decide) (by decide) (fun t9 _ h1 h2 => yX_end (cs_mk (cs_ml z) (cs_asked z) (cs_most z) T0b T1c) (Or.inr (Or.inr ⟨rfl, j, rfl, hj, b2i_n.mp hc0, b2i_n.mp hc1, Or.inl ⟨by rw [kf1]; exact b2i_0.mp hf1, by rw [k0b, k1c]⟩⟩)) rfl hP hD hS h1 h2)
            · have hf1 := c_6
              refine lv_aload_n hx hb d_CT_ask_167 rfl (lv_at hl 4 rfl) ?_
              refine va_get (D := (dC, dI)) (ci := 3) (v := .ref (a0 0)) (C := R_CT) (T := F_CT) (N := 8) hx hb hT i_CT hown hK hP 0 rfl rfl 3 (by decide) (hT _ m_145) (fun _ h9 => h9) rfl d_CT_ask_168 ?_
              refine tj_i (wr := (x, .inr (3, [.int (nI S), .int (nI C), .long key, .ref (a0 0), .ref (a1 0), .ref ml, .int (cs_asked z), .int (cs_most z)])) :: (ml, .inl (cI, 16, .inl (cs_ml z))) :: tw_ cI cJ a1 M S C 16 T1c) (va_runV (As := []) (rest := []) ⟨hx, hb, hml, hown, hT⟩ (c_TR_fits (A := va_A (tw_ cI cJ a0 L S C 64 T0b) H.size) (t := T0b) ok0 ) (cwV 0 hT (gi_V m_343 m_340 m_341 m_342 m_24) rfl rfl rfl p_TR_fits ⟨Nat.le_of_ble_eq_true rfl, Nat.le_of_ble_eq_true rfl⟩) ⟨mP_blind, va_recv hK hP (ci := 2) (q0 := 2) rfl rfl, mP_pre hK (hP.sub (ws' := tw_ cI cJ a0 L S C 64 T0b) [2, 3, 4, 5, 6, 7, 8, 9, 10, 11, 12, 13, 14, 15, 16, 17, 18] rfl) (hD.sub (ws' := tw_ cI cJ a0 L S C 64 T0b) [2, 3, 4, 5, 6, 7, 8, 9, 10, 11, 12, 13, 14, 15, 16, 17, 18] (by decide) rfl).self⟩ rfl rfl hl.1 rfl (lv_room (Nat.le_of_ble_eq_true rfl)) d_CT_ask_171 ⟨by decide, by decide⟩) hS hA hP hD [2, 3, 4, 5, 6, 7, 8, 9, 10, 11, 12, 13, 14, 15, 16, 17, 18] [0, 1, 19, 20, 21, 22, 23, 24, 25, 26, 27, 28, 29, 30, 31, 32, 33, 34, 35] rfl rfl (by decide) (by decide) (fun H locs hP hD hS => ?_)
              have hP : va_P (dC, dI) kCl (((x, .inr (3, [.int (nI S), .int (nI C), .long key, .ref (a0 0), .ref (a1 0), .ref ml, .int (cs_asked z), .int (cs_most z)])) :: (ml, .inl (cI, 16, .inl (cs_ml z))) :: tw_ cI cJ a1 M S C 16 T1c) ++ tw_ cI cJ a0 L S C 64 (tr_fits L S 64 T0b)) H := hP
              have hD : va_D A (((x, .inr (3, [.int (nI S), .int (nI C), .long key, .ref (a0 0), .ref (a1 0), .ref ml, .int (cs_asked z), .int (cs_most z)])) :: (ml, .inl (cI, 16, .inl (cs_ml z))) :: tw_ cI cJ a1 M S C 16 T1c) ++ tw_ cI cJ a0 L S C 64 (tr_fits L S 64 T0b)) := hD
              obtain ⟨T0c, hT0c⟩ : ∃ T : Ts, T = tr_fits L S 64 T0b := ⟨_, rfl⟩
              rw [← hT0c] at hP hD
              have hP := hP.sub (ws' := cw_ cI cJ x ml a0 a1 L M S C key (cs_mk (cs_ml z) (cs_asked z) (cs_most z) T0c T1c)) [0, 1, 19, 20, 21, 22, 23, 24, 25, 26, 27, 28, 29, 30, 31, 32, 33, 34, 35, 2, 3, 4, 5, 6, 7, 8, 9, 10, 11, 12, 13, 14, 15, 16, 17, 18] rfl
              have hD := hD.sub (ws' := cw_ cI cJ x ml a0 a1 L M S C key (cs_mk (cs_ml z) (cs_asked z) (cs_most z) T0c T1c)) [0, 1, 19, 20, 21, 22, 23, 24, 25, 26, 27, 28, 29, 30, 31, 32, 33, 34, 35, 2, 3, 4, 5, 6, 7, 8, 9, 10, 11, 12, 13, 14, 15, 16, 17, 18] (by decide) rfl
              refine lv_if_ne (tgt := 187) hx hb d_CT_ask_174 (by decide) (fun c_7 => ?_) (fun c_7 => ?_)
              · have hf0 := c_7
                have k1a : T1a = ak_t1a M S C z j := hT1a
                have k1b : T1b = ak_t1b M S C z j co mc := by rw [hT1b, k1a]; rfl
                have k0a : T0a = ak_t0a L M S C z j := by rw [hT0a, k1a]; rfl
                have k0b : T0b = ak_t0b L M S C z j nw nv co := by rw [hT0b, k0a]; rfl
                have k1c : T1c = ak_t1c M S C z j co mc := by rw [hT1c, k1b]; rfl
                have kf1 : ak_f1 M S C z j co mc = decide ((tr_fit M S 16 T1b).2 ≤ nI C) := by rw [k1b]; rfl
                have k0c : T0c = ak_t0c L M S C z j nw nv co := by rw [hT0c, k0b]; rfl
                have kf0 : ak_f0 L M S C z j nw nv co = decide ((tr_fit L S 64 T0b).2 ≤ nI C) := by rw [k0b]; rfl
                have hq1 : (ts_trail T1c).2 < 600 := by rw [hT1c, tr_fits_trail, hT1b, tr_settle_trail, hT1a, tr_gather_trail]; exact ht1
                have hq0 : (ts_trail T0c).2 < 600 := by rw [hT0c, tr_fits_trail, hT0b, tr_settle_trail, hT0a, tr_gather_trail]; exact ht0
                refine lv_aload_n hx hb d_CT_ask_187 rfl (lv_at hl 4 rfl) ?_
                refine va_get (D := (dC, dI)) (ci := 3) (v := .ref (a1 0)) (C := R_CT) (T := F_CT) (N := 8) hx hb hT i_CT hown hK hP 0 rfl rfl 4 (by decide) (hT _ m_146) (fun _ h9 => h9) rfl d_CT_ask_188 ?_
                refine tj_v (wr := (x, .inr (3, [.int (nI S), .int (nI C), .long key, .ref (a0 0), .ref (a1 0), .ref ml, .int (cs_asked z), .int (cs_most z)])) :: (ml, .inl (cI, 16, .inl (cs_ml z))) :: tw_ cI cJ a0 L S C 64 T0c) (va_runV (As := []) (rest := []) ⟨hx, hb, hml, hown, hT⟩ (c_TR_carryOut (A := va_A (tw_ cI cJ a1 M S C 16 T1c) H.size) (t := T1c) ok1 hq1) (cwV 0 hT (gi_V m_368 m_365 m_366 m_367 m_24) rfl rfl rfl p_TR_carryOut ⟨Nat.le_of_ble_eq_true rfl, Nat.le_of_ble_eq_true rfl⟩) ⟨mP_blind, va_recv hK hP (ci := 2) (q0 := 19) rfl rfl, mP_pre hK (hP.sub (ws' := tw_ cI cJ a1 M S C 16 T1c) [19, 20, 21, 22, 23, 24, 25, 26, 27, 28, 29, 30, 31, 32, 33, 34, 35] rfl) (hD.sub (ws' := tw_ cI cJ a1 M S C 16 T1c) [19, 20, 21, 22, 23, 24, 25, 26, 27, 28, 29, 30, 31, 32, 33, 34, 35] (by decide) rfl).self⟩ rfl rfl hl.1 rfl (lv_room (Nat.le_of_ble_eq_true rfl)) d_CT_ask_191 ⟨by decide, by decide⟩) hS hA hP hD [19, 20, 21, 22, 23, 24, 25, 26, 27, 28, 29, 30, 31, 32, 33, 34, 35] [0, 1, 2, 3, 4, 5, 6, 7, 8, 9, 10, 11, 12, 13, 14, 15, 16, 17, 18] rfl rfl (by decide) (by decide) (fun H locs hP hD hS => ?_)
                have hP : va_P (dC, dI) kCl (((x, .inr (3, [.int (nI S), .int (nI C), .long key, .ref (a0 0), .ref (a1 0), .ref ml, .int (cs_asked z), .int (cs_most z)])) :: (ml, .inl (cI, 16, .inl (cs_ml z))) :: tw_ cI cJ a0 L S C 64 T0c) ++ tw_ cI cJ a1 M S C 16 (tr_carry M S C 16 T1c)) H := hP
                have hD : va_D A (((x, .inr (3, [.int (nI S), .int (nI C), .long key, .ref (a0 0), .ref (a1 0), .ref ml, .int (cs_asked z), .int (cs_most z)])) :: (ml, .inl (cI, 16, .inl (cs_ml z))) :: tw_ cI cJ a0 L S C 64 T0c) ++ tw_ cI cJ a1 M S C 16 (tr_carry M S C 16 T1c)) := hD
                obtain ⟨T1d, hT1d⟩ : ∃ T : Ts, T = tr_carry M S C 16 T1c := ⟨_, rfl⟩
                rw [← hT1d] at hP hD
                have hP : va_P (dC, dI) kCl (cw_ cI cJ x ml a0 a1 L M S C key (cs_mk (cs_ml z) (cs_asked z) (cs_most z) T0c T1d)) H := hP
                have hD : va_D A (cw_ cI cJ x ml a0 a1 L M S C key (cs_mk (cs_ml z) (cs_asked z) (cs_most z) T0c T1d)) := hD
                refine lv_aload_n hx hb d_CT_ask_194 rfl (lv_at hl 4 rfl) ?_
                refine va_get (D := (dC, dI)) (ci := 3) (v := .ref (a0 0)) (C := R_CT) (T := F_CT) (N := 8) hx hb hT i_CT hown hK hP 0 rfl rfl 3 (by decide) (hT _ m_145) (fun _ h9 => h9) rfl d_CT_ask_195 ?_
                refine tj_v (wr := (x, .inr (3, [.int (nI S), .int (nI C), .long key, .ref (a0 0), .ref (a1 0), .ref ml, .int (cs_asked z), .int (cs_most z)])) :: (ml, .inl (cI, 16, .inl (cs_ml z))) :: tw_ cI cJ a1 M S C 16 T1d) (va_runV (As := []) (rest := []) ⟨hx, hb, hml, hown, hT⟩ (c_TR_carryOut (A := va_A (tw_ cI cJ a0 L S C 64 T0c) H.size) (t := T0c) ok0 hq0) (cwV 0 hT (gi_V m_368 m_365 m_366 m_367 m_24) rfl rfl rfl p_TR_carryOut ⟨Nat.le_of_ble_eq_true rfl, Nat.le_of_ble_eq_true rfl⟩) ⟨mP_blind, va_recv hK hP (ci := 2) (q0 := 2) rfl rfl, mP_pre hK (hP.sub (ws' := tw_ cI cJ a0 L S C 64 T0c) [2, 3, 4, 5, 6, 7, 8, 9, 10, 11, 12, 13, 14, 15, 16, 17, 18] rfl) (hD.sub (ws' := tw_ cI cJ a0 L S C 64 T0c) [2, 3, 4, 5, 6, 7, 8, 9, 10, 11, 12, 13, 14, 15, 16, 17, 18] (by decide) rfl).self⟩ rfl rfl hl.1 rfl (lv_room (Nat.le_of_ble_eq_true rfl)) d_CT_ask_198 ⟨by decide, by decide⟩) hS hA hP hD [2, 3, 4, 5, 6, 7, 8, 9, 10, 11, 12, 13, 14, 15, 16, 17, 18] [0, 1, 19, 20, 21, 22, 23, 24, 25, 26, 27, 28, 29, 30, 31, 32, 33, 34, 35] rfl rfl (by decide) (by decide) (fun H locs hP hD hS => ?_)
                have hP : va_P (dC, dI) kCl (((x, .inr (3, [.int (nI S), .int (nI C), .long key, .ref (a0 0), .ref (a1 0), .ref ml, .int (cs_asked z), .int (cs_most z)])) :: (ml, .inl (cI, 16, .inl (cs_ml z))) :: tw_ cI cJ a1 M S C 16 T1d) ++ tw_ cI cJ a0 L S C 64 (tr_carry L S C 64 T0c)) H := hP
                have hD : va_D A (((x, .inr (3, [.int (nI S), .int (nI C), .long key, .ref (a0 0), .ref (a1 0), .ref ml, .int (cs_asked z), .int (cs_most z)])) :: (ml, .inl (cI, 16, .inl (cs_ml z))) :: tw_ cI cJ a1 M S C 16 T1d) ++ tw_ cI cJ a0 L S C 64 (tr_carry L S C 64 T0c)) := hD
                obtain ⟨T0d, hT0d⟩ : ∃ T : Ts, T = tr_carry L S C 64 T0c := ⟨_, rfl⟩
                rw [← hT0d] at hP hD
                have hP := hP.sub (ws' := cw_ cI cJ x ml a0 a1 L M S C key (cs_mk (cs_ml z) (cs_asked z) (cs_most z) T0d T1d)) [0, 1, 19, 20, 21, 22, 23, 24, 25, 26, 27, 28, 29, 30, 31, 32, 33, 34, 35, 2, 3, 4, 5, 6, 7, 8, 9, 10, 11, 12, 13, 14, 15, 16, 17, 18] rfl
                have hD := hD.sub (ws' := cw_ cI cJ x ml a0 a1 L M S C key (cs_mk (cs_ml z) (cs_asked z) (cs_most z) T0d T1d)) [0, 1, 19, 20, 21, 22, 23, 24, 25, 26, 27, 28, 29, 30, 31, 32, 33, 34, 35, 2, 3, 4, 5, 6, 7, 8, 9, 10, 11, 12, 13, 14, 15, 16, 17, 18] (by decide) rfl
                refine lv_aload_n hx hb d_CT_ask_201 rfl (lv_at hl 4 rfl) ?_
                refine va_get (D := (dC, dI)) (ci := 3) (v := .ref ml) (C := R_CT) (T := F_CT) (N := 8) hx hb hT i_CT hown hK hP 0 rfl rfl 5 (by decide) (hT _ m_147) (fun _ h9 => h9) rfl d_CT_ask_202 ?_
                refine lv_iload hx hb d_CT_ask_205 (lv_at hl 3 rfl) ?_
                refine lv_iload hx hb d_CT_ask_207 (lv_at hl 9 rfl) ?_
                refine va_iast hx hb hK hP hD hS 1 0 rfl rfl (vp_in_nI (by omega) (by omega)) d_CT_ask_209 (fun H locs hP hD hS => ?_)
                rw [nI_clamp (show j / 4 < 2 ^ 31 by omega)] at hP hD
                have hP : va_P (dC, dI) kCl (cw_ cI cJ x ml a0 a1 L M S C key (cs_mk (upd (cs_ml z) (j / 4) mc) (cs_asked z) (cs_most z) T0d T1d)) H := hP
                have hD : va_D A (cw_ cI cJ x ml a0 a1 L M S C key (cs_mk (upd (cs_ml z) (j / 4) mc) (cs_asked z) (cs_most z) T0d T1d)) := hD
                refine lv_aload_n hx hb d_CT_ask_210 rfl (lv_at hl 4 rfl) ?_
                refine lv_dup hx hb d_CT_ask_211 rfl ?_
                refine va_get (D := (dC, dI)) (ci := 3) (v := .int (cs_asked z)) (C := R_CT) (T := F_CT) (N := 8) hx hb hT i_CT hown hK hP 0 rfl rfl 6 (by decide) (hT _ m_148) (fun _ h9 => h9) rfl d_CT_ask_212 ?_
                refine lv_iconst (v := 1) hx hb d_CT_ask_215 (by decide) ?_
                refine lv_iadd hx hb d_CT_ask_216 ?_
                refine va_put (D := (dC, dI)) (ci := 3) (v := .int ((cs_asked z) + 1)) (ty := .int) (C := R_CT) (T := F_CT) (N := 8) hx hb hT i_CT t_CT t_CT_ok n_CT hown hK hP hD hS 0 rfl rfl 6 (by decide) (hT _ m_148) (fun _ h9 => h9) rfl (by decide +kernel) rfl rfl (Nat.le_of_ble_eq_true rfl) d_CT_ask_217 (fun H locs hP hD hS => ?_)
                have hP : va_P (dC, dI) kCl (cw_ cI cJ x ml a0 a1 L M S C key (cs_mk (upd (cs_ml z) (j / 4) mc) ((cs_asked z) + 1) (cs_most z) T0d T1d)) H := hP
                have hD : va_D A (cw_ cI cJ x ml a0 a1 L M S C key (cs_mk (upd (cs_ml z) (j / 4) mc) ((cs_asked z) + 1) (cs_most z) T0d T1d)) := hD
                refine lv_aload_n hx hb d_CT_ask_220 rfl (lv_at hl 4 rfl) ?_
                refine lv_aload_n hx hb d_CT_ask_221 rfl (lv_at hl 4 rfl) ?_
                refine va_get (D := (dC, dI)) (ci := 3) (v := .int (cs_most z)) (C := R_CT) (T := F_CT) (N := 8) hx hb hT i_CT hown hK hP 0 rfl rfl 7 (by decide) (hT _ m_149) (fun _ h9 => h9) rfl d_CT_ask_222 ?_
                refine lv_aload_n hx hb d_CT_ask_225 rfl (lv_at hl 4 rfl) ?_
                refine va_get (D := (dC, dI)) (ci := 3) (v := .ref (a0 0)) (C := R_CT) (T := F_CT) (N := 8) hx hb hT i_CT hown hK hP 0 rfl rfl 3 (by decide) (hT _ m_145) (fun _ h9 => h9) rfl d_CT_ask_226 ?_
                refine va_get (D := (dC, dI)) (ci := 2) (v := .ref (a0 6)) (C := R_TR) (T := F_TR) (N := 12) hx hb hT i_TR hown hK hP 2 rfl rfl 6 (by decide) (hT _ m_106) (fun _ h9 => h9) rfl d_CT_ask_229 ?_
                refine va_get (D := (dC, dI)) (ci := 0) (v := .int (ts_stash T0d).2.2.2) (C := R_RW) (T := F_RW) (N := 4) hx hb hT i_RW hown hK hP 8 rfl rfl 3 (by decide) (hT _ m_86) (fun _ h9 => h9) rfl d_CT_ask_232 ?_
                refine va_mmax hx hb (hml.trans hl.1.symm) hown (hT _ m_48) (hT _ m_49) (hT _ m_23) (hT _ m_50) (Nat.le_of_ble_eq_true rfl) (Nat.le_of_ble_eq_true rfl) (Nat.zero_le _) (Nat.zero_le _) d_CT_ask_235 ?_
                refine va_put (D := (dC, dI)) (ci := 3) (v := .int (if (cs_most z) < (ts_stash T0d).2.2.2 then (ts_stash T0d).2.2.2 else (cs_most z))) (ty := .int) (C := R_CT) (T := F_CT) (N := 8) hx hb hT i_CT t_CT t_CT_ok n_CT hown hK hP hD hS 0 rfl rfl 7 (by decide) (hT _ m_149) (fun _ h9 => h9) rfl (by decide +kernel) rfl rfl (Nat.le_of_ble_eq_true rfl) d_CT_ask_238 (fun H locs hP hD hS => ?_)
                have hP : va_P (dC, dI) kCl (cw_ cI cJ x ml a0 a1 L M S C key (cs_mk (upd (cs_ml z) (j / 4) mc) ((cs_asked z) + 1) (if (cs_most z) < (ts_stash T0d).2.2.2 then (ts_stash T0d).2.2.2 else (cs_most z)) T0d T1d)) H := hP
                have hD : va_D A (cw_ cI cJ x ml a0 a1 L M S C key (cs_mk (upd (cs_ml z) (j / 4) mc) ((cs_asked z) + 1) (if (cs_most z) < (ts_stash T0d).2.2.2 then (ts_stash T0d).2.2.2 else (cs_most z)) T0d T1d)) := hD
                refine lv_lload hx hb d_CT_ask_241 (lv_at hl 0 rfl) ?_
                have k1d : T1d = ak_t1d M S C z j co mc := by rw [hT1d, k1c]; rfl
                have k0d : T0d = ak_t0d L M S C z j nw nv co := by rw [hT0d, k0c]; rfl
                refine vx_ret ?_
                refine W.widen (k := 1) (n := 6) (by decide) (by decide) ?_
                exact W.lret hx hb hr (fun t9 ht _ => yQl_end (cs_mk (upd (cs_ml z) (j / 4) mc) ((cs_asked z) + 1) (if (cs_most z) < (ts_stash T0d).2.2.2 then (ts_stash T0d).2.2.2 else (cs_most z)) T0d T1d) ⟨j, rfl, hj, b2i_n.mp hc0, b2i_n.mp hc1, by rw [kf1]; exact b2i_n.mp hf1, by rw [kf0]; exact b2i_n.mp hf0, by rw [k0a]; rfl, by rw [k0d, k1d]; rfl⟩ rfl hP hD hS ht) hS.2.2 d_CT_ask_243 hlocks
              · have hf0 := c_7
                have k1a : T1a = ak_t1a M S C z j := hT1a
                have k1b : T1b = ak_t1b M S C z j co mc := by rw [hT1b, k1a]; rfl
                have k0a : T0a = ak_t0a L M S C z j := by rw [hT0a, k1a]; rfl
                have k0b : T0b = ak_t0b L M S C z j nw nv co := by rw [hT0b, k0a]; rfl
                have k1c : T1c = ak_t1c M S C z j co mc := by rw [hT1c, k1b]; rfl
                have kf1 : ak_f1 M S C z j co mc = decide ((tr_fit M S 16 T1b).2 ≤ nI C) := by rw [k1b]; rfl
                have k0c : T0c = ak_t0c L M S C z j nw nv co := by rw [hT0c, k0b]; rfl
                have kf0 : ak_f0 L M S C z j nw nv co = decide ((tr_fit L S 64 T0b).2 ≤ nI C) := by rw [k0b]; rfl
                exact xt_uo hx hb hl9 hown hT xe hS (hl.1.trans hml.symm) (is := 163) (tx := "a tree would be full") (by decide) d_CT_ask_177 d_CT_ask_180 d_CT_ask_181 d_CT_ask_183 d_CT_ask_186 hex (Nat.le_of_ble_eq_true rfl) (Nat.le_of_ble_eq_true rfl) (by decide) (by decide) hlocks hS.2.2 (by decide) (by decide) (fun t9 _ h1 h2 => yX_end (cs_mk (cs_ml z) (cs_asked z) (cs_most z) T0c T1c) (Or.inr (Or.inr ⟨rfl, j, rfl, hj, b2i_n.mp hc0, b2i_n.mp hc1, Or.inr ⟨by rw [kf1]; exact b2i_n.mp hf1, by rw [kf0]; exact b2i_0.mp hf0, by rw [k0c, k1c]⟩⟩)) rfl hP hD hS h1 h2)
          · have c_4 := c_5
            refine lv_lload_n hx hb d_CT_ask_148 rfl (lv_at hl 7 rfl) ?_
            refine lv_goto (tgt := 154) hx hb d_CT_ask_149 (by decide) ?_
            have e154 : (nv : Int64) = (if nw = true then nv else (rw_atL 64 (ts_plan T0a).2.2.1 (ts_sought T0a))) := (if_pos (b2i_n.mp c_4)).symm
            refine W.eq (g2 := F0 m 154 ls [.long (if nw = true then nv else (rw_atL 64 (ts_plan T0a).2.2.1 (ts_sought T0a))), .int co, .ref (a0 0)]) (by rw [← e154]) ?_
            refine tj_v (wr := (x, .inr (3, [.int (nI S), .int (nI C), .long key, .ref (a0 0), .ref (a1 0), .ref ml, .int (cs_asked z), .int (cs_most z)])) :: (ml, .inl (cI, 16, .inl (cs_ml z))) :: tw_ cI cJ a1 M S C 16 T1b) (va_runV (As := [.int co, .long (if nw = true then nv else (rw_atL 64 (ts_plan T0a).2.2.1 (ts_sought T0a)))]) (rest := []) ⟨hx, hb, hml, hown, hT⟩ (c_TR_settle (A := va_A (tw_ cI cJ a0 L S C 64 T0a) H.size) (t := T0a) ok0 co (if nw = true then nv else (rw_atL 64 (ts_plan T0a).2.2.1 (ts_sought T0a)))) (cwV 2 hT (gi_V m_334 m_331 m_332 m_333 m_24) rfl rfl rfl p_TR_settle ⟨Nat.le_of_ble_eq_true rfl, Nat.le_of_ble_eq_true rfl⟩) ⟨mP_blind, va_recv hK hP (ci := 2) (q0 := 2) rfl rfl, mP_pre hK (hP.sub (ws' := tw_ cI cJ a0 L S C 64 T0a) [2, 3, 4, 5, 6, 7, 8, 9, 10, 11, 12, 13, 14, 15, 16, 17, 18] rfl) (hD.sub (ws' := tw_ cI cJ a0 L S C 64 T0a) [2, 3, 4, 5, 6, 7, 8, 9, 10, 11, 12, 13, 14, 15, 16, 17, 18] (by decide) rfl).self⟩ rfl rfl hl.1 rfl (lv_room (Nat.le_of_ble_eq_true rfl)) d_CT_ask_154 ⟨by decide, by decide⟩) hS hA hP hD [2, 3, 4, 5, 6, 7, 8, 9, 10, 11, 12, 13, 14, 15, 16, 17, 18] [0, 1, 19, 20, 21, 22, 23, 24, 25, 26, 27, 28, 29, 30, 31, 32, 33, 34, 35] rfl rfl (by decide) (by decide) (fun H locs hP hD hS => ?_)
            have hP : va_P (dC, dI) kCl (((x, .inr (3, [.int (nI S), .int (nI C), .long key, .ref (a0 0), .ref (a1 0), .ref ml, .int (cs_asked z), .int (cs_most z)])) :: (ml, .inl (cI, 16, .inl (cs_ml z))) :: tw_ cI cJ a1 M S C 16 T1b) ++ tw_ cI cJ a0 L S C 64 (tr_settle 64 T0a co (if nw = true then nv else (rw_atL 64 (ts_plan T0a).2.2.1 (ts_sought T0a))))) H := hP
            have hD : va_D A (((x, .inr (3, [.int (nI S), .int (nI C), .long key, .ref (a0 0), .ref (a1 0), .ref ml, .int (cs_asked z), .int (cs_most z)])) :: (ml, .inl (cI, 16, .inl (cs_ml z))) :: tw_ cI cJ a1 M S C 16 T1b) ++ tw_ cI cJ a0 L S C 64 (tr_settle 64 T0a co (if nw = true then nv else (rw_atL 64 (ts_plan T0a).2.2.1 (ts_sought T0a))))) := hD
            obtain ⟨T0b, hT0b⟩ : ∃ T : Ts, T = tr_settle 64 T0a co (if nw = true then nv else (rw_atL 64 (ts_plan T0a).2.2.1 (ts_sought T0a))) := ⟨_, rfl⟩
            rw [← hT0b] at hP hD
            have hP := hP.sub (ws' := cw_ cI cJ x ml a0 a1 L M S C key (cs_mk (cs_ml z) (cs_asked z) (cs_most z) T0b T1b)) [0, 1, 19, 20, 21, 22, 23, 24, 25, 26, 27, 28, 29, 30, 31, 32, 33, 34, 35, 2, 3, 4, 5, 6, 7, 8, 9, 10, 11, 12, 13, 14, 15, 16, 17, 18] rfl
            have hD := hD.sub (ws' := cw_ cI cJ x ml a0 a1 L M S C key (cs_mk (cs_ml z) (cs_asked z) (cs_most z) T0b T1b)) [0, 1, 19, 20, 21, 22, 23, 24, 25, 26, 27, 28, 29, 30, 31, 32, 33, 34, 35, 2, 3, 4, 5, 6, 7, 8, 9, 10, 11, 12, 13, 14, 15, 16, 17, 18] (by decide) rfl
            refine lv_aload_n hx hb d_CT_ask_157 rfl (lv_at hl 4 rfl) ?_
            refine va_get (D := (dC, dI)) (ci := 3) (v := .ref (a1 0)) (C := R_CT) (T := F_CT) (N := 8) hx hb hT i_CT hown hK hP 0 rfl rfl 4 (by decide) (hT _ m_146) (fun _ h9 => h9) rfl d_CT_ask_158 ?_
            refine tj_i (wr := (x, .inr (3, [.int (nI S), .int (nI C), .long key, .ref (a0 0), .ref (a1 0), .ref ml, .int (cs_asked z), .int (cs_most z)])) :: (ml, .inl (cI, 16, .inl (cs_ml z))) :: tw_ cI cJ a0 L S C 64 T0b) (va_runV (As := []) (rest := []) ⟨hx, hb, hml, hown, hT⟩ (c_TR_fits (A := va_A (tw_ cI cJ a1 M S C 16 T1b) H.size) (t := T1b) ok1 ) (cwV 0 hT (gi_V m_343 m_340 m_341 m_342 m_24) rfl rfl rfl p_TR_fits ⟨Nat.le_of_ble_eq_true rfl, Nat.le_of_ble_eq_true rfl⟩) ⟨mP_blind, va_recv hK hP (ci := 2) (q0 := 19) rfl rfl, mP_pre hK (hP.sub (ws' := tw_ cI cJ a1 M S C 16 T1b) [19, 20, 21, 22, 23, 24, 25, 26, 27, 28, 29, 30, 31, 32, 33, 34, 35] rfl) (hD.sub (ws' := tw_ cI cJ a1 M S C 16 T1b) [19, 20, 21, 22, 23, 24, 25, 26, 27, 28, 29, 30, 31, 32, 33, 34, 35] (by decide) rfl).self⟩ rfl rfl hl.1 rfl (lv_room (Nat.le_of_ble_eq_true rfl)) d_CT_ask_161 ⟨by decide, by decide⟩) hS hA hP hD [19, 20, 21, 22, 23, 24, 25, 26, 27, 28, 29, 30, 31, 32, 33, 34, 35] [0, 1, 2, 3, 4, 5, 6, 7, 8, 9, 10, 11, 12, 13, 14, 15, 16, 17, 18] rfl rfl (by decide) (by decide) (fun H locs hP hD hS => ?_)
            have hP : va_P (dC, dI) kCl (((x, .inr (3, [.int (nI S), .int (nI C), .long key, .ref (a0 0), .ref (a1 0), .ref ml, .int (cs_asked z), .int (cs_most z)])) :: (ml, .inl (cI, 16, .inl (cs_ml z))) :: tw_ cI cJ a0 L S C 64 T0b) ++ tw_ cI cJ a1 M S C 16 (tr_fits M S 16 T1b)) H := hP
            have hD : va_D A (((x, .inr (3, [.int (nI S), .int (nI C), .long key, .ref (a0 0), .ref (a1 0), .ref ml, .int (cs_asked z), .int (cs_most z)])) :: (ml, .inl (cI, 16, .inl (cs_ml z))) :: tw_ cI cJ a0 L S C 64 T0b) ++ tw_ cI cJ a1 M S C 16 (tr_fits M S 16 T1b)) := hD
            obtain ⟨T1c, hT1c⟩ : ∃ T : Ts, T = tr_fits M S 16 T1b := ⟨_, rfl⟩
            rw [← hT1c] at hP hD
            have hP : va_P (dC, dI) kCl (cw_ cI cJ x ml a0 a1 L M S C key (cs_mk (cs_ml z) (cs_asked z) (cs_most z) T0b T1c)) H := hP
            have hD : va_D A (cw_ cI cJ x ml a0 a1 L M S C key (cs_mk (cs_ml z) (cs_asked z) (cs_most z) T0b T1c)) := hD
            refine lv_if_eq (tgt := 177) hx hb d_CT_ask_164 (by decide) (fun c_8 => ?_) (fun c_8 => ?_)
            · have hf1 := c_8
              have k1a : T1a = ak_t1a M S C z j := hT1a
              have k1b : T1b = ak_t1b M S C z j co mc := by rw [hT1b, k1a]; rfl
              have k0a : T0a = ak_t0a L M S C z j := by rw [hT0a, k1a]; rfl
              have k0b : T0b = ak_t0b L M S C z j nw nv co := by rw [hT0b, k0a]; rfl
              have k1c : T1c = ak_t1c M S C z j co mc := by rw [hT1c, k1b]; rfl
              have kf1 : ak_f1 M S C z j co mc = decide ((tr_fit M S 16 T1b).2 ≤ nI C) := by rw [k1b]; rfl
              exact xt_uo hx hb hl9 hown hT xe hS (hl.1.trans hml.symm) (is := 163) (tx := "a tree would be full") (by decide) d_CT_ask_177 d_CT_ask_180 d_CT_ask_181 d_CT_ask_183 d_CT_ask_186 hex (Nat.le_of_ble_eq_true rfl) (Nat.le_of_ble_eq_true rfl) (by decide) (by decide) hlocks hS.2.2 (by decide) (by decide) (fun t9 _ h1 h2 => yX_end (cs_mk (cs_ml z) (cs_asked z) (cs_most z) T0b T1c) (Or.inr (Or.inr ⟨rfl, j, rfl, hj, b2i_n.mp hc0, b2i_n.mp hc1, Or.inl ⟨by rw [kf1]; exact b2i_0.mp hf1, by rw [k0b, k1c]⟩⟩)) rfl hP hD hS h1 h2)
            · have hf1 := c_8
              refine lv_aload_n hx hb d_CT_ask_167 rfl (lv_at hl 4 rfl) ?_
              refine va_get (D := (dC, dI)) (ci := 3) (v := .ref (a0 0)) (C := R_CT) (T := F_CT) (N := 8) hx hb hT i_CT hown hK hP 0 rfl rfl 3 (by decide) (hT _ m_145) (fun _ h9 => h9) rfl d_CT_ask_168 ?_
              refine tj_i (wr := (x, .inr (3, [.int (nI S), .int (nI C), .long key, .ref (a0 0), .ref (a1 0), .ref ml, .int (cs_asked z), .int (cs_most z)])) :: (ml, .inl (cI, 16, .inl (cs_ml z))) :: tw_ cI cJ a1 M S C 16 T1c) (va_runV (As := []) (rest := []) ⟨hx, hb, hml, hown, hT⟩ (c_TR_fits (A := va_A (tw_ cI cJ a0 L S C 64 T0b) H.size) (t := T0b) ok0 ) (cwV 0 hT (gi_V m_343 m_340 m_341 m_342 m_24) rfl rfl rfl p_TR_fits ⟨Nat.le_of_ble_eq_true rfl, Nat.le_of_ble_eq_true rfl⟩) ⟨mP_blind, va_recv hK hP (ci := 2) (q0 := 2) rfl rfl, mP_pre hK (hP.sub (ws' := tw_ cI cJ a0 L S C 64 T0b) [2, 3, 4, 5, 6, 7, 8, 9, 10, 11, 12, 13, 14, 15, 16, 17, 18] rfl) (hD.sub (ws' := tw_ cI cJ a0 L S C 64 T0b) [2, 3, 4, 5, 6, 7, 8, 9, 10, 11, 12, 13, 14, 15, 16, 17, 18] (by decide) rfl).self⟩ rfl rfl hl.1 rfl (lv_room (Nat.le_of_ble_eq_true rfl)) d_CT_ask_171 ⟨by decide, by decide⟩) hS hA hP hD [2, 3, 4, 5, 6, 7, 8, 9, 10, 11, 12, 13, 14, 15, 16, 17, 18] [0, 1, 19, 20, 21, 22, 23, 24, 25, 26, 27, 28, 29, 30, 31, 32, 33, 34, 35] rfl rfl (by decide) (by decide) (fun H locs hP hD hS => ?_)
              have hP : va_P (dC, dI) kCl (((x, .inr (3, [.int (nI S), .int (nI C), .long key, .ref (a0 0), .ref (a1 0), .ref ml, .int (cs_asked z), .int (cs_most z)])) :: (ml, .inl (cI, 16, .inl (cs_ml z))) :: tw_ cI cJ a1 M S C 16 T1c) ++ tw_ cI cJ a0 L S C 64 (tr_fits L S 64 T0b)) H := hP
              have hD : va_D A (((x, .inr (3, [.int (nI S), .int (nI C), .long key, .ref (a0 0), .ref (a1 0), .ref ml, .int (cs_asked z), .int (cs_most z)])) :: (ml, .inl (cI, 16, .inl (cs_ml z))) :: tw_ cI cJ a1 M S C 16 T1c) ++ tw_ cI cJ a0 L S C 64 (tr_fits L S 64 T0b)) := hD
              obtain ⟨T0c, hT0c⟩ : ∃ T : Ts, T = tr_fits L S 64 T0b := ⟨_, rfl⟩
              rw [← hT0c] at hP hD
              have hP := hP.sub (ws' := cw_ cI cJ x ml a0 a1 L M S C key (cs_mk (cs_ml z) (cs_asked z) (cs_most z) T0c T1c)) [0, 1, 19, 20, 21, 22, 23, 24, 25, 26, 27, 28, 29, 30, 31, 32, 33, 34, 35, 2, 3, 4, 5, 6, 7, 8, 9, 10, 11, 12, 13, 14, 15, 16, 17, 18] rfl
              have hD := hD.sub (ws' := cw_ cI cJ x ml a0 a1 L M S C key (cs_mk (cs_ml z) (cs_asked z) (cs_most z) T0c T1c)) [0, 1, 19, 20, 21, 22, 23, 24, 25, 26, 27, 28, 29, 30, 31, 32, 33, 34, 35, 2, 3, 4, 5, 6, 7, 8, 9, 10, 11, 12, 13, 14, 15, 16, 17, 18] (by decide) rfl
              refine lv_if_ne (tgt := 187) hx hb d_CT_ask_174 (by decide) (fun c_9 => ?_) (fun c_9 => ?_)
              · have hf0 := c_9
                have k1a : T1a = ak_t1a M S C z j := hT1a
                have k1b : T1b = ak_t1b M S C z j co mc := by rw [hT1b, k1a]; rfl
                have k0a : T0a = ak_t0a L M S C z j := by rw [hT0a, k1a]; rfl
                have k0b : T0b = ak_t0b L M S C z j nw nv co := by rw [hT0b, k0a]; rfl
                have k1c : T1c = ak_t1c M S C z j co mc := by rw [hT1c, k1b]; rfl
                have kf1 : ak_f1 M S C z j co mc = decide ((tr_fit M S 16 T1b).2 ≤ nI C) := by rw [k1b]; rfl
                have k0c : T0c = ak_t0c L M S C z j nw nv co := by rw [hT0c, k0b]; rfl
                have kf0 : ak_f0 L M S C z j nw nv co = decide ((tr_fit L S 64 T0b).2 ≤ nI C) := by rw [k0b]; rfl
                have hq1 : (ts_trail T1c).2 < 600 := by rw [hT1c, tr_fits_trail, hT1b, tr_settle_trail, hT1a, tr_gather_trail]; exact ht1
                have hq0 : (ts_trail T0c).2 < 600 := by rw [hT0c, tr_fits_trail, hT0b, tr_settle_trail, hT0a, tr_gather_trail]; exact ht0
                refine lv_aload_n hx hb d_CT_ask_187 rfl (lv_at hl 4 rfl) ?_
                refine va_get (D := (dC, dI)) (ci := 3) (v := .ref (a1 0)) (C := R_CT) (T := F_CT) (N := 8) hx hb hT i_CT hown hK hP 0 rfl rfl 4 (by decide) (hT _ m_146) (fun _ h9 => h9) rfl d_CT_ask_188 ?_
                refine tj_v (wr := (x, .inr (3, [.int (nI S), .int (nI C), .long key, .ref (a0 0), .ref (a1 0), .ref ml, .int (cs_asked z), .int (cs_most z)])) :: (ml, .inl (cI, 16, .inl (cs_ml z))) :: tw_ cI cJ a0 L S C 64 T0c) (va_runV (As := []) (rest := []) ⟨hx, hb, hml, hown, hT⟩ (c_TR_carryOut (A := va_A (tw_ cI cJ a1 M S C 16 T1c) H.size) (t := T1c) ok1 hq1) (cwV 0 hT (gi_V m_368 m_365 m_366 m_367 m_24) rfl rfl rfl p_TR_carryOut ⟨Nat.le_of_ble_eq_true rfl, Nat.le_of_ble_eq_true rfl⟩) ⟨mP_blind, va_recv hK hP (ci := 2) (q0 := 19) rfl rfl, mP_pre hK (hP.sub (ws' := tw_ cI cJ a1 M S C 16 T1c) [19, 20, 21, 22, 23, 24, 25, 26, 27, 28, 29, 30, 31, 32, 33, 34, 35] rfl) (hD.sub (ws' := tw_ cI cJ a1 M S C 16 T1c) [19, 20, 21, 22, 23, 24, 25, 26, 27, 28, 29, 30, 31, 32, 33, 34, 35] (by decide) rfl).self⟩ rfl rfl hl.1 rfl (lv_room (Nat.le_of_ble_eq_true rfl)) d_CT_ask_191 ⟨by decide, by decide⟩) hS hA hP hD [19, 20, 21, 22, 23, 24, 25, 26, 27, 28, 29, 30, 31, 32, 33, 34, 35] [0, 1, 2, 3, 4, 5, 6, 7, 8, 9, 10, 11, 12, 13, 14, 15, 16, 17, 18] rfl rfl (by decide) (by decide) (fun H locs hP hD hS => ?_)
                have hP : va_P (dC, dI) kCl (((x, .inr (3, [.int (nI S), .int (nI C), .long key, .ref (a0 0), .ref (a1 0), .ref ml, .int (cs_asked z), .int (cs_most z)])) :: (ml, .inl (cI, 16, .inl (cs_ml z))) :: tw_ cI cJ a0 L S C 64 T0c) ++ tw_ cI cJ a1 M S C 16 (tr_carry M S C 16 T1c)) H := hP
                have hD : va_D A (((x, .inr (3, [.int (nI S), .int (nI C), .long key, .ref (a0 0), .ref (a1 0), .ref ml, .int (cs_asked z), .int (cs_most z)])) :: (ml, .inl (cI, 16, .inl (cs_ml z))) :: tw_ cI cJ a0 L S C 64 T0c) ++ tw_ cI cJ a1 M S C 16 (tr_carry M S C 16 T1c)) := hD
                obtain ⟨T1d, hT1d⟩ : ∃ T : Ts, T = tr_carry M S C 16 T1c := ⟨_, rfl⟩
                rw [← hT1d] at hP hD
                have hP : va_P (dC, dI) kCl (cw_ cI cJ x ml a0 a1 L M S C key (cs_mk (cs_ml z) (cs_asked z) (cs_most z) T0c T1d)) H := hP
                have hD : va_D A (cw_ cI cJ x ml a0 a1 L M S C key (cs_mk (cs_ml z) (cs_asked z) (cs_most z) T0c T1d)) := hD
                refine lv_aload_n hx hb d_CT_ask_194 rfl (lv_at hl 4 rfl) ?_
                refine va_get (D := (dC, dI)) (ci := 3) (v := .ref (a0 0)) (C := R_CT) (T := F_CT) (N := 8) hx hb hT i_CT hown hK hP 0 rfl rfl 3 (by decide) (hT _ m_145) (fun _ h9 => h9) rfl d_CT_ask_195 ?_
                refine tj_v (wr := (x, .inr (3, [.int (nI S), .int (nI C), .long key, .ref (a0 0), .ref (a1 0), .ref ml, .int (cs_asked z), .int (cs_most z)])) :: (ml, .inl (cI, 16, .inl (cs_ml z))) :: tw_ cI cJ a1 M S C 16 T1d) (va_runV (As := []) (rest := []) ⟨hx, hb, hml, hown, hT⟩ (c_TR_carryOut (A := va_A (tw_ cI cJ a0 L S C 64 T0c) H.size) (t := T0c) ok0 hq0) (cwV 0 hT (gi_V m_368 m_365 m_366 m_367 m_24) rfl rfl rfl p_TR_carryOut ⟨Nat.le_of_ble_eq_true rfl, Nat.le_of_ble_eq_true rfl⟩) ⟨mP_blind, va_recv hK hP (ci := 2) (q0 := 2) rfl rfl, mP_pre hK (hP.sub (ws' := tw_ cI cJ a0 L S C 64 T0c) [2, 3, 4, 5, 6, 7, 8, 9, 10, 11, 12, 13, 14, 15, 16, 17, 18] rfl) (hD.sub (ws' := tw_ cI cJ a0 L S C 64 T0c) [2, 3, 4, 5, 6, 7, 8, 9, 10, 11, 12, 13, 14, 15, 16, 17, 18] (by decide) rfl).self⟩ rfl rfl hl.1 rfl (lv_room (Nat.le_of_ble_eq_true rfl)) d_CT_ask_198 ⟨by decide, by decide⟩) hS hA hP hD [2, 3, 4, 5, 6, 7, 8, 9, 10, 11, 12, 13, 14, 15, 16, 17, 18] [0, 1, 19, 20, 21, 22, 23, 24, 25, 26, 27, 28, 29, 30, 31, 32, 33, 34, 35] rfl rfl (by decide) (by decide) (fun H locs hP hD hS => ?_)
                have hP : va_P (dC, dI) kCl (((x, .inr (3, [.int (nI S), .int (nI C), .long key, .ref (a0 0), .ref (a1 0), .ref ml, .int (cs_asked z), .int (cs_most z)])) :: (ml, .inl (cI, 16, .inl (cs_ml z))) :: tw_ cI cJ a1 M S C 16 T1d) ++ tw_ cI cJ a0 L S C 64 (tr_carry L S C 64 T0c)) H := hP
                have hD : va_D A (((x, .inr (3, [.int (nI S), .int (nI C), .long key, .ref (a0 0), .ref (a1 0), .ref ml, .int (cs_asked z), .int (cs_most z)])) :: (ml, .inl (cI, 16, .inl (cs_ml z))) :: tw_ cI cJ a1 M S C 16 T1d) ++ tw_ cI cJ a0 L S C 64 (tr_carry L S C 64 T0c)) := hD
                obtain ⟨T0d, hT0d⟩ : ∃ T : Ts, T = tr_carry L S C 64 T0c := ⟨_, rfl⟩
                rw [← hT0d] at hP hD
                have hP := hP.sub (ws' := cw_ cI cJ x ml a0 a1 L M S C key (cs_mk (cs_ml z) (cs_asked z) (cs_most z) T0d T1d)) [0, 1, 19, 20, 21, 22, 23, 24, 25, 26, 27, 28, 29, 30, 31, 32, 33, 34, 35, 2, 3, 4, 5, 6, 7, 8, 9, 10, 11, 12, 13, 14, 15, 16, 17, 18] rfl
                have hD := hD.sub (ws' := cw_ cI cJ x ml a0 a1 L M S C key (cs_mk (cs_ml z) (cs_asked z) (cs_most z) T0d T1d)) [0, 1, 19, 20, 21, 22, 23, 24, 25, 26, 27, 28, 29, 30, 31, 32, 33, 34, 35, 2, 3, 4, 5, 6, 7, 8, 9, 10, 11, 12, 13, 14, 15, 16, 17, 18] (by decide) rfl
                refine lv_aload_n hx hb d_CT_ask_201 rfl (lv_at hl 4 rfl) ?_
                refine va_get (D := (dC, dI)) (ci := 3) (v := .ref ml) (C := R_CT) (T := F_CT) (N := 8) hx hb hT i_CT hown hK hP 0 rfl rfl 5 (by decide) (hT _ m_147) (fun _ h9 => h9) rfl d_CT_ask_202 ?_
                refine lv_iload hx hb d_CT_ask_205 (lv_at hl 3 rfl) ?_
                refine lv_iload hx hb d_CT_ask_207 (lv_at hl 9 rfl) ?_
                refine va_iast hx hb hK hP hD hS 1 0 rfl rfl (vp_in_nI (by omega) (by omega)) d_CT_ask_209 (fun H locs hP hD hS => ?_)
                rw [nI_clamp (show j / 4 < 2 ^ 31 by omega)] at hP hD
                have hP : va_P (dC, dI) kCl (cw_ cI cJ x ml a0 a1 L M S C key (cs_mk (upd (cs_ml z) (j / 4) mc) (cs_asked z) (cs_most z) T0d T1d)) H := hP
                have hD : va_D A (cw_ cI cJ x ml a0 a1 L M S C key (cs_mk (upd (cs_ml z) (j / 4) mc) (cs_asked z) (cs_most z) T0d T1d)) := hD
                refine lv_aload_n hx hb d_CT_ask_210 rfl (lv_at hl 4 rfl) ?_
                refine lv_dup hx hb d_CT_ask_211 rfl ?_
                refine va_get (D := (dC, dI)) (ci := 3) (v := .int (cs_asked z)) (C := R_CT) (T := F_CT) (N := 8) hx hb hT i_CT hown hK hP 0 rfl rfl 6 (by decide) (hT _ m_148) (fun _ h9 => h9) rfl d_CT_ask_212 ?_
                refine lv_iconst (v := 1) hx hb d_CT_ask_215 (by decide) ?_
                refine lv_iadd hx hb d_CT_ask_216 ?_
                refine va_put (D := (dC, dI)) (ci := 3) (v := .int ((cs_asked z) + 1)) (ty := .int) (C := R_CT) (T := F_CT) (N := 8) hx hb hT i_CT t_CT t_CT_ok n_CT hown hK hP hD hS 0 rfl rfl 6 (by decide) (hT _ m_148) (fun _ h9 => h9) rfl (by decide +kernel) rfl rfl (Nat.le_of_ble_eq_true rfl) d_CT_ask_217 (fun H locs hP hD hS => ?_)
                have hP : va_P (dC, dI) kCl (cw_ cI cJ x ml a0 a1 L M S C key (cs_mk (upd (cs_ml z) (j / 4) mc) ((cs_asked z) + 1) (cs_most z) T0d T1d)) H := hP
                have hD : va_D A (cw_ cI cJ x ml a0 a1 L M S C key (cs_mk (upd (cs_ml z) (j / 4) mc) ((cs_asked z) + 1) (cs_most z) T0d T1d)) := hD
                refine lv_aload_n hx hb d_CT_ask_220 rfl (lv_at hl 4 rfl) ?_
                refine lv_aload_n hx hb d_CT_ask_221 rfl (lv_at hl 4 rfl) ?_
                refine va_get (D := (dC, dI)) (ci := 3) (v := .int (cs_most z)) (C := R_CT) (T := F_CT) (N := 8) hx hb hT i_CT hown hK hP 0 rfl rfl 7 (by decide) (hT _ m_149) (fun _ h9 => h9) rfl d_CT_ask_222 ?_
                refine lv_aload_n hx hb d_CT_ask_225 rfl (lv_at hl 4 rfl) ?_
                refine va_get (D := (dC, dI)) (ci := 3) (v := .ref (a0 0)) (C := R_CT) (T := F_CT) (N := 8) hx hb hT i_CT hown hK hP 0 rfl rfl 3 (by decide) (hT _ m_145) (fun _ h9 => h9) rfl d_CT_ask_226 ?_
                refine va_get (D := (dC, dI)) (ci := 2) (v := .ref (a0 6)) (C := R_TR) (T := F_TR) (N := 12) hx hb hT i_TR hown hK hP 2 rfl rfl 6 (by decide) (hT _ m_106) (fun _ h9 => h9) rfl d_CT_ask_229 ?_
                refine va_get (D := (dC, dI)) (ci := 0) (v := .int (ts_stash T0d).2.2.2) (C := R_RW) (T := F_RW) (N := 4) hx hb hT i_RW hown hK hP 8 rfl rfl 3 (by decide) (hT _ m_86) (fun _ h9 => h9) rfl d_CT_ask_232 ?_
                refine va_mmax hx hb (hml.trans hl.1.symm) hown (hT _ m_48) (hT _ m_49) (hT _ m_23) (hT _ m_50) (Nat.le_of_ble_eq_true rfl) (Nat.le_of_ble_eq_true rfl) (Nat.zero_le _) (Nat.zero_le _) d_CT_ask_235 ?_
                refine va_put (D := (dC, dI)) (ci := 3) (v := .int (if (cs_most z) < (ts_stash T0d).2.2.2 then (ts_stash T0d).2.2.2 else (cs_most z))) (ty := .int) (C := R_CT) (T := F_CT) (N := 8) hx hb hT i_CT t_CT t_CT_ok n_CT hown hK hP hD hS 0 rfl rfl 7 (by decide) (hT _ m_149) (fun _ h9 => h9) rfl (by decide +kernel) rfl rfl (Nat.le_of_ble_eq_true rfl) d_CT_ask_238 (fun H locs hP hD hS => ?_)
                have hP : va_P (dC, dI) kCl (cw_ cI cJ x ml a0 a1 L M S C key (cs_mk (upd (cs_ml z) (j / 4) mc) ((cs_asked z) + 1) (if (cs_most z) < (ts_stash T0d).2.2.2 then (ts_stash T0d).2.2.2 else (cs_most z)) T0d T1d)) H := hP
                have hD : va_D A (cw_ cI cJ x ml a0 a1 L M S C key (cs_mk (upd (cs_ml z) (j / 4) mc) ((cs_asked z) + 1) (if (cs_most z) < (ts_stash T0d).2.2.2 then (ts_stash T0d).2.2.2 else (cs_most z)) T0d T1d)) := hD
                refine lv_lload hx hb d_CT_ask_241 (lv_at hl 0 rfl) ?_
                have k1d : T1d = ak_t1d M S C z j co mc := by rw [hT1d, k1c]; rfl
                have k0d : T0d = ak_t0d L M S C z j nw nv co := by rw [hT0d, k0c]; rfl
                refine vx_ret ?_
                refine W.widen (k := 1) (n := 6) (by decide) (by decide) ?_
                exact W.lret hx hb hr (fun t9 ht _ => yQl_end (cs_mk (upd (cs_ml z) (j / 4) mc) ((cs_asked z) + 1) (if (cs_most z) < (ts_stash T0d).2.2.2 then (ts_stash T0d).2.2.2 else (cs_most z)) T0d T1d) ⟨j, rfl, hj, b2i_n.mp hc0, b2i_n.mp hc1, by rw [kf1]; exact b2i_n.mp hf1, by rw [kf0]; exact b2i_n.mp hf0, by rw [k0a]; rfl, by rw [k0d, k1d]; rfl⟩ rfl hP hD hS ht) hS.2.2 d_CT_ask_243 hlocks
              · have hf0 := c_9
                have k1a : T1a = ak_t1a M S C z j := hT1a
                have k1b : T1b = ak_t1b M S C z j co mc := by rw [hT1b, k1a]; rfl
                have k0a : T0a = ak_t0a L M S C z j := by rw [hT0a, k1a]; rfl
                have k0b : T0b = ak_t0b L M S C z j nw nv co := by rw [hT0b, k0a]; rfl
                have k1c : T1c = ak_t1c M S C z j co mc := by rw [hT1c, k1b]; rfl
                have kf1 : ak_f1 M S C z j co mc = decide ((tr_fit M S 16 T1b).2 ≤ nI C) := by rw [k1b]; rfl
                have k0c : T0c = ak_t0c L M S C z j nw nv co := by rw [hT0c, k0b]; rfl
                have kf0 : ak_f0 L M S C z j nw nv co = decide ((tr_fit L S 64 T0b).2 ≤ nI C) := by rw [k0b]; rfl
                exact xt_uo hx hb hl9 hown hT xe hS (hl.1.trans hml.symm) (is := 163) (tx := "a tree would be full") (by decide) d_CT_ask_177 d_CT_ask_180 d_CT_ask_181 d_CT_ask_183 d_CT_ask_186 hex (Nat.le_of_ble_eq_true rfl) (Nat.le_of_ble_eq_true rfl) (by decide) (by decide) hlocks hS.2.2 (by decide) (by decide) (fun t9 _ h1 h2 => yX_end (cs_mk (cs_ml z) (cs_asked z) (cs_most z) T0c T1c) (Or.inr (Or.inr ⟨rfl, j, rfl, hj, b2i_n.mp hc0, b2i_n.mp hc1, Or.inr ⟨by rw [kf1]; exact b2i_n.mp hf1, by rw [kf0]; exact b2i_0.mp hf0, by rw [k0c, k1c]⟩⟩)) rfl hP hD hS h1 h2)
        · have hc1 := c_4
          exact xt_ia hx hb hl9 hown hT xe hS (hl.1.trans hml.symm) (is := 134) (tx := "a coin is no leaf of its tree") (by decide) d_CT_ask_44 d_CT_ask_47 d_CT_ask_48 d_CT_ask_50 d_CT_ask_53 hex (Nat.le_of_ble_eq_true rfl) (Nat.le_of_ble_eq_true rfl) (by decide) (by decide) hlocks hS.2.2 (by decide) (by decide) (fun t9 _ h1 h2 => yX_end (z) (Or.inr (Or.inl ⟨rfl, ⟨j, rfl, hj⟩, by first | exact Or.inl (b2i_0.mp hc0) | exact Or.inr (b2i_0.mp hc1), rfl⟩)) rfl hP hD hS h1 h2)
    · exact xt_io hx hb hl9 hown hT xe hS (hl.1.trans hml.symm) (is := 127) (tx := "no such block") (by decide) d_CT_ask_10 d_CT_ask_13 d_CT_ask_14 d_CT_ask_16 d_CT_ask_19 hex (Nat.le_of_ble_eq_true rfl) (Nat.le_of_ble_eq_true rfl) (by decide) (by decide) hlocks hS.2.2 (by decide) (by decide) (fun t9 _ h1 h2 => yX_end (z) (Or.inl ⟨rfl, by first | exact Or.inl c_1 | exact Or.inr (Int32.not_lt.mp c_2), rfl⟩) rfl hP hD hS h1 h2)
