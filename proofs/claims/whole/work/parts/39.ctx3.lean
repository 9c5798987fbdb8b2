set_option maxHeartbeats 4000000 in
set_option maxRecDepth 100000 in
/-- CoinTree.stored -/
theorem c_CT_stored {l : Launch} (hl9 : l.stackTraces = false) {dC : Nat → ClassId} {dI : Nat → Nat → Nat} {cI cJ : ClassId} {H : Heap} {x ml : Nat} {a0 a1 : Nat → Nat} {L M S C : Nat} {key : Int64} {z : Cs} (ok0 : tr_ok L S C 64) (ok1 : tr_ok M S C 16) (hP : va_P (dC, dI) kCl (cw_ cI cJ x ml a0 a1 L M S C key (cs_mk (cs_ml z) (cs_asked z) (cs_most z) (ts_mk (ts_nodes (cs_t0 z)) (ts_cnts (cs_t0 z)) (ts_stash (cs_t0 z)) (ts_trail (cs_t0 z)) (ts_plan (cs_t0 z)) (ts_tgt (cs_t0 z)) (ts_way (cs_t0 z)) (ts_sought (cs_t0 z))) (ts_mk (ts_nodes (cs_t1 z)) (ts_cnts (cs_t1 z)) (ts_stash (cs_t1 z)) (ts_trail (cs_t1 z)) (ts_plan (cs_t1 z)) (ts_tgt (cs_t1 z)) (ts_way (cs_t1 z)) (ts_sought (cs_t1 z))))) H) (tr nd sl wd : Int32) : vx_Met l y_CT_stored (k_CT_stored :: bw) { frames := 7, cells := 2, slots := 12, locals := 121 } (xP (dC, dI) kCl [(cI, .int), (cJ, .long)] [.ref x, .int tr, .int nd, .int sl, .int wd] H) (xQl H ((tr < 0 ∨ 1 < tr) ∨ tr_nd (cs_L tr L M) nd = false ∨ (sl < 0 ∨ nI S ≤ sl) ∨ (wd < 0 ∨ 3 ≤ wd)) (tr_word (cs_L tr L M) S (cs_t tr z) nd sl wd.toNatClampNeg ^^^ ct_seal key tr nd sl wd (ts_cnts (cs_t tr z) nd.toNatClampNeg))) (xX ((tr < 0 ∨ 1 < tr) ∨ tr_nd (cs_L tr L M) nd = false ∨ (sl < 0 ∨ nI S ≤ sl) ∨ (wd < 0 ∨ 3 ≤ wd)) xIO) 2 12 (fun _ => False) := by
  refine Met.ofX (own := "CoinTree") (by decide) rfl [.ref x, .int tr, .int nd, .int sl, .int wd] (Nat.le_of_ble_eq_true rfl) (fun _ _ h => h.1) ?_
  intro p e s m below meth c ls C0 hex hv hl
  obtain ⟨hx, hb, hr, hml, hown, hT, hlocks⟩ := C0
  obtain ⟨-, rfl, hK, xe⟩ := hv
  have hS : va_S (fun _ => False) s.heap s.heap [] := va_S.rf
  have hl : lv_has ls 8 [(0, .ref x), (1, .int tr), (2, .int nd), (3, .int sl), (4, .int wd)] := hl
  refine lv_aload_n hx hb d_CT_stored_0 rfl (lv_at hl 0 rfl) ?_
  refine lv_iload_n hx hb d_CT_stored_1 rfl (lv_at hl 1 rfl) ?_
  refine xc_r (vx_runV (As := [.int tr]) (rest := []) ⟨hx, hb, hml, hown, hT⟩ (c_CT_treeNumbered hl9 ok0 ok1 hP tr) (cwV 1 hT (gi_V m_400 m_397 m_399 m_8 m_22) rfl rfl rfl p_CT_treeNumbered ⟨Nat.le_of_ble_eq_true rfl, Nat.le_of_ble_eq_true rfl⟩) ⟨xP_blind, va_recv hK hP (ci := 3) (q0 := 0) rfl rfl, xP_pre hK xe⟩ rfl rfl hl.1 rfl (lv_room (Nat.le_of_ble_eq_true rfl)) d_CT_stored_2 ⟨by decide, by decide⟩) hS (fun ce q9 H1 locs1 hcd hz hk hS9 hcell hcv hcl => vx_out (fun x9 h9 => (hex x9 h9).elim) hlocks hcell hcv hcl (fun t9 ht _ => xX_end (Or.inl hcd) (by rw [ht]; exact hz) (fun q hq => by rw [ht]; exact hk q hq)) hS9.2.2 (by decide) (by decide)) (fun locs hnc hS => ?_)
  rcases tr_01 hnc with rfl | rfl
  · rw [show (if (0 : Int32) = 0 then a0 0 else a1 0) = a0 0 from if_pos rfl]
    refine lv_astore (lv' := [(5, .ref (a0 0)), (0, .ref x), (1, .int 0), (2, .int nd), (3, .int sl), (4, .int wd)]) hx hb d_CT_stored_5 hl (by decide) rfl (fun ls hl => ?_)
    refine lv_aload hx hb d_CT_stored_7 (lv_at hl 0 rfl) ?_
    refine lv_iload_n hx hb d_CT_stored_9 rfl (lv_at hl 3 rfl) ?_
    refine zc_i (va_runV (As := [.int nd]) (rest := []) ⟨hx, hb, hml, hown, hT⟩ (c_TR_hasNode (t := ts_mk (ts_nodes (cs_t0 z)) (ts_cnts (cs_t0 z)) (ts_stash (cs_t0 z)) (ts_trail (cs_t0 z)) (ts_plan (cs_t0 z)) (ts_tgt (cs_t0 z)) (ts_way (cs_t0 z)) (ts_sought (cs_t0 z))) ok0 (hP.sub (ws' := tw_ cI cJ a0 L S C 64 (ts_mk (ts_nodes (cs_t0 z)) (ts_cnts (cs_t0 z)) (ts_stash (cs_t0 z)) (ts_trail (cs_t0 z)) (ts_plan (cs_t0 z)) (ts_tgt (cs_t0 z)) (ts_way (cs_t0 z)) (ts_sought (cs_t0 z)))) [2, 3, 4, 5, 6, 7, 8, 9, 10, 11, 12, 13, 14, 15, 16, 17, 18] rfl) nd) (cwV 1 hT (gi_V m_376 m_414 m_374 m_375 m_24) rfl rfl rfl p_TR_hasNode ⟨Nat.le_of_ble_eq_true rfl, Nat.le_of_ble_eq_true rfl⟩) ⟨zP_blind, va_recv hK hP (ci := 2) (q0 := 2) rfl rfl, zP_pre hK⟩ rfl rfl hl.1 rfl (lv_room (Nat.le_of_ble_eq_true rfl)) d_CT_stored_10 ⟨by decide, by decide⟩) hS (fun locs hS => ?_)
    refine lv_if_ne (tgt := 26) hx hb d_CT_stored_13 (by decide) (fun c_1 => ?_) (fun c_1 => ?_)
    · refine lv_iload_n hx hb d_CT_stored_26 rfl (lv_at hl 4 rfl) ?_
      refine lv_if_lt (tgt := 38) hx hb d_CT_stored_27 (by decide) (fun c_2 => ?_) (fun c_2 => ?_)
      · exact xt_io hx hb hl9 hown hT xe hS (hl.1.trans hml.symm) (is := 83) (tx := "no such slot") (by decide) d_CT_stored_38 d_CT_stored_41 d_CT_stored_42 d_CT_stored_44 d_CT_stored_47 hex (Nat.le_of_ble_eq_true rfl) (Nat.le_of_ble_eq_true rfl) (by decide) (by decide) hlocks hS.2.2 (by decide) (by decide) (fun t9 _ h1 h2 => xX_end (by rw [cs_L_0]; exact by first | exact Or.inr (Or.inr (Or.inl (Or.inl c_2))) | exact Or.inr (Or.inr (Or.inl (Or.inr (Int32.not_lt.mp c_3))))) h1 h2)
      · refine lv_iload_n hx hb d_CT_stored_30 rfl (lv_at hl 4 rfl) ?_
        refine lv_aload_n hx hb d_CT_stored_31 rfl (lv_at hl 1 rfl) ?_
        refine va_get (D := (dC, dI)) (ci := 3) (v := .int (nI S)) (C := R_CT) (T := F_CT) (N := 8) hx hb hT i_CT hown hK hP 0 rfl rfl 0 (by decide) (hT _ m_142) (fun _ h9 => h9) rfl d_CT_stored_32 ?_
        refine lv_icmp_lt (tgt := 48) hx hb d_CT_stored_35 (by decide) (fun c_3 => ?_) (fun c_3 => ?_)
        · refine lv_iload hx hb d_CT_stored_48 (lv_at hl 5 rfl) ?_
          refine lv_if_lt (tgt := 59) hx hb d_CT_stored_50 (by decide) (fun c_4 => ?_) (fun c_4 => ?_)
          · exact xt_io hx hb hl9 hown hT xe hS (hl.1.trans hml.symm) (is := 85) (tx := "no such word") (by decide) d_CT_stored_59 d_CT_stored_62 d_CT_stored_63 d_CT_stored_65 d_CT_stored_68 hex (Nat.le_of_ble_eq_true rfl) (Nat.le_of_ble_eq_true rfl) (by decide) (by decide) hlocks hS.2.2 (by decide) (by decide) (fun t9 _ h1 h2 => xX_end (by rw [cs_L_0]; exact by first | exact Or.inr (Or.inr (Or.inr (Or.inl c_4))) | exact Or.inr (Or.inr (Or.inr (Or.inr (Int32.not_lt.mp c_5))))) h1 h2)
          · refine lv_iload hx hb d_CT_stored_53 (lv_at hl 5 rfl) ?_
            refine lv_iconst (v := 3) hx hb d_CT_stored_55 (by decide) ?_
            refine lv_icmp_lt (tgt := 69) hx hb d_CT_stored_56 (by decide) (fun c_5 => ?_) (fun c_5 => ?_)
            · obtain ⟨k, hk3, rfl⟩ := wd_in c_4 c_5
              refine lv_iload_n hx hb d_CT_stored_69 rfl (lv_at hl 2 rfl) ?_
              refine lv_bipush (v := 64) hx hb d_CT_stored_70 (by decide) ?_
              refine lv_imul hx hb d_CT_stored_72 ?_
              refine lv_iload_n hx hb d_CT_stored_73 rfl (lv_at hl 3 rfl) ?_
              refine lv_iadd hx hb d_CT_stored_74 ?_
              refine lv_iconst (v := 4) hx hb d_CT_stored_75 (by decide) ?_
              refine lv_imul hx hb d_CT_stored_76 ?_
              refine lv_iload_n hx hb d_CT_stored_77 rfl (lv_at hl 4 rfl) ?_
              refine lv_iadd hx hb d_CT_stored_78 ?_
              refine lv_iconst (v := 4) hx hb d_CT_stored_79 (by decide) ?_
              refine lv_imul hx hb d_CT_stored_80 ?_
              refine lv_iload hx hb d_CT_stored_81 (lv_at hl 5 rfl) ?_
              refine lv_iadd hx hb d_CT_stored_83 ?_
              refine lv_i2l (v := ((((((0 * 64) + nd) * 4) + sl) * 4) + (nI k)).toInt64) hx hb d_CT_stored_84 rfl ?_
              refine lv_lstore (lv' := [(6, .long (((((((0 * 64) + nd) * 4) + sl) * 4) + (nI k)).toInt64)), (5, .ref (a0 0)), (0, .ref x), (1, .int 0), (2, .int nd), (3, .int sl), (4, .int (nI k))]) hx hb d_CT_stored_85 hl (by decide) rfl (fun ls hl => ?_)
              refine lv_aload hx hb d_CT_stored_87 (lv_at hl 1 rfl) ?_
              refine lv_iload_n hx hb d_CT_stored_89 rfl (lv_at hl 4 rfl) ?_
              refine lv_iload_n hx hb d_CT_stored_90 rfl (lv_at hl 5 rfl) ?_
              refine lv_iload hx hb d_CT_stored_91 (lv_at hl 6 rfl) ?_
              refine zc_l (va_runV (As := [.int nd, .int sl, .int (nI k)]) (rest := []) ⟨hx, hb, hml, hown, hT⟩ (c_TR_wordAt (t := ts_mk (ts_nodes (cs_t0 z)) (ts_cnts (cs_t0 z)) (ts_stash (cs_t0 z)) (ts_trail (cs_t0 z)) (ts_plan (cs_t0 z)) (ts_tgt (cs_t0 z)) (ts_way (cs_t0 z)) (ts_sought (cs_t0 z))) ok0 (hP.sub (ws' := tw_ cI cJ a0 L S C 64 (ts_mk (ts_nodes (cs_t0 z)) (ts_cnts (cs_t0 z)) (ts_stash (cs_t0 z)) (ts_trail (cs_t0 z)) (ts_plan (cs_t0 z)) (ts_tgt (cs_t0 z)) (ts_way (cs_t0 z)) (ts_sought (cs_t0 z)))) [2, 3, 4, 5, 6, 7, 8, 9, 10, 11, 12, 13, 14, 15, 16, 17, 18] rfl) nd sl k hk3) (cwV 3 hT (gi_V m_421 m_418 m_419 m_420 m_24) rfl rfl rfl p_TR_wordAt ⟨Nat.le_of_ble_eq_true rfl, Nat.le_of_ble_eq_true rfl⟩) ⟨zP_blind, va_recv hK hP (ci := 2) (q0 := 2) rfl rfl, zP_pre hK⟩ rfl rfl hl.1 rfl (lv_room (Nat.le_of_ble_eq_true rfl)) d_CT_stored_93 ⟨by decide, by decide⟩) hS (fun locs hS => ?_)
              refine lv_aload_n hx hb d_CT_stored_96 rfl (lv_at hl 2 rfl) ?_
              refine va_get (D := (dC, dI)) (ci := 3) (v := .long key) (C := R_CT) (T := F_CT) (N := 8) hx hb hT i_CT hown hK hP 0 rfl rfl 2 (by decide) (hT _ m_144) (fun _ h9 => h9) rfl d_CT_stored_97 ?_
              refine lv_ldc2 (v := 1000003) hx hb hown (hT _ m_422) d_CT_stored_100 ?_
              refine lv_lload hx hb d_CT_stored_103 (lv_at hl 0 rfl) ?_
              refine lv_lmul hx hb d_CT_stored_105 ?_
              refine lv_ladd hx hb d_CT_stored_106 ?_
              refine lv_ldc2 (v := (-7046029254386353131)) hx hb hown (hT _ m_423) d_CT_stored_107 ?_
              refine lv_aload hx hb d_CT_stored_110 (lv_at hl 1 rfl) ?_
              refine lv_iload_n hx hb d_CT_stored_112 rfl (lv_at hl 4 rfl) ?_
              refine zc_i (va_runV (As := [.int nd]) (rest := [.long (-7046029254386353131), .long (key + (1000003 * (((((((0 * 64) + nd) * 4) + sl) * 4) + (nI k)).toInt64))), .long (tr_word L S (cs_t0 z) nd sl k)]) ⟨hx, hb, hml, hown, hT⟩ (c_TR_timesWritten (t := ts_mk (ts_nodes (cs_t0 z)) (ts_cnts (cs_t0 z)) (ts_stash (cs_t0 z)) (ts_trail (cs_t0 z)) (ts_plan (cs_t0 z)) (ts_tgt (cs_t0 z)) (ts_way (cs_t0 z)) (ts_sought (cs_t0 z))) ok0 (hP.sub (ws' := tw_ cI cJ a0 L S C 64 (ts_mk (ts_nodes (cs_t0 z)) (ts_cnts (cs_t0 z)) (ts_stash (cs_t0 z)) (ts_trail (cs_t0 z)) (ts_plan (cs_t0 z)) (ts_tgt (cs_t0 z)) (ts_way (cs_t0 z)) (ts_sought (cs_t0 z)))) [2, 3, 4, 5, 6, 7, 8, 9, 10, 11, 12, 13, 14, 15, 16, 17, 18] rfl) nd) (cwV 1 hT (gi_V m_427 m_424 m_425 m_426 m_24) rfl rfl rfl p_TR_timesWritten ⟨Nat.le_of_ble_eq_true rfl, Nat.le_of_ble_eq_true rfl⟩) ⟨zP_blind, va_recv hK hP (ci := 2) (q0 := 2) rfl rfl, zP_pre hK⟩ rfl rfl hl.1 rfl (lv_room (Nat.le_of_ble_eq_true rfl)) d_CT_stored_113 ⟨by decide, by decide⟩) hS (fun locs hS => ?_)
              refine lv_i2l (v := (if tr_nd L nd = true then ts_cnts (cs_t0 z) nd.toNatClampNeg else 0).toInt64) hx hb d_CT_stored_116 rfl ?_
              refine lv_lmul hx hb d_CT_stored_117 ?_
              refine lv_ladd hx hb d_CT_stored_118 ?_
              refine zc_l (va_runS (As := [.long ((key + (1000003 * (((((((0 * 64) + nd) * 4) + sl) * 4) + (nI k)).toInt64))) + ((-7046029254386353131) * ((if tr_nd L nd = true then ts_cnts (cs_t0 z) nd.toNatClampNeg else 0).toInt64)))]) (rest := [.long (tr_word L S (cs_t0 z) nd sl k)]) ⟨hx, hb, hml, hown, hT⟩ (c_CT_mix ((key + (1000003 * (((((((0 * 64) + nd) * 4) + sl) * 4) + (nI k)).toInt64))) + ((-7046029254386353131) * ((if tr_nd L nd = true then ts_cnts (cs_t0 z) nd.toNatClampNeg else 0).toInt64)))) (cwS 1 hT (gi_S m_430 m_428 m_429 m_22) rfl rfl rfl p_CT_mix ⟨Nat.le_of_ble_eq_true rfl, Nat.le_of_ble_eq_true rfl⟩) ⟨zP_blind, zP_pre hK⟩ rfl rfl hl.1 rfl (lv_room (Nat.le_of_ble_eq_true rfl)) d_CT_stored_119 ⟨by decide, by decide⟩) hS (fun locs hS => ?_)
              refine lv_lxor hx hb d_CT_stored_122 ?_
              refine vx_ret ?_
              refine W.widen (k := 2) (n := 12) (by decide) (by decide) ?_
              exact W.lret hx hb hr (fun t9 ht _ => xQl_end (by rw [cs_L_0]; exact fun h => h.elim hnc (fun h => h.elim (fun h => absurd (b2i_n.mp c_1) (by rw [h]; decide)) (fun h => h.elim (fun h => h.elim c_2 (fun h => absurd c_3 (Int32.not_lt.mpr h))) (fun h => h.elim c_4 (fun h => absurd c_5 (Int32.not_lt.mpr h)))))) (by rw [cs_t_0, cs_L_0, nI_clamp (show k < 2 ^ 31 by omega), if_pos (b2i_n.mp c_1)]; rfl) rfl ht) hS.2.2 d_CT_stored_123 hlocks
            · exact xt_io hx hb hl9 hown hT xe hS (hl.1.trans hml.symm) (is := 85) (tx := "no such word") (by decide) d_CT_stored_59 d_CT_stored_62 d_CT_stored_63 d_CT_stored_65 d_CT_stored_68 hex (Nat.le_of_ble_eq_true rfl) (Nat.le_of_ble_eq_true rfl) (by decide) (by decide) hlocks hS.2.2 (by decide) (by decide) (fun t9 _ h1 h2 => xX_end (by rw [cs_L_0]; exact by first | exact Or.inr (Or.inr (Or.inr (Or.inl c_4))) | exact Or.inr (Or.inr (Or.inr (Or.inr (Int32.not_lt.mp c_5))))) h1 h2)
        · exact xt_io hx hb hl9 hown hT xe hS (hl.1.trans hml.symm) (is := 83) (tx := "no such slot") (by decide) d_CT_stored_38 d_CT_stored_41 d_CT_stored_42 d_CT_stored_44 d_CT_stored_47 hex (Nat.le_of_ble_eq_true rfl) (Nat.le_of_ble_eq_true rfl) (by decide) (by decide) hlocks hS.2.2 (by decide) (by decide) (fun t9 _ h1 h2 => xX_end (by rw [cs_L_0]; exact by first | exact Or.inr (Or.inr (Or.inl (Or.inl c_2))) | exact Or.inr (Or.inr (Or.inl (Or.inr (Int32.not_lt.mp c_3))))) h1 h2)
    · exact xt_io hx hb hl9 hown hT xe hS (hl.1.trans hml.symm) (is := 81) (tx := "no such node") (by decide) d_CT_stored_16 d_CT_stored_19 d_CT_stored_20 d_CT_stored_22 d_CT_stored_25 hex (Nat.le_of_ble_eq_true rfl) (Nat.le_of_ble_eq_true rfl) (by decide) (by decide) hlocks hS.2.2 (by decide) (by decide) (fun t9 _ h1 h2 => xX_end (by rw [cs_L_0]; exact Or.inr (Or.inl (b2i_0.mp c_1))) h1 h2)
  · rw [show (if (1 : Int32) = 0 then a0 0 else a1 0) = a1 0 from if_neg (by decide)]
    refine lv_astore (lv' := [(5, .ref (a1 0)), (0, .ref x), (1, .int 1), (2, .int nd), (3, .int sl), (4, .int wd)]) hx hb d_CT_stored_5 hl (by decide) rfl (fun ls hl => ?_)
    refine lv_aload hx hb d_CT_stored_7 (lv_at hl 0 rfl) ?_
    refine lv_iload_n hx hb d_CT_stored_9 rfl (lv_at hl 3 rfl) ?_
    refine zc_i (va_runV (As := [.int nd]) (rest := []) ⟨hx, hb, hml, hown, hT⟩ (c_TR_hasNode (t := ts_mk (ts_nodes (cs_t1 z)) (ts_cnts (cs_t1 z)) (ts_stash (cs_t1 z)) (ts_trail (cs_t1 z)) (ts_plan (cs_t1 z)) (ts_tgt (cs_t1 z)) (ts_way (cs_t1 z)) (ts_sought (cs_t1 z))) ok1 (hP.sub (ws' := tw_ cI cJ a1 M S C 16 (ts_mk (ts_nodes (cs_t1 z)) (ts_cnts (cs_t1 z)) (ts_stash (cs_t1 z)) (ts_trail (cs_t1 z)) (ts_plan (cs_t1 z)) (ts_tgt (cs_t1 z)) (ts_way (cs_t1 z)) (ts_sought (cs_t1 z)))) [19, 20, 21, 22, 23, 24, 25, 26, 27, 28, 29, 30, 31, 32, 33, 34, 35] rfl) nd) (cwV 1 hT (gi_V m_376 m_414 m_374 m_375 m_24) rfl rfl rfl p_TR_hasNode ⟨Nat.le_of_ble_eq_true rfl, Nat.le_of_ble_eq_true rfl⟩) ⟨zP_blind, va_recv hK hP (ci := 2) (q0 := 19) rfl rfl, zP_pre hK⟩ rfl rfl hl.1 rfl (lv_room (Nat.le_of_ble_eq_true rfl)) d_CT_stored_10 ⟨by decide, by decide⟩) hS (fun locs hS => ?_)
    refine lv_if_ne (tgt := 26) hx hb d_CT_stored_13 (by decide) (fun c_1 => ?_) (fun c_1 => ?_)
    · refine lv_iload_n hx hb d_CT_stored_26 rfl (lv_at hl 4 rfl) ?_
      refine lv_if_lt (tgt := 38) hx hb d_CT_stored_27 (by decide) (fun c_2 => ?_) (fun c_2 => ?_)
      · exact xt_io hx hb hl9 hown hT xe hS (hl.1.trans hml.symm) (is := 83) (tx := "no such slot") (by decide) d_CT_stored_38 d_CT_stored_41 d_CT_stored_42 d_CT_stored_44 d_CT_stored_47 hex (Nat.le_of_ble_eq_true rfl) (Nat.le_of_ble_eq_true rfl) (by decide) (by decide) hlocks hS.2.2 (by decide) (by decide) (fun t9 _ h1 h2 => xX_end (by rw [cs_L_1]; exact by first | exact Or.inr (Or.inr (Or.inl (Or.inl c_2))) | exact Or.inr (Or.inr (Or.inl (Or.inr (Int32.not_lt.mp c_3))))) h1 h2)
      · refine lv_iload_n hx hb d_CT_stored_30 rfl (lv_at hl 4 rfl) ?_
        refine lv_aload_n hx hb d_CT_stored_31 rfl (lv_at hl 1 rfl) ?_
        refine va_get (D := (dC, dI)) (ci := 3) (v := .int (nI S)) (C := R_CT) (T := F_CT) (N := 8) hx hb hT i_CT hown hK hP 0 rfl rfl 0 (by decide) (hT _ m_142) (fun _ h9 => h9) rfl d_CT_stored_32 ?_
        refine lv_icmp_lt (tgt := 48) hx hb d_CT_stored_35 (by decide) (fun c_3 => ?_) (fun c_3 => ?_)
        · refine lv_iload hx hb d_CT_stored_48 (lv_at hl 5 rfl) ?_
          refine lv_if_lt (tgt := 59) hx hb d_CT_stored_50 (by decide) (fun c_4 => ?_) (fun c_4 => ?_)
          · exact xt_io hx hb hl9 hown hT xe hS (hl.1.trans hml.symm) (is := 85) (tx := "no such word") (by decide) d_CT_stored_59 d_CT_stored_62 d_CT_stored_63 d_CT_stored_65 d_CT_stored_68 hex (Nat.le_of_ble_eq_true rfl) (Nat.le_of_ble_eq_true rfl) (by decide) (by decide) hlocks hS.2.2 (by decide) (by decide) (fun t9 _ h1 h2 => xX_end (by rw [cs_L_1]; exact by first | exact Or.inr (Or.inr (Or.inr (Or.inl c_4))) | exact Or.inr (Or.inr (Or.inr (Or.inr (Int32.not_lt.mp c_5))))) h1 h2)
          · refine lv_iload hx hb d_CT_stored_53 (lv_at hl 5 rfl) ?_
            refine lv_iconst (v := 3) hx hb d_CT_stored_55 (by decide) ?_
            refine lv_icmp_lt (tgt := 69) hx hb d_CT_stored_56 (by decide) (fun c_5 => ?_) (fun c_5 => ?_)
            · obtain ⟨k, hk3, rfl⟩ := wd_in c_4 c_5
              refine lv_iload_n hx hb d_CT_stored_69 rfl (lv_at hl 2 rfl) ?_
              refine lv_bipush (v := 64) hx hb d_CT_stored_70 (by decide) ?_
              refine lv_imul hx hb d_CT_stored_72 ?_
              refine lv_iload_n hx hb d_CT_stored_73 rfl (lv_at hl 3 rfl) ?_
              refine lv_iadd hx hb d_CT_stored_74 ?_
              refine lv_iconst (v := 4) hx hb d_CT_stored_75 (by decide) ?_
              refine lv_imul hx hb d_CT_stored_76 ?_
              refine lv_iload_n hx hb d_CT_stored_77 rfl (lv_at hl 4 rfl) ?_
              refine lv_iadd hx hb d_CT_stored_78 ?_
              refine lv_iconst (v := 4) hx hb d_CT_stored_79 (by decide) ?_
              refine lv_imul hx hb d_CT_stored_80 ?_
              refine lv_iload hx hb d_CT_stored_81 (lv_at hl 5 rfl) ?_
              refine lv_iadd hx hb d_CT_stored_83 ?_
              refine lv_i2l (v := ((((((1 * 64) + nd) * 4) + sl) * 4) + (nI k)).toInt64) hx hb d_CT_stored_84 rfl ?_
              refine lv_lstore (lv' := [(6, .long (((((((1 * 64) + nd) * 4) + sl) * 4) + (nI k)).toInt64)), (5, .ref (a1 0)), (0, .ref x), (1, .int 1), (2, .int nd), (3, .int sl), (4, .int (nI k))]) hx hb d_CT_stored_85 hl (by decide) rfl (fun ls hl => ?_)
              refine lv_aload hx hb d_CT_stored_87 (lv_at hl 1 rfl) ?_
              refine lv_iload_n hx hb d_CT_stored_89 rfl (lv_at hl 4 rfl) ?_
              refine lv_iload_n hx hb d_CT_stored_90 rfl (lv_at hl 5 rfl) ?_
              refine lv_iload hx hb d_CT_stored_91 (lv_at hl 6 rfl) ?_
              refine zc_l (va_runV (As := [.int nd, .int sl, .int (nI k)]) (rest := []) ⟨hx, hb, hml, hown, hT⟩ (c_TR_wordAt (t := ts_mk (ts_nodes (cs_t1 z)) (ts_cnts (cs_t1 z)) (ts_stash (cs_t1 z)) (ts_trail (cs_t1 z)) (ts_plan (cs_t1 z)) (ts_tgt (cs_t1 z)) (ts_way (cs_t1 z)) (ts_sought (cs_t1 z))) ok1 (hP.sub (ws' := tw_ cI cJ a1 M S C 16 (ts_mk (ts_nodes (cs_t1 z)) (ts_cnts (cs_t1 z)) (ts_stash (cs_t1 z)) (ts_trail (cs_t1 z)) (ts_plan (cs_t1 z)) (ts_tgt (cs_t1 z)) (ts_way (cs_t1 z)) (ts_sought (cs_t1 z)))) [19, 20, 21, 22, 23, 24, 25, 26, 27, 28, 29, 30, 31, 32, 33, 34, 35] rfl) nd sl k hk3) (cwV 3 hT (gi_V m_421 m_418 m_419 m_420 m_24) rfl rfl rfl p_TR_wordAt ⟨Nat.le_of_ble_eq_true rfl, Nat.le_of_ble_eq_true rfl⟩) ⟨zP_blind, va_recv hK hP (ci := 2) (q0 := 19) rfl rfl, zP_pre hK⟩ rfl rfl hl.1 rfl (lv_room (Nat.le_of_ble_eq_true rfl)) d_CT_stored_93 ⟨by decide, by decide⟩) hS (fun locs hS => ?_)
              refine lv_aload_n hx hb d_CT_stored_96 rfl (lv_at hl 2 rfl) ?_
              refine va_get (D := (dC, dI)) (ci := 3) (v := .long key) (C := R_CT) (T := F_CT) (N := 8) hx hb hT i_CT hown hK hP 0 rfl rfl 2 (by decide) (hT _ m_144) (fun _ h9 => h9) rfl d_CT_stored_97 ?_
              refine lv_ldc2 (v := 1000003) hx hb hown (hT _ m_422) d_CT_stored_100 ?_
              refine lv_lload hx hb d_CT_stored_103 (lv_at hl 0 rfl) ?_
              refine lv_lmul hx hb d_CT_stored_105 ?_
              refine lv_ladd hx hb d_CT_stored_106 ?_
              refine lv_ldc2 (v := (-7046029254386353131)) hx hb hown (hT _ m_423) d_CT_stored_107 ?_
              refine lv_aload hx hb d_CT_stored_110 (lv_at hl 1 rfl) ?_
              refine lv_iload_n hx hb d_CT_stored_112 rfl (lv_at hl 4 rfl) ?_
              refine zc_i (va_runV (As := [.int nd]) (rest := [.long (-7046029254386353131), .long (key + (1000003 * (((((((1 * 64) + nd) * 4) + sl) * 4) + (nI k)).toInt64))), .long (tr_word M S (cs_t1 z) nd sl k)]) ⟨hx, hb, hml, hown, hT⟩ (c_TR_timesWritten (t := ts_mk (ts_nodes (cs_t1 z)) (ts_cnts (cs_t1 z)) (ts_stash (cs_t1 z)) (ts_trail (cs_t1 z)) (ts_plan (cs_t1 z)) (ts_tgt (cs_t1 z)) (ts_way (cs_t1 z)) (ts_sought (cs_t1 z))) ok1 (hP.sub (ws' := tw_ cI cJ a1 M S C 16 (ts_mk (ts_nodes (cs_t1 z)) (ts_cnts (cs_t1 z)) (ts_stash (cs_t1 z)) (ts_trail (cs_t1 z)) (ts_plan (cs_t1 z)) (ts_tgt (cs_t1 z)) (ts_way (cs_t1 z)) (ts_sought (cs_t1 z)))) [19, 20, 21, 22, 23, 24, 25, 26, 27, 28, 29, 30, 31, 32, 33, 34, 35] rfl) nd) (cwV 1 hT (gi_V m_427 m_424 m_425 m_426 m_24) rfl rfl rfl p_TR_timesWritten ⟨Nat.le_of_ble_eq_true rfl, Nat.le_of_ble_eq_true rfl⟩) ⟨zP_blind, va_recv hK hP (ci := 2) (q0 := 19) rfl rfl, zP_pre hK⟩ rfl rfl hl.1 rfl (lv_room (Nat.le_of_ble_eq_true rfl)) d_CT_stored_113 ⟨by decide, by decide⟩) hS (fun locs hS => ?_)
              refine lv_i2l (v := (if tr_nd M nd = true then ts_cnts (cs_t1 z) nd.toNatClampNeg else 0).toInt64) hx hb d_CT_stored_116 rfl ?_
              refine lv_lmul hx hb d_CT_stored_117 ?_
              refine lv_ladd hx hb d_CT_stored_118 ?_
              refine zc_l (va_runS (As := [.long ((key + (1000003 * (((((((1 * 64) + nd) * 4) + sl) * 4) + (nI k)).toInt64))) + ((-7046029254386353131) * ((if tr_nd M nd = true then ts_cnts (cs_t1 z) nd.toNatClampNeg else 0).toInt64)))]) (rest := [.long (tr_word M S (cs_t1 z) nd sl k)]) ⟨hx, hb, hml, hown, hT⟩ (c_CT_mix ((key + (1000003 * (((((((1 * 64) + nd) * 4) + sl) * 4) + (nI k)).toInt64))) + ((-7046029254386353131) * ((if tr_nd M nd = true then ts_cnts (cs_t1 z) nd.toNatClampNeg else 0).toInt64)))) (cwS 1 hT (gi_S m_430 m_428 m_429 m_22) rfl rfl rfl p_CT_mix ⟨Nat.le_of_ble_eq_true rfl, Nat.le_of_ble_eq_true rfl⟩) ⟨zP_blind, zP_pre hK⟩ rfl rfl hl.1 rfl (lv_room (Nat.le_of_ble_eq_true rfl)) d_CT_stored_119 ⟨by decide, by decide⟩) hS (fun locs hS => ?_)
              refine lv_lxor hx hb d_CT_stored_122 ?_
              refine vx_ret ?_
              refine W.widen (k := 2) (n := 12) (by decide) (by decide) ?_
              exact W.lret hx hb hr (fun t9 ht _ => xQl_end (by rw [cs_L_1]; exact fun h => h.elim hnc (fun h => h.elim (fun h => absurd (b2i_n.mp c_1) (by rw [h]; decide)) (fun h => h.elim (fun h => h.elim c_2 (fun h => absurd c_3 (Int32.not_lt.mpr h))) (fun h => h.elim c_4 (fun h => absurd c_5 (Int32.not_lt.mpr h)))))) (by rw [cs_t_1, cs_L_1, nI_clamp (show k < 2 ^ 31 by omega), if_pos (b2i_n.mp c_1)]; rfl) rfl ht) hS.2.2 d_CT_stored_123 hlocks
            · exact xt_io hx hb hl9 hown hT xe hS (hl.1.trans hml.symm) (is := 85) (tx := "no such word") (by decide) d_CT_stored_59 d_CT_stored_62 d_CT_stored_63 d_CT_stored_65 d_CT_stored_68 hex (Nat.le_of_ble_eq_true rfl) (Nat.le_of_ble_eq_true rfl) (by decide) (by decide) hlocks hS.2.2 (by decide) (by decide) (fun t9 _ h1 h2 => xX_end (by rw [cs_L_1]; exact by first | exact Or.inr (Or.inr (Or.inr (Or.inl c_4))) | exact Or.inr (Or.inr (Or.inr (Or.inr (Int32.not_lt.mp c_5))))) h1 h2)
        · exact xt_io hx hb hl9 hown hT xe hS (hl.1.trans hml.symm) (is := 83) (tx := "no such slot") (by decide) d_CT_stored_38 d_CT_stored_41 d_CT_stored_42 d_CT_stored_44 d_CT_stored_47 hex (Nat.le_of_ble_eq_true rfl) (Nat.le_of_ble_eq_true rfl) (by decide) (by decide) hlocks hS.2.2 (by decide) (by decide) (fun t9 _ h1 h2 => xX_end (by rw [cs_L_1]; exact by first | exact Or.inr (Or.inr (Or.inl (Or.inl c_2))) | exact Or.inr (Or.inr (Or.inl (Or.inr (Int32.not_lt.mp c_3))))) h1 h2)
    · exact xt_io hx hb hl9 hown hT xe hS (hl.1.trans hml.symm) (is := 81) (tx := "no such node") (by decide) d_CT_stored_16 d_CT_stored_19 d_CT_stored_20 d_CT_stored_22 d_CT_stored_25 hex (Nat.le_of_ble_eq_true rfl) (Nat.le_of_ble_eq_true rfl) (by decide) (by decide) hlocks hS.2.2 (by decide) (by decide) (fun t9 _ h1 h2 => xX_end (by rw [cs_L_1]; exact Or.inr (Or.inl (b2i_0.mp c_1))) h1 h2)

set_option maxHeartbeats 4000000 in
set_option maxRecDepth 100000 in
/-- CoinTree.count -/
theorem c_CT_count {l : Launch} (hl9 : l.stackTraces = false) {dC : Nat → ClassId} {dI : Nat → Nat → Nat} {cI cJ : ClassId} {H : Heap} {x ml : Nat} {a0 a1 : Nat → Nat} {L M S C : Nat} {key : Int64} {z : Cs} (ok0 : tr_ok L S C 64) (ok1 : tr_ok M S C 16) (hP : va_P (dC, dI) kCl (cw_ cI cJ x ml a0 a1 L M S C key (cs_mk (cs_ml z) (cs_asked z) (cs_most z) (ts_mk (ts_nodes (cs_t0 z)) (ts_cnts (cs_t0 z)) (ts_stash (cs_t0 z)) (ts_trail (cs_t0 z)) (ts_plan (cs_t0 z)) (ts_tgt (cs_t0 z)) (ts_way (cs_t0 z)) (ts_sought (cs_t0 z))) (ts_mk (ts_nodes (cs_t1 z)) (ts_cnts (cs_t1 z)) (ts_stash (cs_t1 z)) (ts_trail (cs_t1 z)) (ts_plan (cs_t1 z)) (ts_tgt (cs_t1 z)) (ts_way (cs_t1 z)) (ts_sought (cs_t1 z))))) H) (wh : Int32) : vx_Met l y_CT_count (k_CT_count :: bw) { frames := 6, cells := 1, slots := 6, locals := 100 } (xP (dC, dI) kCl [(cI, .int), (cJ, .long)] [.ref x, .int wh] H) (xQi H (wh < 0 ∨ 8 < wh) (ct_cnt L M S C z wh.toNatClampNeg)) (xX (wh < 0 ∨ 8 < wh) xIO) 1 6 (fun _ => False) := by
  refine Met.ofX (own := "CoinTree") (by decide) rfl [.ref x, .int wh] (Nat.le_of_ble_eq_true rfl) (fun _ _ h => h.1) ?_
  intro p e s m below meth c ls C0 hex hv hl
  obtain ⟨hx, hb, hr, hml, hown, hT, hlocks⟩ := C0
  obtain ⟨-, rfl, hK, xe⟩ := hv
  have hS : va_S (fun _ => False) s.heap s.heap [] := va_S.rf
  have hl : lv_has ls 2 [(0, .ref x), (1, .int wh)] := hl
  refine lv_iload_n hx hb d_CT_count_0 rfl (lv_at hl 1 rfl) ?_
  by_cases hw : wh < 0 ∨ 8 < wh
  · refine lv_tableOut (tgt := 121) hx hb d_CT_count_1 (sw_out hw) (by decide) ?_
    exact xt_io hx hb hl9 hown hT xe hS (hl.1.trans hml.symm) (is := 125) (tx := "no such what") (by decide) d_CT_count_121 d_CT_count_124 d_CT_count_125 d_CT_count_127 d_CT_count_130 hex (Nat.le_of_ble_eq_true rfl) (Nat.le_of_ble_eq_true rfl) (by decide) (by decide) hlocks hS.2.2 (by decide) (by decide) (fun t9 _ h1 h2 => xX_end (hw) h1 h2)
  · obtain ⟨k, hk, rfl⟩ := sw_in hw
    rcases (show k = 0 ∨ k = 1 ∨ k = 2 ∨ k = 3 ∨ k = 4 ∨ k = 5 ∨ k = 6 ∨ k = 7 ∨ k = 8 by omega) with rfl | rfl | rfl | rfl | rfl | rfl | rfl | rfl | rfl
    · refine lv_tableIn (off := 51) (tgt := 52) hx hb d_CT_count_1 (by decide +kernel) (by decide +kernel) (by decide +kernel) (by decide) ?_
      refine lv_aload_n hx hb d_CT_count_52 rfl (lv_at hl 0 rfl) ?_
      refine va_get (D := (dC, dI)) (ci := 3) (v := .ref (a0 0)) (C := R_CT) (T := F_CT) (N := 8) hx hb hT i_CT hown hK hP 0 rfl rfl 3 (by decide) (hT _ m_145) (fun _ h9 => h9) rfl d_CT_count_53 ?_
      refine va_get (D := (dC, dI)) (ci := 2) (v := .int (nI (2 ^ L))) (C := R_TR) (T := F_TR) (N := 12) hx hb hT i_TR hown hK hP 2 rfl rfl 1 (by decide) (hT _ m_100) (fun _ h9 => h9) rfl d_CT_count_56 ?_
      refine vx_ret ?_
      refine W.widen (k := 1) (n := 6) (by decide) (by decide) ?_
      exact W.iret hx hb hr (fun t9 ht _ => xQi_end (hw) (rfl) rfl ht) hS.2.2 d_CT_count_59 hlocks
    · refine lv_tableIn (off := 59) (tgt := 60) hx hb d_CT_count_1 (by decide +kernel) (by decide +kernel) (by decide +kernel) (by decide) ?_
      refine lv_aload_n hx hb d_CT_count_60 rfl (lv_at hl 0 rfl) ?_
      refine va_get (D := (dC, dI)) (ci := 3) (v := .ref (a1 0)) (C := R_CT) (T := F_CT) (N := 8) hx hb hT i_CT hown hK hP 0 rfl rfl 4 (by decide) (hT _ m_146) (fun _ h9 => h9) rfl d_CT_count_61 ?_
      refine va_get (D := (dC, dI)) (ci := 2) (v := .int (nI (2 ^ M))) (C := R_TR) (T := F_TR) (N := 12) hx hb hT i_TR hown hK hP 19 rfl rfl 1 (by decide) (hT _ m_100) (fun _ h9 => h9) rfl d_CT_count_64 ?_
      refine vx_ret ?_
      refine W.widen (k := 1) (n := 6) (by decide) (by decide) ?_
      exact W.iret hx hb hr (fun t9 ht _ => xQi_end (hw) (rfl) rfl ht) hS.2.2 d_CT_count_67 hlocks
    · refine lv_tableIn (off := 67) (tgt := 68) hx hb d_CT_count_1 (by decide +kernel) (by decide +kernel) (by decide +kernel) (by decide) ?_
      refine lv_aload_n hx hb d_CT_count_68 rfl (lv_at hl 0 rfl) ?_
      refine va_get (D := (dC, dI)) (ci := 3) (v := .int (nI S)) (C := R_CT) (T := F_CT) (N := 8) hx hb hT i_CT hown hK hP 0 rfl rfl 0 (by decide) (hT _ m_142) (fun _ h9 => h9) rfl d_CT_count_69 ?_
      refine vx_ret ?_
      refine W.widen (k := 1) (n := 6) (by decide) (by decide) ?_
      exact W.iret hx hb hr (fun t9 ht _ => xQi_end (hw) (rfl) rfl ht) hS.2.2 d_CT_count_72 hlocks
    · refine lv_tableIn (off := 72) (tgt := 73) hx hb d_CT_count_1 (by decide +kernel) (by decide +kernel) (by decide +kernel) (by decide) ?_
      refine lv_aload_n hx hb d_CT_count_73 rfl (lv_at hl 0 rfl) ?_
      refine va_get (D := (dC, dI)) (ci := 3) (v := .int (nI C)) (C := R_CT) (T := F_CT) (N := 8) hx hb hT i_CT hown hK hP 0 rfl rfl 1 (by decide) (hT _ m_143) (fun _ h9 => h9) rfl d_CT_count_74 ?_
      refine vx_ret ?_
      refine W.widen (k := 1) (n := 6) (by decide) (by decide) ?_
      exact W.iret hx hb hr (fun t9 ht _ => xQi_end (hw) (rfl) rfl ht) hS.2.2 d_CT_count_77 hlocks
    · refine lv_tableIn (off := 77) (tgt := 78) hx hb d_CT_count_1 (by decide +kernel) (by decide +kernel) (by decide +kernel) (by decide) ?_
      refine lv_aload_n hx hb d_CT_count_78 rfl (lv_at hl 0 rfl) ?_
      refine va_get (D := (dC, dI)) (ci := 3) (v := .ref (a0 0)) (C := R_CT) (T := F_CT) (N := 8) hx hb hT i_CT hown hK hP 0 rfl rfl 3 (by decide) (hT _ m_145) (fun _ h9 => h9) rfl d_CT_count_79 ?_
      refine va_get (D := (dC, dI)) (ci := 2) (v := .ref (a0 6)) (C := R_TR) (T := F_TR) (N := 12) hx hb hT i_TR hown hK hP 2 rfl rfl 6 (by decide) (hT _ m_106) (fun _ h9 => h9) rfl d_CT_count_82 ?_
      refine va_get (D := (dC, dI)) (ci := 0) (v := .int (ts_stash (cs_t0 z)).2.2.2) (C := R_RW) (T := F_RW) (N := 4) hx hb hT i_RW hown hK hP 8 rfl rfl 3 (by decide) (hT _ m_86) (fun _ h9 => h9) rfl d_CT_count_85 ?_
      refine vx_ret ?_
      refine W.widen (k := 1) (n := 6) (by decide) (by decide) ?_
      exact W.iret hx hb hr (fun t9 ht _ => xQi_end (hw) (rfl) rfl ht) hS.2.2 d_CT_count_88 hlocks
    · refine lv_tableIn (off := 88) (tgt := 89) hx hb d_CT_count_1 (by decide +kernel) (by decide +kernel) (by decide +kernel) (by decide) ?_
      refine lv_aload_n hx hb d_CT_count_89 rfl (lv_at hl 0 rfl) ?_
      refine va_get (D := (dC, dI)) (ci := 3) (v := .ref (a1 0)) (C := R_CT) (T := F_CT) (N := 8) hx hb hT i_CT hown hK hP 0 rfl rfl 4 (by decide) (hT _ m_146) (fun _ h9 => h9) rfl d_CT_count_90 ?_
      refine va_get (D := (dC, dI)) (ci := 2) (v := .ref (a1 6)) (C := R_TR) (T := F_TR) (N := 12) hx hb hT i_TR hown hK hP 19 rfl rfl 6 (by decide) (hT _ m_106) (fun _ h9 => h9) rfl d_CT_count_93 ?_
      refine va_get (D := (dC, dI)) (ci := 0) (v := .int (ts_stash (cs_t1 z)).2.2.2) (C := R_RW) (T := F_RW) (N := 4) hx hb hT i_RW hown hK hP 25 rfl rfl 3 (by decide) (hT _ m_86) (fun _ h9 => h9) rfl d_CT_count_96 ?_
      refine vx_ret ?_
      refine W.widen (k := 1) (n := 6) (by decide) (by decide) ?_
      exact W.iret hx hb hr (fun t9 ht _ => xQi_end (hw) (rfl) rfl ht) hS.2.2 d_CT_count_99 hlocks
    · refine lv_tableIn (off := 99) (tgt := 100) hx hb d_CT_count_1 (by decide +kernel) (by decide +kernel) (by decide +kernel) (by decide) ?_
      refine lv_aload_n hx hb d_CT_count_100 rfl (lv_at hl 0 rfl) ?_
      refine va_get (D := (dC, dI)) (ci := 3) (v := .int (cs_most z)) (C := R_CT) (T := F_CT) (N := 8) hx hb hT i_CT hown hK hP 0 rfl rfl 7 (by decide) (hT _ m_149) (fun _ h9 => h9) rfl d_CT_count_101 ?_
      refine vx_ret ?_
      refine W.widen (k := 1) (n := 6) (by decide) (by decide) ?_
      exact W.iret hx hb hr (fun t9 ht _ => xQi_end (hw) (rfl) rfl ht) hS.2.2 d_CT_count_104 hlocks
    · refine lv_tableIn (off := 104) (tgt := 105) hx hb d_CT_count_1 (by decide +kernel) (by decide +kernel) (by decide +kernel) (by decide) ?_
      refine lv_aload_n hx hb d_CT_count_105 rfl (lv_at hl 0 rfl) ?_
      refine va_get (D := (dC, dI)) (ci := 3) (v := .int (cs_asked z)) (C := R_CT) (T := F_CT) (N := 8) hx hb hT i_CT hown hK hP 0 rfl rfl 6 (by decide) (hT _ m_148) (fun _ h9 => h9) rfl d_CT_count_106 ?_
      refine vx_ret ?_
      refine W.widen (k := 1) (n := 6) (by decide) (by decide) ?_
      exact W.iret hx hb hr (fun t9 ht _ => xQi_end (hw) (rfl) rfl ht) hS.2.2 d_CT_count_109 hlocks
    · refine lv_tableIn (off := 109) (tgt := 110) hx hb d_CT_count_1 (by decide +kernel) (by decide +kernel) (by decide +kernel) (by decide) ?_
      refine lv_aload_n hx hb d_CT_count_110 rfl (lv_at hl 0 rfl) ?_
      refine va_get (D := (dC, dI)) (ci := 3) (v := .ref (a0 0)) (C := R_CT) (T := F_CT) (N := 8) hx hb hT i_CT hown hK hP 0 rfl rfl 3 (by decide) (hT _ m_145) (fun _ h9 => h9) rfl d_CT_count_111 ?_
      refine va_get (D := (dC, dI)) (ci := 2) (v := .ref (a0 10)) (C := R_TR) (T := F_TR) (N := 12) hx hb hT i_TR hown hK hP 2 rfl rfl 7 (by decide) (hT _ m_108) (fun _ h9 => h9) rfl d_CT_count_114 ?_
      refine va_get (D := (dC, dI)) (ci := 1) (v := .int (nI (ts_trail (cs_t0 z)).2)) (C := R_TL) (T := F_TL) (N := 3) hx hb hT i_TL hown hK hP 12 rfl rfl 2 (by decide) (hT _ m_66) (fun _ h9 => h9) rfl d_CT_count_117 ?_
      refine vx_ret ?_
      refine W.widen (k := 1) (n := 6) (by decide) (by decide) ?_
      exact W.iret hx hb hr (fun t9 ht _ => xQi_end (hw) (rfl) rfl ht) hS.2.2 d_CT_count_120 hlocks
