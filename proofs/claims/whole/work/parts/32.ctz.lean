set_option maxHeartbeats 4000000 in
set_option maxRecDepth 100000 in
/-- CoinTree.nearest -/
theorem c_CT_nearest {l : Launch} {dC : Nat → ClassId} {dI : Nat → Nat → Nat} {cI cJ : ClassId} {H : Heap} (x lo hi : Int32) : Met l y_CT_nearest (k_CT_nearest :: bw) { frames := 1, cells := 0, slots := 0, locals := 21 } (zP (dC, dI) kCl [(cI, .int), (cJ, .long)] [.int x, .int lo, .int hi] H) (zQi H (ct_near x lo hi)) 0 0 (fun _ => False) := by
  refine Met.ofZ (own := "CoinTree") (by decide) rfl [.int x, .int lo, .int hi] (Nat.le_of_ble_eq_true rfl) (fun _ _ h => h.1) ?_
  intro p e s m below meth c ls C0 hv hl
  obtain ⟨hx, hb, hr, hml, hown, hT, hlocks⟩ := C0
  obtain ⟨-, rfl, hK⟩ := hv
  have hS : va_S (fun _ => False) s.heap s.heap [] := va_S.rf
  have hl : lv_has ls 3 [(0, .int x), (1, .int lo), (2, .int hi)] := hl
  refine lv_iload_n hx hb d_CT_nearest_0 rfl (lv_at hl 1 rfl) ?_
  refine lv_iload_n hx hb d_CT_nearest_1 rfl (lv_at hl 2 rfl) ?_
  refine lv_iload_n hx hb d_CT_nearest_2 rfl (lv_at hl 0 rfl) ?_
  refine va_mmin hx hb (hml.trans hl.1.symm) hown (hT _ m_45) (hT _ m_46) (hT _ m_23) (hT _ m_47) (Nat.le_of_ble_eq_true rfl) (Nat.le_of_ble_eq_true rfl) (Nat.zero_le _) (Nat.zero_le _) d_CT_nearest_3 ?_
  refine va_mmax hx hb (hml.trans hl.1.symm) hown (hT _ m_48) (hT _ m_49) (hT _ m_23) (hT _ m_50) (Nat.le_of_ble_eq_true rfl) (Nat.le_of_ble_eq_true rfl) (Nat.zero_le _) (Nat.zero_le _) d_CT_nearest_6 ?_
  exact W.iret hx hb hr (fun t9 ht _ => zQi_end (rfl) rfl ht) hS.2.2 d_CT_nearest_9 hlocks

set_option maxHeartbeats 4000000 in
set_option maxRecDepth 100000 in
/-- CoinTree.mix -/
theorem c_CT_mix {l : Launch} {dC : Nat → ClassId} {dI : Nat → Nat → Nat} {cI cJ : ClassId} {H : Heap} (z : Int64) : Met l y_CT_mix (k_CT_mix :: bw) { frames := 0, cells := 0, slots := 0, locals := 0 } (zP (dC, dI) kCl [(cI, .int), (cJ, .long)] [.long z] H) (zQl H (ct_mix z)) 0 0 (fun _ => False) := by
  refine Met.ofZ (own := "CoinTree") (by decide) rfl [.long z] (Nat.le_of_ble_eq_true rfl) (fun _ _ h => h.1) ?_
  intro p e s m below meth c ls C0 hv hl
  obtain ⟨hx, hb, hr, hml, hown, hT, hlocks⟩ := C0
  obtain ⟨-, rfl, hK⟩ := hv
  have hS : va_S (fun _ => False) s.heap s.heap [] := va_S.rf
  have hl : lv_has ls 6 [(0, .long z)] := hl
  refine lv_lload_n hx hb d_CT_mix_0 rfl (lv_at hl 0 rfl) ?_
  refine lv_lload_n hx hb d_CT_mix_1 rfl (lv_at hl 0 rfl) ?_
  refine lv_bipush (v := 30) hx hb d_CT_mix_2 (by decide) ?_
  refine lv_lushr (v := (z.toUInt64 >>> ((30 : Int32).toInt64.toUInt64 &&& Int64.toUInt64 63)).toInt64) hx hb d_CT_mix_4 rfl ?_
  refine lv_lxor hx hb d_CT_mix_5 ?_
  refine lv_ldc2 (v := (-4658895280553007687)) hx hb hown (hT _ m_431) d_CT_mix_6 ?_
  refine lv_lmul hx hb d_CT_mix_9 ?_
  refine lv_lstore_n (lv' := [(2, .long ((z ^^^ ((z.toUInt64 >>> ((30 : Int32).toInt64.toUInt64 &&& Int64.toUInt64 63)).toInt64)) * (-4658895280553007687))), (0, .long z)]) hx hb d_CT_mix_10 rfl hl (by decide) rfl (fun ls hl => ?_)
  refine lv_lload_n hx hb d_CT_mix_11 rfl (lv_at hl 0 rfl) ?_
  refine lv_lload_n hx hb d_CT_mix_12 rfl (lv_at hl 0 rfl) ?_
  refine lv_bipush (v := 27) hx hb d_CT_mix_13 (by decide) ?_
  refine lv_lushr (v := (((z ^^^ ((z.toUInt64 >>> ((30 : Int32).toInt64.toUInt64 &&& Int64.toUInt64 63)).toInt64)) * (-4658895280553007687)).toUInt64 >>> ((27 : Int32).toInt64.toUInt64 &&& Int64.toUInt64 63)).toInt64) hx hb d_CT_mix_15 rfl ?_
  refine lv_lxor hx hb d_CT_mix_16 ?_
  refine lv_ldc2 (v := (-7723592293110705685)) hx hb hown (hT _ m_432) d_CT_mix_17 ?_
  refine lv_lmul hx hb d_CT_mix_20 ?_
  refine lv_lstore (lv' := [(4, .long ((((z ^^^ ((z.toUInt64 >>> ((30 : Int32).toInt64.toUInt64 &&& Int64.toUInt64 63)).toInt64)) * (-4658895280553007687)) ^^^ ((((z ^^^ ((z.toUInt64 >>> ((30 : Int32).toInt64.toUInt64 &&& Int64.toUInt64 63)).toInt64)) * (-4658895280553007687)).toUInt64 >>> ((27 : Int32).toInt64.toUInt64 &&& Int64.toUInt64 63)).toInt64)) * (-7723592293110705685))), (2, .long ((z ^^^ ((z.toUInt64 >>> ((30 : Int32).toInt64.toUInt64 &&& Int64.toUInt64 63)).toInt64)) * (-4658895280553007687))), (0, .long z)]) hx hb d_CT_mix_21 hl (by decide) rfl (fun ls hl => ?_)
  refine lv_lload hx hb d_CT_mix_23 (lv_at hl 0 rfl) ?_
  refine lv_lload hx hb d_CT_mix_25 (lv_at hl 0 rfl) ?_
  refine lv_bipush (v := 31) hx hb d_CT_mix_27 (by decide) ?_
  refine lv_lushr (v := (((((z ^^^ ((z.toUInt64 >>> ((30 : Int32).toInt64.toUInt64 &&& Int64.toUInt64 63)).toInt64)) * (-4658895280553007687)) ^^^ ((((z ^^^ ((z.toUInt64 >>> ((30 : Int32).toInt64.toUInt64 &&& Int64.toUInt64 63)).toInt64)) * (-4658895280553007687)).toUInt64 >>> ((27 : Int32).toInt64.toUInt64 &&& Int64.toUInt64 63)).toInt64)) * (-7723592293110705685)).toUInt64 >>> ((31 : Int32).toInt64.toUInt64 &&& Int64.toUInt64 63)).toInt64) hx hb d_CT_mix_29 rfl ?_
  refine lv_lxor hx hb d_CT_mix_30 ?_
  exact W.lret hx hb hr (fun t9 ht _ => zQl_end (rfl) rfl ht) hS.2.2 d_CT_mix_31 hlocks

set_option maxHeartbeats 4000000 in
set_option maxRecDepth 100000 in
/-- CoinTree.withNumber -/
theorem c_CT_withNumber {l : Launch} {dC : Nat → ClassId} {dI : Nat → Nat → Nat} {cI cJ : ClassId} {H : Heap} (v : Int64) (sh n : Int32) : Met l y_CT_withNumber (k_CT_withNumber :: bw) { frames := 0, cells := 0, slots := 0, locals := 0 } (zP (dC, dI) kCl [(cI, .int), (cJ, .long)] [.long v, .int sh, .int n] H) (zQl H (ct_with v sh n)) 0 0 (fun _ => False) := by
  refine Met.ofZ (own := "CoinTree") (by decide) rfl [.long v, .int sh, .int n] (Nat.le_of_ble_eq_true rfl) (fun _ _ h => h.1) ?_
  intro p e s m below meth c ls C0 hv hl
  obtain ⟨hx, hb, hr, hml, hown, hT, hlocks⟩ := C0
  obtain ⟨-, rfl, hK⟩ := hv
  have hS : va_S (fun _ => False) s.heap s.heap [] := va_S.rf
  have hl : lv_has ls 4 [(0, .long v), (2, .int sh), (3, .int n)] := hl
  refine lv_lload_n hx hb d_CT_withNumber_0 rfl (lv_at hl 0 rfl) ?_
  refine lv_ldc2 (v := 65535) hx hb hown (hT _ m_329) d_CT_withNumber_1 ?_
  refine lv_iload_n hx hb d_CT_withNumber_4 rfl (lv_at hl 1 rfl) ?_
  refine lv_lshl (v := (65535 <<< (sh.toInt64 &&& 63))) hx hb d_CT_withNumber_5 rfl ?_
  refine lv_ldc2 (v := (-1)) hx hb hown (hT _ m_330) d_CT_withNumber_6 ?_
  refine lv_lxor hx hb d_CT_withNumber_9 ?_
  refine lv_land hx hb d_CT_withNumber_10 ?_
  refine lv_iload_n hx hb d_CT_withNumber_11 rfl (lv_at hl 2 rfl) ?_
  refine lv_i2l (v := n.toInt64) hx hb d_CT_withNumber_12 rfl ?_
  refine lv_iload_n hx hb d_CT_withNumber_13 rfl (lv_at hl 1 rfl) ?_
  refine lv_lshl (v := ((n.toInt64) <<< (sh.toInt64 &&& 63))) hx hb d_CT_withNumber_14 rfl ?_
  refine lv_lor hx hb d_CT_withNumber_15 ?_
  exact W.lret hx hb hr (fun t9 ht _ => zQl_end (rfl) rfl ht) hS.2.2 d_CT_withNumber_16 hlocks

set_option maxHeartbeats 4000000 in
set_option maxRecDepth 100000 in
/-- CoinTree.leafTold -/
theorem c_CT_leafTold {l : Launch} {dC : Nat → ClassId} {dI : Nat → Nat → Nat} {cI cJ : ClassId} {H : Heap} {x ml : Nat} {a0 a1 : Nat → Nat} {L M S C : Nat} {key : Int64} {z : Cs} (ok0 : tr_ok L S C 64) (ok1 : tr_ok M S C 16) (hP : va_P (dC, dI) kCl (cw_ cI cJ x ml a0 a1 L M S C key (cs_mk (cs_ml z) (cs_asked z) (cs_most z) (ts_mk (ts_nodes (cs_t0 z)) (ts_cnts (cs_t0 z)) (ts_stash (cs_t0 z)) (ts_trail (cs_t0 z)) (ts_plan (cs_t0 z)) (ts_tgt (cs_t0 z)) (ts_way (cs_t0 z)) (ts_sought (cs_t0 z))) (ts_mk (ts_nodes (cs_t1 z)) (ts_cnts (cs_t1 z)) (ts_stash (cs_t1 z)) (ts_trail (cs_t1 z)) (ts_plan (cs_t1 z)) (ts_tgt (cs_t1 z)) (ts_way (cs_t1 z)) (ts_sought (cs_t1 z))))) H) (v : Int64) (sh b : Int32) : Met l y_CT_leafTold (k_CT_leafTold :: bw) { frames := 1, cells := 0, slots := 0, locals := 21 } (zP (dC, dI) kCl [(cI, .int), (cJ, .long)] [.ref x, .long v, .int sh, .int b] H) (zQi H (ct_told L v sh b)) 0 0 (fun _ => False) := by
  refine Met.ofZ (own := "CoinTree") (by decide) rfl [.ref x, .long v, .int sh, .int b] (Nat.le_of_ble_eq_true rfl) (fun _ _ h => h.1) ?_
  intro p e s m below meth c ls C0 hv hl
  obtain ⟨hx, hb, hr, hml, hown, hT, hlocks⟩ := C0
  obtain ⟨-, rfl, hK⟩ := hv
  have hS : va_S (fun _ => False) s.heap s.heap [] := va_S.rf
  have hl : lv_has ls 6 [(0, .ref x), (1, .long v), (3, .int sh), (4, .int b)] := hl
  refine lv_lload_n hx hb d_CT_leafTold_0 rfl (lv_at hl 1 rfl) ?_
  refine lv_iload_n hx hb d_CT_leafTold_1 rfl (lv_at hl 2 rfl) ?_
  refine lv_lushr (v := (v.toUInt64 >>> (sh.toInt64.toUInt64 &&& Int64.toUInt64 63)).toInt64) hx hb d_CT_leafTold_2 rfl ?_
  refine lv_ldc2 (v := 65535) hx hb hown (hT _ m_329) d_CT_leafTold_3 ?_
  refine lv_land hx hb d_CT_leafTold_6 ?_
  refine lv_l2i (v := (((v.toUInt64 >>> (sh.toInt64.toUInt64 &&& Int64.toUInt64 63)).toInt64) &&& 65535).toInt32) hx hb d_CT_leafTold_7 rfl ?_
  refine lv_istore (lv' := [(5, .int ((((v.toUInt64 >>> (sh.toInt64.toUInt64 &&& Int64.toUInt64 63)).toInt64) &&& 65535).toInt32)), (0, .ref x), (1, .long v), (3, .int sh), (4, .int b)]) hx hb d_CT_leafTold_8 hl (by decide) rfl (fun ls hl => ?_)
  refine lv_aload_n hx hb d_CT_leafTold_10 rfl (lv_at hl 1 rfl) ?_
  refine va_get (D := (dC, dI)) (ci := 3) (v := .ref (a0 0)) (C := R_CT) (T := F_CT) (N := 8) hx hb hT i_CT hown hK hP 0 rfl rfl 3 (by decide) (hT _ m_145) (fun _ h9 => h9) rfl d_CT_leafTold_11 ?_
  refine lv_iload hx hb d_CT_leafTold_14 (lv_at hl 0 rfl) ?_
  refine lv_if_ne (tgt := 24) hx hb d_CT_leafTold_16 (by decide) (fun c_1 => ?_) (fun c_1 => ?_)
  · refine lv_iload hx hb d_CT_leafTold_24 (lv_at hl 0 rfl) ?_
    refine lv_iconst (v := 1) hx hb d_CT_leafTold_26 (by decide) ?_
    refine lv_isub hx hb d_CT_leafTold_27 ?_
    refine zc_i (va_runV (As := [.int (((((v.toUInt64 >>> (sh.toInt64.toUInt64 &&& Int64.toUInt64 63)).toInt64) &&& 65535).toInt32) - 1)]) (rest := []) ⟨hx, hb, hml, hown, hT⟩ (c_TR_leafModulo (t := ts_mk (ts_nodes (cs_t0 z)) (ts_cnts (cs_t0 z)) (ts_stash (cs_t0 z)) (ts_trail (cs_t0 z)) (ts_plan (cs_t0 z)) (ts_tgt (cs_t0 z)) (ts_way (cs_t0 z)) (ts_sought (cs_t0 z))) ok0 (hP.sub (ws' := tw_ cI cJ a0 L S C 64 (ts_mk (ts_nodes (cs_t0 z)) (ts_cnts (cs_t0 z)) (ts_stash (cs_t0 z)) (ts_trail (cs_t0 z)) (ts_plan (cs_t0 z)) (ts_tgt (cs_t0 z)) (ts_way (cs_t0 z)) (ts_sought (cs_t0 z)))) [2, 3, 4, 5, 6, 7, 8, 9, 10, 11, 12, 13, 14, 15, 16, 17, 18] rfl) (((((v.toUInt64 >>> (sh.toInt64.toUInt64 &&& Int64.toUInt64 63)).toInt64) &&& 65535).toInt32) - 1)) (cwV 1 hT (gi_V m_141 m_138 m_139 m_140 m_24) rfl rfl rfl p_TR_leafModulo ⟨Nat.le_of_ble_eq_true rfl, Nat.le_of_ble_eq_true rfl⟩) ⟨zP_blind, va_recv hK hP (ci := 2) (q0 := 2) rfl rfl, zP_pre hK⟩ rfl rfl hl.1 rfl (lv_room (Nat.le_of_ble_eq_true rfl)) d_CT_leafTold_28 ⟨Nat.le_refl _, Nat.le_refl _⟩) hS (fun locs hS => ?_)
    exact W.iret hx hb hr (fun t9 ht _ => zQi_end (by first | exact congrArg (fun q => q &&& (nI (2 ^ L) - 1)) (if_pos (by assumption)).symm | exact congrArg (fun q => q &&& (nI (2 ^ L) - 1)) (if_neg (by assumption)).symm) rfl ht) hS.2.2 d_CT_leafTold_31 hlocks
  · refine lv_iload hx hb d_CT_leafTold_19 (lv_at hl 4 rfl) ?_
    refine lv_goto (tgt := 28) hx hb d_CT_leafTold_21 (by decide) ?_
    refine zc_i (va_runV (As := [.int b]) (rest := []) ⟨hx, hb, hml, hown, hT⟩ (c_TR_leafModulo (t := ts_mk (ts_nodes (cs_t0 z)) (ts_cnts (cs_t0 z)) (ts_stash (cs_t0 z)) (ts_trail (cs_t0 z)) (ts_plan (cs_t0 z)) (ts_tgt (cs_t0 z)) (ts_way (cs_t0 z)) (ts_sought (cs_t0 z))) ok0 (hP.sub (ws' := tw_ cI cJ a0 L S C 64 (ts_mk (ts_nodes (cs_t0 z)) (ts_cnts (cs_t0 z)) (ts_stash (cs_t0 z)) (ts_trail (cs_t0 z)) (ts_plan (cs_t0 z)) (ts_tgt (cs_t0 z)) (ts_way (cs_t0 z)) (ts_sought (cs_t0 z)))) [2, 3, 4, 5, 6, 7, 8, 9, 10, 11, 12, 13, 14, 15, 16, 17, 18] rfl) b) (cwV 1 hT (gi_V m_141 m_138 m_139 m_140 m_24) rfl rfl rfl p_TR_leafModulo ⟨Nat.le_of_ble_eq_true rfl, Nat.le_of_ble_eq_true rfl⟩) ⟨zP_blind, va_recv hK hP (ci := 2) (q0 := 2) rfl rfl, zP_pre hK⟩ rfl rfl hl.1 rfl (lv_room (Nat.le_of_ble_eq_true rfl)) d_CT_leafTold_28 ⟨Nat.le_refl _, Nat.le_refl _⟩) hS (fun locs hS => ?_)
    exact W.iret hx hb hr (fun t9 ht _ => zQi_end (by first | exact congrArg (fun q => q &&& (nI (2 ^ L) - 1)) (if_pos (by assumption)).symm | exact congrArg (fun q => q &&& (nI (2 ^ L) - 1)) (if_neg (by assumption)).symm) rfl ht) hS.2.2 d_CT_leafTold_31 hlocks
