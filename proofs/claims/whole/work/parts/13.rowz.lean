set_option maxHeartbeats 4000000 in
set_option maxRecDepth 100000 in
/-- Row.has -/
theorem c_RW_has {l : Launch} {dC : Nat → ClassId} {dI : Nat → Nat → Nat} {cI cJ : ClassId} {H : Heap} {ws : va_W} {i0 h a1 a2 a3 n : Nat} {r : Rw} (hP : va_P (dC, dI) kCl ws H) (hr0 : rw_in ws i0 h a1 a2 a3 n cI cJ r) (hn : n < 2 ^ 31) (i : Int32) : Met l y_RW_has (k_RW_has :: bw) { frames := 0, cells := 0, slots := 0, locals := 0 } (zP (dC, dI) kCl [(cI, .int), (cJ, .long)] [.ref h, .int i] H) (zQi H (b2i (rw_has n i))) 0 0 (fun _ => False) := by
  refine Met.ofZ (own := "CoinTree$Row") (by decide) rfl [.ref h, .int i] (Nat.le_of_ble_eq_true rfl) (fun _ _ h => h.1) ?_
  intro p e s m below meth c ls C0 hv hl
  obtain ⟨hx, hb, hr, hml, hown, hT, hlocks⟩ := C0
  obtain ⟨-, rfl, hK⟩ := hv
  have hS : va_S (fun _ => False) s.heap s.heap [] := va_S.rf
  have hl : lv_has ls 2 [(0, .ref h), (1, .int i)] := hl
  refine lv_iload_n hx hb d_RW_has_0 rfl (lv_at hl 1 rfl) ?_
  refine lv_if_lt (tgt := 17) hx hb d_RW_has_1 (by decide) (fun c_1 => ?_) (fun c_1 => ?_)
  · refine lv_iconst (v := 0) hx hb d_RW_has_17 (by decide) ?_
    exact W.zret (ty := .boolean) hx hb hr nar_0 (fun t9 ht _ => zQi_end (by first | exact b2i_t (rw_has_t (by assumption) (by assumption)) | exact b2i_f (rw_has_f1 (by assumption)) | exact b2i_f (rw_has_f2 (by assumption))) rfl ht) hS.2.2 d_RW_has_18 hlocks
  · refine lv_iload_n hx hb d_RW_has_4 rfl (lv_at hl 1 rfl) ?_
    refine lv_aload_n hx hb d_RW_has_5 rfl (lv_at hl 0 rfl) ?_
    refine va_get (D := (dC, dI)) (ci := 0) (v := .ref a1) (C := R_RW) (T := F_RW) (N := 4) hx hb hT i_RW hown hK hP i0 hr0.1 rfl 0 (by decide) (hT _ m_82) (fun _ h9 => h9) rfl d_RW_has_6 ?_
    refine va_alen (v := nI n) hx hb hK hP (i0 + 1) 0 hr0.2.1 rfl rfl d_RW_has_9 ?_
    refine lv_icmp_ge (tgt := 17) hx hb d_RW_has_10 (by decide) (fun c_2 => ?_) (fun c_2 => ?_)
    · refine lv_iconst (v := 0) hx hb d_RW_has_17 (by decide) ?_
      exact W.zret (ty := .boolean) hx hb hr nar_0 (fun t9 ht _ => zQi_end (by first | exact b2i_t (rw_has_t (by assumption) (by assumption)) | exact b2i_f (rw_has_f1 (by assumption)) | exact b2i_f (rw_has_f2 (by assumption))) rfl ht) hS.2.2 d_RW_has_18 hlocks
    · refine lv_iconst (v := 1) hx hb d_RW_has_13 (by decide) ?_
      refine lv_goto (tgt := 18) hx hb d_RW_has_14 (by decide) ?_
      exact W.zret (ty := .boolean) hx hb hr nar_1 (fun t9 ht _ => zQi_end (by first | exact b2i_t (rw_has_t (by assumption) (by assumption)) | exact b2i_f (rw_has_f1 (by assumption)) | exact b2i_f (rw_has_f2 (by assumption))) rfl ht) hS.2.2 d_RW_has_18 hlocks

set_option maxHeartbeats 4000000 in
set_option maxRecDepth 100000 in
/-- Row.markAt -/
theorem c_RW_markAt {l : Launch} {dC : Nat → ClassId} {dI : Nat → Nat → Nat} {cI cJ : ClassId} {H : Heap} {ws : va_W} {i0 h a1 a2 a3 n : Nat} {r : Rw} (hP : va_P (dC, dI) kCl ws H) (hr0 : rw_in ws i0 h a1 a2 a3 n cI cJ r) (hn : n < 2 ^ 31) (i : Int32) : Met l y_RW_markAt (k_RW_markAt :: bw) { frames := 1, cells := 0, slots := 0, locals := 21 } (zP (dC, dI) kCl [(cI, .int), (cJ, .long)] [.ref h, .int i] H) (zQi H (rw_at n r.1 i)) 0 0 (fun _ => False) := by
  refine Met.ofZ (own := "CoinTree$Row") (by decide) rfl [.ref h, .int i] (Nat.le_of_ble_eq_true rfl) (fun _ _ h => h.1) ?_
  intro p e s m below meth c ls C0 hv hl
  obtain ⟨hx, hb, hr, hml, hown, hT, hlocks⟩ := C0
  obtain ⟨-, rfl, hK⟩ := hv
  have hS : va_S (fun _ => False) s.heap s.heap [] := va_S.rf
  have hl : lv_has ls 2 [(0, .ref h), (1, .int i)] := hl
  refine lv_aload_n hx hb d_RW_markAt_0 rfl (lv_at hl 0 rfl) ?_
  refine lv_iload_n hx hb d_RW_markAt_1 rfl (lv_at hl 1 rfl) ?_
  refine zc_i (va_runV (As := [.int i]) (rest := []) ⟨hx, hb, hml, hown, hT⟩ (c_RW_has hP hr0 hn i) (cwV 1 hT (gi_V m_283 m_280 m_282 m_2 m_26) rfl rfl rfl p_RW_has ⟨Nat.le_of_ble_eq_true rfl, Nat.le_of_ble_eq_true rfl⟩) ⟨zP_blind, va_recv hK hP (ci := 0) (q0 := i0) rfl hr0.1, zP_pre hK⟩ rfl rfl hl.1 rfl (lv_room (Nat.le_of_ble_eq_true rfl)) d_RW_markAt_2 ⟨Nat.le_refl _, Nat.le_refl _⟩) hS (fun locs hS => ?_)
  refine lv_if_eq (tgt := 17) hx hb d_RW_markAt_5 (by decide) (fun c_1 => ?_) (fun c_1 => ?_)
  · refine lv_iconst (v := 0) hx hb d_RW_markAt_17 (by decide) ?_
    exact W.iret hx hb hr (fun t9 ht _ => zQi_end (by first | simp [rw_at, rw_atL, b2i_n.mp c_1] | simp [rw_at, rw_atL, b2i_0.mp c_1]) rfl ht) hS.2.2 d_RW_markAt_18 hlocks
  · refine lv_aload_n hx hb d_RW_markAt_8 rfl (lv_at hl 0 rfl) ?_
    refine va_get (D := (dC, dI)) (ci := 0) (v := .ref a1) (C := R_RW) (T := F_RW) (N := 4) hx hb hT i_RW hown hK hP i0 hr0.1 rfl 0 (by decide) (hT _ m_82) (fun _ h9 => h9) rfl d_RW_markAt_9 ?_
    refine lv_iload_n hx hb d_RW_markAt_12 rfl (lv_at hl 1 rfl) ?_
    refine va_iald hx hb hK hP (i0 + 1) 0 hr0.2.1 rfl (rw_vp hn (b2i_n.mp c_1)) d_RW_markAt_13 ?_
    refine lv_goto (tgt := 18) hx hb d_RW_markAt_14 (by decide) ?_
    exact W.iret hx hb hr (fun t9 ht _ => zQi_end (by first | simp [rw_at, rw_atL, b2i_n.mp c_1] | simp [rw_at, rw_atL, b2i_0.mp c_1]) rfl ht) hS.2.2 d_RW_markAt_18 hlocks

set_option maxHeartbeats 4000000 in
set_option maxRecDepth 100000 in
/-- Row.leafAt -/
theorem c_RW_leafAt {l : Launch} {dC : Nat → ClassId} {dI : Nat → Nat → Nat} {cI cJ : ClassId} {H : Heap} {ws : va_W} {i0 h a1 a2 a3 n : Nat} {r : Rw} (hP : va_P (dC, dI) kCl ws H) (hr0 : rw_in ws i0 h a1 a2 a3 n cI cJ r) (hn : n < 2 ^ 31) (i : Int32) : Met l y_RW_leafAt (k_RW_leafAt :: bw) { frames := 1, cells := 0, slots := 0, locals := 21 } (zP (dC, dI) kCl [(cI, .int), (cJ, .long)] [.ref h, .int i] H) (zQi H (rw_at n r.2.1 i)) 0 0 (fun _ => False) := by
  refine Met.ofZ (own := "CoinTree$Row") (by decide) rfl [.ref h, .int i] (Nat.le_of_ble_eq_true rfl) (fun _ _ h => h.1) ?_
  intro p e s m below meth c ls C0 hv hl
  obtain ⟨hx, hb, hr, hml, hown, hT, hlocks⟩ := C0
  obtain ⟨-, rfl, hK⟩ := hv
  have hS : va_S (fun _ => False) s.heap s.heap [] := va_S.rf
  have hl : lv_has ls 2 [(0, .ref h), (1, .int i)] := hl
  refine lv_aload_n hx hb d_RW_leafAt_0 rfl (lv_at hl 0 rfl) ?_
  refine lv_iload_n hx hb d_RW_leafAt_1 rfl (lv_at hl 1 rfl) ?_
  refine zc_i (va_runV (As := [.int i]) (rest := []) ⟨hx, hb, hml, hown, hT⟩ (c_RW_has hP hr0 hn i) (cwV 1 hT (gi_V m_283 m_280 m_282 m_2 m_26) rfl rfl rfl p_RW_has ⟨Nat.le_of_ble_eq_true rfl, Nat.le_of_ble_eq_true rfl⟩) ⟨zP_blind, va_recv hK hP (ci := 0) (q0 := i0) rfl hr0.1, zP_pre hK⟩ rfl rfl hl.1 rfl (lv_room (Nat.le_of_ble_eq_true rfl)) d_RW_leafAt_2 ⟨Nat.le_refl _, Nat.le_refl _⟩) hS (fun locs hS => ?_)
  refine lv_if_eq (tgt := 17) hx hb d_RW_leafAt_5 (by decide) (fun c_1 => ?_) (fun c_1 => ?_)
  · refine lv_iconst (v := 0) hx hb d_RW_leafAt_17 (by decide) ?_
    exact W.iret hx hb hr (fun t9 ht _ => zQi_end (by first | simp [rw_at, rw_atL, b2i_n.mp c_1] | simp [rw_at, rw_atL, b2i_0.mp c_1]) rfl ht) hS.2.2 d_RW_leafAt_18 hlocks
  · refine lv_aload_n hx hb d_RW_leafAt_8 rfl (lv_at hl 0 rfl) ?_
    refine va_get (D := (dC, dI)) (ci := 0) (v := .ref a2) (C := R_RW) (T := F_RW) (N := 4) hx hb hT i_RW hown hK hP i0 hr0.1 rfl 1 (by decide) (hT _ m_83) (fun _ h9 => h9) rfl d_RW_leafAt_9 ?_
    refine lv_iload_n hx hb d_RW_leafAt_12 rfl (lv_at hl 1 rfl) ?_
    refine va_iald hx hb hK hP (i0 + 2) 0 hr0.2.2.1 rfl (rw_vp hn (b2i_n.mp c_1)) d_RW_leafAt_13 ?_
    refine lv_goto (tgt := 18) hx hb d_RW_leafAt_14 (by decide) ?_
    exact W.iret hx hb hr (fun t9 ht _ => zQi_end (by first | simp [rw_at, rw_atL, b2i_n.mp c_1] | simp [rw_at, rw_atL, b2i_0.mp c_1]) rfl ht) hS.2.2 d_RW_leafAt_18 hlocks

set_option maxHeartbeats 4000000 in
set_option maxRecDepth 100000 in
/-- Row.valueAt -/
theorem c_RW_valueAt {l : Launch} {dC : Nat → ClassId} {dI : Nat → Nat → Nat} {cI cJ : ClassId} {H : Heap} {ws : va_W} {i0 h a1 a2 a3 n : Nat} {r : Rw} (hP : va_P (dC, dI) kCl ws H) (hr0 : rw_in ws i0 h a1 a2 a3 n cI cJ r) (hn : n < 2 ^ 31) (i : Int32) : Met l y_RW_valueAt (k_RW_valueAt :: bw) { frames := 1, cells := 0, slots := 0, locals := 21 } (zP (dC, dI) kCl [(cI, .int), (cJ, .long)] [.ref h, .int i] H) (zQl H (rw_atL n r.2.2.1 i)) 0 0 (fun _ => False) := by
  refine Met.ofZ (own := "CoinTree$Row") (by decide) rfl [.ref h, .int i] (Nat.le_of_ble_eq_true rfl) (fun _ _ h => h.1) ?_
  intro p e s m below meth c ls C0 hv hl
  obtain ⟨hx, hb, hr, hml, hown, hT, hlocks⟩ := C0
  obtain ⟨-, rfl, hK⟩ := hv
  have hS : va_S (fun _ => False) s.heap s.heap [] := va_S.rf
  have hl : lv_has ls 2 [(0, .ref h), (1, .int i)] := hl
  refine lv_aload_n hx hb d_RW_valueAt_0 rfl (lv_at hl 0 rfl) ?_
  refine lv_iload_n hx hb d_RW_valueAt_1 rfl (lv_at hl 1 rfl) ?_
  refine zc_i (va_runV (As := [.int i]) (rest := []) ⟨hx, hb, hml, hown, hT⟩ (c_RW_has hP hr0 hn i) (cwV 1 hT (gi_V m_283 m_280 m_282 m_2 m_26) rfl rfl rfl p_RW_has ⟨Nat.le_of_ble_eq_true rfl, Nat.le_of_ble_eq_true rfl⟩) ⟨zP_blind, va_recv hK hP (ci := 0) (q0 := i0) rfl hr0.1, zP_pre hK⟩ rfl rfl hl.1 rfl (lv_room (Nat.le_of_ble_eq_true rfl)) d_RW_valueAt_2 ⟨Nat.le_refl _, Nat.le_refl _⟩) hS (fun locs hS => ?_)
  refine lv_if_eq (tgt := 17) hx hb d_RW_valueAt_5 (by decide) (fun c_1 => ?_) (fun c_1 => ?_)
  · refine lv_lconst (v := 0) hx hb d_RW_valueAt_17 (by decide) ?_
    exact W.lret hx hb hr (fun t9 ht _ => zQl_end (by first | simp [rw_at, rw_atL, b2i_n.mp c_1] | simp [rw_at, rw_atL, b2i_0.mp c_1]) rfl ht) hS.2.2 d_RW_valueAt_18 hlocks
  · refine lv_aload_n hx hb d_RW_valueAt_8 rfl (lv_at hl 0 rfl) ?_
    refine va_get (D := (dC, dI)) (ci := 0) (v := .ref a3) (C := R_RW) (T := F_RW) (N := 4) hx hb hT i_RW hown hK hP i0 hr0.1 rfl 2 (by decide) (hT _ m_84) (fun _ h9 => h9) rfl d_RW_valueAt_9 ?_
    refine lv_iload_n hx hb d_RW_valueAt_12 rfl (lv_at hl 1 rfl) ?_
    refine va_lald hx hb hK hP (i0 + 3) 1 hr0.2.2.2 rfl (rw_vp hn (b2i_n.mp c_1)) d_RW_valueAt_13 ?_
    refine lv_goto (tgt := 18) hx hb d_RW_valueAt_14 (by decide) ?_
    exact W.lret hx hb hr (fun t9 ht _ => zQl_end (by first | simp [rw_at, rw_atL, b2i_n.mp c_1] | simp [rw_at, rw_atL, b2i_0.mp c_1]) rfl ht) hS.2.2 d_RW_valueAt_18 hlocks
