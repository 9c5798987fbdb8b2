set_option maxHeartbeats 4000000 in
set_option maxRecDepth 100000 in
/-- Row.put -/
theorem c_RW_put {l : Launch} {dC : Nat → ClassId} {dI : Nat → Nat → Nat} {cI cJ : ClassId} {A : Nat → Prop} {ws : va_W} {i0 h a1 a2 a3 n : Nat} {r : Rw} (hr0 : rw_in ws i0 h a1 a2 a3 n cI cJ r) (hn : n < 2 ^ 31) (i mk lf : Int32) (v : Int64) : Met l y_RW_put (k_RW_put :: bw) { frames := 1, cells := 0, slots := 0, locals := 21 } (mP (dC, dI) kCl [(cI, .int), (cJ, .long)] [.ref h, .int i, .int mk, .int lf, .long v] ws A) (mQv (dC, dI) kCl (rw_set ws i0 h a1 a2 a3 n cI cJ (rw_put n r i mk lf v)) A) 0 0 A := by
  refine Met.ofZ (own := "CoinTree$Row") (by decide) rfl [.ref h, .int i, .int mk, .int lf, .long v] (Nat.le_of_ble_eq_true rfl) (fun _ _ h => h.1) ?_
  intro p e s m below meth c ls C0 hv hl
  obtain ⟨hx, hb, hr, hml, hown, hT, hlocks⟩ := C0
  obtain ⟨-, hP, hK, hD⟩ := hv
  have hS : va_S A s.heap s.heap [] := va_S.rf
  have hl : lv_has ls 6 [(0, .ref h), (1, .int i), (2, .int mk), (3, .int lf), (4, .long v)] := hl
  refine lv_aload_n hx hb d_RW_put_0 rfl (lv_at hl 0 rfl) ?_
  refine lv_iload_n hx hb d_RW_put_1 rfl (lv_at hl 1 rfl) ?_
  refine zc_i (va_runV (As := [.int i]) (rest := []) ⟨hx, hb, hml, hown, hT⟩ (c_RW_has hP hr0 hn i) (cwV 1 hT (gi_V m_283 m_280 m_282 m_2 m_26) rfl rfl rfl p_RW_has ⟨Nat.le_of_ble_eq_true rfl, Nat.le_of_ble_eq_true rfl⟩) ⟨zP_blind, va_recv hK hP (ci := 0) (q0 := i0) rfl hr0.1, zP_pre hK⟩ rfl rfl hl.1 rfl (lv_room (Nat.le_of_ble_eq_true rfl)) d_RW_put_2 ⟨Nat.le_refl _, Nat.le_refl _⟩) hS (fun locs hS => ?_)
  refine lv_if_eq (tgt := 30) hx hb d_RW_put_5 (by decide) (fun c_1 => ?_) (fun c_1 => ?_)
  · exact W.vret hx hb hr (fun t9 ht _ => mQv_end (by first | (rw [rw_put_t (b2i_n.mp c_1)]; done) | (rw [rw_put_f (b2i_0.mp c_1), rw_set_self hr0]; done)) hP hD hS ht) hS.2.2 d_RW_put_30 hlocks
  · refine lv_aload_n hx hb d_RW_put_8 rfl (lv_at hl 0 rfl) ?_
    refine va_get (D := (dC, dI)) (ci := 0) (v := .ref a1) (C := R_RW) (T := F_RW) (N := 4) hx hb hT i_RW hown hK hP i0 hr0.1 rfl 0 (by decide) (hT _ m_82) (fun _ h9 => h9) rfl d_RW_put_9 ?_
    refine lv_iload_n hx hb d_RW_put_12 rfl (lv_at hl 1 rfl) ?_
    refine lv_iload_n hx hb d_RW_put_13 rfl (lv_at hl 2 rfl) ?_
    refine va_iast hx hb hK hP hD hS (i0 + 1) 0 hr0.2.1 rfl (rw_vp hn (b2i_n.mp c_1)) d_RW_put_14 (fun H locs hP hD hS => ?_)
    rw [rw_set_1 hr0] at hP hD
    have hr00 := hr0
    have hr0 := rw_in_set (upd r.1 i.toNatClampNeg mk, r.2) hr0
    refine lv_aload_n hx hb d_RW_put_15 rfl (lv_at hl 0 rfl) ?_
    refine va_get (D := (dC, dI)) (ci := 0) (v := .ref a2) (C := R_RW) (T := F_RW) (N := 4) hx hb hT i_RW hown hK hP i0 hr0.1 rfl 1 (by decide) (hT _ m_83) (fun _ h9 => h9) rfl d_RW_put_16 ?_
    refine lv_iload_n hx hb d_RW_put_19 rfl (lv_at hl 1 rfl) ?_
    refine lv_iload_n hx hb d_RW_put_20 rfl (lv_at hl 3 rfl) ?_
    refine va_iast hx hb hK hP hD hS (i0 + 2) 0 hr0.2.2.1 rfl (rw_vp hn (b2i_n.mp c_1)) d_RW_put_21 (fun H locs hP hD hS => ?_)
    rw [rw_set_2 hr0, rw_set_set] at hP hD
    have hr0 := rw_in_set (upd r.1 i.toNatClampNeg mk, upd r.2.1 i.toNatClampNeg lf, r.2.2) hr00
    refine lv_aload_n hx hb d_RW_put_22 rfl (lv_at hl 0 rfl) ?_
    refine va_get (D := (dC, dI)) (ci := 0) (v := .ref a3) (C := R_RW) (T := F_RW) (N := 4) hx hb hT i_RW hown hK hP i0 hr0.1 rfl 2 (by decide) (hT _ m_84) (fun _ h9 => h9) rfl d_RW_put_23 ?_
    refine lv_iload_n hx hb d_RW_put_26 rfl (lv_at hl 1 rfl) ?_
    refine lv_lload hx hb d_RW_put_27 (lv_at hl 4 rfl) ?_
    refine va_last hx hb hK hP hD hS (i0 + 3) 1 hr0.2.2.2 rfl (rw_vp hn (b2i_n.mp c_1)) d_RW_put_29 (fun H locs hP hD hS => ?_)
    rw [rw_set_3 hr0, rw_set_set] at hP hD
    have hr0 := rw_in_set (upd r.1 i.toNatClampNeg mk, upd r.2.1 i.toNatClampNeg lf, vp_updL r.2.2.1 i.toNatClampNeg v, r.2.2.2) hr00
    exact W.vret hx hb hr (fun t9 ht _ => mQv_end (by first | (rw [rw_put_t (b2i_n.mp c_1)]; done) | (rw [rw_put_f (b2i_0.mp c_1), rw_set_self hr0]; done)) hP hD hS ht) hS.2.2 d_RW_put_30 hlocks

set_option maxHeartbeats 4000000 in
set_option maxRecDepth 100000 in
/-- Row.copy -/
theorem c_RW_copy {l : Launch} {dC : Nat → ClassId} {dI : Nat → Nat → Nat} {cI cJ : ClassId} {A : Nat → Prop} {ws : va_W} {i0 h a1 a2 a3 n : Nat} {r : Rw} (hr0 : rw_in ws i0 h a1 a2 a3 n cI cJ r) (hn : n < 2 ^ 31) {j0 g b1 b2 b3 n2 : Nat} {r2 : Rw} (hq0 : rw_in ws j0 g b1 b2 b3 n2 cI cJ r2) (hn2 : n2 < 2 ^ 31) (hd : i0 + 4 ≤ j0 ∨ j0 + 4 ≤ i0) (i j : Int32) : Met l y_RW_copy (k_RW_copy :: bw) { frames := 2, cells := 0, slots := 0, locals := 46 } (mP (dC, dI) kCl [(cI, .int), (cJ, .long)] [.ref h, .int i, .ref g, .int j] ws A) (mQv (dC, dI) kCl (rw_set ws i0 h a1 a2 a3 n cI cJ (rw_copy n r i n2 r2 j)) A) 0 0 A := by
  refine Met.ofZ (own := "CoinTree$Row") (by decide) rfl [.ref h, .int i, .ref g, .int j] (Nat.le_of_ble_eq_true rfl) (fun _ _ h => h.1) ?_
  intro p e s m below meth c ls C0 hv hl
  obtain ⟨hx, hb, hr, hml, hown, hT, hlocks⟩ := C0
  obtain ⟨-, hP, hK, hD⟩ := hv
  have hS : va_S A s.heap s.heap [] := va_S.rf
  have hl : lv_has ls 4 [(0, .ref h), (1, .int i), (2, .ref g), (3, .int j)] := hl
  refine lv_aload_n hx hb d_RW_copy_0 rfl (lv_at hl 0 rfl) ?_
  refine lv_iload_n hx hb d_RW_copy_1 rfl (lv_at hl 1 rfl) ?_
  refine lv_aload_n hx hb d_RW_copy_2 rfl (lv_at hl 2 rfl) ?_
  refine lv_iload_n hx hb d_RW_copy_3 rfl (lv_at hl 3 rfl) ?_
  refine zc_i (va_runV (As := [.int j]) (rest := [.int i, .ref h]) ⟨hx, hb, hml, hown, hT⟩ (c_RW_markAt hP hq0 hn2 j) (cwV 1 hT (gi_V m_291 m_288 m_289 m_290 m_26) rfl rfl rfl p_RW_markAt ⟨Nat.le_of_ble_eq_true rfl, Nat.le_of_ble_eq_true rfl⟩) ⟨zP_blind, va_recv hK hP (ci := 0) (q0 := j0) rfl hq0.1, zP_pre hK⟩ rfl rfl hl.1 rfl (lv_room (Nat.le_of_ble_eq_true rfl)) d_RW_copy_4 ⟨Nat.le_refl _, Nat.le_refl _⟩) hS (fun locs hS => ?_)
  refine lv_aload_n hx hb d_RW_copy_7 rfl (lv_at hl 2 rfl) ?_
  refine lv_iload_n hx hb d_RW_copy_8 rfl (lv_at hl 3 rfl) ?_
  refine zc_i (va_runV (As := [.int j]) (rest := [.int (rw_at n2 r2.1 j), .int i, .ref h]) ⟨hx, hb, hml, hown, hT⟩ (c_RW_leafAt hP hq0 hn2 j) (cwV 1 hT (gi_V m_295 m_292 m_293 m_294 m_26) rfl rfl rfl p_RW_leafAt ⟨Nat.le_of_ble_eq_true rfl, Nat.le_of_ble_eq_true rfl⟩) ⟨zP_blind, va_recv hK hP (ci := 0) (q0 := j0) rfl hq0.1, zP_pre hK⟩ rfl rfl hl.1 rfl (lv_room (Nat.le_of_ble_eq_true rfl)) d_RW_copy_9 ⟨Nat.le_refl _, Nat.le_refl _⟩) hS (fun locs hS => ?_)
  refine lv_aload_n hx hb d_RW_copy_12 rfl (lv_at hl 2 rfl) ?_
  refine lv_iload_n hx hb d_RW_copy_13 rfl (lv_at hl 3 rfl) ?_
  refine zc_l (va_runV (As := [.int j]) (rest := [.int (rw_at n2 r2.2.1 j), .int (rw_at n2 r2.1 j), .int i, .ref h]) ⟨hx, hb, hml, hown, hT⟩ (c_RW_valueAt hP hq0 hn2 j) (cwV 1 hT (gi_V m_299 m_296 m_297 m_298 m_26) rfl rfl rfl p_RW_valueAt ⟨Nat.le_of_ble_eq_true rfl, Nat.le_of_ble_eq_true rfl⟩) ⟨zP_blind, va_recv hK hP (ci := 0) (q0 := j0) rfl hq0.1, zP_pre hK⟩ rfl rfl hl.1 rfl (lv_room (Nat.le_of_ble_eq_true rfl)) d_RW_copy_14 ⟨Nat.le_refl _, Nat.le_refl _⟩) hS (fun locs hS => ?_)
  refine mc_v (va_runV (As := [.int i, .int (rw_at n2 r2.1 j), .int (rw_at n2 r2.2.1 j), .long (rw_atL n2 r2.2.2.1 j)]) (rest := []) ⟨hx, hb, hml, hown, hT⟩ (c_RW_put hr0 hn i (rw_at n2 r2.1 j) (rw_at n2 r2.2.1 j) (rw_atL n2 r2.2.2.1 j)) (cwV 4 hT (gi_V m_303 m_300 m_301 m_302 m_26) rfl rfl rfl p_RW_put ⟨Nat.le_of_ble_eq_true rfl, Nat.le_of_ble_eq_true rfl⟩) ⟨mP_blind, va_recv hK hP (ci := 0) (q0 := i0) rfl hr0.1, mP_pre hK hP hD⟩ rfl rfl hl.1 rfl (lv_room (Nat.le_of_ble_eq_true rfl)) d_RW_copy_17 ⟨Nat.le_refl _, Nat.le_refl _⟩) hS (fun H locs hP hD hS => ?_)
  exact W.vret hx hb hr (fun t9 ht _ => mQv_end (rfl) hP hD hS ht) hS.2.2 d_RW_copy_20 hlocks
