set_option maxHeartbeats 4000000 in
set_option maxRecDepth 100000 in
/-- Row.append -/
theorem c_RW_append {l : Launch} {dC : Nat → ClassId} {dI : Nat → Nat → Nat} {cI cJ : ClassId} {A : Nat → Prop} {ws : va_W} {i0 h a1 a2 a3 n : Nat} {r : Rw} (hr0 : rw_in ws i0 h a1 a2 a3 n cI cJ r) (hn : n < 2 ^ 31) {j0 g b1 b2 b3 n2 : Nat} {r2 : Rw} (hq0 : rw_in ws j0 g b1 b2 b3 n2 cI cJ r2) (hn2 : n2 < 2 ^ 31) (hd : i0 + 4 ≤ j0 ∨ j0 + 4 ≤ i0) (j : Int32) : Met l y_RW_append (k_RW_append :: bw) { frames := 3, cells := 0, slots := 0, locals := 69 } (mP (dC, dI) kCl [(cI, .int), (cJ, .long)] [.ref h, .ref g, .int j] ws A) (mQv (dC, dI) kCl (rw_set ws i0 h a1 a2 a3 n cI cJ (rw_app n r n2 r2 j)) A) 0 0 A := by
  refine Met.ofZ (own := "CoinTree$Row") (by decide) rfl [.ref h, .ref g, .int j] (Nat.le_of_ble_eq_true rfl) (fun _ _ h => h.1) ?_
  intro p e s m below meth c ls C0 hv hl
  obtain ⟨hx, hb, hr, hml, hown, hT, hlocks⟩ := C0
  obtain ⟨-, hP, hK, hD⟩ := hv
  have hS : va_S A s.heap s.heap [] := va_S.rf
  have hl : lv_has ls 3 [(0, .ref h), (1, .ref g), (2, .int j)] := hl
  refine lv_aload_n hx hb d_RW_append_0 rfl (lv_at hl 0 rfl) ?_
  refine lv_aload_n hx hb d_RW_append_1 rfl (lv_at hl 0 rfl) ?_
  refine va_get (D := (dC, dI)) (ci := 0) (v := .int r.2.2.2) (C := R_RW) (T := F_RW) (N := 4) hx hb hT i_RW hown hK hP i0 hr0.1 rfl 3 (by decide) (hT _ m_87) (fun _ h9 => h9) rfl d_RW_append_2 ?_
  refine zc_i (va_runV (As := [.int r.2.2.2]) (rest := []) ⟨hx, hb, hml, hown, hT⟩ (c_RW_has hP hr0 hn r.2.2.2) (cwV 1 hT (gi_V m_283 m_280 m_282 m_2 m_26) rfl rfl rfl p_RW_has ⟨Nat.le_of_ble_eq_true rfl, Nat.le_of_ble_eq_true rfl⟩) ⟨zP_blind, va_recv hK hP (ci := 0) (q0 := i0) rfl hr0.1, zP_pre hK⟩ rfl rfl hl.1 rfl (lv_room (Nat.le_of_ble_eq_true rfl)) d_RW_append_5 ⟨Nat.le_refl _, Nat.le_refl _⟩) hS (fun locs hS => ?_)
  refine lv_if_eq (tgt := 31) hx hb d_RW_append_8 (by decide) (fun c_1 => ?_) (fun c_1 => ?_)
  · exact W.vret hx hb hr (fun t9 ht _ => mQv_end (by first | (rw [rw_app_t (b2i_n.mp c_1)]; done) | (rw [rw_app_f (b2i_0.mp c_1), rw_set_self hr0]; done)) hP hD hS ht) hS.2.2 d_RW_append_31 hlocks
  · refine lv_aload_n hx hb d_RW_append_11 rfl (lv_at hl 0 rfl) ?_
    refine lv_aload_n hx hb d_RW_append_12 rfl (lv_at hl 0 rfl) ?_
    refine va_get (D := (dC, dI)) (ci := 0) (v := .int r.2.2.2) (C := R_RW) (T := F_RW) (N := 4) hx hb hT i_RW hown hK hP i0 hr0.1 rfl 3 (by decide) (hT _ m_87) (fun _ h9 => h9) rfl d_RW_append_13 ?_
    refine lv_aload_n hx hb d_RW_append_16 rfl (lv_at hl 1 rfl) ?_
    refine lv_iload_n hx hb d_RW_append_17 rfl (lv_at hl 2 rfl) ?_
    refine mc_v (va_runV (As := [.int r.2.2.2, .ref g, .int j]) (rest := []) ⟨hx, hb, hml, hown, hT⟩ (c_RW_copy hr0 hn hq0 hn2 hd r.2.2.2 j) (cwV 3 hT (gi_V m_287 m_284 m_285 m_286 m_26) rfl rfl rfl p_RW_copy ⟨Nat.le_of_ble_eq_true rfl, Nat.le_of_ble_eq_true rfl⟩) ⟨mP_blind, va_recv hK hP (ci := 0) (q0 := i0) rfl hr0.1, mP_pre hK hP hD⟩ rfl rfl hl.1 rfl (lv_room (Nat.le_of_ble_eq_true rfl)) d_RW_append_18 ⟨Nat.le_refl _, Nat.le_refl _⟩) hS (fun H locs hP hD hS => ?_)
    have hr0 := rw_in_set (rw_copy n r r.2.2.2 n2 r2 j) hr0
    refine lv_aload_n hx hb d_RW_append_21 rfl (lv_at hl 0 rfl) ?_
    refine lv_dup hx hb d_RW_append_22 rfl ?_
    refine va_get (D := (dC, dI)) (ci := 0) (v := .int r.2.2.2) (C := R_RW) (T := F_RW) (N := 4) hx hb hT i_RW hown hK hP i0 hr0.1 rfl 3 (by decide) (hT _ m_87) (fun _ h9 => h9) rfl d_RW_append_23 ?_
    refine lv_iconst (v := 1) hx hb d_RW_append_26 (by decide) ?_
    refine lv_iadd hx hb d_RW_append_27 ?_
    refine va_put (D := (dC, dI)) (ci := 0) (v := .int (r.2.2.2 + 1)) (ty := .int) (C := R_RW) (T := F_RW) (N := 4) hx hb hT i_RW t_RW t_RW_ok n_RW hown hK hP hD hS i0 hr0.1 rfl 3 (by decide) (hT _ m_87) (fun _ h9 => h9) rfl (by decide +kernel) rfl rfl (Nat.le_of_ble_eq_true rfl) d_RW_append_28 (fun H locs hP hD hS => ?_)
    have hP : va_P (dC, dI) kCl ((rw_set ws i0 h a1 a2 a3 n cI cJ (rw_copy n r r.2.2.2 n2 r2 j)).set i0 (h, .inr (0, [.ref a1, .ref a2, .ref a3, .int (r.2.2.2 + 1)]))) H := hP
    have hD : va_D A ((rw_set ws i0 h a1 a2 a3 n cI cJ (rw_copy n r r.2.2.2 n2 r2 j)).set i0 (h, .inr (0, [.ref a1, .ref a2, .ref a3, .int (r.2.2.2 + 1)]))) := hD
    rw [rw_set_0 hr0, rw_set_set] at hP hD
    exact W.vret hx hb hr (fun t9 ht _ => mQv_end (by first | (rw [rw_app_t (b2i_n.mp c_1)]; done) | (rw [rw_app_f (b2i_0.mp c_1), rw_set_self hr0]; done)) hP hD hS ht) hS.2.2 d_RW_append_31 hlocks

set_option maxHeartbeats 4000000 in
set_option maxRecDepth 100000 in
/-- Row.appendNew -/
theorem c_RW_appendNew {l : Launch} {dC : Nat → ClassId} {dI : Nat → Nat → Nat} {cI cJ : ClassId} {A : Nat → Prop} {ws : va_W} {i0 h a1 a2 a3 n : Nat} {r : Rw} (hr0 : rw_in ws i0 h a1 a2 a3 n cI cJ r) (hn : n < 2 ^ 31) (mk : Int32) : Met l y_RW_appendNew (k_RW_appendNew :: bw) { frames := 2, cells := 0, slots := 0, locals := 46 } (mP (dC, dI) kCl [(cI, .int), (cJ, .long)] [.ref h, .int mk] ws A) (mQv (dC, dI) kCl (rw_set ws i0 h a1 a2 a3 n cI cJ (rw_new n r mk)) A) 0 0 A := by
  refine Met.ofZ (own := "CoinTree$Row") (by decide) rfl [.ref h, .int mk] (Nat.le_of_ble_eq_true rfl) (fun _ _ h => h.1) ?_
  intro p e s m below meth c ls C0 hv hl
  obtain ⟨hx, hb, hr, hml, hown, hT, hlocks⟩ := C0
  obtain ⟨-, hP, hK, hD⟩ := hv
  have hS : va_S A s.heap s.heap [] := va_S.rf
  have hl : lv_has ls 2 [(0, .ref h), (1, .int mk)] := hl
  refine lv_aload_n hx hb d_RW_appendNew_0 rfl (lv_at hl 0 rfl) ?_
  refine lv_aload_n hx hb d_RW_appendNew_1 rfl (lv_at hl 0 rfl) ?_
  refine va_get (D := (dC, dI)) (ci := 0) (v := .int r.2.2.2) (C := R_RW) (T := F_RW) (N := 4) hx hb hT i_RW hown hK hP i0 hr0.1 rfl 3 (by decide) (hT _ m_87) (fun _ h9 => h9) rfl d_RW_appendNew_2 ?_
  refine zc_i (va_runV (As := [.int r.2.2.2]) (rest := []) ⟨hx, hb, hml, hown, hT⟩ (c_RW_has hP hr0 hn r.2.2.2) (cwV 1 hT (gi_V m_283 m_280 m_282 m_2 m_26) rfl rfl rfl p_RW_has ⟨Nat.le_of_ble_eq_true rfl, Nat.le_of_ble_eq_true rfl⟩) ⟨zP_blind, va_recv hK hP (ci := 0) (q0 := i0) rfl hr0.1, zP_pre hK⟩ rfl rfl hl.1 rfl (lv_room (Nat.le_of_ble_eq_true rfl)) d_RW_appendNew_5 ⟨Nat.le_refl _, Nat.le_refl _⟩) hS (fun locs hS => ?_)
  refine lv_if_eq (tgt := 32) hx hb d_RW_appendNew_8 (by decide) (fun c_1 => ?_) (fun c_1 => ?_)
  · exact W.vret hx hb hr (fun t9 ht _ => mQv_end (by first | (rw [rw_new_t (b2i_n.mp c_1)]; done) | (rw [rw_new_f (b2i_0.mp c_1), rw_set_self hr0]; done)) hP hD hS ht) hS.2.2 d_RW_appendNew_32 hlocks
  · refine lv_aload_n hx hb d_RW_appendNew_11 rfl (lv_at hl 0 rfl) ?_
    refine lv_aload_n hx hb d_RW_appendNew_12 rfl (lv_at hl 0 rfl) ?_
    refine va_get (D := (dC, dI)) (ci := 0) (v := .int r.2.2.2) (C := R_RW) (T := F_RW) (N := 4) hx hb hT i_RW hown hK hP i0 hr0.1 rfl 3 (by decide) (hT _ m_87) (fun _ h9 => h9) rfl d_RW_appendNew_13 ?_
    refine lv_iload_n hx hb d_RW_appendNew_16 rfl (lv_at hl 1 rfl) ?_
    refine lv_iconst (v := 0) hx hb d_RW_appendNew_17 (by decide) ?_
    refine lv_lconst (v := 0) hx hb d_RW_appendNew_18 (by decide) ?_
    refine mc_v (va_runV (As := [.int r.2.2.2, .int mk, .int 0, .long 0]) (rest := []) ⟨hx, hb, hml, hown, hT⟩ (c_RW_put hr0 hn r.2.2.2 mk 0 0) (cwV 4 hT (gi_V m_303 m_300 m_301 m_302 m_26) rfl rfl rfl p_RW_put ⟨Nat.le_of_ble_eq_true rfl, Nat.le_of_ble_eq_true rfl⟩) ⟨mP_blind, va_recv hK hP (ci := 0) (q0 := i0) rfl hr0.1, mP_pre hK hP hD⟩ rfl rfl hl.1 rfl (lv_room (Nat.le_of_ble_eq_true rfl)) d_RW_appendNew_19 ⟨Nat.le_refl _, Nat.le_refl _⟩) hS (fun H locs hP hD hS => ?_)
    have hr0 := rw_in_set (rw_put n r r.2.2.2 mk 0 0) hr0
    refine lv_aload_n hx hb d_RW_appendNew_22 rfl (lv_at hl 0 rfl) ?_
    refine lv_dup hx hb d_RW_appendNew_23 rfl ?_
    refine va_get (D := (dC, dI)) (ci := 0) (v := .int r.2.2.2) (C := R_RW) (T := F_RW) (N := 4) hx hb hT i_RW hown hK hP i0 hr0.1 rfl 3 (by decide) (hT _ m_87) (fun _ h9 => h9) rfl d_RW_appendNew_24 ?_
    refine lv_iconst (v := 1) hx hb d_RW_appendNew_27 (by decide) ?_
    refine lv_iadd hx hb d_RW_appendNew_28 ?_
    refine va_put (D := (dC, dI)) (ci := 0) (v := .int (r.2.2.2 + 1)) (ty := .int) (C := R_RW) (T := F_RW) (N := 4) hx hb hT i_RW t_RW t_RW_ok n_RW hown hK hP hD hS i0 hr0.1 rfl 3 (by decide) (hT _ m_87) (fun _ h9 => h9) rfl (by decide +kernel) rfl rfl (Nat.le_of_ble_eq_true rfl) d_RW_appendNew_29 (fun H locs hP hD hS => ?_)
    have hP : va_P (dC, dI) kCl ((rw_set ws i0 h a1 a2 a3 n cI cJ (rw_put n r r.2.2.2 mk 0 0)).set i0 (h, .inr (0, [.ref a1, .ref a2, .ref a3, .int (r.2.2.2 + 1)]))) H := hP
    have hD : va_D A ((rw_set ws i0 h a1 a2 a3 n cI cJ (rw_put n r r.2.2.2 mk 0 0)).set i0 (h, .inr (0, [.ref a1, .ref a2, .ref a3, .int (r.2.2.2 + 1)]))) := hD
    rw [rw_set_0 hr0, rw_set_set] at hP hD
    exact W.vret hx hb hr (fun t9 ht _ => mQv_end (by first | (rw [rw_new_t (b2i_n.mp c_1)]; done) | (rw [rw_new_f (b2i_0.mp c_1), rw_set_self hr0]; done)) hP hD hS ht) hS.2.2 d_RW_appendNew_32 hlocks
