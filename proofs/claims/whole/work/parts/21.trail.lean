set_option maxHeartbeats 4000000 in
set_option maxRecDepth 100000 in
/-- Trail.leafAt -/
theorem c_TL_leafAt {l : Launch} {dC : Nat → ClassId} {dI : Nat → Nat → Nat} {cI cJ : ClassId} {H : Heap} {ws : va_W} {i0 h a : Nat} {u : Tl} (hP : va_P (dC, dI) kCl ws H) (ht0 : tl_in ws i0 h a cI u) (hu : u.2 < 600) (j : Nat) (hj : j < 600) : Met l y_TL_leafAt (k_TL_leafAt :: bw) { frames := 0, cells := 0, slots := 0, locals := 0 } (zP (dC, dI) kCl [(cI, .int), (cJ, .long)] [.ref h, .int (nI j)] H) (zQi H (u.1 j)) 0 0 (fun _ => False) := by
  refine Met.ofZ (own := "CoinTree$Trail") (by decide) rfl [.ref h, .int (nI j)] (Nat.le_of_ble_eq_true rfl) (fun _ _ h => h.1) ?_
  intro p e s m below meth c ls C0 hv hl
  obtain ⟨hx, hb, hr, hml, hown, hT, hlocks⟩ := C0
  obtain ⟨-, rfl, hK⟩ := hv
  have hS : va_S (fun _ => False) s.heap s.heap [] := va_S.rf
  have hl : lv_has ls 4 [(0, .ref h), (1, .int (nI j))] := hl
  refine lv_aload_n hx hb d_TL_leafAt_0 rfl (lv_at hl 0 rfl) ?_
  refine va_get (D := (dC, dI)) (ci := 1) (v := .int (nI u.2)) (C := R_TL) (T := F_TL) (N := 3) hx hb hT i_TL hown hK hP i0 ht0.1 rfl 2 (by decide) (hT _ m_65) (fun _ h9 => h9) rfl d_TL_leafAt_1 ?_
  refine lv_sipush (v := 600) hx hb d_TL_leafAt_4 (by decide) ?_
  refine lv_icmp_ge (tgt := 14) hx hb d_TL_leafAt_7 (by decide) (fun c_1 => ?_) (fun c_1 => ?_)
  · exact absurd c_1 (by rw [show (600 : Int32) = nI 600 from rfl]; exact nI_ge hu (by omega))
  · refine lv_iconst (v := 0) hx hb d_TL_leafAt_10 (by decide) ?_
    refine lv_goto (tgt := 18) hx hb d_TL_leafAt_11 (by decide) ?_
    refine lv_istore_n (lv' := [(2, .int 0), (0, .ref h), (1, .int (nI j))]) hx hb d_TL_leafAt_18 rfl hl (by decide) rfl (fun ls hl => ?_)
    refine lv_iload_n hx hb d_TL_leafAt_19 rfl (lv_at hl 0 rfl) ?_
    refine lv_iload_n hx hb d_TL_leafAt_20 rfl (lv_at hl 2 rfl) ?_
    refine lv_iadd hx hb d_TL_leafAt_21 ?_
    refine lv_sipush (v := 600) hx hb d_TL_leafAt_22 (by decide) ?_
    refine lv_irem hx hb d_TL_leafAt_25 (by decide) ?_
    refine W.eq (g2 := F0 m 26 ls [.int (nI j)]) (by rw [tl_r600 j hj]) ?_
    refine lv_istore_n (lv' := [(3, .int (nI j)), (2, .int 0), (0, .ref h), (1, .int (nI j))]) hx hb d_TL_leafAt_26 rfl hl (by decide) rfl (fun ls hl => ?_)
    refine lv_iload_n hx hb d_TL_leafAt_27 rfl (lv_at hl 0 rfl) ?_
    refine lv_if_lt (tgt := 40) hx hb d_TL_leafAt_28 (by decide) (fun c_2 => ?_) (fun c_2 => ?_)
    · exact absurd c_2 (nI_pos (by omega))
    · refine lv_aload_n hx hb d_TL_leafAt_31 rfl (lv_at hl 2 rfl) ?_
      refine va_get (D := (dC, dI)) (ci := 1) (v := .ref a) (C := R_TL) (T := F_TL) (N := 3) hx hb hT i_TL hown hK hP i0 ht0.1 rfl 0 (by decide) (hT _ m_63) (fun _ h9 => h9) rfl d_TL_leafAt_32 ?_
      refine lv_iload_n hx hb d_TL_leafAt_35 rfl (lv_at hl 0 rfl) ?_
      refine va_iald hx hb hK hP (i0 + 1) 0 ht0.2 rfl (vp_in_nI hj (by omega)) d_TL_leafAt_36 ?_
      rw [nI_clamp (show j < 2 ^ 31 by omega)]
      refine lv_goto (tgt := 41) hx hb d_TL_leafAt_37 (by decide) ?_
      exact W.iret hx hb hr (fun t9 ht _ => zQi_end (rfl) rfl ht) hS.2.2 d_TL_leafAt_41 hlocks

set_option maxHeartbeats 4000000 in
set_option maxRecDepth 100000 in
/-- Trail.add -/
theorem c_TL_add {l : Launch} {dC : Nat → ClassId} {dI : Nat → Nat → Nat} {cI cJ : ClassId} {A : Nat → Prop} {ws : va_W} {i0 h a : Nat} {u : Tl} (ht0 : tl_in ws i0 h a cI u) (hu : u.2 < 600) (lf : Int32) : Met l y_TL_add (k_TL_add :: bw) { frames := 1, cells := 0, slots := 0, locals := 21 } (mP (dC, dI) kCl [(cI, .int), (cJ, .long)] [.ref h, .int lf] ws A) (mQv (dC, dI) kCl (tl_set ws i0 h a cI (tl_add u lf)) A) 0 0 A := by
  refine Met.ofZ (own := "CoinTree$Trail") (by decide) rfl [.ref h, .int lf] (Nat.le_of_ble_eq_true rfl) (fun _ _ h => h.1) ?_
  intro p e s m below meth c ls C0 hv hl
  obtain ⟨hx, hb, hr, hml, hown, hT, hlocks⟩ := C0
  obtain ⟨-, hP, hK, hD⟩ := hv
  have hS : va_S A s.heap s.heap [] := va_S.rf
  have hl : lv_has ls 2 [(0, .ref h), (1, .int lf)] := hl
  refine lv_aload_n hx hb d_TL_add_0 rfl (lv_at hl 0 rfl) ?_
  refine va_get (D := (dC, dI)) (ci := 1) (v := .int (nI u.2)) (C := R_TL) (T := F_TL) (N := 3) hx hb hT i_TL hown hK hP i0 ht0.1 rfl 1 (by decide) (hT _ m_64) (fun _ h9 => h9) rfl d_TL_add_1 ?_
  refine lv_if_lt (tgt := 17) hx hb d_TL_add_4 (by decide) (fun c_1 => ?_) (fun c_1 => ?_)
  · exact absurd c_1 (nI_pos (by omega))
  · refine lv_aload_n hx hb d_TL_add_7 rfl (lv_at hl 0 rfl) ?_
    refine va_get (D := (dC, dI)) (ci := 1) (v := .int (nI u.2)) (C := R_TL) (T := F_TL) (N := 3) hx hb hT i_TL hown hK hP i0 ht0.1 rfl 1 (by decide) (hT _ m_64) (fun _ h9 => h9) rfl d_TL_add_8 ?_
    refine lv_sipush (v := 600) hx hb d_TL_add_11 (by decide) ?_
    refine lv_icmp_lt (tgt := 22) hx hb d_TL_add_14 (by decide) (fun c_2 => ?_) (fun c_2 => ?_)
    · refine lv_aload_n hx hb d_TL_add_22 rfl (lv_at hl 0 rfl) ?_
      refine va_get (D := (dC, dI)) (ci := 1) (v := .ref a) (C := R_TL) (T := F_TL) (N := 3) hx hb hT i_TL hown hK hP i0 ht0.1 rfl 0 (by decide) (hT _ m_63) (fun _ h9 => h9) rfl d_TL_add_23 ?_
      refine lv_aload_n hx hb d_TL_add_26 rfl (lv_at hl 0 rfl) ?_
      refine va_get (D := (dC, dI)) (ci := 1) (v := .int (nI u.2)) (C := R_TL) (T := F_TL) (N := 3) hx hb hT i_TL hown hK hP i0 ht0.1 rfl 1 (by decide) (hT _ m_64) (fun _ h9 => h9) rfl d_TL_add_27 ?_
      refine lv_iload_n hx hb d_TL_add_30 rfl (lv_at hl 1 rfl) ?_
      refine va_iast hx hb hK hP hD hS (i0 + 1) 0 ht0.2 rfl (vp_in_nI hu (by omega)) d_TL_add_31 (fun H locs hP hD hS => ?_)
      rw [nI_clamp (show u.2 < 2 ^ 31 by omega)] at hP hD
      have e1 : (ws.set (i0 + 1) (a, .inl (cI, 600, .inl (upd u.1 u.2 lf))))[i0]? = some (h, .inr (1, [.ref a, .int (nI u.2), .int (nI u.2)])) := by rw [ls_ne (by omega)]; exact ht0.1
      refine lv_aload_n hx hb d_TL_add_32 rfl (lv_at hl 0 rfl) ?_
      refine lv_dup hx hb d_TL_add_33 rfl ?_
      refine va_get (D := (dC, dI)) (ci := 1) (v := .int (nI u.2)) (C := R_TL) (T := F_TL) (N := 3) hx hb hT i_TL hown hK hP i0 e1 rfl 1 (by decide) (hT _ m_64) (fun _ h9 => h9) rfl d_TL_add_34 ?_
      refine lv_iconst (v := 1) hx hb d_TL_add_37 (by decide) ?_
      refine lv_iadd hx hb d_TL_add_38 ?_
      refine va_put (D := (dC, dI)) (ci := 1) (v := .int ((nI u.2) + 1)) (ty := .int) (C := R_TL) (T := F_TL) (N := 3) hx hb hT i_TL t_TL t_TL_ok n_TL hown hK hP hD hS i0 e1 rfl 1 (by decide) (hT _ m_64) (fun _ h9 => h9) rfl (by decide +kernel) rfl rfl (Nat.le_of_ble_eq_true rfl) d_TL_add_39 (fun H locs hP hD hS => ?_)
      have e2 := ls_eq (x := ((h, .inr (1, [.ref a, .int (nI u.2 + 1), .int (nI u.2)])) : Nat × va_E)) e1
      refine lv_aload_n hx hb d_TL_add_42 rfl (lv_at hl 0 rfl) ?_
      refine lv_aload_n hx hb d_TL_add_43 rfl (lv_at hl 0 rfl) ?_
      refine va_get (D := (dC, dI)) (ci := 1) (v := .int (nI u.2)) (C := R_TL) (T := F_TL) (N := 3) hx hb hT i_TL hown hK hP i0 e2 rfl 2 (by decide) (hT _ m_65) (fun _ h9 => h9) rfl d_TL_add_44 ?_
      refine lv_iconst (v := 1) hx hb d_TL_add_47 (by decide) ?_
      refine lv_iadd hx hb d_TL_add_48 ?_
      refine lv_sipush (v := 600) hx hb d_TL_add_49 (by decide) ?_
      refine va_mmin hx hb (hml.trans hl.1.symm) hown (hT _ m_382) (hT _ m_46) (hT _ m_23) (hT _ m_47) (Nat.le_of_ble_eq_true rfl) (Nat.le_of_ble_eq_true rfl) (Nat.zero_le _) (Nat.zero_le _) d_TL_add_52 ?_
      refine W.eq (g2 := F0 m 55 ls [.int (nI (u.2 + 1)), .ref h]) (by rw [tl_min hu]) ?_
      refine va_put (D := (dC, dI)) (ci := 1) (v := .int (nI (u.2 + 1))) (ty := .int) (C := R_TL) (T := F_TL) (N := 3) hx hb hT i_TL t_TL t_TL_ok n_TL hown hK hP hD hS i0 e2 rfl 2 (by decide) (hT _ m_65) (fun _ h9 => h9) rfl (by decide +kernel) rfl rfl (Nat.le_of_ble_eq_true rfl) d_TL_add_55 (fun H locs hP hD hS => ?_)
      exact W.vret hx hb hr (fun t9 ht _ => mQv_end (by rw [List.set_set]; show ((ws.set (i0 + 1) (a, .inl (cI, 600, .inl (upd u.1 u.2 lf)))).set i0 (h, .inr (1, [.ref a, .int (nI u.2 + 1), .int (nI (u.2 + 1))]))) = _; rw [nI_1, tl_in_set ht0]; rfl) hP hD hS ht) hS.2.2 d_TL_add_58 hlocks
    · exact absurd (by rw [show (600 : Int32) = nI 600 from rfl]; exact nI_lt hu (by omega)) c_2
