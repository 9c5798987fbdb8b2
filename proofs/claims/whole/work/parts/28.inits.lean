set_option maxHeartbeats 4000000 in
set_option maxRecDepth 100000 in
/-- Row(length) -/
theorem c_RW_init {l : Launch} {dC : Nat → ClassId} {dI : Nat → Nat → Nat} {cI cJ : ClassId} (sz : Nat) (h n : Nat) (hn : n ≤ 256) : Met l y_RW_init (k_RW_init :: bw) { frames := 1, cells := 3, slots := 768, locals := 21 } (iP (dC, dI) kCl [(cI, .int), (cJ, .long)] [.ref h, .int (nI n)] [(h, .inr (0, [.null, .null, .null, .int 0]))] sz) (iQ (dC, dI) kCl (fun u => [(h, .inr (0, [.ref (u 1), .ref (u 2), .ref (u 3), .int 0])), (u 1, .inl (cI, n, .inl (fun _ => 0))), (u 2, .inl (cI, n, .inl (fun _ => 0))), (u 3, .inl (cJ, n, .inr (.inl (fun _ => 0))))]) (va_A [(h, .inr (0, [.null, .null, .null, .int 0]))] sz)) 3 768 (va_A [(h, .inr (0, [.null, .null, .null, .int 0]))] sz) := by
  refine Met.ofI (own := "CoinTree$Row") (by decide) rfl rfl [.ref h, .int (nI n)] (Nat.le_of_ble_eq_true rfl) (fun _ _ h => h.1) ?_
  intro p e s m below meth c ls C0 hin hv hl
  obtain ⟨hx, hb, hr, hml, hown, hT, hlocks⟩ := C0
  obtain ⟨-, hsz, hP, hK, hD0, hNw⟩ := hv
  subst hsz
  have hD := hD0.self (sz := s.heap.size)
  generalize hAe : va_A [(h, .inr (0, [.null, .null, .null, .int 0]))] s.heap.size = A at hD ⊢
  have hA : ∀ q : Nat, s.heap.size ≤ q → A q := fun q h => by rw [← hAe]; exact Or.inr h
  have hS : va_S A s.heap s.heap [] := va_S.rf
  have hl : lv_has ls 3 [(0, .ref h), (1, .int (nI n))] := hl
  refine lv_aload_n hx hb d_RW_init_0 rfl (lv_at hl 0 rfl) ?_
  refine W.objInit hx hb hown (hT _ m_80) (hT _ m_40) (hT _ m_41) rfl (by rw [hml]; exact hl.1) rfl d_RW_init_1 (Nat.le_of_ble_eq_true rfl) (Nat.le_of_ble_eq_true rfl) ?_
  refine W.eq (g2 := F0 m 4 ls []) rfl ?_
  refine lv_iconst (v := 0) hx hb d_RW_init_4 (by decide) ?_
  refine lv_iload_n hx hb d_RW_init_5 rfl (lv_at hl 1 rfl) ?_
  refine va_mmax hx hb (hml.trans hl.1.symm) hown (hT _ m_81) (hT _ m_49) (hT _ m_23) (hT _ m_50) (Nat.le_of_ble_eq_true rfl) (Nat.le_of_ble_eq_true rfl) (Nat.zero_le _) (Nat.zero_le _) d_RW_init_6 ?_
  refine W.eq (g2 := F0 m 9 ls [.int (nI n)]) (by rw [max0_nI n (show n < 2 ^ 31 by omega)]) ?_
  refine lv_istore_n (lv' := [(2, .int (nI n)), (0, .ref h), (1, .int (nI n))]) hx hb d_RW_init_9 rfl hl (by decide) rfl (fun ls hl => ?_)
  refine lv_aload_n hx hb d_RW_init_10 rfl (lv_at hl 1 rfl) ?_
  refine lv_iload_n hx hb d_RW_init_11 rfl (lv_at hl 0 rfl) ?_
  refine va_newa (atype := .int) (ty := .int) (a0 := (n, .inl (fun _ => 0))) (N' := n) hx hb (hT _ m_74) rfl hK hP hD hS hA (fun _ => rfl) (nI_pos (show n < 2 ^ 31 by omega)) (nI_clamp (show n < 2 ^ 31 by omega)) (by show _ * 4 ≤ 536870912; have := hn; omega) (by decide) (by show _ ≤ 768; have := hn; omega) d_RW_init_12 (fun q_1 cA H hK2 hP hD hS => ?_)
  have hc9 : cI = cA := va_ca hK2 (i := 0) (j := 2) rfl rfl
  subst hc9
  have hP : va_P (dC, dI) kCl [(h, .inr (0, [.null, .null, .null, .int 0])), (q_1, .inl (cI, n, .inl (fun _ => 0)))] H := hP
  have hD : va_D A [(h, .inr (0, [.null, .null, .null, .int 0])), (q_1, .inl (cI, n, .inl (fun _ => 0)))] := hD
  refine W.widen (k := 1) (n := 256) (by decide) (by have := hn; omega) ?_
  refine va_putF (D := (dC, dI)) (ci := 0) (v := .ref q_1) (ty := (.array .int)) (C := R_RW) (T := F_RW) (N := 4) hx hb hT i_RW t_RW t_RW_ok n_RW hown hK hP hD hS 0 rfl rfl 0 (by decide) (hT _ m_82) (fun _ h9 => h9) rfl hin rfl (by decide +kernel) rfl rfl (Nat.le_of_ble_eq_true rfl) d_RW_init_14 (fun H locs hP hD hS => ?_)
  have hP : va_P (dC, dI) kCl [(h, .inr (0, [.ref q_1, .null, .null, .int 0])), (q_1, .inl (cI, n, .inl (fun _ => 0)))] H := hP
  have hD : va_D A [(h, .inr (0, [.ref q_1, .null, .null, .int 0])), (q_1, .inl (cI, n, .inl (fun _ => 0)))] := hD
  refine lv_aload_n hx hb d_RW_init_17 rfl (lv_at hl 1 rfl) ?_
  refine lv_iload_n hx hb d_RW_init_18 rfl (lv_at hl 0 rfl) ?_
  refine va_newa (atype := .int) (ty := .int) (a0 := (n, .inl (fun _ => 0))) (N' := n) hx hb (hT _ m_74) rfl hK hP hD hS hA (fun _ => rfl) (nI_pos (show n < 2 ^ 31 by omega)) (nI_clamp (show n < 2 ^ 31 by omega)) (by show _ * 4 ≤ 536870912; have := hn; omega) (by decide) (by show _ ≤ 768; have := hn; omega) d_RW_init_19 (fun q_2 cA H hK2 hP hD hS => ?_)
  have hc9 : cI = cA := va_ca hK2 (i := 0) (j := 2) rfl rfl
  subst hc9
  have hP : va_P (dC, dI) kCl [(h, .inr (0, [.ref q_1, .null, .null, .int 0])), (q_1, .inl (cI, n, .inl (fun _ => 0))), (q_2, .inl (cI, n, .inl (fun _ => 0)))] H := hP
  have hD : va_D A [(h, .inr (0, [.ref q_1, .null, .null, .int 0])), (q_1, .inl (cI, n, .inl (fun _ => 0))), (q_2, .inl (cI, n, .inl (fun _ => 0)))] := hD
  refine W.widen (k := 2) (n := 512) (by decide) (by have := hn; omega) ?_
  refine va_putF (D := (dC, dI)) (ci := 0) (v := .ref q_2) (ty := (.array .int)) (C := R_RW) (T := F_RW) (N := 4) hx hb hT i_RW t_RW t_RW_ok n_RW hown hK hP hD hS 0 rfl rfl 1 (by decide) (hT _ m_83) (fun _ h9 => h9) rfl hin rfl (by decide +kernel) rfl rfl (Nat.le_of_ble_eq_true rfl) d_RW_init_21 (fun H locs hP hD hS => ?_)
  have hP : va_P (dC, dI) kCl [(h, .inr (0, [.ref q_1, .ref q_2, .null, .int 0])), (q_1, .inl (cI, n, .inl (fun _ => 0))), (q_2, .inl (cI, n, .inl (fun _ => 0)))] H := hP
  have hD : va_D A [(h, .inr (0, [.ref q_1, .ref q_2, .null, .int 0])), (q_1, .inl (cI, n, .inl (fun _ => 0))), (q_2, .inl (cI, n, .inl (fun _ => 0)))] := hD
  refine lv_aload_n hx hb d_RW_init_24 rfl (lv_at hl 1 rfl) ?_
  refine lv_iload_n hx hb d_RW_init_25 rfl (lv_at hl 0 rfl) ?_
  refine va_newa (atype := .long) (ty := .long) (a0 := (n, .inr (.inl (fun _ => 0)))) (N' := n) hx hb (hT _ m_97) rfl hK hP hD hS hA (fun _ => rfl) (nI_pos (show n < 2 ^ 31 by omega)) (nI_clamp (show n < 2 ^ 31 by omega)) (by show _ * 8 ≤ 536870912; have := hn; omega) (by decide) (by show _ ≤ 768; have := hn; omega) d_RW_init_26 (fun q_3 cA H hK2 hP hD hS => ?_)
  have hc9 : cJ = cA := va_caL hK2 (i := 1) (j := 2) rfl rfl
  subst hc9
  have hP : va_P (dC, dI) kCl [(h, .inr (0, [.ref q_1, .ref q_2, .null, .int 0])), (q_1, .inl (cI, n, .inl (fun _ => 0))), (q_2, .inl (cI, n, .inl (fun _ => 0))), (q_3, .inl (cJ, n, .inr (.inl (fun _ => 0))))] H := hP
  have hD : va_D A [(h, .inr (0, [.ref q_1, .ref q_2, .null, .int 0])), (q_1, .inl (cI, n, .inl (fun _ => 0))), (q_2, .inl (cI, n, .inl (fun _ => 0))), (q_3, .inl (cJ, n, .inr (.inl (fun _ => 0))))] := hD
  refine W.widen (k := 3) (n := 768) (by decide) (by have := hn; omega) ?_
  refine va_putF (D := (dC, dI)) (ci := 0) (v := .ref q_3) (ty := (.array .long)) (C := R_RW) (T := F_RW) (N := 4) hx hb hT i_RW t_RW t_RW_ok n_RW hown hK hP hD hS 0 rfl rfl 2 (by decide) (hT _ m_84) (fun _ h9 => h9) rfl hin rfl (by decide +kernel) rfl rfl (Nat.le_of_ble_eq_true rfl) d_RW_init_28 (fun H locs hP hD hS => ?_)
  have hP : va_P (dC, dI) kCl [(h, .inr (0, [.ref q_1, .ref q_2, .ref q_3, .int 0])), (q_1, .inl (cI, n, .inl (fun _ => 0))), (q_2, .inl (cI, n, .inl (fun _ => 0))), (q_3, .inl (cJ, n, .inr (.inl (fun _ => 0))))] H := hP
  have hD : va_D A [(h, .inr (0, [.ref q_1, .ref q_2, .ref q_3, .int 0])), (q_1, .inl (cI, n, .inl (fun _ => 0))), (q_2, .inl (cI, n, .inl (fun _ => 0))), (q_3, .inl (cJ, n, .inr (.inl (fun _ => 0))))] := hD
  have hP9 := hP.sub (ws' := [(h, .inr (0, [.ref q_1, .ref q_2, .ref q_3, .int 0])), (q_1, .inl (cI, n, .inl (fun _ => 0))), (q_2, .inl (cI, n, .inl (fun _ => 0))), (q_3, .inl (cJ, n, .inr (.inl (fun _ => 0))))]) [0, 1, 2, 3] rfl
  have hD9 := hD.sub (ws' := [(h, .inr (0, [.ref q_1, .ref q_2, .ref q_3, .int 0])), (q_1, .inl (cI, n, .inl (fun _ => 0))), (q_2, .inl (cI, n, .inl (fun _ => 0))), (q_3, .inl (cJ, n, .inr (.inl (fun _ => 0))))]) [0, 1, 2, 3] (by decide) rfl
  refine W.widen (k := 3) (n := 768) (by decide) (by first | exact Nat.le_refl _ | omega) ?_
  exact W.vret hx hb hr (fun t9 ht _ => iQ_end (fun k => if k = 1 then q_1 else if k = 2 then q_2 else q_3) rfl hP9 hD9 hS ht) hS.2.2 d_RW_init_31 hlocks

set_option maxHeartbeats 4000000 in
set_option maxRecDepth 100000 in
/-- Trail() -/
theorem c_TL_init {l : Launch} {dC : Nat → ClassId} {dI : Nat → Nat → Nat} {cI cJ : ClassId} (sz : Nat) (h n : Nat) (hn : n = 600) : Met l y_TL_init (k_TL_init :: bw) { frames := 1, cells := 1, slots := 600, locals := 20 } (iP (dC, dI) kCl [(cI, .int), (cJ, .long)] [.ref h] [(h, .inr (1, [.null, .int 0, .int 0]))] sz) (iQ (dC, dI) kCl (fun u => [(h, .inr (1, [.ref (u 1), .int 0, .int 0])), (u 1, .inl (cI, n, .inl (fun _ => 0)))]) (va_A [(h, .inr (1, [.null, .int 0, .int 0]))] sz)) 1 600 (va_A [(h, .inr (1, [.null, .int 0, .int 0]))] sz) := by
  refine Met.ofI (own := "CoinTree$Trail") (by decide) rfl rfl [.ref h] (Nat.le_of_ble_eq_true rfl) (fun _ _ h => h.1) ?_
  intro p e s m below meth c ls C0 hin hv hl
  obtain ⟨hx, hb, hr, hml, hown, hT, hlocks⟩ := C0
  obtain ⟨-, hsz, hP, hK, hD0, hNw⟩ := hv
  subst hsz
  have hD := hD0.self (sz := s.heap.size)
  generalize hAe : va_A [(h, .inr (1, [.null, .int 0, .int 0]))] s.heap.size = A at hD ⊢
  have hA : ∀ q : Nat, s.heap.size ≤ q → A q := fun q h => by rw [← hAe]; exact Or.inr h
  have hS : va_S A s.heap s.heap [] := va_S.rf
  have hl : lv_has ls 1 [(0, .ref h)] := hl
  refine lv_aload_n hx hb d_TL_init_0 rfl (lv_at hl 0 rfl) ?_
  refine W.objInit hx hb hown (hT _ m_62) (hT _ m_40) (hT _ m_41) rfl (by rw [hml]; exact hl.1) rfl d_TL_init_1 (Nat.le_of_ble_eq_true rfl) (Nat.le_of_ble_eq_true rfl) ?_
  refine W.eq (g2 := F0 m 4 ls []) rfl ?_
  refine lv_aload_n hx hb d_TL_init_4 rfl (lv_at hl 0 rfl) ?_
  refine lv_sipush (v := 600) hx hb d_TL_init_5 (by decide) ?_
  refine W.eq (g2 := F0 m 8 ls [.int (nI n), .ref h]) (by rw [hn]; rfl) ?_
  refine va_newa (atype := .int) (ty := .int) (a0 := (n, .inl (fun _ => 0))) (N' := n) hx hb (hT _ m_74) rfl hK hP hD hS hA (fun _ => rfl) (nI_pos (show n < 2 ^ 31 by omega)) (nI_clamp (show n < 2 ^ 31 by omega)) (by show _ * 4 ≤ 536870912; have := hn; omega) (by decide) (by show _ ≤ 600; have := hn; omega) d_TL_init_8 (fun q_1 cA H hK2 hP hD hS => ?_)
  have hc9 : cI = cA := va_ca hK2 (i := 0) (j := 2) rfl rfl
  subst hc9
  have hP : va_P (dC, dI) kCl [(h, .inr (1, [.null, .int 0, .int 0])), (q_1, .inl (cI, n, .inl (fun _ => 0)))] H := hP
  have hD : va_D A [(h, .inr (1, [.null, .int 0, .int 0])), (q_1, .inl (cI, n, .inl (fun _ => 0)))] := hD
  refine W.widen (k := 1) (n := 600) (by decide) (by have := hn; omega) ?_
  refine va_putF (D := (dC, dI)) (ci := 1) (v := .ref q_1) (ty := (.array .int)) (C := R_TL) (T := F_TL) (N := 3) hx hb hT i_TL t_TL t_TL_ok n_TL hown hK hP hD hS 0 rfl rfl 0 (by decide) (hT _ m_63) (fun _ h9 => h9) rfl hin rfl (by decide +kernel) rfl rfl (Nat.le_of_ble_eq_true rfl) d_TL_init_10 (fun H locs hP hD hS => ?_)
  have hP : va_P (dC, dI) kCl [(h, .inr (1, [.ref q_1, .int 0, .int 0])), (q_1, .inl (cI, n, .inl (fun _ => 0)))] H := hP
  have hD : va_D A [(h, .inr (1, [.ref q_1, .int 0, .int 0])), (q_1, .inl (cI, n, .inl (fun _ => 0)))] := hD
  have hP9 := hP.sub (ws' := [(h, .inr (1, [.ref q_1, .int 0, .int 0])), (q_1, .inl (cI, n, .inl (fun _ => 0)))]) [0, 1] rfl
  have hD9 := hD.sub (ws' := [(h, .inr (1, [.ref q_1, .int 0, .int 0])), (q_1, .inl (cI, n, .inl (fun _ => 0)))]) [0, 1] (by decide) rfl
  refine W.widen (k := 1) (n := 600) (by decide) (by first | exact Nat.le_refl _ | omega) ?_
  exact W.vret hx hb hr (fun t9 ht _ => iQ_end (fun _ => q_1) rfl hP9 hD9 hS ht) hS.2.2 d_TL_init_13 hlocks
