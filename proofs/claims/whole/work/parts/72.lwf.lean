set_option maxHeartbeats 8000000 in
set_option maxRecDepth 100000 in
/-- THE LAW, from its entry -/
theorem whole_start {p : Program} {e : Env} {s : State} {m : MethodId} {below : List Frame} {meth : Method} {c : Code} (l : Launch) (hl9 : l.stackTraces = false) {b n : Nat} {xs : Nat → Int32} (hn9 : n ≤ 3076) (C0 : lw_At p s m meth c b n xs) : W p l e room_1 s m #[Value.ref b] below meth c s.heap [] 0 0 (lw_Z below #[Value.ref b] s) (entryFrame m ([Value.ref b] : List Value).toArray 8) := by
  obtain ⟨hx, hb, hr, hml, hown, hts, hX, hbl, hlocks, hgv⟩ := id C0
  have hown : s.vm.findClass "CoinTreeLaw" = some m.cls := hown
  have hT : ∀ w ∈ bw, w.before #[Value.ref b] s = true := fun w h => hts w (List.mem_filter.mp h).1
  obtain ⟨A, hAd⟩ : ∃ A : Nat → Prop, A = (fun q : Nat => s.heap.size ≤ q) := ⟨_, rfl⟩
  have hA : ∀ q : Nat, s.heap.size ≤ q → A q := fun q h => by rw [hAd]; exact h
  have hA2 : ∀ q : Nat, A q → s.heap.size ≤ q := fun q h => by rw [hAd] at h; exact h
  have hbA : ¬ A b := fun h => absurd (hA2 b h) (Nat.not_le.mpr hbl)
  have xe : xE A s s.heap := law_xe C0 (fun a h1 h2 => absurd (hA2 a h2) (Nat.not_le.mpr h1))
  have hN := law_nc C0
  obtain ⟨dC, dI, cI, cJ, hK⟩ := law_K hT
  have hNw : va_Nw nestW s := va_Nw.of rfl (hts _ (List.mem_of_getElem? (i := 59) (by decide +kernel)))
  have hS : va_S A s.heap s.heap [] := va_S.rf
  have hP : va_P (dC, dI) kCl [] s.heap := fun k q h => by simp at h
  have hD : va_D A [] := ⟨fun i j p q h => by simp at h, fun k q h => by simp at h⟩
  have hl := lv_entry ([.ref b]) (n := 8) (Nat.le_of_ble_eq_true rfl)
  rw [lg_entry_eq]
  generalize (lg_sl ([.ref b]) ++ List.replicate (8 - (lg_sl ([.ref b])).length) Slot.unset).toArray = ls at hl ⊢
  have hl : lv_has ls 8 [(0, .ref b)] := hl
  obtain ⟨L, hL1, hL5, hcL, hmL⟩ := near_both (x := scell n xs 0) (lo := 1) (hi := 5) (by decide) (by decide)
  obtain ⟨S, hS1, hS4, hcS, hmS⟩ := near_both (x := scell n xs 1) (lo := 1) (hi := 4) (by decide) (by decide)
  obtain ⟨C, -, hC4, hcC, hmC⟩ := near_both (x := scell n xs 2) (lo := 0) (hi := 40) (by decide) (by decide)
  have ok : mk_ok L S C := ⟨hL1, hL5, hS1, hS4, hC4⟩
  have ok0 : tr_ok L S C 64 := ⟨hL1, hL5, hS1, hS4, hC4, by decide⟩
  have ok1 : tr_ok (mL L 1) S C 16 := ⟨(mL_le hL1 hL5).1, (mL_le hL1 hL5).2, hS1, hS4, hC4, by decide⟩
  refine va_new (ci := 3) (fs := [.int 0, .int 0, .long 0, .null, .null, .null, .int 0, .int 0]) (C := R_CT) (T := F_CT) (N := 8) hx hb hT i_CT t_CT t_CT_ok hown (hT _ m_34) (hT _ m_35) (hT _ m_22) hK hP hD hS hA rfl (fun j hj => by rcases (show j = 0 ∨ j = 1 ∨ j = 2 ∨ j = 3 ∨ j = 4 ∨ j = 5 ∨ j = 6 ∨ j = 7 by omega) with rfl | rfl | rfl | rfl | rfl | rfl | rfl | rfl <;> rfl) (Nat.le_of_ble_eq_true rfl) (Nat.le_of_ble_eq_true rfl) d_LW_law_0 (fun x H hP hD hS => ?_)
  refine W.widen (k := 1) (n := 8) (by omega) (by omega) ?_
  refine lv_dup hx hb d_LW_law_3 rfl ?_
  have hP : va_P (dC, dI) kCl [(x, .inr (3, [.int 0, .int 0, .long 0, .null, .null, .null, .int 0, .int 0]))] H := hP
  have hD : va_D A [(x, .inr (3, [.int 0, .int 0, .long 0, .null, .null, .null, .int 0, .int 0]))] := hD
  refine lv_aload_n hx hb d_LW_law_4 rfl (lv_at hl 0 rfl) ?_
  refine lv_iconst (v := 0) hx hb d_LW_law_5 (by decide) ?_
  refine zc_i (va_runS (As := [.ref b, .int 0]) (rest := [.ref x, .ref x]) ⟨hx, hb, hml, hown, hT⟩ (c_LW_cell (H := H) hn9 0 (by decide)) (cwS 2 hT (gi_S m_169 m_167 m_168 m_21) rfl rfl rfl p_LW_cell ⟨Nat.le_of_ble_eq_true rfl, Nat.le_of_ble_eq_true rfl⟩) ⟨sP_blind, sP_pre hX hbl hbA hS⟩ rfl rfl hl.1 rfl (lv_room (Nat.le_of_ble_eq_true rfl)) d_LW_law_6 ⟨Nat.le_of_ble_eq_true rfl, Nat.le_of_ble_eq_true rfl⟩) hS (fun locs hS => ?_)
  refine lv_aload_n hx hb d_LW_law_9 rfl (lv_at hl 0 rfl) ?_
  refine lv_iconst (v := 1) hx hb d_LW_law_10 (by decide) ?_
  refine zc_i (va_runS (As := [.ref b, .int 1]) (rest := [.int (scell n xs 0), .ref x, .ref x]) ⟨hx, hb, hml, hown, hT⟩ (c_LW_cell (H := H) hn9 1 (by decide)) (cwS 2 hT (gi_S m_169 m_167 m_168 m_21) rfl rfl rfl p_LW_cell ⟨Nat.le_of_ble_eq_true rfl, Nat.le_of_ble_eq_true rfl⟩) ⟨sP_blind, sP_pre hX hbl hbA hS⟩ rfl rfl hl.1 rfl (lv_room (Nat.le_of_ble_eq_true rfl)) d_LW_law_11 ⟨Nat.le_of_ble_eq_true rfl, Nat.le_of_ble_eq_true rfl⟩) hS (fun locs hS => ?_)
  refine lv_aload_n hx hb d_LW_law_14 rfl (lv_at hl 0 rfl) ?_
  refine lv_iconst (v := 2) hx hb d_LW_law_15 (by decide) ?_
  refine zc_i (va_runS (As := [.ref b, .int 2]) (rest := [.int (scell n xs 1), .int (scell n xs 0), .ref x, .ref x]) ⟨hx, hb, hml, hown, hT⟩ (c_LW_cell (H := H) hn9 2 (by decide)) (cwS 2 hT (gi_S m_169 m_167 m_168 m_21) rfl rfl rfl p_LW_cell ⟨Nat.le_of_ble_eq_true rfl, Nat.le_of_ble_eq_true rfl⟩) ⟨sP_blind, sP_pre hX hbl hbA hS⟩ rfl rfl hl.1 rfl (lv_room (Nat.le_of_ble_eq_true rfl)) d_LW_law_16 ⟨Nat.le_of_ble_eq_true rfl, Nat.le_of_ble_eq_true rfl⟩) hS (fun locs hS => ?_)
  refine lv_aload_n hx hb d_LW_law_19 rfl (lv_at hl 0 rfl) ?_
  refine lv_iconst (v := 3) hx hb d_LW_law_20 (by decide) ?_
  refine zc_i (va_runS (As := [.ref b, .int 3]) (rest := [.int (scell n xs 2), .int (scell n xs 1), .int (scell n xs 0), .ref x, .ref x]) ⟨hx, hb, hml, hown, hT⟩ (c_LW_cell (H := H) hn9 3 (by decide)) (cwS 2 hT (gi_S m_169 m_167 m_168 m_21) rfl rfl rfl p_LW_cell ⟨Nat.le_of_ble_eq_true rfl, Nat.le_of_ble_eq_true rfl⟩) ⟨sP_blind, sP_pre hX hbl hbA hS⟩ rfl rfl hl.1 rfl (lv_room (Nat.le_of_ble_eq_true rfl)) d_LW_law_21 ⟨Nat.le_of_ble_eq_true rfl, Nat.le_of_ble_eq_true rfl⟩) hS (fun locs hS => ?_)
  refine lv_i2l (v := (scell n xs 3).toInt64) hx hb d_LW_law_24 rfl ?_
  have hPc := hP.sub (ws' := [(x, .inr (3, [.int 0, .int 0, .long 0, .null, .null, .null, .int 0, .int 0]))]) [0] rfl
  have hDc := hD.sub (ws' := [(x, .inr (3, [.int 0, .int 0, .long 0, .null, .null, .null, .int 0, .int 0]))]) [0] (by decide) rfl
  have hFc := va_free (wc := [(x, .inr (3, [.int 0, .int 0, .long 0, .null, .null, .null, .int 0, .int 0]))]) hD hS hA [0] rfl
  refine va_callv (va_runI (As := [.int (scell n xs 0), .int (scell n xs 1), .int (scell n xs 2), .long ((scell n xs 3).toInt64)]) (rest := [.ref x]) ⟨hx, hb, hml, hown, hT⟩ (c_CT_init H.size x 16 rfl (scell n xs 0) (scell n xs 1) (scell n xs 2) ((scell n xs 3).toInt64) ok0 ok1 hcL hcS hcC (mL_M hL1 hL5)) (cwI 4 hT (gi_0 m_38) rfl rfl rfl (hT _ m_22) (hT _ m_36) (hT _ m_37) rfl p_CT_init.2 ⟨Nat.le_of_ble_eq_true rfl, Nat.le_of_ble_eq_true rfl⟩) ⟨iP_blind, iP_pre hK hPc hDc hNw⟩ rfl rfl hl.1 rfl (lv_room (Nat.le_of_ble_eq_true rfl)) d_LW_law_25 ⟨Nat.le_of_ble_eq_true rfl, Nat.le_of_ble_eq_true rfl⟩) hS (fun q _ h => hFc q h) hFc (fun u1 t9 H1 locs ht hvm hw hB hz1 hk1 hS => ?_)
  obtain ⟨hP1, hD1⟩ := hB
  rw [ht] at hP1
  obtain ⟨hP, hD⟩ := va_join (wr := []) hP hD [0] [] rfl rfl (by decide) (by decide) hk1 hFc hP1 hD1
  have hP : va_P (dC, dI) kCl (cw_ cI cJ x (u1 0) (fun k => u1 (2 * k + 1)) (fun k => u1 (2 * k + 2)) L (mL L 1) S C ((scell n xs 3).toInt64) (cs_mk (ct_ml0 (mL L 1) 16) 0 0 ts_z ts_z)) H1 := hP
  have hD : va_D A (cw_ cI cJ x (u1 0) (fun k => u1 (2 * k + 1)) (fun k => u1 (2 * k + 2)) L (mL L 1) S C ((scell n xs 3).toInt64) (cs_mk (ct_ml0 (mL L 1) 16) 0 0 ts_z ts_z)) := hD
  clear hP1 hD1 hFc hPc hDc
  obtain ⟨cs0, hcs0⟩ : ∃ z0 : Cs, z0 = cs_mk (ct_ml0 (mL L 1) 16) 0 0 ts_z ts_z := ⟨_, rfl⟩
  rw [← hcs0] at hP hD
  generalize H1 = H at hP hS ⊢
  refine W.widen (k := 36) (n := 6142) (by omega) (by omega) ?_
  refine lv_astore_n (lv' := [(1, .ref x), (0, .ref b)]) hx hb d_LW_law_28 rfl hl (by decide) rfl (fun ls hl => ?_)
  refine va_new (ci := 4) (fs := [.int 0, .int 0, .int 0, .int 0, .long 0, .null, .null, .null, .null, .null, .null, .null, .null, .null, .int 0, .int 0, .null, .int 0, .null, .null, .null, .null, .null, .null, .null, .null, .null]) (C := R_CM) (T := F_CM) (N := 27) hx hb hT i_CM t_CM t_CM_ok hown (hT _ m_457) (hT _ m_458) (hT _ m_27) hK hP hD hS hA rfl (fun j hj => by rcases (show j = 0 ∨ j = 1 ∨ j = 2 ∨ j = 3 ∨ j = 4 ∨ j = 5 ∨ j = 6 ∨ j = 7 ∨ j = 8 ∨ j = 9 ∨ j = 10 ∨ j = 11 ∨ j = 12 ∨ j = 13 ∨ j = 14 ∨ j = 15 ∨ j = 16 ∨ j = 17 ∨ j = 18 ∨ j = 19 ∨ j = 20 ∨ j = 21 ∨ j = 22 ∨ j = 23 ∨ j = 24 ∨ j = 25 ∨ j = 26 by omega) with rfl | rfl | rfl | rfl | rfl | rfl | rfl | rfl | rfl | rfl | rfl | rfl | rfl | rfl | rfl | rfl | rfl | rfl | rfl | rfl | rfl | rfl | rfl | rfl | rfl | rfl | rfl <;> rfl) (Nat.le_of_ble_eq_true rfl) (Nat.le_of_ble_eq_true rfl) d_LW_law_29 (fun y H hP hD hS => ?_)
  refine W.widen (k := 37) (n := 6169) (by omega) (by omega) ?_
  refine lv_dup hx hb d_LW_law_32 rfl ?_
  have hP : va_P (dC, dI) kCl (cw_ cI cJ x (u1 0) (fun k => u1 (2 * k + 1)) (fun k => u1 (2 * k + 2)) L (mL L 1) S C ((scell n xs 3).toInt64) cs0 ++ [(y, .inr (4, [.int 0, .int 0, .int 0, .int 0, .long 0, .null, .null, .null, .null, .null, .null, .null, .null, .null, .int 0, .int 0, .null, .int 0, .null, .null, .null, .null, .null, .null, .null, .null, .null]))]) H := hP
  have hD : va_D A (cw_ cI cJ x (u1 0) (fun k => u1 (2 * k + 1)) (fun k => u1 (2 * k + 2)) L (mL L 1) S C ((scell n xs 3).toInt64) cs0 ++ [(y, .inr (4, [.int 0, .int 0, .int 0, .int 0, .long 0, .null, .null, .null, .null, .null, .null, .null, .null, .null, .int 0, .int 0, .null, .int 0, .null, .null, .null, .null, .null, .null, .null, .null, .null]))]) := hD
  refine lv_aload_n hx hb d_LW_law_33 rfl (lv_at hl 1 rfl) ?_
  refine lv_iconst (v := 0) hx hb d_LW_law_34 (by decide) ?_
  refine zc_i (va_runS (As := [.ref b, .int 0]) (rest := [.ref y, .ref y]) ⟨hx, hb, hml, hown, hT⟩ (c_LW_cell (H := H) hn9 0 (by decide)) (cwS 2 hT (gi_S m_169 m_167 m_168 m_21) rfl rfl rfl p_LW_cell ⟨Nat.le_of_ble_eq_true rfl, Nat.le_of_ble_eq_true rfl⟩) ⟨sP_blind, sP_pre hX hbl hbA hS⟩ rfl rfl hl.1 rfl (lv_room (Nat.le_of_ble_eq_true rfl)) d_LW_law_35 ⟨Nat.le_of_ble_eq_true rfl, Nat.le_of_ble_eq_true rfl⟩) hS (fun locs hS => ?_)
  refine lv_aload_n hx hb d_LW_law_38 rfl (lv_at hl 1 rfl) ?_
  refine lv_iconst (v := 1) hx hb d_LW_law_39 (by decide) ?_
  refine zc_i (va_runS (As := [.ref b, .int 1]) (rest := [.int (scell n xs 0), .ref y, .ref y]) ⟨hx, hb, hml, hown, hT⟩ (c_LW_cell (H := H) hn9 1 (by decide)) (cwS 2 hT (gi_S m_169 m_167 m_168 m_21) rfl rfl rfl p_LW_cell ⟨Nat.le_of_ble_eq_true rfl, Nat.le_of_ble_eq_true rfl⟩) ⟨sP_blind, sP_pre hX hbl hbA hS⟩ rfl rfl hl.1 rfl (lv_room (Nat.le_of_ble_eq_true rfl)) d_LW_law_40 ⟨Nat.le_of_ble_eq_true rfl, Nat.le_of_ble_eq_true rfl⟩) hS (fun locs hS => ?_)
  refine lv_aload_n hx hb d_LW_law_43 rfl (lv_at hl 1 rfl) ?_
  refine lv_iconst (v := 2) hx hb d_LW_law_44 (by decide) ?_
  refine zc_i (va_runS (As := [.ref b, .int 2]) (rest := [.int (scell n xs 1), .int (scell n xs 0), .ref y, .ref y]) ⟨hx, hb, hml, hown, hT⟩ (c_LW_cell (H := H) hn9 2 (by decide)) (cwS 2 hT (gi_S m_169 m_167 m_168 m_21) rfl rfl rfl p_LW_cell ⟨Nat.le_of_ble_eq_true rfl, Nat.le_of_ble_eq_true rfl⟩) ⟨sP_blind, sP_pre hX hbl hbA hS⟩ rfl rfl hl.1 rfl (lv_room (Nat.le_of_ble_eq_true rfl)) d_LW_law_45 ⟨Nat.le_of_ble_eq_true rfl, Nat.le_of_ble_eq_true rfl⟩) hS (fun locs hS => ?_)
  refine lv_aload_n hx hb d_LW_law_48 rfl (lv_at hl 1 rfl) ?_
  refine lv_iconst (v := 3) hx hb d_LW_law_49 (by decide) ?_
  refine zc_i (va_runS (As := [.ref b, .int 3]) (rest := [.int (scell n xs 2), .int (scell n xs 1), .int (scell n xs 0), .ref y, .ref y]) ⟨hx, hb, hml, hown, hT⟩ (c_LW_cell (H := H) hn9 3 (by decide)) (cwS 2 hT (gi_S m_169 m_167 m_168 m_21) rfl rfl rfl p_LW_cell ⟨Nat.le_of_ble_eq_true rfl, Nat.le_of_ble_eq_true rfl⟩) ⟨sP_blind, sP_pre hX hbl hbA hS⟩ rfl rfl hl.1 rfl (lv_room (Nat.le_of_ble_eq_true rfl)) d_LW_law_50 ⟨Nat.le_of_ble_eq_true rfl, Nat.le_of_ble_eq_true rfl⟩) hS (fun locs hS => ?_)
  refine lv_i2l (v := (scell n xs 3).toInt64) hx hb d_LW_law_53 rfl ?_
  have hPc := hP.sub (ws' := [(y, .inr (4, [.int 0, .int 0, .int 0, .int 0, .long 0, .null, .null, .null, .null, .null, .null, .null, .null, .null, .int 0, .int 0, .null, .int 0, .null, .null, .null, .null, .null, .null, .null, .null, .null]))]) [36] rfl
  have hDc := hD.sub (ws' := [(y, .inr (4, [.int 0, .int 0, .int 0, .int 0, .long 0, .null, .null, .null, .null, .null, .null, .null, .null, .null, .int 0, .int 0, .null, .int 0, .null, .null, .null, .null, .null, .null, .null, .null, .null]))]) [36] (by decide) rfl
  have hFc := va_free (wc := [(y, .inr (4, [.int 0, .int 0, .int 0, .int 0, .long 0, .null, .null, .null, .null, .null, .null, .null, .null, .null, .int 0, .int 0, .null, .int 0, .null, .null, .null, .null, .null, .null, .null, .null, .null]))]) hD hS hA [36] rfl
  refine va_callv (va_runI (As := [.int (scell n xs 0), .int (scell n xs 1), .int (scell n xs 2), .long ((scell n xs 3).toInt64)]) (rest := [.ref y]) ⟨hx, hb, hml, hown, hT⟩ (c_CM_init H.size y 512 128 160 2 16 1200 rfl rfl rfl rfl rfl rfl (scell n xs 0) (scell n xs 1) (scell n xs 2) ((scell n xs 3).toInt64) ok hmL hmS hmC) (cwI 4 hT (gi_0 m_461) rfl rfl rfl (hT _ m_27) (hT _ m_459) (hT _ m_460) rfl p_CM_init.2 ⟨Nat.le_of_ble_eq_true rfl, Nat.le_of_ble_eq_true rfl⟩) ⟨iP_blind, iP_pre hK hPc hDc hNw⟩ rfl rfl hl.1 rfl (lv_room (Nat.le_of_ble_eq_true rfl)) d_LW_law_54 ⟨Nat.le_of_ble_eq_true rfl, Nat.le_of_ble_eq_true rfl⟩) hS (fun q _ h => hFc q h) hFc (fun u2 t9 H1 locs ht hvm hw hB hz1 hk1 hS => ?_)
  obtain ⟨hP1, hD1⟩ := hB
  rw [ht] at hP1
  obtain ⟨hP, hD⟩ := va_join (wr := cw_ cI cJ x (u1 0) (fun k => u1 (2 * k + 1)) (fun k => u1 (2 * k + 2)) L (mL L 1) S C ((scell n xs 3).toInt64) cs0) (w1 := mw_ cI cJ (ado y u2) L S C ((scell n xs 3).toInt64) 0 0 0 0 (fun _ => 0) (mz_v L) mz_o) hP hD [36] [0, 1, 2, 3, 4, 5, 6, 7, 8, 9, 10, 11, 12, 13, 14, 15, 16, 17, 18, 19, 20, 21, 22, 23, 24, 25, 26, 27, 28, 29, 30, 31, 32, 33, 34, 35] rfl rfl (by decide) (by decide) hk1 hFc hP1 hD1
  clear hP1 hD1 hFc hPc hDc
  generalize H1 = H at hP hS ⊢
  refine W.widen (k := 56) (n := 11693) (by omega) (by omega) ?_
  refine lv_astore_n (lv' := [(2, .ref y), (1, .ref x), (0, .ref b)]) hx hb d_LW_law_57 rfl hl (by decide) rfl (fun ls hl => ?_)
  refine lv_iconst (v := 1) hx hb d_LW_law_58 (by decide) ?_
  obtain ⟨n1, hn1⟩ : ∃ n1 : Nat, n1 = 1 := ⟨1, rfl⟩
  refine W.eq (g2 := F0 m 59 ls [.int (nI n1)]) (by rw [hn1]; rfl) ?_
  refine va_newa (atype := .long) (ty := .long) (a0 := (n1, .inr (.inl (fun _ => 0)))) (N' := n1) hx hb (hT _ m_97) rfl hK hP hD hS hA (fun _ => rfl) (nI_pos (show n1 < 2 ^ 31 by omega)) (nI_clamp (show n1 < 2 ^ 31 by omega)) (by show _ * 8 ≤ 536870912; omega) (Nat.le_of_ble_eq_true rfl) (by show _ ≤ 7293000; omega) d_LW_law_59 (fun q cA H hK2 hP hD hS => ?_)
  have hc9 : cJ = cA := va_caL hK2 (i := 1) (j := 2) rfl rfl
  subst hc9
  subst hn1
  clear hK2
  have hP : va_P (dC, dI) kCl (lw_w cI cJ x (u1 0) (fun k => u1 (2 * k + 1)) (fun k => u1 (2 * k + 2)) L S C ((scell n xs 3).toInt64) cs0 (ado y u2) (0, 0, 0, 0, (fun _ => 0), mz_v L, mz_o) q (fun _ => 0)) H := hP
  have hD : va_D A (lw_w cI cJ x (u1 0) (fun k => u1 (2 * k + 1)) (fun k => u1 (2 * k + 2)) L S C ((scell n xs 3).toInt64) cs0 (ado y u2) (0, 0, 0, 0, (fun _ => 0), mz_v L, mz_o) q (fun _ => 0)) := hD
  refine W.widen (k := 57 + 2 * 0) (n := 11694 + 12 * 0) (by omega) (by omega) ?_
  refine lv_astore_n (lv' := [(3, .ref q), (2, .ref y), (1, .ref x), (0, .ref b)]) hx hb d_LW_law_61 rfl hl (by decide) rfl (fun ls hl => ?_)
  refine lv_iconst (v := 4) hx hb d_LW_law_62 (by decide) ?_
  refine W.eq (g2 := F0 m 63 ls [.int (nI (4 + 6 * 0))]) rfl ?_
  refine lv_istore (lv' := [(4, .int (nI (4 + 6 * 0))), (3, .ref q), (2, .ref (ado y u2 0)), (1, .ref x), (0, .ref b)]) hx hb d_LW_law_63 hl (by decide) rfl (fun ls hl => ?_)
  have hRI : RI L S C cs0 (0, 0, 0, 0, (fun _ => 0), mz_v L, mz_o) := by
    rw [hcs0]
    exact RI_0 ok (fun i hi => (show cp_ 512 (fun _ => (0 : Int32)) (fun _ => -1) i = -1 from cp_lt hi)) rfl rfl (fun i hi => rfl) (fun i hi => (show cp_ 16 (fun _ => (0 : Int32)) (fun m => nI (m % 2 ^ mL L 1)) i = nI (i % 2 ^ mL L 1) from cp_lt hi))
  exact law_loop hn9 C0 hl9 hA hbA hK xe hN ok ok0 ok1 hA2 (n + 11) 0 cs0 (0, 0, 0, 0, (fun _ => 0), mz_v L, mz_o) (fun _ => 0) ls H locs (by omega) (by omega) hRI (Nat.le_refl _) hP hD hS (lv_sub hl [0, 4, 3, 2, 1] rfl)
