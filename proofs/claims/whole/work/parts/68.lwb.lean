set_option maxHeartbeats 8000000 in
set_option maxRecDepth 100000 in
/-- the law's case 2 -/
theorem law_c2 {p : Program} {e : Env} {s : State} {m : MethodId} {below : List Frame} {meth : Method} {c : Code} {l : Launch} {b n : Nat} {xs : Nat → Int32} (hn9 : n ≤ 3076) (C0 : lw_At p s m meth c b n xs) (hl9 : l.stackTraces = false) {A : Nat → Prop} (hA : ∀ q, s.heap.size ≤ q → A q) (hbA : ¬ A b) {dC : Nat → ClassId} {dI : Nat → Nat → Nat} {cI cJ : ClassId} (hK : va_K (dC, dI) kCl [(cI, .int), (cJ, .long)] s) (xe : xE A s s.heap) (hN : xNc s) {x ml q : Nat} {a0 a1 ad : Nat → Nat} {L S C : Nat} {key : Int64} (ok : mk_ok L S C) (ok0 : tr_ok L S C 64) (ok1 : tr_ok (mL L 1) S C 16) {k : Nat} (hk : 4 + 6 * k + 6 ≤ n) {z : Cs} {u : Mz} {f : Nat → Int64} {ls : Array Slot} {H : Heap} {locs : List Loc} (hRI : RI L S C z u) (htd : u.2.2.2.1 ≤ k) (hP : va_P (dC, dI) kCl (lw_w cI cJ x ml a0 a1 L S C key z ad u q f) H) (hD : va_D A (lw_w cI cJ x ml a0 a1 L S C key z ad u q f)) (hS : va_S A s.heap H locs) (hl : lv_has ls 8 [(4, .int (nI (4 + 6 * k))), (0, .ref b), (1, .ref x), (2, .ref (ad 0)), (3, .ref q)]) (kont : ∀ (z' : Cs) (u' : Mz) (f' : Nat → Int64) (ls : Array Slot) (H : Heap) (locs : List Loc), RI L S C z' u' → u'.2.2.2.1 ≤ k + 1 → va_P (dC, dI) kCl (lw_w cI cJ x ml a0 a1 L S C key z' ad u' q f') H → va_D A (lw_w cI cJ x ml a0 a1 L S C key z' ad u' q f') → va_S A s.heap H locs → lv_has ls 8 [(4, .int (nI (4 + 6 * k))), (0, .ref b), (1, .ref x), (2, .ref (ad 0)), (3, .ref q)] → W p l e room_1 s m #[Value.ref b] below meth c H locs (57 + 2 * (k + 1)) (11694 + 12 * (k + 1)) (lw_Z below #[Value.ref b] s) (F0 m 677 ls [])) : W p l e room_1 s m #[Value.ref b] below meth c H locs (57 + 2 * k) (11694 + 12 * k) (lw_Z below #[Value.ref b] s) (F0 m 326 ls []) := by
  obtain ⟨hx, hb, hr, hml, hown, hts, hX, hbl, hlocks, hgv⟩ := id C0
  have hown : s.vm.findClass "CoinTreeLaw" = some m.cls := hown
  have hT : ∀ w ∈ bw, w.before #[Value.ref b] s = true := fun w h => hts w (List.mem_filter.mp h).1
  obtain ⟨th, most, asked, td, tr, v, o⟩ := u
  have htd : td ≤ k := htd
  obtain ⟨hz0, hz1, hml9, hlf9, et0, et1⟩ := ask_pre ok hRI
  have htd6 : td < 600 := by omega
  have ht0 : (ts_trail (cs_t0 z)).2 < 600 := by rw [et0]; exact htd6
  have ht1 : (ts_trail (cs_t1 z)).2 < 600 := by rw [et1]; exact htd6
  refine lv_aload_n hx hb d_LW_law_326 rfl (lv_at hl 2 rfl) ?_
  refine lv_aload_n hx hb d_LW_law_327 rfl (lv_at hl 1 rfl) ?_
  refine lv_iload hx hb d_LW_law_328 (lv_at hl 0 rfl) ?_
  refine lv_iconst (v := 1) hx hb d_LW_law_330 (by decide) ?_
  refine lv_iadd hx hb d_LW_law_331 ?_
  refine W.eq (g2 := F0 m 332 ls [.int (nI ((4 + 6 * k) + 1)), .ref b, .ref x]) (congrArg (fun q9 : Int32 => F0 m 332 ls (.int q9 :: .ref b :: .ref x :: [])) (nI_add (4 + 6 * k) 1)) ?_
  refine va_sld hx hb hX hbl hbA hS (vp_in_nI (n := ((4 + 6 * k) + 1)) (by omega) (by omega)) d_LW_law_332 ?_
  refine W.eq (g2 := F0 m 333 ls [.int (xs ((4 + 6 * k) + 1)), .ref x]) (by rw [nI_clamp (n := ((4 + 6 * k) + 1)) (by omega)]) ?_
  refine lv_aload_n hx hb d_LW_law_333 rfl (lv_at hl 1 rfl) ?_
  refine lv_iload hx hb d_LW_law_334 (lv_at hl 0 rfl) ?_
  refine lv_iconst (v := 2) hx hb d_LW_law_336 (by decide) ?_
  refine lv_iadd hx hb d_LW_law_337 ?_
  refine W.eq (g2 := F0 m 338 ls [.int (nI ((4 + 6 * k) + 2)), .ref b, .int (xs ((4 + 6 * k) + 1)), .ref x]) (congrArg (fun q9 : Int32 => F0 m 338 ls (.int q9 :: .ref b :: .int (xs ((4 + 6 * k) + 1)) :: .ref x :: [])) (nI_add (4 + 6 * k) 2)) ?_
  refine va_sld hx hb hX hbl hbA hS (vp_in_nI (n := ((4 + 6 * k) + 2)) (by omega) (by omega)) d_LW_law_338 ?_
  refine W.eq (g2 := F0 m 339 ls [.int (xs ((4 + 6 * k) + 2)), .int (xs ((4 + 6 * k) + 1)), .ref x]) (by rw [nI_clamp (n := ((4 + 6 * k) + 2)) (by omega)]) ?_
  refine lv_aload_n hx hb d_LW_law_339 rfl (lv_at hl 4 rfl) ?_
  have t1 := lw_pC hP
  have t2 := (lw_eC hD).self (sz := H.size)
  have t3 := va_free (wc := cw_ cI cJ x ml a0 a1 L (mL L 1) S C key z ++ [(q, .inl (cJ, 1, .inr (.inl f)))]) hD hS hA lwC lw_hC
  have t4 := (xe.kept hS.2.1).narrow t3
  have t5 := vx_sure (vx_runSX (R := room_1) (l := l) (e := e) (below := below) (meth := meth) (locs := locs) (cells := 57 + 2 * k) (slots := 11694 + 12 * k) (g := F0 m 340 ls [.ref q, .int (xs ((4 + 6 * k) + 2)), .int (xs ((4 + 6 * k) + 1)), .ref x]) (As := [.ref x, .int (xs ((4 + 6 * k) + 1)), .int (xs ((4 + 6 * k) + 2)), .ref q]) (rest := []) ⟨hx, hb, hml, hown, hT⟩ (c_LW_trace hl9 (A := va_A (cw_ cI cJ x ml a0 a1 L (mL L 1) S C key z ++ [(q, .inl (cJ, 1, .inr (.inl f)))]) H.size) (z := z) (f := f) ok0 ok1 ht0 ht1 (xs ((4 + 6 * k) + 1)) (xs ((4 + 6 * k) + 2))) (vx_cwSW 4 hT (gi_S m_392 m_390 m_391 m_21) rfl rfl rfl p_LW_trace.2 ⟨Nat.le_of_ble_eq_true rfl, Nat.le_of_ble_eq_true rfl⟩) ⟨lP_blind, lP_pre hK t1 t2 t4 (fun q h => Or.inr h) hN⟩ rfl rfl hl.1 rfl (lv_room (Nat.le_of_ble_eq_true rfl)) d_LW_law_340 ⟨by show _ ≤ 601024; omega, by show _ ≤ 7293000; omega⟩)
  refine lj_i (D := (dC, dI)) (cl := kCl) (f := fun (u9 : Cs × (Nat → Int64)) => cw_ cI cJ x ml a0 a1 L (mL L 1) S C key u9.1 ++ [(q, .inl (cJ, 1, .inr (.inl u9.2)))]) (wc := cw_ cI cJ x ml a0 a1 L (mL L 1) S C key z ++ [(q, .inl (cJ, 1, .inr (.inl f)))]) (wr := mzw cI cJ ad L S C key (th, most, asked, td, tr, v, o)) t5 hS hA hP hD lwC lwM lw_hC lw_hM lw_nM lw_dM (fun k9 uc9 H locs hk9 hP hD hS => ?_)
  obtain ⟨z9, f9⟩ := uc9
  have hP := lw_P1 (z := z9) (f := f9) (u := (th, most, asked, td, tr, v, o)) hP
  have hD := lw_D1 (z := z9) (f := f9) (u := (th, most, asked, td, tr, v, o)) hD
  have hP : va_P (dC, dI) kCl (lw_w cI cJ x ml a0 a1 L S C key z9 ad (th, most, asked, td, tr, v, o) q f9) H := hP
  have hD : va_D A (lw_w cI cJ x ml a0 a1 L S C key z9 ad (th, most, asked, td, tr, v, o) q f9) := hD
  refine lv_istore (lv' := [(5, .int k9), (4, .int (nI (4 + 6 * k))), (0, .ref b), (1, .ref x), (2, .ref (ad 0)), (3, .ref q)]) hx hb d_LW_law_343 hl (by decide) rfl (fun ls hl => ?_)
  refine lv_aload_n hx hb d_LW_law_345 rfl (lv_at hl 4 rfl) ?_
  refine lv_aload_n hx hb d_LW_law_346 rfl (lv_at hl 2 rfl) ?_
  refine lv_iload hx hb d_LW_law_347 (lv_at hl 1 rfl) ?_
  refine lv_iconst (v := 1) hx hb d_LW_law_349 (by decide) ?_
  refine lv_iadd hx hb d_LW_law_350 ?_
  refine W.eq (g2 := F0 m 351 ls [.int (nI ((4 + 6 * k) + 1)), .ref b, .ref (ad 0)]) (congrArg (fun q9 : Int32 => F0 m 351 ls (.int q9 :: .ref b :: .ref (ad 0) :: [])) (nI_add (4 + 6 * k) 1)) ?_
  refine va_sld hx hb hX hbl hbA hS (vp_in_nI (n := ((4 + 6 * k) + 1)) (by omega) (by omega)) d_LW_law_351 ?_
  refine W.eq (g2 := F0 m 352 ls [.int (xs ((4 + 6 * k) + 1)), .ref (ad 0)]) (by rw [nI_clamp (n := ((4 + 6 * k) + 1)) (by omega)]) ?_
  refine lv_aload_n hx hb d_LW_law_352 rfl (lv_at hl 2 rfl) ?_
  refine lv_iload hx hb d_LW_law_353 (lv_at hl 1 rfl) ?_
  refine lv_iconst (v := 2) hx hb d_LW_law_355 (by decide) ?_
  refine lv_iadd hx hb d_LW_law_356 ?_
  refine W.eq (g2 := F0 m 357 ls [.int (nI ((4 + 6 * k) + 2)), .ref b, .int (xs ((4 + 6 * k) + 1)), .ref (ad 0)]) (congrArg (fun q9 : Int32 => F0 m 357 ls (.int q9 :: .ref b :: .int (xs ((4 + 6 * k) + 1)) :: .ref (ad 0) :: [])) (nI_add (4 + 6 * k) 2)) ?_
  refine va_sld hx hb hX hbl hbA hS (vp_in_nI (n := ((4 + 6 * k) + 2)) (by omega) (by omega)) d_LW_law_357 ?_
  refine W.eq (g2 := F0 m 358 ls [.int (xs ((4 + 6 * k) + 2)), .int (xs ((4 + 6 * k) + 1)), .ref (ad 0)]) (by rw [nI_clamp (n := ((4 + 6 * k) + 2)) (by omega)]) ?_
  have t1 := lw_pM hP
  have t2 := (lw_eM hD).self (sz := H.size)
  have t5 := va_runV (R := room_1) (p := p) (s := s) (l := l) (e := e) (below := below) (meth := meth) (c := c) (H := H) (locs := locs) (cells := 57 + 2 * k + 2) (slots := 11694 + 12 * k + 12) (g := F0 m 358 ls [.int (xs ((4 + 6 * k) + 2)), .int (xs ((4 + 6 * k) + 1)), .ref (ad 0)]) (As := [.int (xs ((4 + 6 * k) + 1)), .int (xs ((4 + 6 * k) + 2))]) (rest := []) ⟨hx, hb, hml, hown, hT⟩ (c_CM_trace (A := va_A (mzw cI cJ ad L S C key (th, most, asked, td, tr, v, o)) H.size) ok (by omega) (xs ((4 + 6 * k) + 1)) (xs ((4 + 6 * k) + 2))) (cwV 2 hT (gi_V m_610 m_607 m_608 m_609 m_27) rfl rfl rfl p_CM_trace ⟨Nat.le_of_ble_eq_true rfl, Nat.le_of_ble_eq_true rfl⟩) ⟨mP_blind, va_recv hK hP (ci := 4) (q0 := 36) rfl rfl, mP_pre hK t1 t2⟩ rfl rfl hl.1 rfl (lv_room (Nat.le_of_ble_eq_true rfl)) d_LW_law_358 ⟨by show _ ≤ 601024; omega, by show _ ≤ 7293000; omega⟩
  refine lj_i (D := (dC, dI)) (cl := kCl) (f := fun (u9 : Mz) => mzw cI cJ ad L S C key u9) (wc := mzw cI cJ ad L S C key (th, most, asked, td, tr, v, o)) (wr := cw_ cI cJ x ml a0 a1 L (mL L 1) S C key z9 ++ [(q, .inl (cJ, 1, .inr (.inl f9)))]) t5 hS hA hP hD lwM lwC lw_hM lw_hC lw_nC lw_dC (fun r9 um9 H locs hm9 hP hD hS => ?_)
  have hP := lw_P2 (u := um9) hP
  have hD := lw_D2 (u := um9) hD
  obtain ⟨e9, ev9, hR9, ht9⟩ := (show AG L S C td k9 f9 r9.toInt64 z9 um9 from Exists.elim hm9 (fun th' hm => ag_x (u := (z9, f9)) (f := f) hRI hk9 hm.2 ((ob_trace hRI (by omega) hm.1).imp id (fun h9 => ⟨h9.1, h9.2.1, congrArg Int32.toInt64 h9.2.2⟩))))
  obtain ⟨th9, most9, asked9, td9, tr9, v9, o9⟩ := um9
  have e9 : th9 = k9 := e9
  have hP : va_P (dC, dI) kCl (lw_w cI cJ x ml a0 a1 L S C key z9 ad (th9, most9, asked9, td9, tr9, v9, o9) q f9) H := hP
  have hD : va_D A (lw_w cI cJ x ml a0 a1 L S C key z9 ad (th9, most9, asked9, td9, tr9, v9, o9) q f9) := hD
  refine lv_istore (lv' := [(6, .int r9), (5, .int k9), (4, .int (nI (4 + 6 * k))), (0, .ref b), (1, .ref x), (2, .ref (ad 0)), (3, .ref q)]) hx hb d_LW_law_361 hl (by decide) rfl (fun ls hl => ?_)
  refine lv_aload_n hx hb d_LW_law_363 rfl (lv_at hl 5 rfl) ?_
  refine zc_i (va_runV (As := []) (rest := []) ⟨hx, hb, hml, hown, hT⟩ (c_CM_thrown (H := H) ok (show va_P (dC, dI) kCl (mw_ cI cJ ad L S C key th9 most9 asked9 td9 tr9 v9 o9) H from lw_pM hP)) (cwV 0 hT (gi_V m_556 m_553 m_554 m_555 m_27) rfl rfl rfl p_CM_thrown ⟨Nat.le_of_ble_eq_true rfl, Nat.le_of_ble_eq_true rfl⟩) ⟨zP_blind, va_recv hK hP (ci := 4) (q0 := 36) rfl rfl, zP_pre hK⟩ rfl rfl hl.1 rfl (lv_room (Nat.le_of_ble_eq_true rfl)) d_LW_law_364 ⟨by show _ ≤ 601024; omega, by show _ ≤ 7293000; omega⟩) hS (fun locs hS => ?_)
  refine lv_iload hx hb d_LW_law_367 (lv_at hl 1 rfl) ?_
  refine lv_icmp_eq (tgt := 374) hx hb d_LW_law_369 (by decide) (fun c_1 => ?_) (fun c_1 => ?_)
  · refine lv_iload hx hb d_LW_law_374 (lv_at hl 1 rfl) ?_
    refine lv_if_ne (tgt := 391) hx hb d_LW_law_376 (by decide) (fun c_2 => ?_) (fun c_2 => ?_)
    · refine lv_goto (tgt := 677) hx hb d_LW_law_391 (by decide) ?_
      refine W.widen (k := 57 + 2 * (k + 1)) (n := 11694 + 12 * (k + 1)) (by omega) (by omega) ?_
      exact kont z9 (th9, most9, asked9, td9, tr9, v9, o9) f9 ls H locs hR9 (Nat.le_trans ht9 (by omega)) hP hD hS (lv_sub hl [2, 3, 4, 5, 6] rfl)
    · have hk0 : k9 = 0 := c_2
      refine lv_aload_n hx hb d_LW_law_379 rfl (lv_at hl 6 rfl) ?_
      refine lv_iconst (v := 0) hx hb d_LW_law_380 (by decide) ?_
      refine va_lald hx hb hK hP 56 1 rfl rfl (vp_in_nI (n := 0) (by decide) (by decide)) d_LW_law_381 ?_
      refine W.eq (g2 := F0 m 382 ls [.long (f9 0)]) rfl ?_
      refine lv_iload hx hb d_LW_law_382 (lv_at hl 0 rfl) ?_
      refine lv_i2l (v := r9.toInt64) hx hb d_LW_law_384 rfl ?_
      refine W.lcmp hx hb d_LW_law_385 ?_
      refine lv_if_eq (tgt := 391) hx hb d_LW_law_386 (by decide) (fun c_3 => ?_) (fun c_3 => ?_)
      · refine lv_goto (tgt := 677) hx hb d_LW_law_391 (by decide) ?_
        refine W.widen (k := 57 + 2 * (k + 1)) (n := 11694 + 12 * (k + 1)) (by omega) (by omega) ?_
        exact kont z9 (th9, most9, asked9, td9, tr9, v9, o9) f9 ls H locs hR9 (Nat.le_trans ht9 (by omega)) hP hD hS (lv_sub hl [2, 3, 4, 5, 6] rfl)
      · exact absurd ((lg_cmp_eq _ _).mpr (ev9 hk0)) c_3
  · exact absurd e9 c_1

set_option maxHeartbeats 8000000 in
set_option maxRecDepth 100000 in
/-- the law's case 3 -/
theorem law_c3 {p : Program} {e : Env} {s : State} {m : MethodId} {below : List Frame} {meth : Method} {c : Code} {l : Launch} {b n : Nat} {xs : Nat → Int32} (hn9 : n ≤ 3076) (C0 : lw_At p s m meth c b n xs) (hl9 : l.stackTraces = false) {A : Nat → Prop} (hA : ∀ q, s.heap.size ≤ q → A q) (hbA : ¬ A b) {dC : Nat → ClassId} {dI : Nat → Nat → Nat} {cI cJ : ClassId} (hK : va_K (dC, dI) kCl [(cI, .int), (cJ, .long)] s) (xe : xE A s s.heap) (hN : xNc s) {x ml q : Nat} {a0 a1 ad : Nat → Nat} {L S C : Nat} {key : Int64} (ok : mk_ok L S C) (ok0 : tr_ok L S C 64) (ok1 : tr_ok (mL L 1) S C 16) {k : Nat} (hk : 4 + 6 * k + 6 ≤ n) {z : Cs} {u : Mz} {f : Nat → Int64} {ls : Array Slot} {H : Heap} {locs : List Loc} (hRI : RI L S C z u) (htd : u.2.2.2.1 ≤ k) (hP : va_P (dC, dI) kCl (lw_w cI cJ x ml a0 a1 L S C key z ad u q f) H) (hD : va_D A (lw_w cI cJ x ml a0 a1 L S C key z ad u q f)) (hS : va_S A s.heap H locs) (hl : lv_has ls 8 [(4, .int (nI (4 + 6 * k))), (0, .ref b), (1, .ref x), (2, .ref (ad 0)), (3, .ref q)]) (kont : ∀ (z' : Cs) (u' : Mz) (f' : Nat → Int64) (ls : Array Slot) (H : Heap) (locs : List Loc), RI L S C z' u' → u'.2.2.2.1 ≤ k + 1 → va_P (dC, dI) kCl (lw_w cI cJ x ml a0 a1 L S C key z' ad u' q f') H → va_D A (lw_w cI cJ x ml a0 a1 L S C key z' ad u' q f') → va_S A s.heap H locs → lv_has ls 8 [(4, .int (nI (4 + 6 * k))), (0, .ref b), (1, .ref x), (2, .ref (ad 0)), (3, .ref q)] → W p l e room_1 s m #[Value.ref b] below meth c H locs (57 + 2 * (k + 1)) (11694 + 12 * (k + 1)) (lw_Z below #[Value.ref b] s) (F0 m 677 ls [])) : W p l e room_1 s m #[Value.ref b] below meth c H locs (57 + 2 * k) (11694 + 12 * k) (lw_Z below #[Value.ref b] s) (F0 m 394 ls []) := by
  obtain ⟨hx, hb, hr, hml, hown, hts, hX, hbl, hlocks, hgv⟩ := id C0
  have hown : s.vm.findClass "CoinTreeLaw" = some m.cls := hown
  have hT : ∀ w ∈ bw, w.before #[Value.ref b] s = true := fun w h => hts w (List.mem_filter.mp h).1
  obtain ⟨th, most, asked, td, tr, v, o⟩ := u
  have htd : td ≤ k := htd
  obtain ⟨hz0, hz1, hml9, hlf9, et0, et1⟩ := ask_pre ok hRI
  have htd6 : td < 600 := by omega
  have ht0 : (ts_trail (cs_t0 z)).2 < 600 := by rw [et0]; exact htd6
  have ht1 : (ts_trail (cs_t1 z)).2 < 600 := by rw [et1]; exact htd6
  refine lv_aload_n hx hb d_LW_law_394 rfl (lv_at hl 2 rfl) ?_
  refine lv_aload_n hx hb d_LW_law_395 rfl (lv_at hl 1 rfl) ?_
  refine lv_iload hx hb d_LW_law_396 (lv_at hl 0 rfl) ?_
  refine lv_iconst (v := 1) hx hb d_LW_law_398 (by decide) ?_
  refine lv_iadd hx hb d_LW_law_399 ?_
  refine W.eq (g2 := F0 m 400 ls [.int (nI ((4 + 6 * k) + 1)), .ref b, .ref x]) (congrArg (fun q9 : Int32 => F0 m 400 ls (.int q9 :: .ref b :: .ref x :: [])) (nI_add (4 + 6 * k) 1)) ?_
  refine va_sld hx hb hX hbl hbA hS (vp_in_nI (n := ((4 + 6 * k) + 1)) (by omega) (by omega)) d_LW_law_400 ?_
  refine W.eq (g2 := F0 m 401 ls [.int (xs ((4 + 6 * k) + 1)), .ref x]) (by rw [nI_clamp (n := ((4 + 6 * k) + 1)) (by omega)]) ?_
  refine lv_aload_n hx hb d_LW_law_401 rfl (lv_at hl 1 rfl) ?_
  refine lv_iload hx hb d_LW_law_402 (lv_at hl 0 rfl) ?_
  refine lv_iconst (v := 2) hx hb d_LW_law_404 (by decide) ?_
  refine lv_iadd hx hb d_LW_law_405 ?_
  refine W.eq (g2 := F0 m 406 ls [.int (nI ((4 + 6 * k) + 2)), .ref b, .int (xs ((4 + 6 * k) + 1)), .ref x]) (congrArg (fun q9 : Int32 => F0 m 406 ls (.int q9 :: .ref b :: .int (xs ((4 + 6 * k) + 1)) :: .ref x :: [])) (nI_add (4 + 6 * k) 2)) ?_
  refine va_sld hx hb hX hbl hbA hS (vp_in_nI (n := ((4 + 6 * k) + 2)) (by omega) (by omega)) d_LW_law_406 ?_
  refine W.eq (g2 := F0 m 407 ls [.int (xs ((4 + 6 * k) + 2)), .int (xs ((4 + 6 * k) + 1)), .ref x]) (by rw [nI_clamp (n := ((4 + 6 * k) + 2)) (by omega)]) ?_
  refine lv_aload_n hx hb d_LW_law_407 rfl (lv_at hl 1 rfl) ?_
  refine lv_iload hx hb d_LW_law_408 (lv_at hl 0 rfl) ?_
  refine lv_iconst (v := 3) hx hb d_LW_law_410 (by decide) ?_
  refine lv_iadd hx hb d_LW_law_411 ?_
  refine W.eq (g2 := F0 m 412 ls [.int (nI ((4 + 6 * k) + 3)), .ref b, .int (xs ((4 + 6 * k) + 2)), .int (xs ((4 + 6 * k) + 1)), .ref x]) (congrArg (fun q9 : Int32 => F0 m 412 ls (.int q9 :: .ref b :: .int (xs ((4 + 6 * k) + 2)) :: .int (xs ((4 + 6 * k) + 1)) :: .ref x :: [])) (nI_add (4 + 6 * k) 3)) ?_
  refine va_sld hx hb hX hbl hbA hS (vp_in_nI (n := ((4 + 6 * k) + 3)) (by omega) (by omega)) d_LW_law_412 ?_
  refine W.eq (g2 := F0 m 413 ls [.int (xs ((4 + 6 * k) + 3)), .int (xs ((4 + 6 * k) + 2)), .int (xs ((4 + 6 * k) + 1)), .ref x]) (by rw [nI_clamp (n := ((4 + 6 * k) + 3)) (by omega)]) ?_
  refine lv_aload_n hx hb d_LW_law_413 rfl (lv_at hl 1 rfl) ?_
  refine lv_iload hx hb d_LW_law_414 (lv_at hl 0 rfl) ?_
  refine lv_iconst (v := 4) hx hb d_LW_law_416 (by decide) ?_
  refine lv_iadd hx hb d_LW_law_417 ?_
  refine W.eq (g2 := F0 m 418 ls [.int (nI ((4 + 6 * k) + 4)), .ref b, .int (xs ((4 + 6 * k) + 3)), .int (xs ((4 + 6 * k) + 2)), .int (xs ((4 + 6 * k) + 1)), .ref x]) (congrArg (fun q9 : Int32 => F0 m 418 ls (.int q9 :: .ref b :: .int (xs ((4 + 6 * k) + 3)) :: .int (xs ((4 + 6 * k) + 2)) :: .int (xs ((4 + 6 * k) + 1)) :: .ref x :: [])) (nI_add (4 + 6 * k) 4)) ?_
  refine va_sld hx hb hX hbl hbA hS (vp_in_nI (n := ((4 + 6 * k) + 4)) (by omega) (by omega)) d_LW_law_418 ?_
  refine W.eq (g2 := F0 m 419 ls [.int (xs ((4 + 6 * k) + 4)), .int (xs ((4 + 6 * k) + 3)), .int (xs ((4 + 6 * k) + 2)), .int (xs ((4 + 6 * k) + 1)), .ref x]) (by rw [nI_clamp (n := ((4 + 6 * k) + 4)) (by omega)]) ?_
  refine lv_aload_n hx hb d_LW_law_419 rfl (lv_at hl 4 rfl) ?_
  have t1 := lw_pC hP
  have t2 := (lw_eC hD).self (sz := H.size)
  have t3 := va_free (wc := cw_ cI cJ x ml a0 a1 L (mL L 1) S C key z ++ [(q, .inl (cJ, 1, .inr (.inl f)))]) hD hS hA lwC lw_hC
  have t4 := (xe.kept hS.2.1).narrow t3
  have t5 := vx_sure (vx_runSX (R := room_1) (l := l) (e := e) (below := below) (meth := meth) (locs := locs) (cells := 57 + 2 * k) (slots := 11694 + 12 * k) (g := F0 m 420 ls [.ref q, .int (xs ((4 + 6 * k) + 4)), .int (xs ((4 + 6 * k) + 3)), .int (xs ((4 + 6 * k) + 2)), .int (xs ((4 + 6 * k) + 1)), .ref x]) (As := [.ref x, .int (xs ((4 + 6 * k) + 1)), .int (xs ((4 + 6 * k) + 2)), .int (xs ((4 + 6 * k) + 3)), .int (xs ((4 + 6 * k) + 4)), .ref q]) (rest := []) ⟨hx, hb, hml, hown, hT⟩ (c_LW_stored hl9 (A := va_A (cw_ cI cJ x ml a0 a1 L (mL L 1) S C key z ++ [(q, .inl (cJ, 1, .inr (.inl f)))]) H.size) (z := z) (f := f) ok0 ok1 (xs ((4 + 6 * k) + 1)) (xs ((4 + 6 * k) + 2)) (xs ((4 + 6 * k) + 3)) (xs ((4 + 6 * k) + 4))) (vx_cwSW 6 hT (gi_S m_409 m_407 m_408 m_21) rfl rfl rfl p_LW_stored.2 ⟨Nat.le_of_ble_eq_true rfl, Nat.le_of_ble_eq_true rfl⟩) ⟨lP_blind, lP_pre hK t1 t2 t4 (fun q h => Or.inr h) hN⟩ rfl rfl hl.1 rfl (lv_room (Nat.le_of_ble_eq_true rfl)) d_LW_law_420 ⟨by show _ ≤ 601024; omega, by show _ ≤ 7293000; omega⟩)
  refine lj_i (D := (dC, dI)) (cl := kCl) (f := fun (u9 : Cs × (Nat → Int64)) => cw_ cI cJ x ml a0 a1 L (mL L 1) S C key u9.1 ++ [(q, .inl (cJ, 1, .inr (.inl u9.2)))]) (wc := cw_ cI cJ x ml a0 a1 L (mL L 1) S C key z ++ [(q, .inl (cJ, 1, .inr (.inl f)))]) (wr := mzw cI cJ ad L S C key (th, most, asked, td, tr, v, o)) t5 hS hA hP hD lwC lwM lw_hC lw_hM lw_nM lw_dM (fun k9 uc9 H locs hk9 hP hD hS => ?_)
  obtain ⟨z9, f9⟩ := uc9
  have hP := lw_P1 (z := z9) (f := f9) (u := (th, most, asked, td, tr, v, o)) hP
  have hD := lw_D1 (z := z9) (f := f9) (u := (th, most, asked, td, tr, v, o)) hD
  have hP : va_P (dC, dI) kCl (lw_w cI cJ x ml a0 a1 L S C key z9 ad (th, most, asked, td, tr, v, o) q f9) H := hP
  have hD : va_D A (lw_w cI cJ x ml a0 a1 L S C key z9 ad (th, most, asked, td, tr, v, o) q f9) := hD
  refine lv_istore (lv' := [(5, .int k9), (4, .int (nI (4 + 6 * k))), (0, .ref b), (1, .ref x), (2, .ref (ad 0)), (3, .ref q)]) hx hb d_LW_law_423 hl (by decide) rfl (fun ls hl => ?_)
  refine lv_aload_n hx hb d_LW_law_425 rfl (lv_at hl 4 rfl) ?_
  refine lv_aload_n hx hb d_LW_law_426 rfl (lv_at hl 2 rfl) ?_
  refine lv_iload hx hb d_LW_law_427 (lv_at hl 1 rfl) ?_
  refine lv_iconst (v := 1) hx hb d_LW_law_429 (by decide) ?_
  refine lv_iadd hx hb d_LW_law_430 ?_
  refine W.eq (g2 := F0 m 431 ls [.int (nI ((4 + 6 * k) + 1)), .ref b, .ref (ad 0)]) (congrArg (fun q9 : Int32 => F0 m 431 ls (.int q9 :: .ref b :: .ref (ad 0) :: [])) (nI_add (4 + 6 * k) 1)) ?_
  refine va_sld hx hb hX hbl hbA hS (vp_in_nI (n := ((4 + 6 * k) + 1)) (by omega) (by omega)) d_LW_law_431 ?_
  refine W.eq (g2 := F0 m 432 ls [.int (xs ((4 + 6 * k) + 1)), .ref (ad 0)]) (by rw [nI_clamp (n := ((4 + 6 * k) + 1)) (by omega)]) ?_
  refine lv_aload_n hx hb d_LW_law_432 rfl (lv_at hl 2 rfl) ?_
  refine lv_iload hx hb d_LW_law_433 (lv_at hl 1 rfl) ?_
  refine lv_iconst (v := 2) hx hb d_LW_law_435 (by decide) ?_
  refine lv_iadd hx hb d_LW_law_436 ?_
  refine W.eq (g2 := F0 m 437 ls [.int (nI ((4 + 6 * k) + 2)), .ref b, .int (xs ((4 + 6 * k) + 1)), .ref (ad 0)]) (congrArg (fun q9 : Int32 => F0 m 437 ls (.int q9 :: .ref b :: .int (xs ((4 + 6 * k) + 1)) :: .ref (ad 0) :: [])) (nI_add (4 + 6 * k) 2)) ?_
  refine va_sld hx hb hX hbl hbA hS (vp_in_nI (n := ((4 + 6 * k) + 2)) (by omega) (by omega)) d_LW_law_437 ?_
  refine W.eq (g2 := F0 m 438 ls [.int (xs ((4 + 6 * k) + 2)), .int (xs ((4 + 6 * k) + 1)), .ref (ad 0)]) (by rw [nI_clamp (n := ((4 + 6 * k) + 2)) (by omega)]) ?_
  refine lv_aload_n hx hb d_LW_law_438 rfl (lv_at hl 2 rfl) ?_
  refine lv_iload hx hb d_LW_law_439 (lv_at hl 1 rfl) ?_
  refine lv_iconst (v := 3) hx hb d_LW_law_441 (by decide) ?_
  refine lv_iadd hx hb d_LW_law_442 ?_
  refine W.eq (g2 := F0 m 443 ls [.int (nI ((4 + 6 * k) + 3)), .ref b, .int (xs ((4 + 6 * k) + 2)), .int (xs ((4 + 6 * k) + 1)), .ref (ad 0)]) (congrArg (fun q9 : Int32 => F0 m 443 ls (.int q9 :: .ref b :: .int (xs ((4 + 6 * k) + 2)) :: .int (xs ((4 + 6 * k) + 1)) :: .ref (ad 0) :: [])) (nI_add (4 + 6 * k) 3)) ?_
  refine va_sld hx hb hX hbl hbA hS (vp_in_nI (n := ((4 + 6 * k) + 3)) (by omega) (by omega)) d_LW_law_443 ?_
  refine W.eq (g2 := F0 m 444 ls [.int (xs ((4 + 6 * k) + 3)), .int (xs ((4 + 6 * k) + 2)), .int (xs ((4 + 6 * k) + 1)), .ref (ad 0)]) (by rw [nI_clamp (n := ((4 + 6 * k) + 3)) (by omega)]) ?_
  refine lv_aload_n hx hb d_LW_law_444 rfl (lv_at hl 2 rfl) ?_
  refine lv_iload hx hb d_LW_law_445 (lv_at hl 1 rfl) ?_
  refine lv_iconst (v := 4) hx hb d_LW_law_447 (by decide) ?_
  refine lv_iadd hx hb d_LW_law_448 ?_
  refine W.eq (g2 := F0 m 449 ls [.int (nI ((4 + 6 * k) + 4)), .ref b, .int (xs ((4 + 6 * k) + 3)), .int (xs ((4 + 6 * k) + 2)), .int (xs ((4 + 6 * k) + 1)), .ref (ad 0)]) (congrArg (fun q9 : Int32 => F0 m 449 ls (.int q9 :: .ref b :: .int (xs ((4 + 6 * k) + 3)) :: .int (xs ((4 + 6 * k) + 2)) :: .int (xs ((4 + 6 * k) + 1)) :: .ref (ad 0) :: [])) (nI_add (4 + 6 * k) 4)) ?_
  refine va_sld hx hb hX hbl hbA hS (vp_in_nI (n := ((4 + 6 * k) + 4)) (by omega) (by omega)) d_LW_law_449 ?_
  refine W.eq (g2 := F0 m 450 ls [.int (xs ((4 + 6 * k) + 4)), .int (xs ((4 + 6 * k) + 3)), .int (xs ((4 + 6 * k) + 2)), .int (xs ((4 + 6 * k) + 1)), .ref (ad 0)]) (by rw [nI_clamp (n := ((4 + 6 * k) + 4)) (by omega)]) ?_
  have t1 := lw_pM hP
  have t2 := (lw_eM hD).self (sz := H.size)
  have t5 := va_runV (R := room_1) (p := p) (s := s) (l := l) (e := e) (below := below) (meth := meth) (c := c) (H := H) (locs := locs) (cells := 57 + 2 * k + 2) (slots := 11694 + 12 * k + 12) (g := F0 m 450 ls [.int (xs ((4 + 6 * k) + 4)), .int (xs ((4 + 6 * k) + 3)), .int (xs ((4 + 6 * k) + 2)), .int (xs ((4 + 6 * k) + 1)), .ref (ad 0)]) (As := [.int (xs ((4 + 6 * k) + 1)), .int (xs ((4 + 6 * k) + 2)), .int (xs ((4 + 6 * k) + 3)), .int (xs ((4 + 6 * k) + 4))]) (rest := []) ⟨hx, hb, hml, hown, hT⟩ (c_CM_stored (A := va_A (mzw cI cJ ad L S C key (th, most, asked, td, tr, v, o)) H.size) ok (xs ((4 + 6 * k) + 1)) (xs ((4 + 6 * k) + 2)) (xs ((4 + 6 * k) + 3)) (xs ((4 + 6 * k) + 4))) (cwV 4 hT (gi_V m_617 m_614 m_615 m_616 m_27) rfl rfl rfl p_CM_stored ⟨Nat.le_of_ble_eq_true rfl, Nat.le_of_ble_eq_true rfl⟩) ⟨mP_blind, va_recv hK hP (ci := 4) (q0 := 36) rfl rfl, mP_pre hK t1 t2⟩ rfl rfl hl.1 rfl (lv_room (Nat.le_of_ble_eq_true rfl)) d_LW_law_450 ⟨by show _ ≤ 601024; omega, by show _ ≤ 7293000; omega⟩
  refine lj_l (D := (dC, dI)) (cl := kCl) (f := fun (u9 : Mz) => mzw cI cJ ad L S C key u9) (wc := mzw cI cJ ad L S C key (th, most, asked, td, tr, v, o)) (wr := cw_ cI cJ x ml a0 a1 L (mL L 1) S C key z9 ++ [(q, .inl (cJ, 1, .inr (.inl f9)))]) t5 hS hA hP hD lwM lwC lw_hM lw_hC lw_nC lw_dC (fun r9 um9 H locs hm9 hP hD hS => ?_)
  have hP := lw_P2 (u := um9) hP
  have hD := lw_D2 (u := um9) hD
  obtain ⟨e9, ev9, hR9, ht9⟩ := (show AG L S C td k9 f9 r9 z9 um9 from Exists.elim hm9 (fun th' hm => ag_x (u := (z9, f9)) (f := f) hRI hk9 hm.2 (ob_stored ok hRI hm.1)))
  obtain ⟨th9, most9, asked9, td9, tr9, v9, o9⟩ := um9
  have e9 : th9 = k9 := e9
  have hP : va_P (dC, dI) kCl (lw_w cI cJ x ml a0 a1 L S C key z9 ad (th9, most9, asked9, td9, tr9, v9, o9) q f9) H := hP
  have hD : va_D A (lw_w cI cJ x ml a0 a1 L S C key z9 ad (th9, most9, asked9, td9, tr9, v9, o9) q f9) := hD
  refine lv_lstore (lv' := [(6, .long r9), (5, .int k9), (4, .int (nI (4 + 6 * k))), (0, .ref b), (1, .ref x), (2, .ref (ad 0)), (3, .ref q)]) hx hb d_LW_law_453 hl (by decide) rfl (fun ls hl => ?_)
  refine lv_aload_n hx hb d_LW_law_455 rfl (lv_at hl 5 rfl) ?_
  refine zc_i (va_runV (As := []) (rest := []) ⟨hx, hb, hml, hown, hT⟩ (c_CM_thrown (H := H) ok (show va_P (dC, dI) kCl (mw_ cI cJ ad L S C key th9 most9 asked9 td9 tr9 v9 o9) H from lw_pM hP)) (cwV 0 hT (gi_V m_556 m_553 m_554 m_555 m_27) rfl rfl rfl p_CM_thrown ⟨Nat.le_of_ble_eq_true rfl, Nat.le_of_ble_eq_true rfl⟩) ⟨zP_blind, va_recv hK hP (ci := 4) (q0 := 36) rfl rfl, zP_pre hK⟩ rfl rfl hl.1 rfl (lv_room (Nat.le_of_ble_eq_true rfl)) d_LW_law_456 ⟨by show _ ≤ 601024; omega, by show _ ≤ 7293000; omega⟩) hS (fun locs hS => ?_)
  refine lv_iload hx hb d_LW_law_459 (lv_at hl 1 rfl) ?_
  refine lv_icmp_eq (tgt := 466) hx hb d_LW_law_461 (by decide) (fun c_1 => ?_) (fun c_1 => ?_)
  · refine lv_iload hx hb d_LW_law_466 (lv_at hl 1 rfl) ?_
    refine lv_if_ne (tgt := 482) hx hb d_LW_law_468 (by decide) (fun c_2 => ?_) (fun c_2 => ?_)
    · refine lv_goto (tgt := 677) hx hb d_LW_law_482 (by decide) ?_
      refine W.widen (k := 57 + 2 * (k + 1)) (n := 11694 + 12 * (k + 1)) (by omega) (by omega) ?_
      exact kont z9 (th9, most9, asked9, td9, tr9, v9, o9) f9 ls H locs hR9 (Nat.le_trans ht9 (by omega)) hP hD hS (lv_sub hl [2, 3, 4, 5, 6] rfl)
    · have hk0 : k9 = 0 := c_2
      refine lv_aload_n hx hb d_LW_law_471 rfl (lv_at hl 6 rfl) ?_
      refine lv_iconst (v := 0) hx hb d_LW_law_472 (by decide) ?_
      refine va_lald hx hb hK hP 56 1 rfl rfl (vp_in_nI (n := 0) (by decide) (by decide)) d_LW_law_473 ?_
      refine W.eq (g2 := F0 m 474 ls [.long (f9 0)]) rfl ?_
      refine lv_lload hx hb d_LW_law_474 (lv_at hl 0 rfl) ?_
      refine W.lcmp hx hb d_LW_law_476 ?_
      refine lv_if_eq (tgt := 482) hx hb d_LW_law_477 (by decide) (fun c_3 => ?_) (fun c_3 => ?_)
      · refine lv_goto (tgt := 677) hx hb d_LW_law_482 (by decide) ?_
        refine W.widen (k := 57 + 2 * (k + 1)) (n := 11694 + 12 * (k + 1)) (by omega) (by omega) ?_
        exact kont z9 (th9, most9, asked9, td9, tr9, v9, o9) f9 ls H locs hR9 (Nat.le_trans ht9 (by omega)) hP hD hS (lv_sub hl [2, 3, 4, 5, 6] rfl)
      · exact absurd ((lg_cmp_eq _ _).mpr (ev9 hk0)) c_3
  · exact absurd e9 c_1
