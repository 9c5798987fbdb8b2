set_option maxHeartbeats 8000000 in
set_option maxRecDepth 100000 in
/-- the law's case 4 -/
theorem law_c4 {p : Program} {e : Env} {s : State} {m : MethodId} {below : List Frame} {meth : Method} {c : Code} {l : Launch} {b n : Nat} {xs : Nat → Int32} (hn9 : n ≤ 3076) (C0 : lw_At p s m meth c b n xs) (hl9 : l.stackTraces = false) {A : Nat → Prop} (hA : ∀ q, s.heap.size ≤ q → A q) (hbA : ¬ A b) {dC : Nat → ClassId} {dI : Nat → Nat → Nat} {cI cJ : ClassId} (hK : va_K (dC, dI) kCl [(cI, .int), (cJ, .long)] s) (xe : xE A s s.heap) (hN : xNc s) {x ml q : Nat} {a0 a1 ad : Nat → Nat} {L S C : Nat} {key : Int64} (ok : mk_ok L S C) (ok0 : tr_ok L S C 64) (ok1 : tr_ok (mL L 1) S C 16) {k : Nat} (hk : 4 + 6 * k + 6 ≤ n) {z : Cs} {u : Mz} {f : Nat → Int64} {ls : Array Slot} {H : Heap} {locs : List Loc} (hRI : RI L S C z u) (htd : u.2.2.2.1 ≤ k) (hP : va_P (dC, dI) kCl (lw_w cI cJ x ml a0 a1 L S C key z ad u q f) H) (hD : va_D A (lw_w cI cJ x ml a0 a1 L S C key z ad u q f)) (hS : va_S A s.heap H locs) (hl : lv_has ls 8 [(4, .int (nI (4 + 6 * k))), (0, .ref b), (1, .ref x), (2, .ref (ad 0)), (3, .ref q)]) (kont : ∀ (z' : Cs) (u' : Mz) (f' : Nat → Int64) (ls : Array Slot) (H : Heap) (locs : List Loc), RI L S C z' u' → u'.2.2.2.1 ≤ k + 1 → va_P (dC, dI) kCl (lw_w cI cJ x ml a0 a1 L S C key z' ad u' q f') H → va_D A (lw_w cI cJ x ml a0 a1 L S C key z' ad u' q f') → va_S A s.heap H locs → lv_has ls 8 [(4, .int (nI (4 + 6 * k))), (0, .ref b), (1, .ref x), (2, .ref (ad 0)), (3, .ref q)] → W p l e room_1 s m #[Value.ref b] below meth c H locs (57 + 2 * (k + 1)) (11694 + 12 * (k + 1)) (lw_Z below #[Value.ref b] s) (F0 m 677 ls [])) : W p l e room_1 s m #[Value.ref b] below meth c H locs (57 + 2 * k) (11694 + 12 * k) (lw_Z below #[Value.ref b] s) (F0 m 485 ls []) := by
  obtain ⟨hx, hb, hr, hml, hown, hts, hX, hbl, hlocks, hgv⟩ := id C0
  have hown : s.vm.findClass "CoinTreeLaw" = some m.cls := hown
  have hT : ∀ w ∈ bw, w.before #[Value.ref b] s = true := fun w h => hts w (List.mem_filter.mp h).1
  obtain ⟨th, most, asked, td, tr, v, o⟩ := u
  have htd : td ≤ k := htd
  obtain ⟨hz0, hz1, hml9, hlf9, et0, et1⟩ := ask_pre ok hRI
  have htd6 : td < 600 := by omega
  have ht0 : (ts_trail (cs_t0 z)).2 < 600 := by rw [et0]; exact htd6
  have ht1 : (ts_trail (cs_t1 z)).2 < 600 := by rw [et1]; exact htd6
  refine lv_aload_n hx hb d_LW_law_485 rfl (lv_at hl 2 rfl) ?_
  refine lv_aload_n hx hb d_LW_law_486 rfl (lv_at hl 1 rfl) ?_
  refine lv_iload hx hb d_LW_law_487 (lv_at hl 0 rfl) ?_
  refine lv_iconst (v := 1) hx hb d_LW_law_489 (by decide) ?_
  refine lv_iadd hx hb d_LW_law_490 ?_
  refine W.eq (g2 := F0 m 491 ls [.int (nI ((4 + 6 * k) + 1)), .ref b, .ref x]) (congrArg (fun q9 : Int32 => F0 m 491 ls (.int q9 :: .ref b :: .ref x :: [])) (nI_add (4 + 6 * k) 1)) ?_
  refine va_sld hx hb hX hbl hbA hS (vp_in_nI (n := ((4 + 6 * k) + 1)) (by omega) (by omega)) d_LW_law_491 ?_
  refine W.eq (g2 := F0 m 492 ls [.int (xs ((4 + 6 * k) + 1)), .ref x]) (by rw [nI_clamp (n := ((4 + 6 * k) + 1)) (by omega)]) ?_
  refine lv_aload_n hx hb d_LW_law_492 rfl (lv_at hl 1 rfl) ?_
  refine lv_iload hx hb d_LW_law_493 (lv_at hl 0 rfl) ?_
  refine lv_iconst (v := 2) hx hb d_LW_law_495 (by decide) ?_
  refine lv_iadd hx hb d_LW_law_496 ?_
  refine W.eq (g2 := F0 m 497 ls [.int (nI ((4 + 6 * k) + 2)), .ref b, .int (xs ((4 + 6 * k) + 1)), .ref x]) (congrArg (fun q9 : Int32 => F0 m 497 ls (.int q9 :: .ref b :: .int (xs ((4 + 6 * k) + 1)) :: .ref x :: [])) (nI_add (4 + 6 * k) 2)) ?_
  refine va_sld hx hb hX hbl hbA hS (vp_in_nI (n := ((4 + 6 * k) + 2)) (by omega) (by omega)) d_LW_law_497 ?_
  refine W.eq (g2 := F0 m 498 ls [.int (xs ((4 + 6 * k) + 2)), .int (xs ((4 + 6 * k) + 1)), .ref x]) (by rw [nI_clamp (n := ((4 + 6 * k) + 2)) (by omega)]) ?_
  refine lv_aload_n hx hb d_LW_law_498 rfl (lv_at hl 4 rfl) ?_
  have t1 := lw_pC hP
  have t2 := (lw_eC hD).self (sz := H.size)
  have t3 := va_free (wc := cw_ cI cJ x ml a0 a1 L (mL L 1) S C key z ++ [(q, .inl (cJ, 1, .inr (.inl f)))]) hD hS hA lwC lw_hC
  have t4 := (xe.kept hS.2.1).narrow t3
  have t5 := vx_sure (vx_runSX (R := room_1) (l := l) (e := e) (below := below) (meth := meth) (locs := locs) (cells := 57 + 2 * k) (slots := 11694 + 12 * k) (g := F0 m 499 ls [.ref q, .int (xs ((4 + 6 * k) + 2)), .int (xs ((4 + 6 * k) + 1)), .ref x]) (As := [.ref x, .int (xs ((4 + 6 * k) + 1)), .int (xs ((4 + 6 * k) + 2)), .ref q]) (rest := []) ⟨hx, hb, hml, hown, hT⟩ (c_LW_written hl9 (A := va_A (cw_ cI cJ x ml a0 a1 L (mL L 1) S C key z ++ [(q, .inl (cJ, 1, .inr (.inl f)))]) H.size) (z := z) (f := f) ok0 ok1 (xs ((4 + 6 * k) + 1)) (xs ((4 + 6 * k) + 2))) (vx_cwSW 4 hT (gi_S m_435 m_433 m_434 m_21) rfl rfl rfl p_LW_written.2 ⟨Nat.le_of_ble_eq_true rfl, Nat.le_of_ble_eq_true rfl⟩) ⟨lP_blind, lP_pre hK t1 t2 t4 (fun q h => Or.inr h) hN⟩ rfl rfl hl.1 rfl (lv_room (Nat.le_of_ble_eq_true rfl)) d_LW_law_499 ⟨by show _ ≤ 601024; omega, by show _ ≤ 7293000; omega⟩)
  refine lj_i (D := (dC, dI)) (cl := kCl) (f := fun (u9 : Cs × (Nat → Int64)) => cw_ cI cJ x ml a0 a1 L (mL L 1) S C key u9.1 ++ [(q, .inl (cJ, 1, .inr (.inl u9.2)))]) (wc := cw_ cI cJ x ml a0 a1 L (mL L 1) S C key z ++ [(q, .inl (cJ, 1, .inr (.inl f)))]) (wr := mzw cI cJ ad L S C key (th, most, asked, td, tr, v, o)) t5 hS hA hP hD lwC lwM lw_hC lw_hM lw_nM lw_dM (fun k9 uc9 H locs hk9 hP hD hS => ?_)
  obtain ⟨z9, f9⟩ := uc9
  have hP := lw_P1 (z := z9) (f := f9) (u := (th, most, asked, td, tr, v, o)) hP
  have hD := lw_D1 (z := z9) (f := f9) (u := (th, most, asked, td, tr, v, o)) hD
  have hP : va_P (dC, dI) kCl (lw_w cI cJ x ml a0 a1 L S C key z9 ad (th, most, asked, td, tr, v, o) q f9) H := hP
  have hD : va_D A (lw_w cI cJ x ml a0 a1 L S C key z9 ad (th, most, asked, td, tr, v, o) q f9) := hD
  refine lv_istore (lv' := [(5, .int k9), (4, .int (nI (4 + 6 * k))), (0, .ref b), (1, .ref x), (2, .ref (ad 0)), (3, .ref q)]) hx hb d_LW_law_502 hl (by decide) rfl (fun ls hl => ?_)
  refine lv_aload_n hx hb d_LW_law_504 rfl (lv_at hl 4 rfl) ?_
  refine lv_aload_n hx hb d_LW_law_505 rfl (lv_at hl 2 rfl) ?_
  refine lv_iload hx hb d_LW_law_506 (lv_at hl 1 rfl) ?_
  refine lv_iconst (v := 1) hx hb d_LW_law_508 (by decide) ?_
  refine lv_iadd hx hb d_LW_law_509 ?_
  refine W.eq (g2 := F0 m 510 ls [.int (nI ((4 + 6 * k) + 1)), .ref b, .ref (ad 0)]) (congrArg (fun q9 : Int32 => F0 m 510 ls (.int q9 :: .ref b :: .ref (ad 0) :: [])) (nI_add (4 + 6 * k) 1)) ?_
  refine va_sld hx hb hX hbl hbA hS (vp_in_nI (n := ((4 + 6 * k) + 1)) (by omega) (by omega)) d_LW_law_510 ?_
  refine W.eq (g2 := F0 m 511 ls [.int (xs ((4 + 6 * k) + 1)), .ref (ad 0)]) (by rw [nI_clamp (n := ((4 + 6 * k) + 1)) (by omega)]) ?_
  refine lv_aload_n hx hb d_LW_law_511 rfl (lv_at hl 2 rfl) ?_
  refine lv_iload hx hb d_LW_law_512 (lv_at hl 1 rfl) ?_
  refine lv_iconst (v := 2) hx hb d_LW_law_514 (by decide) ?_
  refine lv_iadd hx hb d_LW_law_515 ?_
  refine W.eq (g2 := F0 m 516 ls [.int (nI ((4 + 6 * k) + 2)), .ref b, .int (xs ((4 + 6 * k) + 1)), .ref (ad 0)]) (congrArg (fun q9 : Int32 => F0 m 516 ls (.int q9 :: .ref b :: .int (xs ((4 + 6 * k) + 1)) :: .ref (ad 0) :: [])) (nI_add (4 + 6 * k) 2)) ?_
  refine va_sld hx hb hX hbl hbA hS (vp_in_nI (n := ((4 + 6 * k) + 2)) (by omega) (by omega)) d_LW_law_516 ?_
  refine W.eq (g2 := F0 m 517 ls [.int (xs ((4 + 6 * k) + 2)), .int (xs ((4 + 6 * k) + 1)), .ref (ad 0)]) (by rw [nI_clamp (n := ((4 + 6 * k) + 2)) (by omega)]) ?_
  have t1 := lw_pM hP
  have t2 := (lw_eM hD).self (sz := H.size)
  have t5 := va_runV (R := room_1) (p := p) (s := s) (l := l) (e := e) (below := below) (meth := meth) (c := c) (H := H) (locs := locs) (cells := 57 + 2 * k + 2) (slots := 11694 + 12 * k + 12) (g := F0 m 517 ls [.int (xs ((4 + 6 * k) + 2)), .int (xs ((4 + 6 * k) + 1)), .ref (ad 0)]) (As := [.int (xs ((4 + 6 * k) + 1)), .int (xs ((4 + 6 * k) + 2))]) (rest := []) ⟨hx, hb, hml, hown, hT⟩ (c_CM_written (A := va_A (mzw cI cJ ad L S C key (th, most, asked, td, tr, v, o)) H.size) ok (xs ((4 + 6 * k) + 1)) (xs ((4 + 6 * k) + 2))) (cwV 2 hT (gi_V m_634 m_631 m_632 m_633 m_27) rfl rfl rfl p_CM_written ⟨Nat.le_of_ble_eq_true rfl, Nat.le_of_ble_eq_true rfl⟩) ⟨mP_blind, va_recv hK hP (ci := 4) (q0 := 36) rfl rfl, mP_pre hK t1 t2⟩ rfl rfl hl.1 rfl (lv_room (Nat.le_of_ble_eq_true rfl)) d_LW_law_517 ⟨by show _ ≤ 601024; omega, by show _ ≤ 7293000; omega⟩
  refine lj_i (D := (dC, dI)) (cl := kCl) (f := fun (u9 : Mz) => mzw cI cJ ad L S C key u9) (wc := mzw cI cJ ad L S C key (th, most, asked, td, tr, v, o)) (wr := cw_ cI cJ x ml a0 a1 L (mL L 1) S C key z9 ++ [(q, .inl (cJ, 1, .inr (.inl f9)))]) t5 hS hA hP hD lwM lwC lw_hM lw_hC lw_nC lw_dC (fun r9 um9 H locs hm9 hP hD hS => ?_)
  have hP := lw_P2 (u := um9) hP
  have hD := lw_D2 (u := um9) hD
  obtain ⟨e9, ev9, hR9, ht9⟩ := (show AG L S C td k9 f9 r9.toInt64 z9 um9 from Exists.elim hm9 (fun th' hm => ag_x (u := (z9, f9)) (f := f) hRI hk9 hm.2 ((ob_written ok hRI hm.1).imp id (fun h9 => ⟨h9.1, h9.2.1, congrArg Int32.toInt64 h9.2.2⟩))))
  obtain ⟨th9, most9, asked9, td9, tr9, v9, o9⟩ := um9
  have e9 : th9 = k9 := e9
  have hP : va_P (dC, dI) kCl (lw_w cI cJ x ml a0 a1 L S C key z9 ad (th9, most9, asked9, td9, tr9, v9, o9) q f9) H := hP
  have hD : va_D A (lw_w cI cJ x ml a0 a1 L S C key z9 ad (th9, most9, asked9, td9, tr9, v9, o9) q f9) := hD
  refine lv_istore (lv' := [(6, .int r9), (5, .int k9), (4, .int (nI (4 + 6 * k))), (0, .ref b), (1, .ref x), (2, .ref (ad 0)), (3, .ref q)]) hx hb d_LW_law_520 hl (by decide) rfl (fun ls hl => ?_)
  refine lv_aload_n hx hb d_LW_law_522 rfl (lv_at hl 5 rfl) ?_
  refine zc_i (va_runV (As := []) (rest := []) ⟨hx, hb, hml, hown, hT⟩ (c_CM_thrown (H := H) ok (show va_P (dC, dI) kCl (mw_ cI cJ ad L S C key th9 most9 asked9 td9 tr9 v9 o9) H from lw_pM hP)) (cwV 0 hT (gi_V m_556 m_553 m_554 m_555 m_27) rfl rfl rfl p_CM_thrown ⟨Nat.le_of_ble_eq_true rfl, Nat.le_of_ble_eq_true rfl⟩) ⟨zP_blind, va_recv hK hP (ci := 4) (q0 := 36) rfl rfl, zP_pre hK⟩ rfl rfl hl.1 rfl (lv_room (Nat.le_of_ble_eq_true rfl)) d_LW_law_523 ⟨by show _ ≤ 601024; omega, by show _ ≤ 7293000; omega⟩) hS (fun locs hS => ?_)
  refine lv_iload hx hb d_LW_law_526 (lv_at hl 1 rfl) ?_
  refine lv_icmp_eq (tgt := 533) hx hb d_LW_law_528 (by decide) (fun c_1 => ?_) (fun c_1 => ?_)
  · refine lv_iload hx hb d_LW_law_533 (lv_at hl 1 rfl) ?_
    refine lv_if_ne (tgt := 550) hx hb d_LW_law_535 (by decide) (fun c_2 => ?_) (fun c_2 => ?_)
    · refine lv_goto (tgt := 677) hx hb d_LW_law_550 (by decide) ?_
      refine W.widen (k := 57 + 2 * (k + 1)) (n := 11694 + 12 * (k + 1)) (by omega) (by omega) ?_
      exact kont z9 (th9, most9, asked9, td9, tr9, v9, o9) f9 ls H locs hR9 (Nat.le_trans ht9 (by omega)) hP hD hS (lv_sub hl [2, 3, 4, 5, 6] rfl)
    · have hk0 : k9 = 0 := c_2
      refine lv_aload_n hx hb d_LW_law_538 rfl (lv_at hl 6 rfl) ?_
      refine lv_iconst (v := 0) hx hb d_LW_law_539 (by decide) ?_
      refine va_lald hx hb hK hP 56 1 rfl rfl (vp_in_nI (n := 0) (by decide) (by decide)) d_LW_law_540 ?_
      refine W.eq (g2 := F0 m 541 ls [.long (f9 0)]) rfl ?_
      refine lv_iload hx hb d_LW_law_541 (lv_at hl 0 rfl) ?_
      refine lv_i2l (v := r9.toInt64) hx hb d_LW_law_543 rfl ?_
      refine W.lcmp hx hb d_LW_law_544 ?_
      refine lv_if_eq (tgt := 550) hx hb d_LW_law_545 (by decide) (fun c_3 => ?_) (fun c_3 => ?_)
      · refine lv_goto (tgt := 677) hx hb d_LW_law_550 (by decide) ?_
        refine W.widen (k := 57 + 2 * (k + 1)) (n := 11694 + 12 * (k + 1)) (by omega) (by omega) ?_
        exact kont z9 (th9, most9, asked9, td9, tr9, v9, o9) f9 ls H locs hR9 (Nat.le_trans ht9 (by omega)) hP hD hS (lv_sub hl [2, 3, 4, 5, 6] rfl)
      · exact absurd ((lg_cmp_eq _ _).mpr (ev9 hk0)) c_3
  · exact absurd e9 c_1

set_option maxHeartbeats 8000000 in
set_option maxRecDepth 100000 in
/-- the law's case 5 -/
theorem law_c5 {p : Program} {e : Env} {s : State} {m : MethodId} {below : List Frame} {meth : Method} {c : Code} {l : Launch} {b n : Nat} {xs : Nat → Int32} (hn9 : n ≤ 3076) (C0 : lw_At p s m meth c b n xs) (hl9 : l.stackTraces = false) {A : Nat → Prop} (hA : ∀ q, s.heap.size ≤ q → A q) (hbA : ¬ A b) {dC : Nat → ClassId} {dI : Nat → Nat → Nat} {cI cJ : ClassId} (hK : va_K (dC, dI) kCl [(cI, .int), (cJ, .long)] s) (xe : xE A s s.heap) (hN : xNc s) {x ml q : Nat} {a0 a1 ad : Nat → Nat} {L S C : Nat} {key : Int64} (ok : mk_ok L S C) (ok0 : tr_ok L S C 64) (ok1 : tr_ok (mL L 1) S C 16) {k : Nat} (hk : 4 + 6 * k + 6 ≤ n) {z : Cs} {u : Mz} {f : Nat → Int64} {ls : Array Slot} {H : Heap} {locs : List Loc} (hRI : RI L S C z u) (htd : u.2.2.2.1 ≤ k) (hP : va_P (dC, dI) kCl (lw_w cI cJ x ml a0 a1 L S C key z ad u q f) H) (hD : va_D A (lw_w cI cJ x ml a0 a1 L S C key z ad u q f)) (hS : va_S A s.heap H locs) (hl : lv_has ls 8 [(4, .int (nI (4 + 6 * k))), (0, .ref b), (1, .ref x), (2, .ref (ad 0)), (3, .ref q)]) (kont : ∀ (z' : Cs) (u' : Mz) (f' : Nat → Int64) (ls : Array Slot) (H : Heap) (locs : List Loc), RI L S C z' u' → u'.2.2.2.1 ≤ k + 1 → va_P (dC, dI) kCl (lw_w cI cJ x ml a0 a1 L S C key z' ad u' q f') H → va_D A (lw_w cI cJ x ml a0 a1 L S C key z' ad u' q f') → va_S A s.heap H locs → lv_has ls 8 [(4, .int (nI (4 + 6 * k))), (0, .ref b), (1, .ref x), (2, .ref (ad 0)), (3, .ref q)] → W p l e room_1 s m #[Value.ref b] below meth c H locs (57 + 2 * (k + 1)) (11694 + 12 * (k + 1)) (lw_Z below #[Value.ref b] s) (F0 m 677 ls [])) : W p l e room_1 s m #[Value.ref b] below meth c H locs (57 + 2 * k) (11694 + 12 * k) (lw_Z below #[Value.ref b] s) (F0 m 553 ls []) := by
  obtain ⟨hx, hb, hr, hml, hown, hts, hX, hbl, hlocks, hgv⟩ := id C0
  have hown : s.vm.findClass "CoinTreeLaw" = some m.cls := hown
  have hT : ∀ w ∈ bw, w.before #[Value.ref b] s = true := fun w h => hts w (List.mem_filter.mp h).1
  obtain ⟨th, most, asked, td, tr, v, o⟩ := u
  have htd : td ≤ k := htd
  obtain ⟨hz0, hz1, hml9, hlf9, et0, et1⟩ := ask_pre ok hRI
  have htd6 : td < 600 := by omega
  have ht0 : (ts_trail (cs_t0 z)).2 < 600 := by rw [et0]; exact htd6
  have ht1 : (ts_trail (cs_t1 z)).2 < 600 := by rw [et1]; exact htd6
  refine lv_aload_n hx hb d_LW_law_553 rfl (lv_at hl 2 rfl) ?_
  refine lv_aload_n hx hb d_LW_law_554 rfl (lv_at hl 1 rfl) ?_
  refine lv_iload hx hb d_LW_law_555 (lv_at hl 0 rfl) ?_
  refine lv_iconst (v := 1) hx hb d_LW_law_557 (by decide) ?_
  refine lv_iadd hx hb d_LW_law_558 ?_
  refine W.eq (g2 := F0 m 559 ls [.int (nI ((4 + 6 * k) + 1)), .ref b, .ref x]) (congrArg (fun q9 : Int32 => F0 m 559 ls (.int q9 :: .ref b :: .ref x :: [])) (nI_add (4 + 6 * k) 1)) ?_
  refine va_sld hx hb hX hbl hbA hS (vp_in_nI (n := ((4 + 6 * k) + 1)) (by omega) (by omega)) d_LW_law_559 ?_
  refine W.eq (g2 := F0 m 560 ls [.int (xs ((4 + 6 * k) + 1)), .ref x]) (by rw [nI_clamp (n := ((4 + 6 * k) + 1)) (by omega)]) ?_
  refine lv_aload_n hx hb d_LW_law_560 rfl (lv_at hl 1 rfl) ?_
  refine lv_iload hx hb d_LW_law_561 (lv_at hl 0 rfl) ?_
  refine lv_iconst (v := 2) hx hb d_LW_law_563 (by decide) ?_
  refine lv_iadd hx hb d_LW_law_564 ?_
  refine W.eq (g2 := F0 m 565 ls [.int (nI ((4 + 6 * k) + 2)), .ref b, .int (xs ((4 + 6 * k) + 1)), .ref x]) (congrArg (fun q9 : Int32 => F0 m 565 ls (.int q9 :: .ref b :: .int (xs ((4 + 6 * k) + 1)) :: .ref x :: [])) (nI_add (4 + 6 * k) 2)) ?_
  refine va_sld hx hb hX hbl hbA hS (vp_in_nI (n := ((4 + 6 * k) + 2)) (by omega) (by omega)) d_LW_law_565 ?_
  refine W.eq (g2 := F0 m 566 ls [.int (xs ((4 + 6 * k) + 2)), .int (xs ((4 + 6 * k) + 1)), .ref x]) (by rw [nI_clamp (n := ((4 + 6 * k) + 2)) (by omega)]) ?_
  refine lv_aload_n hx hb d_LW_law_566 rfl (lv_at hl 4 rfl) ?_
  have t1 := lw_pC hP
  have t2 := (lw_eC hD).self (sz := H.size)
  have t3 := va_free (wc := cw_ cI cJ x ml a0 a1 L (mL L 1) S C key z ++ [(q, .inl (cJ, 1, .inr (.inl f)))]) hD hS hA lwC lw_hC
  have t4 := (xe.kept hS.2.1).narrow t3
  have t5 := vx_sure (vx_runSX (R := room_1) (l := l) (e := e) (below := below) (meth := meth) (locs := locs) (cells := 57 + 2 * k) (slots := 11694 + 12 * k) (g := F0 m 567 ls [.ref q, .int (xs ((4 + 6 * k) + 2)), .int (xs ((4 + 6 * k) + 1)), .ref x]) (As := [.ref x, .int (xs ((4 + 6 * k) + 1)), .int (xs ((4 + 6 * k) + 2)), .ref q]) (rest := []) ⟨hx, hb, hml, hown, hT⟩ (c_LW_stash hl9 (A := va_A (cw_ cI cJ x ml a0 a1 L (mL L 1) S C key z ++ [(q, .inl (cJ, 1, .inr (.inl f)))]) H.size) (z := z) (f := f) ok0 ok1 (xs ((4 + 6 * k) + 1)) (xs ((4 + 6 * k) + 2))) (vx_cwSW 4 hT (gi_S m_442 m_440 m_441 m_21) rfl rfl rfl p_LW_stash.2 ⟨Nat.le_of_ble_eq_true rfl, Nat.le_of_ble_eq_true rfl⟩) ⟨lP_blind, lP_pre hK t1 t2 t4 (fun q h => Or.inr h) hN⟩ rfl rfl hl.1 rfl (lv_room (Nat.le_of_ble_eq_true rfl)) d_LW_law_567 ⟨by show _ ≤ 601024; omega, by show _ ≤ 7293000; omega⟩)
  refine lj_i (D := (dC, dI)) (cl := kCl) (f := fun (u9 : Cs × (Nat → Int64)) => cw_ cI cJ x ml a0 a1 L (mL L 1) S C key u9.1 ++ [(q, .inl (cJ, 1, .inr (.inl u9.2)))]) (wc := cw_ cI cJ x ml a0 a1 L (mL L 1) S C key z ++ [(q, .inl (cJ, 1, .inr (.inl f)))]) (wr := mzw cI cJ ad L S C key (th, most, asked, td, tr, v, o)) t5 hS hA hP hD lwC lwM lw_hC lw_hM lw_nM lw_dM (fun k9 uc9 H locs hk9 hP hD hS => ?_)
  obtain ⟨z9, f9⟩ := uc9
  have hP := lw_P1 (z := z9) (f := f9) (u := (th, most, asked, td, tr, v, o)) hP
  have hD := lw_D1 (z := z9) (f := f9) (u := (th, most, asked, td, tr, v, o)) hD
  have hP : va_P (dC, dI) kCl (lw_w cI cJ x ml a0 a1 L S C key z9 ad (th, most, asked, td, tr, v, o) q f9) H := hP
  have hD : va_D A (lw_w cI cJ x ml a0 a1 L S C key z9 ad (th, most, asked, td, tr, v, o) q f9) := hD
  refine lv_istore (lv' := [(5, .int k9), (4, .int (nI (4 + 6 * k))), (0, .ref b), (1, .ref x), (2, .ref (ad 0)), (3, .ref q)]) hx hb d_LW_law_570 hl (by decide) rfl (fun ls hl => ?_)
  refine lv_aload_n hx hb d_LW_law_572 rfl (lv_at hl 4 rfl) ?_
  refine lv_aload_n hx hb d_LW_law_573 rfl (lv_at hl 2 rfl) ?_
  refine lv_iload hx hb d_LW_law_574 (lv_at hl 1 rfl) ?_
  refine lv_iconst (v := 1) hx hb d_LW_law_576 (by decide) ?_
  refine lv_iadd hx hb d_LW_law_577 ?_
  refine W.eq (g2 := F0 m 578 ls [.int (nI ((4 + 6 * k) + 1)), .ref b, .ref (ad 0)]) (congrArg (fun q9 : Int32 => F0 m 578 ls (.int q9 :: .ref b :: .ref (ad 0) :: [])) (nI_add (4 + 6 * k) 1)) ?_
  refine va_sld hx hb hX hbl hbA hS (vp_in_nI (n := ((4 + 6 * k) + 1)) (by omega) (by omega)) d_LW_law_578 ?_
  refine W.eq (g2 := F0 m 579 ls [.int (xs ((4 + 6 * k) + 1)), .ref (ad 0)]) (by rw [nI_clamp (n := ((4 + 6 * k) + 1)) (by omega)]) ?_
  refine lv_aload_n hx hb d_LW_law_579 rfl (lv_at hl 2 rfl) ?_
  refine lv_iload hx hb d_LW_law_580 (lv_at hl 1 rfl) ?_
  refine lv_iconst (v := 2) hx hb d_LW_law_582 (by decide) ?_
  refine lv_iadd hx hb d_LW_law_583 ?_
  refine W.eq (g2 := F0 m 584 ls [.int (nI ((4 + 6 * k) + 2)), .ref b, .int (xs ((4 + 6 * k) + 1)), .ref (ad 0)]) (congrArg (fun q9 : Int32 => F0 m 584 ls (.int q9 :: .ref b :: .int (xs ((4 + 6 * k) + 1)) :: .ref (ad 0) :: [])) (nI_add (4 + 6 * k) 2)) ?_
  refine va_sld hx hb hX hbl hbA hS (vp_in_nI (n := ((4 + 6 * k) + 2)) (by omega) (by omega)) d_LW_law_584 ?_
  refine W.eq (g2 := F0 m 585 ls [.int (xs ((4 + 6 * k) + 2)), .int (xs ((4 + 6 * k) + 1)), .ref (ad 0)]) (by rw [nI_clamp (n := ((4 + 6 * k) + 2)) (by omega)]) ?_
  have t1 := lw_pM hP
  have t2 := (lw_eM hD).self (sz := H.size)
  have t5 := va_runV (R := room_1) (p := p) (s := s) (l := l) (e := e) (below := below) (meth := meth) (c := c) (H := H) (locs := locs) (cells := 57 + 2 * k + 2) (slots := 11694 + 12 * k + 12) (g := F0 m 585 ls [.int (xs ((4 + 6 * k) + 2)), .int (xs ((4 + 6 * k) + 1)), .ref (ad 0)]) (As := [.int (xs ((4 + 6 * k) + 1)), .int (xs ((4 + 6 * k) + 2))]) (rest := []) ⟨hx, hb, hml, hown, hT⟩ (c_CM_stash (A := va_A (mzw cI cJ ad L S C key (th, most, asked, td, tr, v, o)) H.size) ok (Nat.le_trans hz0 (by decide)) (Nat.le_trans hz1 (by decide)) (xs ((4 + 6 * k) + 1)) (xs ((4 + 6 * k) + 2))) (cwV 2 hT (gi_V m_638 m_635 m_636 m_637 m_27) rfl rfl rfl p_CM_stash ⟨Nat.le_of_ble_eq_true rfl, Nat.le_of_ble_eq_true rfl⟩) ⟨mP_blind, va_recv hK hP (ci := 4) (q0 := 36) rfl rfl, mP_pre hK t1 t2⟩ rfl rfl hl.1 rfl (lv_room (Nat.le_of_ble_eq_true rfl)) d_LW_law_585 ⟨by show _ ≤ 601024; omega, by show _ ≤ 7293000; omega⟩
  refine lj_i (D := (dC, dI)) (cl := kCl) (f := fun (u9 : Mz) => mzw cI cJ ad L S C key u9) (wc := mzw cI cJ ad L S C key (th, most, asked, td, tr, v, o)) (wr := cw_ cI cJ x ml a0 a1 L (mL L 1) S C key z9 ++ [(q, .inl (cJ, 1, .inr (.inl f9)))]) t5 hS hA hP hD lwM lwC lw_hM lw_hC lw_nC lw_dC (fun r9 um9 H locs hm9 hP hD hS => ?_)
  have hP := lw_P2 (u := um9) hP
  have hD := lw_D2 (u := um9) hD
  obtain ⟨e9, ev9, hR9, ht9⟩ := (show AG L S C td k9 f9 r9.toInt64 z9 um9 from Exists.elim hm9 (fun th' hm => ag_x (u := (z9, f9)) (f := f) hRI hk9 hm.2 ((ob_stash ok hRI hm.1).imp id (fun h9 => ⟨h9.1, h9.2.1, congrArg Int32.toInt64 h9.2.2⟩))))
  obtain ⟨th9, most9, asked9, td9, tr9, v9, o9⟩ := um9
  have e9 : th9 = k9 := e9
  have hP : va_P (dC, dI) kCl (lw_w cI cJ x ml a0 a1 L S C key z9 ad (th9, most9, asked9, td9, tr9, v9, o9) q f9) H := hP
  have hD : va_D A (lw_w cI cJ x ml a0 a1 L S C key z9 ad (th9, most9, asked9, td9, tr9, v9, o9) q f9) := hD
  refine lv_istore (lv' := [(6, .int r9), (5, .int k9), (4, .int (nI (4 + 6 * k))), (0, .ref b), (1, .ref x), (2, .ref (ad 0)), (3, .ref q)]) hx hb d_LW_law_588 hl (by decide) rfl (fun ls hl => ?_)
  refine lv_aload_n hx hb d_LW_law_590 rfl (lv_at hl 5 rfl) ?_
  refine zc_i (va_runV (As := []) (rest := []) ⟨hx, hb, hml, hown, hT⟩ (c_CM_thrown (H := H) ok (show va_P (dC, dI) kCl (mw_ cI cJ ad L S C key th9 most9 asked9 td9 tr9 v9 o9) H from lw_pM hP)) (cwV 0 hT (gi_V m_556 m_553 m_554 m_555 m_27) rfl rfl rfl p_CM_thrown ⟨Nat.le_of_ble_eq_true rfl, Nat.le_of_ble_eq_true rfl⟩) ⟨zP_blind, va_recv hK hP (ci := 4) (q0 := 36) rfl rfl, zP_pre hK⟩ rfl rfl hl.1 rfl (lv_room (Nat.le_of_ble_eq_true rfl)) d_LW_law_591 ⟨by show _ ≤ 601024; omega, by show _ ≤ 7293000; omega⟩) hS (fun locs hS => ?_)
  refine lv_iload hx hb d_LW_law_594 (lv_at hl 1 rfl) ?_
  refine lv_icmp_eq (tgt := 601) hx hb d_LW_law_596 (by decide) (fun c_1 => ?_) (fun c_1 => ?_)
  · refine lv_iload hx hb d_LW_law_601 (lv_at hl 1 rfl) ?_
    refine lv_if_ne (tgt := 618) hx hb d_LW_law_603 (by decide) (fun c_2 => ?_) (fun c_2 => ?_)
    · refine lv_goto (tgt := 677) hx hb d_LW_law_618 (by decide) ?_
      refine W.widen (k := 57 + 2 * (k + 1)) (n := 11694 + 12 * (k + 1)) (by omega) (by omega) ?_
      exact kont z9 (th9, most9, asked9, td9, tr9, v9, o9) f9 ls H locs hR9 (Nat.le_trans ht9 (by omega)) hP hD hS (lv_sub hl [2, 3, 4, 5, 6] rfl)
    · have hk0 : k9 = 0 := c_2
      refine lv_aload_n hx hb d_LW_law_606 rfl (lv_at hl 6 rfl) ?_
      refine lv_iconst (v := 0) hx hb d_LW_law_607 (by decide) ?_
      refine va_lald hx hb hK hP 56 1 rfl rfl (vp_in_nI (n := 0) (by decide) (by decide)) d_LW_law_608 ?_
      refine W.eq (g2 := F0 m 609 ls [.long (f9 0)]) rfl ?_
      refine lv_iload hx hb d_LW_law_609 (lv_at hl 0 rfl) ?_
      refine lv_i2l (v := r9.toInt64) hx hb d_LW_law_611 rfl ?_
      refine W.lcmp hx hb d_LW_law_612 ?_
      refine lv_if_eq (tgt := 618) hx hb d_LW_law_613 (by decide) (fun c_3 => ?_) (fun c_3 => ?_)
      · refine lv_goto (tgt := 677) hx hb d_LW_law_618 (by decide) ?_
        refine W.widen (k := 57 + 2 * (k + 1)) (n := 11694 + 12 * (k + 1)) (by omega) (by omega) ?_
        exact kont z9 (th9, most9, asked9, td9, tr9, v9, o9) f9 ls H locs hR9 (Nat.le_trans ht9 (by omega)) hP hD hS (lv_sub hl [2, 3, 4, 5, 6] rfl)
      · exact absurd ((lg_cmp_eq _ _).mpr (ev9 hk0)) c_3
  · exact absurd e9 c_1

set_option maxHeartbeats 8000000 in
set_option maxRecDepth 100000 in
/-- the law's case 6 -/
theorem law_c6 {p : Program} {e : Env} {s : State} {m : MethodId} {below : List Frame} {meth : Method} {c : Code} {l : Launch} {b n : Nat} {xs : Nat → Int32} (hn9 : n ≤ 3076) (C0 : lw_At p s m meth c b n xs) (hl9 : l.stackTraces = false) {A : Nat → Prop} (hA : ∀ q, s.heap.size ≤ q → A q) (hbA : ¬ A b) {dC : Nat → ClassId} {dI : Nat → Nat → Nat} {cI cJ : ClassId} (hK : va_K (dC, dI) kCl [(cI, .int), (cJ, .long)] s) (xe : xE A s s.heap) (hN : xNc s) {x ml q : Nat} {a0 a1 ad : Nat → Nat} {L S C : Nat} {key : Int64} (ok : mk_ok L S C) (ok0 : tr_ok L S C 64) (ok1 : tr_ok (mL L 1) S C 16) {k : Nat} (hk : 4 + 6 * k + 6 ≤ n) {z : Cs} {u : Mz} {f : Nat → Int64} {ls : Array Slot} {H : Heap} {locs : List Loc} (hRI : RI L S C z u) (htd : u.2.2.2.1 ≤ k) (hP : va_P (dC, dI) kCl (lw_w cI cJ x ml a0 a1 L S C key z ad u q f) H) (hD : va_D A (lw_w cI cJ x ml a0 a1 L S C key z ad u q f)) (hS : va_S A s.heap H locs) (hl : lv_has ls 8 [(4, .int (nI (4 + 6 * k))), (0, .ref b), (1, .ref x), (2, .ref (ad 0)), (3, .ref q)]) (kont : ∀ (z' : Cs) (u' : Mz) (f' : Nat → Int64) (ls : Array Slot) (H : Heap) (locs : List Loc), RI L S C z' u' → u'.2.2.2.1 ≤ k + 1 → va_P (dC, dI) kCl (lw_w cI cJ x ml a0 a1 L S C key z' ad u' q f') H → va_D A (lw_w cI cJ x ml a0 a1 L S C key z' ad u' q f') → va_S A s.heap H locs → lv_has ls 8 [(4, .int (nI (4 + 6 * k))), (0, .ref b), (1, .ref x), (2, .ref (ad 0)), (3, .ref q)] → W p l e room_1 s m #[Value.ref b] below meth c H locs (57 + 2 * (k + 1)) (11694 + 12 * (k + 1)) (lw_Z below #[Value.ref b] s) (F0 m 677 ls [])) : W p l e room_1 s m #[Value.ref b] below meth c H locs (57 + 2 * k) (11694 + 12 * k) (lw_Z below #[Value.ref b] s) (F0 m 621 ls []) := by
  obtain ⟨hx, hb, hr, hml, hown, hts, hX, hbl, hlocks, hgv⟩ := id C0
  have hown : s.vm.findClass "CoinTreeLaw" = some m.cls := hown
  have hT : ∀ w ∈ bw, w.before #[Value.ref b] s = true := fun w h => hts w (List.mem_filter.mp h).1
  obtain ⟨th, most, asked, td, tr, v, o⟩ := u
  have htd : td ≤ k := htd
  obtain ⟨hz0, hz1, hml9, hlf9, et0, et1⟩ := ask_pre ok hRI
  have htd6 : td < 600 := by omega
  have ht0 : (ts_trail (cs_t0 z)).2 < 600 := by rw [et0]; exact htd6
  have ht1 : (ts_trail (cs_t1 z)).2 < 600 := by rw [et1]; exact htd6
  refine lv_aload_n hx hb d_LW_law_621 rfl (lv_at hl 2 rfl) ?_
  refine lv_aload_n hx hb d_LW_law_622 rfl (lv_at hl 1 rfl) ?_
  refine lv_iload hx hb d_LW_law_623 (lv_at hl 0 rfl) ?_
  refine lv_iconst (v := 1) hx hb d_LW_law_625 (by decide) ?_
  refine lv_iadd hx hb d_LW_law_626 ?_
  refine W.eq (g2 := F0 m 627 ls [.int (nI ((4 + 6 * k) + 1)), .ref b, .ref x]) (congrArg (fun q9 : Int32 => F0 m 627 ls (.int q9 :: .ref b :: .ref x :: [])) (nI_add (4 + 6 * k) 1)) ?_
  refine va_sld hx hb hX hbl hbA hS (vp_in_nI (n := ((4 + 6 * k) + 1)) (by omega) (by omega)) d_LW_law_627 ?_
  refine W.eq (g2 := F0 m 628 ls [.int (xs ((4 + 6 * k) + 1)), .ref x]) (by rw [nI_clamp (n := ((4 + 6 * k) + 1)) (by omega)]) ?_
  refine lv_aload_n hx hb d_LW_law_628 rfl (lv_at hl 4 rfl) ?_
  have t1 := lw_pC hP
  have t2 := (lw_eC hD).self (sz := H.size)
  have t3 := va_free (wc := cw_ cI cJ x ml a0 a1 L (mL L 1) S C key z ++ [(q, .inl (cJ, 1, .inr (.inl f)))]) hD hS hA lwC lw_hC
  have t4 := (xe.kept hS.2.1).narrow t3
  have t5 := vx_sure (vx_runSX (R := room_1) (l := l) (e := e) (below := below) (meth := meth) (locs := locs) (cells := 57 + 2 * k) (slots := 11694 + 12 * k) (g := F0 m 629 ls [.ref q, .int (xs ((4 + 6 * k) + 1)), .ref x]) (As := [.ref x, .int (xs ((4 + 6 * k) + 1)), .ref q]) (rest := []) ⟨hx, hb, hml, hown, hT⟩ (c_LW_count hl9 (A := va_A (cw_ cI cJ x ml a0 a1 L (mL L 1) S C key z ++ [(q, .inl (cJ, 1, .inr (.inl f)))]) H.size) (z := z) (f := f) ok0 ok1 (xs ((4 + 6 * k) + 1))) (vx_cwSW 3 hT (gi_S m_451 m_449 m_450 m_21) rfl rfl rfl p_LW_count.2 ⟨Nat.le_of_ble_eq_true rfl, Nat.le_of_ble_eq_true rfl⟩) ⟨lP_blind, lP_pre hK t1 t2 t4 (fun q h => Or.inr h) hN⟩ rfl rfl hl.1 rfl (lv_room (Nat.le_of_ble_eq_true rfl)) d_LW_law_629 ⟨by show _ ≤ 601024; omega, by show _ ≤ 7293000; omega⟩)
  refine lj_i (D := (dC, dI)) (cl := kCl) (f := fun (u9 : Cs × (Nat → Int64)) => cw_ cI cJ x ml a0 a1 L (mL L 1) S C key u9.1 ++ [(q, .inl (cJ, 1, .inr (.inl u9.2)))]) (wc := cw_ cI cJ x ml a0 a1 L (mL L 1) S C key z ++ [(q, .inl (cJ, 1, .inr (.inl f)))]) (wr := mzw cI cJ ad L S C key (th, most, asked, td, tr, v, o)) t5 hS hA hP hD lwC lwM lw_hC lw_hM lw_nM lw_dM (fun k9 uc9 H locs hk9 hP hD hS => ?_)
  obtain ⟨z9, f9⟩ := uc9
  have hP := lw_P1 (z := z9) (f := f9) (u := (th, most, asked, td, tr, v, o)) hP
  have hD := lw_D1 (z := z9) (f := f9) (u := (th, most, asked, td, tr, v, o)) hD
  have hP : va_P (dC, dI) kCl (lw_w cI cJ x ml a0 a1 L S C key z9 ad (th, most, asked, td, tr, v, o) q f9) H := hP
  have hD : va_D A (lw_w cI cJ x ml a0 a1 L S C key z9 ad (th, most, asked, td, tr, v, o) q f9) := hD
  refine lv_istore (lv' := [(5, .int k9), (4, .int (nI (4 + 6 * k))), (0, .ref b), (1, .ref x), (2, .ref (ad 0)), (3, .ref q)]) hx hb d_LW_law_632 hl (by decide) rfl (fun ls hl => ?_)
  refine lv_aload_n hx hb d_LW_law_634 rfl (lv_at hl 4 rfl) ?_
  refine lv_aload_n hx hb d_LW_law_635 rfl (lv_at hl 2 rfl) ?_
  refine lv_iload hx hb d_LW_law_636 (lv_at hl 1 rfl) ?_
  refine lv_iconst (v := 1) hx hb d_LW_law_638 (by decide) ?_
  refine lv_iadd hx hb d_LW_law_639 ?_
  refine W.eq (g2 := F0 m 640 ls [.int (nI ((4 + 6 * k) + 1)), .ref b, .ref (ad 0)]) (congrArg (fun q9 : Int32 => F0 m 640 ls (.int q9 :: .ref b :: .ref (ad 0) :: [])) (nI_add (4 + 6 * k) 1)) ?_
  refine va_sld hx hb hX hbl hbA hS (vp_in_nI (n := ((4 + 6 * k) + 1)) (by omega) (by omega)) d_LW_law_640 ?_
  refine W.eq (g2 := F0 m 641 ls [.int (xs ((4 + 6 * k) + 1)), .ref (ad 0)]) (by rw [nI_clamp (n := ((4 + 6 * k) + 1)) (by omega)]) ?_
  have t1 := lw_pM hP
  have t2 := (lw_eM hD).self (sz := H.size)
  have t5 := va_runV (R := room_1) (p := p) (s := s) (l := l) (e := e) (below := below) (meth := meth) (c := c) (H := H) (locs := locs) (cells := 57 + 2 * k + 1) (slots := 11694 + 12 * k + 6) (g := F0 m 641 ls [.int (xs ((4 + 6 * k) + 1)), .ref (ad 0)]) (As := [.int (xs ((4 + 6 * k) + 1))]) (rest := []) ⟨hx, hb, hml, hown, hT⟩ (c_CM_count (A := va_A (mzw cI cJ ad L S C key (th, most, asked, td, tr, v, o)) H.size) ok (xs ((4 + 6 * k) + 1))) (cwV 1 hT (gi_V m_642 m_639 m_640 m_641 m_27) rfl rfl rfl p_CM_count ⟨Nat.le_of_ble_eq_true rfl, Nat.le_of_ble_eq_true rfl⟩) ⟨mP_blind, va_recv hK hP (ci := 4) (q0 := 36) rfl rfl, mP_pre hK t1 t2⟩ rfl rfl hl.1 rfl (lv_room (Nat.le_of_ble_eq_true rfl)) d_LW_law_641 ⟨by show _ ≤ 601024; omega, by show _ ≤ 7293000; omega⟩
  refine lj_i (D := (dC, dI)) (cl := kCl) (f := fun (u9 : Mz) => mzw cI cJ ad L S C key u9) (wc := mzw cI cJ ad L S C key (th, most, asked, td, tr, v, o)) (wr := cw_ cI cJ x ml a0 a1 L (mL L 1) S C key z9 ++ [(q, .inl (cJ, 1, .inr (.inl f9)))]) t5 hS hA hP hD lwM lwC lw_hM lw_hC lw_nC lw_dC (fun r9 um9 H locs hm9 hP hD hS => ?_)
  have hP := lw_P2 (u := um9) hP
  have hD := lw_D2 (u := um9) hD
  obtain ⟨e9, ev9, hR9, ht9⟩ := (show AG L S C td k9 f9 r9.toInt64 z9 um9 from Exists.elim hm9 (fun th' hm => ag_x (u := (z9, f9)) (f := f) hRI hk9 hm.2 ((ob_count hRI hm.1).imp id (fun h9 => ⟨h9.1, h9.2.1, congrArg Int32.toInt64 h9.2.2⟩))))
  obtain ⟨th9, most9, asked9, td9, tr9, v9, o9⟩ := um9
  have e9 : th9 = k9 := e9
  have hP : va_P (dC, dI) kCl (lw_w cI cJ x ml a0 a1 L S C key z9 ad (th9, most9, asked9, td9, tr9, v9, o9) q f9) H := hP
  have hD : va_D A (lw_w cI cJ x ml a0 a1 L S C key z9 ad (th9, most9, asked9, td9, tr9, v9, o9) q f9) := hD
  refine lv_istore (lv' := [(6, .int r9), (5, .int k9), (4, .int (nI (4 + 6 * k))), (0, .ref b), (1, .ref x), (2, .ref (ad 0)), (3, .ref q)]) hx hb d_LW_law_644 hl (by decide) rfl (fun ls hl => ?_)
  refine lv_aload_n hx hb d_LW_law_646 rfl (lv_at hl 5 rfl) ?_
  refine zc_i (va_runV (As := []) (rest := []) ⟨hx, hb, hml, hown, hT⟩ (c_CM_thrown (H := H) ok (show va_P (dC, dI) kCl (mw_ cI cJ ad L S C key th9 most9 asked9 td9 tr9 v9 o9) H from lw_pM hP)) (cwV 0 hT (gi_V m_556 m_553 m_554 m_555 m_27) rfl rfl rfl p_CM_thrown ⟨Nat.le_of_ble_eq_true rfl, Nat.le_of_ble_eq_true rfl⟩) ⟨zP_blind, va_recv hK hP (ci := 4) (q0 := 36) rfl rfl, zP_pre hK⟩ rfl rfl hl.1 rfl (lv_room (Nat.le_of_ble_eq_true rfl)) d_LW_law_647 ⟨by show _ ≤ 601024; omega, by show _ ≤ 7293000; omega⟩) hS (fun locs hS => ?_)
  refine lv_iload hx hb d_LW_law_650 (lv_at hl 1 rfl) ?_
  refine lv_icmp_eq (tgt := 657) hx hb d_LW_law_652 (by decide) (fun c_1 => ?_) (fun c_1 => ?_)
  · refine lv_iload hx hb d_LW_law_657 (lv_at hl 1 rfl) ?_
    refine lv_if_ne (tgt := 674) hx hb d_LW_law_659 (by decide) (fun c_2 => ?_) (fun c_2 => ?_)
    · refine lv_goto (tgt := 677) hx hb d_LW_law_674 (by decide) ?_
      refine W.widen (k := 57 + 2 * (k + 1)) (n := 11694 + 12 * (k + 1)) (by omega) (by omega) ?_
      exact kont z9 (th9, most9, asked9, td9, tr9, v9, o9) f9 ls H locs hR9 (Nat.le_trans ht9 (by omega)) hP hD hS (lv_sub hl [2, 3, 4, 5, 6] rfl)
    · have hk0 : k9 = 0 := c_2
      refine lv_aload_n hx hb d_LW_law_662 rfl (lv_at hl 6 rfl) ?_
      refine lv_iconst (v := 0) hx hb d_LW_law_663 (by decide) ?_
      refine va_lald hx hb hK hP 56 1 rfl rfl (vp_in_nI (n := 0) (by decide) (by decide)) d_LW_law_664 ?_
      refine W.eq (g2 := F0 m 665 ls [.long (f9 0)]) rfl ?_
      refine lv_iload hx hb d_LW_law_665 (lv_at hl 0 rfl) ?_
      refine lv_i2l (v := r9.toInt64) hx hb d_LW_law_667 rfl ?_
      refine W.lcmp hx hb d_LW_law_668 ?_
      refine lv_if_eq (tgt := 674) hx hb d_LW_law_669 (by decide) (fun c_3 => ?_) (fun c_3 => ?_)
      · refine lv_goto (tgt := 677) hx hb d_LW_law_674 (by decide) ?_
        refine W.widen (k := 57 + 2 * (k + 1)) (n := 11694 + 12 * (k + 1)) (by omega) (by omega) ?_
        exact kont z9 (th9, most9, asked9, td9, tr9, v9, o9) f9 ls H locs hR9 (Nat.le_trans ht9 (by omega)) hP hD hS (lv_sub hl [2, 3, 4, 5, 6] rfl)
      · exact absurd ((lg_cmp_eq _ _).mpr (ev9 hk0)) c_3
  · exact absurd e9 c_1
