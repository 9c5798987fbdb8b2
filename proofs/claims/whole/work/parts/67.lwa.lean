set_option maxHeartbeats 8000000 in
set_option maxRecDepth 100000 in
/-- the law's case 0 -/
theorem law_c0 {p : Program} {e : Env} {s : State} {m : MethodId} {below : List Frame} {meth : Method} {c : Code} {l : Launch} {b n : Nat} {xs : Nat → Int32} (hn9 : n ≤ 3076) (C0 : lw_At p s m meth c b n xs) (hl9 : l.stackTraces = false) {A : Nat → Prop} (hA : ∀ q, s.heap.size ≤ q → A q) (hbA : ¬ A b) {dC : Nat → ClassId} {dI : Nat → Nat → Nat} {cI cJ : ClassId} (hK : va_K (dC, dI) kCl [(cI, .int), (cJ, .long)] s) (xe : xE A s s.heap) (hN : xNc s) {x ml q : Nat} {a0 a1 ad : Nat → Nat} {L S C : Nat} {key : Int64} (ok : mk_ok L S C) (ok0 : tr_ok L S C 64) (ok1 : tr_ok (mL L 1) S C 16) {k : Nat} (hk : 4 + 6 * k + 6 ≤ n) {z : Cs} {u : Mz} {f : Nat → Int64} {ls : Array Slot} {H : Heap} {locs : List Loc} (hRI : RI L S C z u) (htd : u.2.2.2.1 ≤ k) (hP : va_P (dC, dI) kCl (lw_w cI cJ x ml a0 a1 L S C key z ad u q f) H) (hD : va_D A (lw_w cI cJ x ml a0 a1 L S C key z ad u q f)) (hS : va_S A s.heap H locs) (hl : lv_has ls 8 [(4, .int (nI (4 + 6 * k))), (0, .ref b), (1, .ref x), (2, .ref (ad 0)), (3, .ref q)]) (kont : ∀ (z' : Cs) (u' : Mz) (f' : Nat → Int64) (ls : Array Slot) (H : Heap) (locs : List Loc), RI L S C z' u' → u'.2.2.2.1 ≤ k + 1 → va_P (dC, dI) kCl (lw_w cI cJ x ml a0 a1 L S C key z' ad u' q f') H → va_D A (lw_w cI cJ x ml a0 a1 L S C key z' ad u' q f') → va_S A s.heap H locs → lv_has ls 8 [(4, .int (nI (4 + 6 * k))), (0, .ref b), (1, .ref x), (2, .ref (ad 0)), (3, .ref q)] → W p l e room_1 s m #[Value.ref b] below meth c H locs (57 + 2 * (k + 1)) (11694 + 12 * (k + 1)) (lw_Z below #[Value.ref b] s) (F0 m 677 ls [])) : W p l e room_1 s m #[Value.ref b] below meth c H locs (57 + 2 * k) (11694 + 12 * k) (lw_Z below #[Value.ref b] s) (F0 m 124 ls []) := by
  obtain ⟨hx, hb, hr, hml, hown, hts, hX, hbl, hlocks, hgv⟩ := id C0
  have hown : s.vm.findClass "CoinTreeLaw" = some m.cls := hown
  have hT : ∀ w ∈ bw, w.before #[Value.ref b] s = true := fun w h => hts w (List.mem_filter.mp h).1
  obtain ⟨th, most, asked, td, tr, v, o⟩ := u
  have htd : td ≤ k := htd
  obtain ⟨hz0, hz1, hml9, hlf9, et0, et1⟩ := ask_pre ok hRI
  have htd6 : td < 600 := by omega
  have ht0 : (ts_trail (cs_t0 z)).2 < 600 := by rw [et0]; exact htd6
  have ht1 : (ts_trail (cs_t1 z)).2 < 600 := by rw [et1]; exact htd6
  refine lv_aload_n hx hb d_LW_law_124 rfl (lv_at hl 2 rfl) ?_
  refine lv_aload_n hx hb d_LW_law_125 rfl (lv_at hl 1 rfl) ?_
  refine lv_iload hx hb d_LW_law_126 (lv_at hl 0 rfl) ?_
  refine lv_iconst (v := 1) hx hb d_LW_law_128 (by decide) ?_
  refine lv_iadd hx hb d_LW_law_129 ?_
  refine W.eq (g2 := F0 m 130 ls [.int (nI ((4 + 6 * k) + 1)), .ref b, .ref x]) (congrArg (fun q9 : Int32 => F0 m 130 ls (.int q9 :: .ref b :: .ref x :: [])) (nI_add (4 + 6 * k) 1)) ?_
  refine va_sld hx hb hX hbl hbA hS (vp_in_nI (n := ((4 + 6 * k) + 1)) (by omega) (by omega)) d_LW_law_130 ?_
  refine W.eq (g2 := F0 m 131 ls [.int (xs ((4 + 6 * k) + 1)), .ref x]) (by rw [nI_clamp (n := ((4 + 6 * k) + 1)) (by omega)]) ?_
  refine lv_aload_n hx hb d_LW_law_131 rfl (lv_at hl 1 rfl) ?_
  refine lv_iload hx hb d_LW_law_132 (lv_at hl 0 rfl) ?_
  refine lv_iconst (v := 2) hx hb d_LW_law_134 (by decide) ?_
  refine lv_iadd hx hb d_LW_law_135 ?_
  refine W.eq (g2 := F0 m 136 ls [.int (nI ((4 + 6 * k) + 2)), .ref b, .int (xs ((4 + 6 * k) + 1)), .ref x]) (congrArg (fun q9 : Int32 => F0 m 136 ls (.int q9 :: .ref b :: .int (xs ((4 + 6 * k) + 1)) :: .ref x :: [])) (nI_add (4 + 6 * k) 2)) ?_
  refine va_sld hx hb hX hbl hbA hS (vp_in_nI (n := ((4 + 6 * k) + 2)) (by omega) (by omega)) d_LW_law_136 ?_
  refine W.eq (g2 := F0 m 137 ls [.int (xs ((4 + 6 * k) + 2)), .int (xs ((4 + 6 * k) + 1)), .ref x]) (by rw [nI_clamp (n := ((4 + 6 * k) + 2)) (by omega)]) ?_
  refine lv_aload_n hx hb d_LW_law_137 rfl (lv_at hl 1 rfl) ?_
  refine lv_iload hx hb d_LW_law_138 (lv_at hl 0 rfl) ?_
  refine lv_iconst (v := 3) hx hb d_LW_law_140 (by decide) ?_
  refine lv_iadd hx hb d_LW_law_141 ?_
  refine W.eq (g2 := F0 m 142 ls [.int (nI ((4 + 6 * k) + 3)), .ref b, .int (xs ((4 + 6 * k) + 2)), .int (xs ((4 + 6 * k) + 1)), .ref x]) (congrArg (fun q9 : Int32 => F0 m 142 ls (.int q9 :: .ref b :: .int (xs ((4 + 6 * k) + 2)) :: .int (xs ((4 + 6 * k) + 1)) :: .ref x :: [])) (nI_add (4 + 6 * k) 3)) ?_
  refine va_sld hx hb hX hbl hbA hS (vp_in_nI (n := ((4 + 6 * k) + 3)) (by omega) (by omega)) d_LW_law_142 ?_
  refine W.eq (g2 := F0 m 143 ls [.int (xs ((4 + 6 * k) + 3)), .int (xs ((4 + 6 * k) + 2)), .int (xs ((4 + 6 * k) + 1)), .ref x]) (by rw [nI_clamp (n := ((4 + 6 * k) + 3)) (by omega)]) ?_
  refine lv_aload_n hx hb d_LW_law_143 rfl (lv_at hl 4 rfl) ?_
  have t1 := lw_pC hP
  have t2 := (lw_eC hD).self (sz := H.size)
  have t3 := va_free (wc := cw_ cI cJ x ml a0 a1 L (mL L 1) S C key z ++ [(q, .inl (cJ, 1, .inr (.inl f)))]) hD hS hA lwC lw_hC
  have t4 := (xe.kept hS.2.1).narrow t3
  have t5 := vx_sure (vx_runSX (R := room_1) (l := l) (e := e) (below := below) (meth := meth) (locs := locs) (cells := 57 + 2 * k) (slots := 11694 + 12 * k) (g := F0 m 144 ls [.ref q, .int (xs ((4 + 6 * k) + 3)), .int (xs ((4 + 6 * k) + 2)), .int (xs ((4 + 6 * k) + 1)), .ref x]) (As := [.ref x, .int (xs ((4 + 6 * k) + 1)), .int (xs ((4 + 6 * k) + 2)), .int (xs ((4 + 6 * k) + 3)), .ref q]) (rest := []) ⟨hx, hb, hml, hown, hT⟩ (c_LW_read hl9 (A := va_A (cw_ cI cJ x ml a0 a1 L (mL L 1) S C key z ++ [(q, .inl (cJ, 1, .inr (.inl f)))]) H.size) (z := z) (f := f) ok0 ok1 ht0 ht1 (xs ((4 + 6 * k) + 1)) (xs ((4 + 6 * k) + 2)) (xs ((4 + 6 * k) + 3))) (vx_cwSW 5 hT (gi_S m_172 m_170 m_171 m_21) rfl rfl rfl p_LW_read.2 ⟨Nat.le_of_ble_eq_true rfl, Nat.le_of_ble_eq_true rfl⟩) ⟨lP_blind, lP_pre hK t1 t2 t4 (fun q h => Or.inr h) hN⟩ rfl rfl hl.1 rfl (lv_room (Nat.le_of_ble_eq_true rfl)) d_LW_law_144 ⟨by show _ ≤ 601024; omega, by show _ ≤ 7293000; omega⟩)
  refine lj_i (D := (dC, dI)) (cl := kCl) (f := fun (u9 : Cs × (Nat → Int64)) => cw_ cI cJ x ml a0 a1 L (mL L 1) S C key u9.1 ++ [(q, .inl (cJ, 1, .inr (.inl u9.2)))]) (wc := cw_ cI cJ x ml a0 a1 L (mL L 1) S C key z ++ [(q, .inl (cJ, 1, .inr (.inl f)))]) (wr := mzw cI cJ ad L S C key (th, most, asked, td, tr, v, o)) t5 hS hA hP hD lwC lwM lw_hC lw_hM lw_nM lw_dM (fun k9 uc9 H locs hk9 hP hD hS => ?_)
  obtain ⟨z9, f9⟩ := uc9
  have hP := lw_P1 (z := z9) (f := f9) (u := (th, most, asked, td, tr, v, o)) hP
  have hD := lw_D1 (z := z9) (f := f9) (u := (th, most, asked, td, tr, v, o)) hD
  have hP : va_P (dC, dI) kCl (lw_w cI cJ x ml a0 a1 L S C key z9 ad (th, most, asked, td, tr, v, o) q f9) H := hP
  have hD : va_D A (lw_w cI cJ x ml a0 a1 L S C key z9 ad (th, most, asked, td, tr, v, o) q f9) := hD
  refine lv_istore (lv' := [(5, .int k9), (4, .int (nI (4 + 6 * k))), (0, .ref b), (1, .ref x), (2, .ref (ad 0)), (3, .ref q)]) hx hb d_LW_law_147 hl (by decide) rfl (fun ls hl => ?_)
  refine lv_aload_n hx hb d_LW_law_149 rfl (lv_at hl 4 rfl) ?_
  refine lv_aload_n hx hb d_LW_law_150 rfl (lv_at hl 2 rfl) ?_
  refine lv_iload hx hb d_LW_law_151 (lv_at hl 1 rfl) ?_
  refine lv_iconst (v := 1) hx hb d_LW_law_153 (by decide) ?_
  refine lv_iadd hx hb d_LW_law_154 ?_
  refine W.eq (g2 := F0 m 155 ls [.int (nI ((4 + 6 * k) + 1)), .ref b, .ref (ad 0)]) (congrArg (fun q9 : Int32 => F0 m 155 ls (.int q9 :: .ref b :: .ref (ad 0) :: [])) (nI_add (4 + 6 * k) 1)) ?_
  refine va_sld hx hb hX hbl hbA hS (vp_in_nI (n := ((4 + 6 * k) + 1)) (by omega) (by omega)) d_LW_law_155 ?_
  refine W.eq (g2 := F0 m 156 ls [.int (xs ((4 + 6 * k) + 1)), .ref (ad 0)]) (by rw [nI_clamp (n := ((4 + 6 * k) + 1)) (by omega)]) ?_
  refine lv_aload_n hx hb d_LW_law_156 rfl (lv_at hl 2 rfl) ?_
  refine lv_iload hx hb d_LW_law_157 (lv_at hl 1 rfl) ?_
  refine lv_iconst (v := 2) hx hb d_LW_law_159 (by decide) ?_
  refine lv_iadd hx hb d_LW_law_160 ?_
  refine W.eq (g2 := F0 m 161 ls [.int (nI ((4 + 6 * k) + 2)), .ref b, .int (xs ((4 + 6 * k) + 1)), .ref (ad 0)]) (congrArg (fun q9 : Int32 => F0 m 161 ls (.int q9 :: .ref b :: .int (xs ((4 + 6 * k) + 1)) :: .ref (ad 0) :: [])) (nI_add (4 + 6 * k) 2)) ?_
  refine va_sld hx hb hX hbl hbA hS (vp_in_nI (n := ((4 + 6 * k) + 2)) (by omega) (by omega)) d_LW_law_161 ?_
  refine W.eq (g2 := F0 m 162 ls [.int (xs ((4 + 6 * k) + 2)), .int (xs ((4 + 6 * k) + 1)), .ref (ad 0)]) (by rw [nI_clamp (n := ((4 + 6 * k) + 2)) (by omega)]) ?_
  refine lv_aload_n hx hb d_LW_law_162 rfl (lv_at hl 2 rfl) ?_
  refine lv_iload hx hb d_LW_law_163 (lv_at hl 1 rfl) ?_
  refine lv_iconst (v := 3) hx hb d_LW_law_165 (by decide) ?_
  refine lv_iadd hx hb d_LW_law_166 ?_
  refine W.eq (g2 := F0 m 167 ls [.int (nI ((4 + 6 * k) + 3)), .ref b, .int (xs ((4 + 6 * k) + 2)), .int (xs ((4 + 6 * k) + 1)), .ref (ad 0)]) (congrArg (fun q9 : Int32 => F0 m 167 ls (.int q9 :: .ref b :: .int (xs ((4 + 6 * k) + 2)) :: .int (xs ((4 + 6 * k) + 1)) :: .ref (ad 0) :: [])) (nI_add (4 + 6 * k) 3)) ?_
  refine va_sld hx hb hX hbl hbA hS (vp_in_nI (n := ((4 + 6 * k) + 3)) (by omega) (by omega)) d_LW_law_167 ?_
  refine W.eq (g2 := F0 m 168 ls [.int (xs ((4 + 6 * k) + 3)), .int (xs ((4 + 6 * k) + 2)), .int (xs ((4 + 6 * k) + 1)), .ref (ad 0)]) (by rw [nI_clamp (n := ((4 + 6 * k) + 3)) (by omega)]) ?_
  have t1 := lw_pM hP
  have t2 := (lw_eM hD).self (sz := H.size)
  have t5 := va_runV (R := room_1) (p := p) (s := s) (l := l) (e := e) (below := below) (meth := meth) (c := c) (H := H) (locs := locs) (cells := 57 + 2 * k + 1) (slots := 11694 + 12 * k + 6) (g := F0 m 168 ls [.int (xs ((4 + 6 * k) + 3)), .int (xs ((4 + 6 * k) + 2)), .int (xs ((4 + 6 * k) + 1)), .ref (ad 0)]) (As := [.int (xs ((4 + 6 * k) + 1)), .int (xs ((4 + 6 * k) + 2)), .int (xs ((4 + 6 * k) + 3))]) (rest := []) ⟨hx, hb, hml, hown, hT⟩ (c_CM_read (A := va_A (mzw cI cJ ad L S C key (th, most, asked, td, tr, v, o)) H.size) ok hz0 hz1 htd6 hml9 hlf9 (xs ((4 + 6 * k) + 1)) (xs ((4 + 6 * k) + 2)) (xs ((4 + 6 * k) + 3))) (cwV 3 hT (gi_V m_560 m_557 m_558 m_559 m_27) rfl rfl rfl p_CM_read ⟨Nat.le_of_ble_eq_true rfl, Nat.le_of_ble_eq_true rfl⟩) ⟨mP_blind, va_recv hK hP (ci := 4) (q0 := 36) rfl rfl, mP_pre hK t1 t2⟩ rfl rfl hl.1 rfl (lv_room (Nat.le_of_ble_eq_true rfl)) d_LW_law_168 ⟨by show _ ≤ 601024; omega, by show _ ≤ 7293000; omega⟩
  refine lj_l (D := (dC, dI)) (cl := kCl) (f := fun (u9 : Mz) => mzw cI cJ ad L S C key u9) (wc := mzw cI cJ ad L S C key (th, most, asked, td, tr, v, o)) (wr := cw_ cI cJ x ml a0 a1 L (mL L 1) S C key z9 ++ [(q, .inl (cJ, 1, .inr (.inl f9)))]) t5 hS hA hP hD lwM lwC lw_hM lw_hC lw_nC lw_dC (fun r9 um9 H locs hm9 hP hD hS => ?_)
  have hP := lw_P2 (u := um9) hP
  have hD := lw_D2 (u := um9) hD
  obtain ⟨e9, ev9, hR9, ht9⟩ := (show AG L S C td k9 f9 r9 z9 um9 from ag_ask (u := (z9, f9)) (f := f) ok hRI hk9 hm9)
  obtain ⟨th9, most9, asked9, td9, tr9, v9, o9⟩ := um9
  have e9 : th9 = k9 := e9
  have hP : va_P (dC, dI) kCl (lw_w cI cJ x ml a0 a1 L S C key z9 ad (th9, most9, asked9, td9, tr9, v9, o9) q f9) H := hP
  have hD : va_D A (lw_w cI cJ x ml a0 a1 L S C key z9 ad (th9, most9, asked9, td9, tr9, v9, o9) q f9) := hD
  refine lv_lstore (lv' := [(6, .long r9), (5, .int k9), (4, .int (nI (4 + 6 * k))), (0, .ref b), (1, .ref x), (2, .ref (ad 0)), (3, .ref q)]) hx hb d_LW_law_171 hl (by decide) rfl (fun ls hl => ?_)
  refine lv_aload_n hx hb d_LW_law_173 rfl (lv_at hl 5 rfl) ?_
  refine zc_i (va_runV (As := []) (rest := []) ⟨hx, hb, hml, hown, hT⟩ (c_CM_thrown (H := H) ok (show va_P (dC, dI) kCl (mw_ cI cJ ad L S C key th9 most9 asked9 td9 tr9 v9 o9) H from lw_pM hP)) (cwV 0 hT (gi_V m_556 m_553 m_554 m_555 m_27) rfl rfl rfl p_CM_thrown ⟨Nat.le_of_ble_eq_true rfl, Nat.le_of_ble_eq_true rfl⟩) ⟨zP_blind, va_recv hK hP (ci := 4) (q0 := 36) rfl rfl, zP_pre hK⟩ rfl rfl hl.1 rfl (lv_room (Nat.le_of_ble_eq_true rfl)) d_LW_law_174 ⟨by show _ ≤ 601024; omega, by show _ ≤ 7293000; omega⟩) hS (fun locs hS => ?_)
  refine lv_iload hx hb d_LW_law_177 (lv_at hl 1 rfl) ?_
  refine lv_icmp_eq (tgt := 184) hx hb d_LW_law_179 (by decide) (fun c_1 => ?_) (fun c_1 => ?_)
  · refine lv_iload hx hb d_LW_law_184 (lv_at hl 1 rfl) ?_
    refine lv_if_ne (tgt := 200) hx hb d_LW_law_186 (by decide) (fun c_2 => ?_) (fun c_2 => ?_)
    · refine lv_goto (tgt := 677) hx hb d_LW_law_200 (by decide) ?_
      refine W.widen (k := 57 + 2 * (k + 1)) (n := 11694 + 12 * (k + 1)) (by omega) (by omega) ?_
      exact kont z9 (th9, most9, asked9, td9, tr9, v9, o9) f9 ls H locs hR9 (Nat.le_trans ht9 (by omega)) hP hD hS (lv_sub hl [2, 3, 4, 5, 6] rfl)
    · have hk0 : k9 = 0 := c_2
      refine lv_aload_n hx hb d_LW_law_189 rfl (lv_at hl 6 rfl) ?_
      refine lv_iconst (v := 0) hx hb d_LW_law_190 (by decide) ?_
      refine va_lald hx hb hK hP 56 1 rfl rfl (vp_in_nI (n := 0) (by decide) (by decide)) d_LW_law_191 ?_
      refine W.eq (g2 := F0 m 192 ls [.long (f9 0)]) rfl ?_
      refine lv_lload hx hb d_LW_law_192 (lv_at hl 0 rfl) ?_
      refine W.lcmp hx hb d_LW_law_194 ?_
      refine lv_if_eq (tgt := 200) hx hb d_LW_law_195 (by decide) (fun c_3 => ?_) (fun c_3 => ?_)
      · refine lv_goto (tgt := 677) hx hb d_LW_law_200 (by decide) ?_
        refine W.widen (k := 57 + 2 * (k + 1)) (n := 11694 + 12 * (k + 1)) (by omega) (by omega) ?_
        exact kont z9 (th9, most9, asked9, td9, tr9, v9, o9) f9 ls H locs hR9 (Nat.le_trans ht9 (by omega)) hP hD hS (lv_sub hl [2, 3, 4, 5, 6] rfl)
      · exact absurd ((lg_cmp_eq _ _).mpr (ev9 hk0)) c_3
  · exact absurd e9 c_1

set_option maxHeartbeats 8000000 in
set_option maxRecDepth 100000 in
/-- the law's case 1 -/
theorem law_c1 {p : Program} {e : Env} {s : State} {m : MethodId} {below : List Frame} {meth : Method} {c : Code} {l : Launch} {b n : Nat} {xs : Nat → Int32} (hn9 : n ≤ 3076) (C0 : lw_At p s m meth c b n xs) (hl9 : l.stackTraces = false) {A : Nat → Prop} (hA : ∀ q, s.heap.size ≤ q → A q) (hbA : ¬ A b) {dC : Nat → ClassId} {dI : Nat → Nat → Nat} {cI cJ : ClassId} (hK : va_K (dC, dI) kCl [(cI, .int), (cJ, .long)] s) (xe : xE A s s.heap) (hN : xNc s) {x ml q : Nat} {a0 a1 ad : Nat → Nat} {L S C : Nat} {key : Int64} (ok : mk_ok L S C) (ok0 : tr_ok L S C 64) (ok1 : tr_ok (mL L 1) S C 16) {k : Nat} (hk : 4 + 6 * k + 6 ≤ n) {z : Cs} {u : Mz} {f : Nat → Int64} {ls : Array Slot} {H : Heap} {locs : List Loc} (hRI : RI L S C z u) (htd : u.2.2.2.1 ≤ k) (hP : va_P (dC, dI) kCl (lw_w cI cJ x ml a0 a1 L S C key z ad u q f) H) (hD : va_D A (lw_w cI cJ x ml a0 a1 L S C key z ad u q f)) (hS : va_S A s.heap H locs) (hl : lv_has ls 8 [(4, .int (nI (4 + 6 * k))), (0, .ref b), (1, .ref x), (2, .ref (ad 0)), (3, .ref q)]) (kont : ∀ (z' : Cs) (u' : Mz) (f' : Nat → Int64) (ls : Array Slot) (H : Heap) (locs : List Loc), RI L S C z' u' → u'.2.2.2.1 ≤ k + 1 → va_P (dC, dI) kCl (lw_w cI cJ x ml a0 a1 L S C key z' ad u' q f') H → va_D A (lw_w cI cJ x ml a0 a1 L S C key z' ad u' q f') → va_S A s.heap H locs → lv_has ls 8 [(4, .int (nI (4 + 6 * k))), (0, .ref b), (1, .ref x), (2, .ref (ad 0)), (3, .ref q)] → W p l e room_1 s m #[Value.ref b] below meth c H locs (57 + 2 * (k + 1)) (11694 + 12 * (k + 1)) (lw_Z below #[Value.ref b] s) (F0 m 677 ls [])) : W p l e room_1 s m #[Value.ref b] below meth c H locs (57 + 2 * k) (11694 + 12 * k) (lw_Z below #[Value.ref b] s) (F0 m 203 ls []) := by
  obtain ⟨hx, hb, hr, hml, hown, hts, hX, hbl, hlocks, hgv⟩ := id C0
  have hown : s.vm.findClass "CoinTreeLaw" = some m.cls := hown
  have hT : ∀ w ∈ bw, w.before #[Value.ref b] s = true := fun w h => hts w (List.mem_filter.mp h).1
  obtain ⟨th, most, asked, td, tr, v, o⟩ := u
  have htd : td ≤ k := htd
  obtain ⟨hz0, hz1, hml9, hlf9, et0, et1⟩ := ask_pre ok hRI
  have htd6 : td < 600 := by omega
  have ht0 : (ts_trail (cs_t0 z)).2 < 600 := by rw [et0]; exact htd6
  have ht1 : (ts_trail (cs_t1 z)).2 < 600 := by rw [et1]; exact htd6
  refine lv_aload_n hx hb d_LW_law_203 rfl (lv_at hl 2 rfl) ?_
  refine lv_aload_n hx hb d_LW_law_204 rfl (lv_at hl 1 rfl) ?_
  refine lv_iload hx hb d_LW_law_205 (lv_at hl 0 rfl) ?_
  refine lv_iconst (v := 1) hx hb d_LW_law_207 (by decide) ?_
  refine lv_iadd hx hb d_LW_law_208 ?_
  refine W.eq (g2 := F0 m 209 ls [.int (nI ((4 + 6 * k) + 1)), .ref b, .ref x]) (congrArg (fun q9 : Int32 => F0 m 209 ls (.int q9 :: .ref b :: .ref x :: [])) (nI_add (4 + 6 * k) 1)) ?_
  refine va_sld hx hb hX hbl hbA hS (vp_in_nI (n := ((4 + 6 * k) + 1)) (by omega) (by omega)) d_LW_law_209 ?_
  refine W.eq (g2 := F0 m 210 ls [.int (xs ((4 + 6 * k) + 1)), .ref x]) (by rw [nI_clamp (n := ((4 + 6 * k) + 1)) (by omega)]) ?_
  refine lv_aload_n hx hb d_LW_law_210 rfl (lv_at hl 1 rfl) ?_
  refine lv_iload hx hb d_LW_law_211 (lv_at hl 0 rfl) ?_
  refine lv_iconst (v := 2) hx hb d_LW_law_213 (by decide) ?_
  refine lv_iadd hx hb d_LW_law_214 ?_
  refine W.eq (g2 := F0 m 215 ls [.int (nI ((4 + 6 * k) + 2)), .ref b, .int (xs ((4 + 6 * k) + 1)), .ref x]) (congrArg (fun q9 : Int32 => F0 m 215 ls (.int q9 :: .ref b :: .int (xs ((4 + 6 * k) + 1)) :: .ref x :: [])) (nI_add (4 + 6 * k) 2)) ?_
  refine va_sld hx hb hX hbl hbA hS (vp_in_nI (n := ((4 + 6 * k) + 2)) (by omega) (by omega)) d_LW_law_215 ?_
  refine W.eq (g2 := F0 m 216 ls [.int (xs ((4 + 6 * k) + 2)), .int (xs ((4 + 6 * k) + 1)), .ref x]) (by rw [nI_clamp (n := ((4 + 6 * k) + 2)) (by omega)]) ?_
  refine lv_i2l (v := (xs ((4 + 6 * k) + 2)).toInt64) hx hb d_LW_law_216 rfl ?_
  refine lv_bipush (v := 32) hx hb d_LW_law_217 (by decide) ?_
  refine lv_lshl (v := (((xs ((4 + 6 * k) + 2)).toInt64) <<< ((32 : Int32).toInt64 &&& 63))) hx hb d_LW_law_219 rfl ?_
  refine lv_aload_n hx hb d_LW_law_220 rfl (lv_at hl 1 rfl) ?_
  refine lv_iload hx hb d_LW_law_221 (lv_at hl 0 rfl) ?_
  refine lv_iconst (v := 3) hx hb d_LW_law_223 (by decide) ?_
  refine lv_iadd hx hb d_LW_law_224 ?_
  refine W.eq (g2 := F0 m 225 ls [.int (nI ((4 + 6 * k) + 3)), .ref b, .long ((((xs ((4 + 6 * k) + 2)).toInt64) <<< ((32 : Int32).toInt64 &&& 63))), .int (xs ((4 + 6 * k) + 1)), .ref x]) (congrArg (fun q9 : Int32 => F0 m 225 ls (.int q9 :: .ref b :: .long ((((xs ((4 + 6 * k) + 2)).toInt64) <<< ((32 : Int32).toInt64 &&& 63))) :: .int (xs ((4 + 6 * k) + 1)) :: .ref x :: [])) (nI_add (4 + 6 * k) 3)) ?_
  refine va_sld hx hb hX hbl hbA hS (vp_in_nI (n := ((4 + 6 * k) + 3)) (by omega) (by omega)) d_LW_law_225 ?_
  refine W.eq (g2 := F0 m 226 ls [.int (xs ((4 + 6 * k) + 3)), .long ((((xs ((4 + 6 * k) + 2)).toInt64) <<< ((32 : Int32).toInt64 &&& 63))), .int (xs ((4 + 6 * k) + 1)), .ref x]) (by rw [nI_clamp (n := ((4 + 6 * k) + 3)) (by omega)]) ?_
  refine lv_i2l (v := (xs ((4 + 6 * k) + 3)).toInt64) hx hb d_LW_law_226 rfl ?_
  refine lv_ldc2 (v := 4294967295) hx hb hown (hT _ m_643) d_LW_law_227 ?_
  refine lv_land hx hb d_LW_law_230 ?_
  refine lv_lor hx hb d_LW_law_231 ?_
  refine lv_aload_n hx hb d_LW_law_232 rfl (lv_at hl 1 rfl) ?_
  refine lv_iload hx hb d_LW_law_233 (lv_at hl 0 rfl) ?_
  refine lv_iconst (v := 4) hx hb d_LW_law_235 (by decide) ?_
  refine lv_iadd hx hb d_LW_law_236 ?_
  refine W.eq (g2 := F0 m 237 ls [.int (nI ((4 + 6 * k) + 4)), .ref b, .long (((((xs ((4 + 6 * k) + 2)).toInt64) <<< ((32 : Int32).toInt64 &&& 63))) ||| (((xs ((4 + 6 * k) + 3)).toInt64) &&& 4294967295)), .int (xs ((4 + 6 * k) + 1)), .ref x]) (congrArg (fun q9 : Int32 => F0 m 237 ls (.int q9 :: .ref b :: .long (((((xs ((4 + 6 * k) + 2)).toInt64) <<< ((32 : Int32).toInt64 &&& 63))) ||| (((xs ((4 + 6 * k) + 3)).toInt64) &&& 4294967295)) :: .int (xs ((4 + 6 * k) + 1)) :: .ref x :: [])) (nI_add (4 + 6 * k) 4)) ?_
  refine va_sld hx hb hX hbl hbA hS (vp_in_nI (n := ((4 + 6 * k) + 4)) (by omega) (by omega)) d_LW_law_237 ?_
  refine W.eq (g2 := F0 m 238 ls [.int (xs ((4 + 6 * k) + 4)), .long (((((xs ((4 + 6 * k) + 2)).toInt64) <<< ((32 : Int32).toInt64 &&& 63))) ||| (((xs ((4 + 6 * k) + 3)).toInt64) &&& 4294967295)), .int (xs ((4 + 6 * k) + 1)), .ref x]) (by rw [nI_clamp (n := ((4 + 6 * k) + 4)) (by omega)]) ?_
  refine lv_aload_n hx hb d_LW_law_238 rfl (lv_at hl 1 rfl) ?_
  refine lv_iload hx hb d_LW_law_239 (lv_at hl 0 rfl) ?_
  refine lv_iconst (v := 5) hx hb d_LW_law_241 (by decide) ?_
  refine lv_iadd hx hb d_LW_law_242 ?_
  refine W.eq (g2 := F0 m 243 ls [.int (nI ((4 + 6 * k) + 5)), .ref b, .int (xs ((4 + 6 * k) + 4)), .long (((((xs ((4 + 6 * k) + 2)).toInt64) <<< ((32 : Int32).toInt64 &&& 63))) ||| (((xs ((4 + 6 * k) + 3)).toInt64) &&& 4294967295)), .int (xs ((4 + 6 * k) + 1)), .ref x]) (congrArg (fun q9 : Int32 => F0 m 243 ls (.int q9 :: .ref b :: .int (xs ((4 + 6 * k) + 4)) :: .long (((((xs ((4 + 6 * k) + 2)).toInt64) <<< ((32 : Int32).toInt64 &&& 63))) ||| (((xs ((4 + 6 * k) + 3)).toInt64) &&& 4294967295)) :: .int (xs ((4 + 6 * k) + 1)) :: .ref x :: [])) (nI_add (4 + 6 * k) 5)) ?_
  refine va_sld hx hb hX hbl hbA hS (vp_in_nI (n := ((4 + 6 * k) + 5)) (by omega) (by omega)) d_LW_law_243 ?_
  refine W.eq (g2 := F0 m 244 ls [.int (xs ((4 + 6 * k) + 5)), .int (xs ((4 + 6 * k) + 4)), .long (((((xs ((4 + 6 * k) + 2)).toInt64) <<< ((32 : Int32).toInt64 &&& 63))) ||| (((xs ((4 + 6 * k) + 3)).toInt64) &&& 4294967295)), .int (xs ((4 + 6 * k) + 1)), .ref x]) (by rw [nI_clamp (n := ((4 + 6 * k) + 5)) (by omega)]) ?_
  refine lv_aload_n hx hb d_LW_law_244 rfl (lv_at hl 4 rfl) ?_
  have t1 := lw_pC hP
  have t2 := (lw_eC hD).self (sz := H.size)
  have t3 := va_free (wc := cw_ cI cJ x ml a0 a1 L (mL L 1) S C key z ++ [(q, .inl (cJ, 1, .inr (.inl f)))]) hD hS hA lwC lw_hC
  have t4 := (xe.kept hS.2.1).narrow t3
  have t5 := vx_sure (vx_runSX (R := room_1) (l := l) (e := e) (below := below) (meth := meth) (locs := locs) (cells := 57 + 2 * k) (slots := 11694 + 12 * k) (g := F0 m 245 ls [.ref q, .int (xs ((4 + 6 * k) + 5)), .int (xs ((4 + 6 * k) + 4)), .long (((((xs ((4 + 6 * k) + 2)).toInt64) <<< ((32 : Int32).toInt64 &&& 63))) ||| (((xs ((4 + 6 * k) + 3)).toInt64) &&& 4294967295)), .int (xs ((4 + 6 * k) + 1)), .ref x]) (As := [.ref x, .int (xs ((4 + 6 * k) + 1)), .long (((((xs ((4 + 6 * k) + 2)).toInt64) <<< ((32 : Int32).toInt64 &&& 63))) ||| (((xs ((4 + 6 * k) + 3)).toInt64) &&& 4294967295)), .int (xs ((4 + 6 * k) + 4)), .int (xs ((4 + 6 * k) + 5)), .ref q]) (rest := []) ⟨hx, hb, hml, hown, hT⟩ (c_LW_write hl9 (A := va_A (cw_ cI cJ x ml a0 a1 L (mL L 1) S C key z ++ [(q, .inl (cJ, 1, .inr (.inl f)))]) H.size) (z := z) (f := f) ok0 ok1 ht0 ht1 (xs ((4 + 6 * k) + 1)) (((((xs ((4 + 6 * k) + 2)).toInt64) <<< ((32 : Int32).toInt64 &&& 63))) ||| (((xs ((4 + 6 * k) + 3)).toInt64) &&& 4294967295)) (xs ((4 + 6 * k) + 4)) (xs ((4 + 6 * k) + 5))) (vx_cwSW 6 hT (gi_S m_385 m_383 m_384 m_21) rfl rfl rfl p_LW_write.2 ⟨Nat.le_of_ble_eq_true rfl, Nat.le_of_ble_eq_true rfl⟩) ⟨lP_blind, lP_pre hK t1 t2 t4 (fun q h => Or.inr h) hN⟩ rfl rfl hl.1 rfl (lv_room (Nat.le_of_ble_eq_true rfl)) d_LW_law_245 ⟨by show _ ≤ 601024; omega, by show _ ≤ 7293000; omega⟩)
  refine lj_i (D := (dC, dI)) (cl := kCl) (f := fun (u9 : Cs × (Nat → Int64)) => cw_ cI cJ x ml a0 a1 L (mL L 1) S C key u9.1 ++ [(q, .inl (cJ, 1, .inr (.inl u9.2)))]) (wc := cw_ cI cJ x ml a0 a1 L (mL L 1) S C key z ++ [(q, .inl (cJ, 1, .inr (.inl f)))]) (wr := mzw cI cJ ad L S C key (th, most, asked, td, tr, v, o)) t5 hS hA hP hD lwC lwM lw_hC lw_hM lw_nM lw_dM (fun k9 uc9 H locs hk9 hP hD hS => ?_)
  obtain ⟨z9, f9⟩ := uc9
  have hP := lw_P1 (z := z9) (f := f9) (u := (th, most, asked, td, tr, v, o)) hP
  have hD := lw_D1 (z := z9) (f := f9) (u := (th, most, asked, td, tr, v, o)) hD
  have hP : va_P (dC, dI) kCl (lw_w cI cJ x ml a0 a1 L S C key z9 ad (th, most, asked, td, tr, v, o) q f9) H := hP
  have hD : va_D A (lw_w cI cJ x ml a0 a1 L S C key z9 ad (th, most, asked, td, tr, v, o) q f9) := hD
  refine lv_istore (lv' := [(5, .int k9), (4, .int (nI (4 + 6 * k))), (0, .ref b), (1, .ref x), (2, .ref (ad 0)), (3, .ref q)]) hx hb d_LW_law_248 hl (by decide) rfl (fun ls hl => ?_)
  refine lv_aload_n hx hb d_LW_law_250 rfl (lv_at hl 4 rfl) ?_
  refine lv_aload_n hx hb d_LW_law_251 rfl (lv_at hl 2 rfl) ?_
  refine lv_iload hx hb d_LW_law_252 (lv_at hl 1 rfl) ?_
  refine lv_iconst (v := 1) hx hb d_LW_law_254 (by decide) ?_
  refine lv_iadd hx hb d_LW_law_255 ?_
  refine W.eq (g2 := F0 m 256 ls [.int (nI ((4 + 6 * k) + 1)), .ref b, .ref (ad 0)]) (congrArg (fun q9 : Int32 => F0 m 256 ls (.int q9 :: .ref b :: .ref (ad 0) :: [])) (nI_add (4 + 6 * k) 1)) ?_
  refine va_sld hx hb hX hbl hbA hS (vp_in_nI (n := ((4 + 6 * k) + 1)) (by omega) (by omega)) d_LW_law_256 ?_
  refine W.eq (g2 := F0 m 257 ls [.int (xs ((4 + 6 * k) + 1)), .ref (ad 0)]) (by rw [nI_clamp (n := ((4 + 6 * k) + 1)) (by omega)]) ?_
  refine lv_aload_n hx hb d_LW_law_257 rfl (lv_at hl 2 rfl) ?_
  refine lv_iload hx hb d_LW_law_258 (lv_at hl 1 rfl) ?_
  refine lv_iconst (v := 2) hx hb d_LW_law_260 (by decide) ?_
  refine lv_iadd hx hb d_LW_law_261 ?_
  refine W.eq (g2 := F0 m 262 ls [.int (nI ((4 + 6 * k) + 2)), .ref b, .int (xs ((4 + 6 * k) + 1)), .ref (ad 0)]) (congrArg (fun q9 : Int32 => F0 m 262 ls (.int q9 :: .ref b :: .int (xs ((4 + 6 * k) + 1)) :: .ref (ad 0) :: [])) (nI_add (4 + 6 * k) 2)) ?_
  refine va_sld hx hb hX hbl hbA hS (vp_in_nI (n := ((4 + 6 * k) + 2)) (by omega) (by omega)) d_LW_law_262 ?_
  refine W.eq (g2 := F0 m 263 ls [.int (xs ((4 + 6 * k) + 2)), .int (xs ((4 + 6 * k) + 1)), .ref (ad 0)]) (by rw [nI_clamp (n := ((4 + 6 * k) + 2)) (by omega)]) ?_
  refine lv_i2l (v := (xs ((4 + 6 * k) + 2)).toInt64) hx hb d_LW_law_263 rfl ?_
  refine lv_bipush (v := 32) hx hb d_LW_law_264 (by decide) ?_
  refine lv_lshl (v := (((xs ((4 + 6 * k) + 2)).toInt64) <<< ((32 : Int32).toInt64 &&& 63))) hx hb d_LW_law_266 rfl ?_
  refine lv_aload_n hx hb d_LW_law_267 rfl (lv_at hl 2 rfl) ?_
  refine lv_iload hx hb d_LW_law_268 (lv_at hl 1 rfl) ?_
  refine lv_iconst (v := 3) hx hb d_LW_law_270 (by decide) ?_
  refine lv_iadd hx hb d_LW_law_271 ?_
  refine W.eq (g2 := F0 m 272 ls [.int (nI ((4 + 6 * k) + 3)), .ref b, .long ((((xs ((4 + 6 * k) + 2)).toInt64) <<< ((32 : Int32).toInt64 &&& 63))), .int (xs ((4 + 6 * k) + 1)), .ref (ad 0)]) (congrArg (fun q9 : Int32 => F0 m 272 ls (.int q9 :: .ref b :: .long ((((xs ((4 + 6 * k) + 2)).toInt64) <<< ((32 : Int32).toInt64 &&& 63))) :: .int (xs ((4 + 6 * k) + 1)) :: .ref (ad 0) :: [])) (nI_add (4 + 6 * k) 3)) ?_
  refine va_sld hx hb hX hbl hbA hS (vp_in_nI (n := ((4 + 6 * k) + 3)) (by omega) (by omega)) d_LW_law_272 ?_
  refine W.eq (g2 := F0 m 273 ls [.int (xs ((4 + 6 * k) + 3)), .long ((((xs ((4 + 6 * k) + 2)).toInt64) <<< ((32 : Int32).toInt64 &&& 63))), .int (xs ((4 + 6 * k) + 1)), .ref (ad 0)]) (by rw [nI_clamp (n := ((4 + 6 * k) + 3)) (by omega)]) ?_
  refine lv_i2l (v := (xs ((4 + 6 * k) + 3)).toInt64) hx hb d_LW_law_273 rfl ?_
  refine lv_ldc2 (v := 4294967295) hx hb hown (hT _ m_643) d_LW_law_274 ?_
  refine lv_land hx hb d_LW_law_277 ?_
  refine lv_lor hx hb d_LW_law_278 ?_
  refine lv_aload_n hx hb d_LW_law_279 rfl (lv_at hl 2 rfl) ?_
  refine lv_iload hx hb d_LW_law_280 (lv_at hl 1 rfl) ?_
  refine lv_iconst (v := 4) hx hb d_LW_law_282 (by decide) ?_
  refine lv_iadd hx hb d_LW_law_283 ?_
  refine W.eq (g2 := F0 m 284 ls [.int (nI ((4 + 6 * k) + 4)), .ref b, .long (((((xs ((4 + 6 * k) + 2)).toInt64) <<< ((32 : Int32).toInt64 &&& 63))) ||| (((xs ((4 + 6 * k) + 3)).toInt64) &&& 4294967295)), .int (xs ((4 + 6 * k) + 1)), .ref (ad 0)]) (congrArg (fun q9 : Int32 => F0 m 284 ls (.int q9 :: .ref b :: .long (((((xs ((4 + 6 * k) + 2)).toInt64) <<< ((32 : Int32).toInt64 &&& 63))) ||| (((xs ((4 + 6 * k) + 3)).toInt64) &&& 4294967295)) :: .int (xs ((4 + 6 * k) + 1)) :: .ref (ad 0) :: [])) (nI_add (4 + 6 * k) 4)) ?_
  refine va_sld hx hb hX hbl hbA hS (vp_in_nI (n := ((4 + 6 * k) + 4)) (by omega) (by omega)) d_LW_law_284 ?_
  refine W.eq (g2 := F0 m 285 ls [.int (xs ((4 + 6 * k) + 4)), .long (((((xs ((4 + 6 * k) + 2)).toInt64) <<< ((32 : Int32).toInt64 &&& 63))) ||| (((xs ((4 + 6 * k) + 3)).toInt64) &&& 4294967295)), .int (xs ((4 + 6 * k) + 1)), .ref (ad 0)]) (by rw [nI_clamp (n := ((4 + 6 * k) + 4)) (by omega)]) ?_
  refine lv_aload_n hx hb d_LW_law_285 rfl (lv_at hl 2 rfl) ?_
  refine lv_iload hx hb d_LW_law_286 (lv_at hl 1 rfl) ?_
  refine lv_iconst (v := 5) hx hb d_LW_law_288 (by decide) ?_
  refine lv_iadd hx hb d_LW_law_289 ?_
  refine W.eq (g2 := F0 m 290 ls [.int (nI ((4 + 6 * k) + 5)), .ref b, .int (xs ((4 + 6 * k) + 4)), .long (((((xs ((4 + 6 * k) + 2)).toInt64) <<< ((32 : Int32).toInt64 &&& 63))) ||| (((xs ((4 + 6 * k) + 3)).toInt64) &&& 4294967295)), .int (xs ((4 + 6 * k) + 1)), .ref (ad 0)]) (congrArg (fun q9 : Int32 => F0 m 290 ls (.int q9 :: .ref b :: .int (xs ((4 + 6 * k) + 4)) :: .long (((((xs ((4 + 6 * k) + 2)).toInt64) <<< ((32 : Int32).toInt64 &&& 63))) ||| (((xs ((4 + 6 * k) + 3)).toInt64) &&& 4294967295)) :: .int (xs ((4 + 6 * k) + 1)) :: .ref (ad 0) :: [])) (nI_add (4 + 6 * k) 5)) ?_
  refine va_sld hx hb hX hbl hbA hS (vp_in_nI (n := ((4 + 6 * k) + 5)) (by omega) (by omega)) d_LW_law_290 ?_
  refine W.eq (g2 := F0 m 291 ls [.int (xs ((4 + 6 * k) + 5)), .int (xs ((4 + 6 * k) + 4)), .long (((((xs ((4 + 6 * k) + 2)).toInt64) <<< ((32 : Int32).toInt64 &&& 63))) ||| (((xs ((4 + 6 * k) + 3)).toInt64) &&& 4294967295)), .int (xs ((4 + 6 * k) + 1)), .ref (ad 0)]) (by rw [nI_clamp (n := ((4 + 6 * k) + 5)) (by omega)]) ?_
  have t1 := lw_pM hP
  have t2 := (lw_eM hD).self (sz := H.size)
  have t5 := va_runV (R := room_1) (p := p) (s := s) (l := l) (e := e) (below := below) (meth := meth) (c := c) (H := H) (locs := locs) (cells := 57 + 2 * k + 1) (slots := 11694 + 12 * k + 6) (g := F0 m 291 ls [.int (xs ((4 + 6 * k) + 5)), .int (xs ((4 + 6 * k) + 4)), .long (((((xs ((4 + 6 * k) + 2)).toInt64) <<< ((32 : Int32).toInt64 &&& 63))) ||| (((xs ((4 + 6 * k) + 3)).toInt64) &&& 4294967295)), .int (xs ((4 + 6 * k) + 1)), .ref (ad 0)]) (As := [.int (xs ((4 + 6 * k) + 1)), .long (((((xs ((4 + 6 * k) + 2)).toInt64) <<< ((32 : Int32).toInt64 &&& 63))) ||| (((xs ((4 + 6 * k) + 3)).toInt64) &&& 4294967295)), .int (xs ((4 + 6 * k) + 4)), .int (xs ((4 + 6 * k) + 5))]) (rest := []) ⟨hx, hb, hml, hown, hT⟩ (c_CM_write (A := va_A (mzw cI cJ ad L S C key (th, most, asked, td, tr, v, o)) H.size) ok hz0 hz1 htd6 hml9 hlf9 (xs ((4 + 6 * k) + 1)) (((((xs ((4 + 6 * k) + 2)).toInt64) <<< ((32 : Int32).toInt64 &&& 63))) ||| (((xs ((4 + 6 * k) + 3)).toInt64) &&& 4294967295)) (xs ((4 + 6 * k) + 4)) (xs ((4 + 6 * k) + 5))) (cwV 4 hT (gi_V m_606 m_603 m_604 m_605 m_27) rfl rfl rfl p_CM_write ⟨Nat.le_of_ble_eq_true rfl, Nat.le_of_ble_eq_true rfl⟩) ⟨mP_blind, va_recv hK hP (ci := 4) (q0 := 36) rfl rfl, mP_pre hK t1 t2⟩ rfl rfl hl.1 rfl (lv_room (Nat.le_of_ble_eq_true rfl)) d_LW_law_291 ⟨by show _ ≤ 601024; omega, by show _ ≤ 7293000; omega⟩
  refine lj_l (D := (dC, dI)) (cl := kCl) (f := fun (u9 : Mz) => mzw cI cJ ad L S C key u9) (wc := mzw cI cJ ad L S C key (th, most, asked, td, tr, v, o)) (wr := cw_ cI cJ x ml a0 a1 L (mL L 1) S C key z9 ++ [(q, .inl (cJ, 1, .inr (.inl f9)))]) t5 hS hA hP hD lwM lwC lw_hM lw_hC lw_nC lw_dC (fun r9 um9 H locs hm9 hP hD hS => ?_)
  have hP := lw_P2 (u := um9) hP
  have hD := lw_D2 (u := um9) hD
  obtain ⟨e9, ev9, hR9, ht9⟩ := (show AG L S C td k9 f9 r9 z9 um9 from ag_ask (u := (z9, f9)) (f := f) ok hRI hk9 hm9)
  obtain ⟨th9, most9, asked9, td9, tr9, v9, o9⟩ := um9
  have e9 : th9 = k9 := e9
  have hP : va_P (dC, dI) kCl (lw_w cI cJ x ml a0 a1 L S C key z9 ad (th9, most9, asked9, td9, tr9, v9, o9) q f9) H := hP
  have hD : va_D A (lw_w cI cJ x ml a0 a1 L S C key z9 ad (th9, most9, asked9, td9, tr9, v9, o9) q f9) := hD
  refine lv_lstore (lv' := [(6, .long r9), (5, .int k9), (4, .int (nI (4 + 6 * k))), (0, .ref b), (1, .ref x), (2, .ref (ad 0)), (3, .ref q)]) hx hb d_LW_law_294 hl (by decide) rfl (fun ls hl => ?_)
  refine lv_aload_n hx hb d_LW_law_296 rfl (lv_at hl 5 rfl) ?_
  refine zc_i (va_runV (As := []) (rest := []) ⟨hx, hb, hml, hown, hT⟩ (c_CM_thrown (H := H) ok (show va_P (dC, dI) kCl (mw_ cI cJ ad L S C key th9 most9 asked9 td9 tr9 v9 o9) H from lw_pM hP)) (cwV 0 hT (gi_V m_556 m_553 m_554 m_555 m_27) rfl rfl rfl p_CM_thrown ⟨Nat.le_of_ble_eq_true rfl, Nat.le_of_ble_eq_true rfl⟩) ⟨zP_blind, va_recv hK hP (ci := 4) (q0 := 36) rfl rfl, zP_pre hK⟩ rfl rfl hl.1 rfl (lv_room (Nat.le_of_ble_eq_true rfl)) d_LW_law_297 ⟨by show _ ≤ 601024; omega, by show _ ≤ 7293000; omega⟩) hS (fun locs hS => ?_)
  refine lv_iload hx hb d_LW_law_300 (lv_at hl 1 rfl) ?_
  refine lv_icmp_eq (tgt := 307) hx hb d_LW_law_302 (by decide) (fun c_1 => ?_) (fun c_1 => ?_)
  · refine lv_iload hx hb d_LW_law_307 (lv_at hl 1 rfl) ?_
    refine lv_if_ne (tgt := 323) hx hb d_LW_law_309 (by decide) (fun c_2 => ?_) (fun c_2 => ?_)
    · refine lv_goto (tgt := 677) hx hb d_LW_law_323 (by decide) ?_
      refine W.widen (k := 57 + 2 * (k + 1)) (n := 11694 + 12 * (k + 1)) (by omega) (by omega) ?_
      exact kont z9 (th9, most9, asked9, td9, tr9, v9, o9) f9 ls H locs hR9 (Nat.le_trans ht9 (by omega)) hP hD hS (lv_sub hl [2, 3, 4, 5, 6] rfl)
    · have hk0 : k9 = 0 := c_2
      refine lv_aload_n hx hb d_LW_law_312 rfl (lv_at hl 6 rfl) ?_
      refine lv_iconst (v := 0) hx hb d_LW_law_313 (by decide) ?_
      refine va_lald hx hb hK hP 56 1 rfl rfl (vp_in_nI (n := 0) (by decide) (by decide)) d_LW_law_314 ?_
      refine W.eq (g2 := F0 m 315 ls [.long (f9 0)]) rfl ?_
      refine lv_lload hx hb d_LW_law_315 (lv_at hl 0 rfl) ?_
      refine W.lcmp hx hb d_LW_law_317 ?_
      refine lv_if_eq (tgt := 323) hx hb d_LW_law_318 (by decide) (fun c_3 => ?_) (fun c_3 => ?_)
      · refine lv_goto (tgt := 677) hx hb d_LW_law_323 (by decide) ?_
        refine W.widen (k := 57 + 2 * (k + 1)) (n := 11694 + 12 * (k + 1)) (by omega) (by omega) ?_
        exact kont z9 (th9, most9, asked9, td9, tr9, v9, o9) f9 ls H locs hR9 (Nat.le_trans ht9 (by omega)) hP hD hS (lv_sub hl [2, 3, 4, 5, 6] rfl)
      · exact absurd ((lg_cmp_eq _ _).mpr (ev9 hk0)) c_3
  · exact absurd e9 c_1
