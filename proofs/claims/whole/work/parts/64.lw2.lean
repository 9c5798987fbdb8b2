set_option maxHeartbeats 4000000 in
set_option maxRecDepth 100000 in
/-- the law's cell -/
theorem c_LW_cell {l : Launch} {H : Heap} {b n : Nat} {xs : Nat → Int32} (hn : n ≤ 3076) (k : Nat) (hk : k < 2 ^ 31) : Met l y_LW_cell (k_LW_cell :: bw) { frames := 0, cells := 0, slots := 0, locals := 0 } (sP b n xs [.ref b, .int (nI k)] H) (zQi H (scell n xs k)) 0 0 (fun _ => False) := by
  refine Met.ofZ (own := "CoinTreeLaw") (by decide) rfl [.ref b, .int (nI k)] (Nat.le_of_ble_eq_true rfl) (fun _ _ h => h.1) ?_
  intro p e s m below meth c ls C0 hv hl
  obtain ⟨hx, hb, hr, hml, hown, hT, hlocks⟩ := C0
  obtain ⟨-, rfl, hX, hbl⟩ := hv
  have hS : va_S (fun _ => False) s.heap s.heap [] := va_S.rf
  have hl : lv_has ls 2 [(0, .ref b), (1, .int (nI k))] := hl
  refine lv_iload_n hx hb d_LW_cell_0 rfl (lv_at hl 1 rfl) ?_
  refine lv_aload_n hx hb d_LW_cell_1 rfl (lv_at hl 0 rfl) ?_
  refine va_slen hx hb hX hbl (fun h => h) hS d_LW_cell_2 ?_
  refine W.eq (g2 := F0 m 3 ls [.int (nI n), .int (nI k)]) rfl ?_
  refine lv_icmp_ge (tgt := 12) hx hb d_LW_cell_3 (by decide) (fun c_1 => ?_) (fun c_1 => ?_)
  · have c_1 := (nI_leI (a := n) (b := k) (by omega) (by omega)).mp c_1
    refine lv_iconst (v := 0) hx hb d_LW_cell_12 (by decide) ?_
    exact W.iret hx hb hr (fun t9 ht _ => zQi_end (by unfold scell; first | rw [if_pos (by omega)] | rw [if_neg (by omega)]) rfl ht) hS.2.2 d_LW_cell_13 hlocks
  · have c_1 := (not_congr (nI_leI (a := n) (b := k) (by omega) (by omega))).mp c_1
    refine lv_aload_n hx hb d_LW_cell_6 rfl (lv_at hl 0 rfl) ?_
    refine lv_iload_n hx hb d_LW_cell_7 rfl (lv_at hl 1 rfl) ?_
    refine va_sld hx hb hX hbl (fun h => h) hS (vp_in_nI (n := k) (by omega) (by omega)) d_LW_cell_8 ?_
    refine W.eq (g2 := F0 m 9 ls [.int (xs k)]) (by rw [nI_clamp (n := k) (by omega)]) ?_
    refine lv_goto (tgt := 13) hx hb d_LW_cell_9 (by decide) ?_
    exact W.iret hx hb hr (fun t9 ht _ => zQi_end (by unfold scell; first | rw [if_pos (by omega)] | rw [if_neg (by omega)]) rfl ht) hS.2.2 d_LW_cell_13 hlocks

set_option maxHeartbeats 8000000 in
set_option maxRecDepth 100000 in
/-- the law's read -/
theorem c_LW_read {l : Launch} (hl9 : l.stackTraces = false) {dC : Nat → ClassId} {dI : Nat → Nat → Nat} {cI cJ : ClassId} {A : Nat → Prop} {x ml q : Nat} {a0 a1 : Nat → Nat} {L M S C : Nat} {key : Int64} {z : Cs} {f : Nat → Int64} (ok0 : tr_ok L S C 64) (ok1 : tr_ok M S C 16) (ht0 : (ts_trail (cs_t0 z)).2 < 600) (ht1 : (ts_trail (cs_t1 z)).2 < 600) (b co mc : Int32) : vx_Met l y_LW_read (k_LW_read :: bw) { frames := 8, cells := 1, slots := 6, locals := 192 } (lP (dC, dI) kCl [(cI, .int), (cJ, .long)] [.ref x, .int b, .int co, .int mc, .ref q] (cw_ cI cJ x ml a0 a1 L M S C key z ++ [(q, .inl (cJ, 1, .inr (.inl f)))]) A) (lQi (dC, dI) kCl (fun u => cw_ cI cJ x ml a0 a1 L M S C key u.1 ++ [(q, .inl (cJ, 1, .inr (.inl u.2)))]) (fun k u => (k = 0 ∧ ∃ r, ak_ret L M S C z b false 0 co mc r u.1 ∧ u.2 = vp_updL f 0 r) ∨ (∃ E, ak_thr L M S C z b false 0 co mc E u.1 ∧ u.2 = f ∧ (E = xIO ∧ k = 1 ∨ E = xIA ∧ k = 2 ∨ E = xUO ∧ k = 3))) A) (fun _ _ _ => False) 1 6 A := by
  refine Met.ofL (own := "CoinTreeLaw") (by decide) rfl [.ref x, .int b, .int co, .int mc, .ref q] (Nat.le_of_ble_eq_true rfl) (fun _ _ h => h.1) ?_
  intro p e s m below meth c ls C0 htab hv hl
  obtain ⟨hx, hb, hr, hml, hown, hT, hlocks⟩ := C0
  obtain ⟨-, hP, hK, hD, xe, hA, hN⟩ := hv
  have hS : va_S A s.heap s.heap [] := va_S.rf
  have hl : lv_has ls 6 [(0, .ref x), (1, .int b), (2, .int co), (3, .int mc), (4, .ref q)] := hl
  refine lv_aload hx hb d_LW_read_0 (lv_at hl 4 rfl) ?_
  refine lv_iconst (v := 0) hx hb d_LW_read_2 (by decide) ?_
  refine lv_aload_n hx hb d_LW_read_3 rfl (lv_at hl 0 rfl) ?_
  refine lv_iload_n hx hb d_LW_read_4 rfl (lv_at hl 1 rfl) ?_
  refine lv_iload_n hx hb d_LW_read_5 rfl (lv_at hl 2 rfl) ?_
  refine lv_iload_n hx hb d_LW_read_6 rfl (lv_at hl 3 rfl) ?_
  have hPc := hP.sub (ws' := cw_ cI cJ x ml a0 a1 L M S C key z) [0, 1, 2, 3, 4, 5, 6, 7, 8, 9, 10, 11, 12, 13, 14, 15, 16, 17, 18, 19, 20, 21, 22, 23, 24, 25, 26, 27, 28, 29, 30, 31, 32, 33, 34, 35] rfl
  have hDc := (hD.sub (ws' := cw_ cI cJ x ml a0 a1 L M S C key z) [0, 1, 2, 3, 4, 5, 6, 7, 8, 9, 10, 11, 12, 13, 14, 15, 16, 17, 18, 19, 20, 21, 22, 23, 24, 25, 26, 27, 28, 29, 30, 31, 32, 33, 34, 35] (by decide) rfl).self (sz := s.heap.size)
  have hFc := va_free (wc := cw_ cI cJ x ml a0 a1 L M S C key z) hD hS hA [0, 1, 2, 3, 4, 5, 6, 7, 8, 9, 10, 11, 12, 13, 14, 15, 16, 17, 18, 19, 20, 21, 22, 23, 24, 25, 26, 27, 28, 29, 30, 31, 32, 33, 34, 35] rfl
  refine vx_calll (vx_runV (As := [.int b, .int co, .int mc]) (rest := [.int 0, .ref q]) ⟨hx, hb, hml, hown, hT⟩ (c_CT_read hl9 (A := va_A (cw_ cI cJ x ml a0 a1 L M S C key z) s.heap.size) ok0 ok1 ht0 ht1 b co mc) (cwV 3 hT (gi_V m_179 m_176 m_177 m_178 m_22) rfl rfl rfl p_CT_read ⟨Nat.le_of_ble_eq_true rfl, Nat.le_of_ble_eq_true rfl⟩) ⟨yP_blind, va_recv hK hP (ci := 3) (q0 := 0) rfl rfl, yP_pre hK hPc hDc (xe.narrow hFc) (fun q h => Or.inr h)⟩ rfl rfl hl.1 rfl (lv_room (Nat.le_of_ble_eq_true rfl)) d_LW_read_7 ⟨by decide, by decide⟩) hS (fun q _ h => hFc q h) hFc (fun q _ h => hFc q h) (fun E ce q9 u t H1 locs1 ht hvm _ hB hz hk hS hcell hcv hcl => ?_) (fun r u t H1 locs1 ht hvm hret hB hz hk hS => ?_)
  · obtain ⟨hthr, hP1, hD1⟩ := hB
    rw [ht] at hP1
    obtain ⟨hP2, hD2⟩ := va_join (wr := [(q, .inl (cJ, 1, .inr (.inl f)))]) (w1 := cw_ cI cJ x ml a0 a1 L M S C key u) hP hD [0, 1, 2, 3, 4, 5, 6, 7, 8, 9, 10, 11, 12, 13, 14, 15, 16, 17, 18, 19, 20, 21, 22, 23, 24, 25, 26, 27, 28, 29, 30, 31, 32, 33, 34, 35] [36] rfl rfl (by decide) (by decide) hk hFc hP1 hD1
    have hP := hP2.sub (ws' := cw_ cI cJ x ml a0 a1 L M S C key u ++ [(q, .inl (cJ, 1, .inr (.inl f)))]) [1, 2, 3, 4, 5, 6, 7, 8, 9, 10, 11, 12, 13, 14, 15, 16, 17, 18, 19, 20, 21, 22, 23, 24, 25, 26, 27, 28, 29, 30, 31, 32, 33, 34, 35, 36, 0] rfl
    have hD := hD2.sub (ws' := cw_ cI cJ x ml a0 a1 L M S C key u ++ [(q, .inl (cJ, 1, .inr (.inl f)))]) [1, 2, 3, 4, 5, 6, 7, 8, 9, 10, 11, 12, 13, 14, 15, 16, 17, 18, 19, 20, 21, 22, 23, 24, 25, 26, 27, 28, 29, 30, 31, 32, 33, 34, 35, 36, 0] (by decide) rfl
    rcases ak_thr_E hthr with e9 | e9 | e9
    · subst e9
      refine vx_catch (own := "CoinTreeLaw") (name := xIO) hown [] ⟨0, 11, 14, 13⟩ [⟨0, 11, 18, 15⟩, ⟨0, 11, 22, 17⟩] (htab.trans rfl) (fun z hz => by cases hz) (by decide) (by decide) (hT _ m_173) (va_Nw.use (by decide +kernel) (xe.2.2.1 _ (by simp [xB]))) hcell hcv hcl ?_
      refine lv_astore (lv' := [(5, .ref q9), (0, .ref x), (1, .int b), (2, .int co), (3, .int mc), (4, .ref q)]) hx hb d_LW_read_14 hl (by decide) rfl (fun ls hl => ?_)
      refine lv_iconst (v := 1) hx hb d_LW_read_16 (by decide) ?_
      refine vx_ret ?_
      refine W.widen (k := 1) (n := 6) (by decide) (by decide) ?_
      exact W.iret hx hb hr (fun t9 ht9 _ => lQi_end ((u, f)) (Or.inr ⟨xIO, hthr, rfl, Or.inl ⟨rfl, rfl⟩⟩) rfl hP hD hS ht9) hS.2.2 d_LW_read_17 hlocks
    · subst e9
      refine vx_catch (own := "CoinTreeLaw") (name := xIA) hown [⟨0, 11, 14, 13⟩] ⟨0, 11, 18, 15⟩ [⟨0, 11, 22, 17⟩] (htab.trans rfl) (fun z hz => by
          rcases List.mem_cons.mp hz with h | hz
          · subst h; exact Or.inr ⟨by decide, _, hT _ m_173, hN.1⟩
          · cases hz) (by decide) (by decide) (hT _ m_174) (va_Nw.use (by decide +kernel) (xe.2.2.1 _ (by simp [xB]))) hcell hcv hcl ?_
      refine lv_astore (lv' := [(5, .ref q9), (0, .ref x), (1, .int b), (2, .int co), (3, .int mc), (4, .ref q)]) hx hb d_LW_read_18 hl (by decide) rfl (fun ls hl => ?_)
      refine lv_iconst (v := 2) hx hb d_LW_read_20 (by decide) ?_
      refine vx_ret ?_
      refine W.widen (k := 1) (n := 6) (by decide) (by decide) ?_
      exact W.iret hx hb hr (fun t9 ht9 _ => lQi_end ((u, f)) (Or.inr ⟨xIA, hthr, rfl, Or.inr (Or.inl ⟨rfl, rfl⟩)⟩) rfl hP hD hS ht9) hS.2.2 d_LW_read_21 hlocks
    · subst e9
      refine vx_catch (own := "CoinTreeLaw") (name := xUO) hown [⟨0, 11, 14, 13⟩, ⟨0, 11, 18, 15⟩] ⟨0, 11, 22, 17⟩ [] (htab.trans rfl) (fun z hz => by
          rcases List.mem_cons.mp hz with h | hz
          · subst h; exact Or.inr ⟨by decide, _, hT _ m_173, hN.2.1⟩
          · rcases List.mem_cons.mp hz with h | hz
            · subst h; exact Or.inr ⟨by decide, _, hT _ m_174, hN.2.2⟩
            · cases hz) (by decide) (by decide) (hT _ m_175) (va_Nw.use (by decide +kernel) (xe.2.2.1 _ (by simp [xB]))) hcell hcv hcl ?_
      refine lv_astore (lv' := [(5, .ref q9), (0, .ref x), (1, .int b), (2, .int co), (3, .int mc), (4, .ref q)]) hx hb d_LW_read_22 hl (by decide) rfl (fun ls hl => ?_)
      refine lv_iconst (v := 3) hx hb d_LW_read_24 (by decide) ?_
      refine vx_ret ?_
      refine W.widen (k := 1) (n := 6) (by decide) (by decide) ?_
      exact W.iret hx hb hr (fun t9 ht9 _ => lQi_end ((u, f)) (Or.inr ⟨xUO, hthr, rfl, Or.inr (Or.inr ⟨rfl, rfl⟩)⟩) rfl hP hD hS ht9) hS.2.2 d_LW_read_25 hlocks
  · obtain ⟨hP1, hD1⟩ := hB
    rw [ht] at hP1
    obtain ⟨hP2, hD2⟩ := va_join (wr := [(q, .inl (cJ, 1, .inr (.inl f)))]) (w1 := cw_ cI cJ x ml a0 a1 L M S C key u) hP hD [0, 1, 2, 3, 4, 5, 6, 7, 8, 9, 10, 11, 12, 13, 14, 15, 16, 17, 18, 19, 20, 21, 22, 23, 24, 25, 26, 27, 28, 29, 30, 31, 32, 33, 34, 35] [36] rfl rfl (by decide) (by decide) hk hFc hP1 hD1
    have hP := hP2.sub (ws' := cw_ cI cJ x ml a0 a1 L M S C key u ++ [(q, .inl (cJ, 1, .inr (.inl f)))]) [1, 2, 3, 4, 5, 6, 7, 8, 9, 10, 11, 12, 13, 14, 15, 16, 17, 18, 19, 20, 21, 22, 23, 24, 25, 26, 27, 28, 29, 30, 31, 32, 33, 34, 35, 36, 0] rfl
    have hD := hD2.sub (ws' := cw_ cI cJ x ml a0 a1 L M S C key u ++ [(q, .inl (cJ, 1, .inr (.inl f)))]) [1, 2, 3, 4, 5, 6, 7, 8, 9, 10, 11, 12, 13, 14, 15, 16, 17, 18, 19, 20, 21, 22, 23, 24, 25, 26, 27, 28, 29, 30, 31, 32, 33, 34, 35, 36, 0] (by decide) rfl
    refine va_last hx hb hK hP hD hS 36 1 rfl rfl (vp_in_nI (n := 0) (by decide) (by decide)) d_LW_read_10 (fun H locs hP hD hS => ?_)
    have hP : va_P (dC, dI) kCl (cw_ cI cJ x ml a0 a1 L M S C key u ++ [(q, .inl (cJ, 1, .inr (.inl (vp_updL f 0 r))))]) H := hP
    have hD : va_D A (cw_ cI cJ x ml a0 a1 L M S C key u ++ [(q, .inl (cJ, 1, .inr (.inl (vp_updL f 0 r))))]) := hD
    refine lv_goto (tgt := 26) hx hb d_LW_read_11 (by decide) ?_
    refine lv_iconst (v := 0) hx hb d_LW_read_26 (by decide) ?_
    refine vx_ret ?_
    refine W.widen (k := 1) (n := 6) (by decide) (by decide) ?_
    exact W.iret hx hb hr (fun t9 ht9 _ => lQi_end ((u, vp_updL f 0 r)) (Or.inl ⟨rfl, r, hret, rfl⟩) rfl hP hD hS ht9) hS.2.2 d_LW_read_27 hlocks

set_option maxHeartbeats 8000000 in
set_option maxRecDepth 100000 in
/-- the law's write -/
theorem c_LW_write {l : Launch} (hl9 : l.stackTraces = false) {dC : Nat → ClassId} {dI : Nat → Nat → Nat} {cI cJ : ClassId} {A : Nat → Prop} {x ml q : Nat} {a0 a1 : Nat → Nat} {L M S C : Nat} {key : Int64} {z : Cs} {f : Nat → Int64} (ok0 : tr_ok L S C 64) (ok1 : tr_ok M S C 16) (ht0 : (ts_trail (cs_t0 z)).2 < 600) (ht1 : (ts_trail (cs_t1 z)).2 < 600) (b : Int32) (nv : Int64) (co mc : Int32) : vx_Met l y_LW_write (k_LW_write :: bw) { frames := 8, cells := 1, slots := 6, locals := 194 } (lP (dC, dI) kCl [(cI, .int), (cJ, .long)] [.ref x, .int b, .long nv, .int co, .int mc, .ref q] (cw_ cI cJ x ml a0 a1 L M S C key z ++ [(q, .inl (cJ, 1, .inr (.inl f)))]) A) (lQi (dC, dI) kCl (fun u => cw_ cI cJ x ml a0 a1 L M S C key u.1 ++ [(q, .inl (cJ, 1, .inr (.inl u.2)))]) (fun k u => (k = 0 ∧ ∃ r, ak_ret L M S C z b true nv co mc r u.1 ∧ u.2 = vp_updL f 0 r) ∨ (∃ E, ak_thr L M S C z b true nv co mc E u.1 ∧ u.2 = f ∧ (E = xIO ∧ k = 1 ∨ E = xIA ∧ k = 2 ∨ E = xUO ∧ k = 3))) A) (fun _ _ _ => False) 1 6 A := by
  refine Met.ofL (own := "CoinTreeLaw") (by decide) rfl [.ref x, .int b, .long nv, .int co, .int mc, .ref q] (Nat.le_of_ble_eq_true rfl) (fun _ _ h => h.1) ?_
  intro p e s m below meth c ls C0 htab hv hl
  obtain ⟨hx, hb, hr, hml, hown, hT, hlocks⟩ := C0
  obtain ⟨-, hP, hK, hD, xe, hA, hN⟩ := hv
  have hS : va_S A s.heap s.heap [] := va_S.rf
  have hl : lv_has ls 8 [(0, .ref x), (1, .int b), (2, .long nv), (4, .int co), (5, .int mc), (6, .ref q)] := hl
  refine lv_aload hx hb d_LW_write_0 (lv_at hl 5 rfl) ?_
  refine lv_iconst (v := 0) hx hb d_LW_write_2 (by decide) ?_
  refine lv_aload_n hx hb d_LW_write_3 rfl (lv_at hl 0 rfl) ?_
  refine lv_iload_n hx hb d_LW_write_4 rfl (lv_at hl 1 rfl) ?_
  refine lv_lload_n hx hb d_LW_write_5 rfl (lv_at hl 2 rfl) ?_
  refine lv_iload hx hb d_LW_write_6 (lv_at hl 3 rfl) ?_
  refine lv_iload hx hb d_LW_write_8 (lv_at hl 4 rfl) ?_
  have hPc := hP.sub (ws' := cw_ cI cJ x ml a0 a1 L M S C key z) [0, 1, 2, 3, 4, 5, 6, 7, 8, 9, 10, 11, 12, 13, 14, 15, 16, 17, 18, 19, 20, 21, 22, 23, 24, 25, 26, 27, 28, 29, 30, 31, 32, 33, 34, 35] rfl
  have hDc := (hD.sub (ws' := cw_ cI cJ x ml a0 a1 L M S C key z) [0, 1, 2, 3, 4, 5, 6, 7, 8, 9, 10, 11, 12, 13, 14, 15, 16, 17, 18, 19, 20, 21, 22, 23, 24, 25, 26, 27, 28, 29, 30, 31, 32, 33, 34, 35] (by decide) rfl).self (sz := s.heap.size)
  have hFc := va_free (wc := cw_ cI cJ x ml a0 a1 L M S C key z) hD hS hA [0, 1, 2, 3, 4, 5, 6, 7, 8, 9, 10, 11, 12, 13, 14, 15, 16, 17, 18, 19, 20, 21, 22, 23, 24, 25, 26, 27, 28, 29, 30, 31, 32, 33, 34, 35] rfl
  refine vx_calll (vx_runV (As := [.int b, .long nv, .int co, .int mc]) (rest := [.int 0, .ref q]) ⟨hx, hb, hml, hown, hT⟩ (c_CT_write hl9 (A := va_A (cw_ cI cJ x ml a0 a1 L M S C key z) s.heap.size) ok0 ok1 ht0 ht1 b nv co mc) (cwV 4 hT (gi_V m_389 m_386 m_387 m_388 m_22) rfl rfl rfl p_CT_write ⟨Nat.le_of_ble_eq_true rfl, Nat.le_of_ble_eq_true rfl⟩) ⟨yP_blind, va_recv hK hP (ci := 3) (q0 := 0) rfl rfl, yP_pre hK hPc hDc (xe.narrow hFc) (fun q h => Or.inr h)⟩ rfl rfl hl.1 rfl (lv_room (Nat.le_of_ble_eq_true rfl)) d_LW_write_10 ⟨by decide, by decide⟩) hS (fun q _ h => hFc q h) hFc (fun q _ h => hFc q h) (fun E ce q9 u t H1 locs1 ht hvm _ hB hz hk hS hcell hcv hcl => ?_) (fun r u t H1 locs1 ht hvm hret hB hz hk hS => ?_)
  · obtain ⟨hthr, hP1, hD1⟩ := hB
    rw [ht] at hP1
    obtain ⟨hP2, hD2⟩ := va_join (wr := [(q, .inl (cJ, 1, .inr (.inl f)))]) (w1 := cw_ cI cJ x ml a0 a1 L M S C key u) hP hD [0, 1, 2, 3, 4, 5, 6, 7, 8, 9, 10, 11, 12, 13, 14, 15, 16, 17, 18, 19, 20, 21, 22, 23, 24, 25, 26, 27, 28, 29, 30, 31, 32, 33, 34, 35] [36] rfl rfl (by decide) (by decide) hk hFc hP1 hD1
    have hP := hP2.sub (ws' := cw_ cI cJ x ml a0 a1 L M S C key u ++ [(q, .inl (cJ, 1, .inr (.inl f)))]) [1, 2, 3, 4, 5, 6, 7, 8, 9, 10, 11, 12, 13, 14, 15, 16, 17, 18, 19, 20, 21, 22, 23, 24, 25, 26, 27, 28, 29, 30, 31, 32, 33, 34, 35, 36, 0] rfl
    have hD := hD2.sub (ws' := cw_ cI cJ x ml a0 a1 L M S C key u ++ [(q, .inl (cJ, 1, .inr (.inl f)))]) [1, 2, 3, 4, 5, 6, 7, 8, 9, 10, 11, 12, 13, 14, 15, 16, 17, 18, 19, 20, 21, 22, 23, 24, 25, 26, 27, 28, 29, 30, 31, 32, 33, 34, 35, 36, 0] (by decide) rfl
    rcases ak_thr_E hthr with e9 | e9 | e9
    · subst e9
      refine vx_catch (own := "CoinTreeLaw") (name := xIO) hown [] ⟨0, 14, 17, 13⟩ [⟨0, 14, 21, 15⟩, ⟨0, 14, 25, 17⟩] (htab.trans rfl) (fun z hz => by cases hz) (by decide) (by decide) (hT _ m_173) (va_Nw.use (by decide +kernel) (xe.2.2.1 _ (by simp [xB]))) hcell hcv hcl ?_
      refine lv_astore (lv' := [(7, .ref q9), (0, .ref x), (1, .int b), (2, .long nv), (4, .int co), (5, .int mc), (6, .ref q)]) hx hb d_LW_write_17 hl (by decide) rfl (fun ls hl => ?_)
      refine lv_iconst (v := 1) hx hb d_LW_write_19 (by decide) ?_
      refine vx_ret ?_
      refine W.widen (k := 1) (n := 6) (by decide) (by decide) ?_
      exact W.iret hx hb hr (fun t9 ht9 _ => lQi_end ((u, f)) (Or.inr ⟨xIO, hthr, rfl, Or.inl ⟨rfl, rfl⟩⟩) rfl hP hD hS ht9) hS.2.2 d_LW_write_20 hlocks
    · subst e9
      refine vx_catch (own := "CoinTreeLaw") (name := xIA) hown [⟨0, 14, 17, 13⟩] ⟨0, 14, 21, 15⟩ [⟨0, 14, 25, 17⟩] (htab.trans rfl) (fun z hz => by
          rcases List.mem_cons.mp hz with h | hz
          · subst h; exact Or.inr ⟨by decide, _, hT _ m_173, hN.1⟩
          · cases hz) (by decide) (by decide) (hT _ m_174) (va_Nw.use (by decide +kernel) (xe.2.2.1 _ (by simp [xB]))) hcell hcv hcl ?_
      refine lv_astore (lv' := [(7, .ref q9), (0, .ref x), (1, .int b), (2, .long nv), (4, .int co), (5, .int mc), (6, .ref q)]) hx hb d_LW_write_21 hl (by decide) rfl (fun ls hl => ?_)
      refine lv_iconst (v := 2) hx hb d_LW_write_23 (by decide) ?_
      refine vx_ret ?_
      refine W.widen (k := 1) (n := 6) (by decide) (by decide) ?_
      exact W.iret hx hb hr (fun t9 ht9 _ => lQi_end ((u, f)) (Or.inr ⟨xIA, hthr, rfl, Or.inr (Or.inl ⟨rfl, rfl⟩)⟩) rfl hP hD hS ht9) hS.2.2 d_LW_write_24 hlocks
    · subst e9
      refine vx_catch (own := "CoinTreeLaw") (name := xUO) hown [⟨0, 14, 17, 13⟩, ⟨0, 14, 21, 15⟩] ⟨0, 14, 25, 17⟩ [] (htab.trans rfl) (fun z hz => by
          rcases List.mem_cons.mp hz with h | hz
          · subst h; exact Or.inr ⟨by decide, _, hT _ m_173, hN.2.1⟩
          · rcases List.mem_cons.mp hz with h | hz
            · subst h; exact Or.inr ⟨by decide, _, hT _ m_174, hN.2.2⟩
            · cases hz) (by decide) (by decide) (hT _ m_175) (va_Nw.use (by decide +kernel) (xe.2.2.1 _ (by simp [xB]))) hcell hcv hcl ?_
      refine lv_astore (lv' := [(7, .ref q9), (0, .ref x), (1, .int b), (2, .long nv), (4, .int co), (5, .int mc), (6, .ref q)]) hx hb d_LW_write_25 hl (by decide) rfl (fun ls hl => ?_)
      refine lv_iconst (v := 3) hx hb d_LW_write_27 (by decide) ?_
      refine vx_ret ?_
      refine W.widen (k := 1) (n := 6) (by decide) (by decide) ?_
      exact W.iret hx hb hr (fun t9 ht9 _ => lQi_end ((u, f)) (Or.inr ⟨xUO, hthr, rfl, Or.inr (Or.inr ⟨rfl, rfl⟩)⟩) rfl hP hD hS ht9) hS.2.2 d_LW_write_28 hlocks
  · obtain ⟨hP1, hD1⟩ := hB
    rw [ht] at hP1
    obtain ⟨hP2, hD2⟩ := va_join (wr := [(q, .inl (cJ, 1, .inr (.inl f)))]) (w1 := cw_ cI cJ x ml a0 a1 L M S C key u) hP hD [0, 1, 2, 3, 4, 5, 6, 7, 8, 9, 10, 11, 12, 13, 14, 15, 16, 17, 18, 19, 20, 21, 22, 23, 24, 25, 26, 27, 28, 29, 30, 31, 32, 33, 34, 35] [36] rfl rfl (by decide) (by decide) hk hFc hP1 hD1
    have hP := hP2.sub (ws' := cw_ cI cJ x ml a0 a1 L M S C key u ++ [(q, .inl (cJ, 1, .inr (.inl f)))]) [1, 2, 3, 4, 5, 6, 7, 8, 9, 10, 11, 12, 13, 14, 15, 16, 17, 18, 19, 20, 21, 22, 23, 24, 25, 26, 27, 28, 29, 30, 31, 32, 33, 34, 35, 36, 0] rfl
    have hD := hD2.sub (ws' := cw_ cI cJ x ml a0 a1 L M S C key u ++ [(q, .inl (cJ, 1, .inr (.inl f)))]) [1, 2, 3, 4, 5, 6, 7, 8, 9, 10, 11, 12, 13, 14, 15, 16, 17, 18, 19, 20, 21, 22, 23, 24, 25, 26, 27, 28, 29, 30, 31, 32, 33, 34, 35, 36, 0] (by decide) rfl
    refine va_last hx hb hK hP hD hS 36 1 rfl rfl (vp_in_nI (n := 0) (by decide) (by decide)) d_LW_write_13 (fun H locs hP hD hS => ?_)
    have hP : va_P (dC, dI) kCl (cw_ cI cJ x ml a0 a1 L M S C key u ++ [(q, .inl (cJ, 1, .inr (.inl (vp_updL f 0 r))))]) H := hP
    have hD : va_D A (cw_ cI cJ x ml a0 a1 L M S C key u ++ [(q, .inl (cJ, 1, .inr (.inl (vp_updL f 0 r))))]) := hD
    refine lv_goto (tgt := 29) hx hb d_LW_write_14 (by decide) ?_
    refine lv_iconst (v := 0) hx hb d_LW_write_29 (by decide) ?_
    refine vx_ret ?_
    refine W.widen (k := 1) (n := 6) (by decide) (by decide) ?_
    exact W.iret hx hb hr (fun t9 ht9 _ => lQi_end ((u, vp_updL f 0 r)) (Or.inl ⟨rfl, r, hret, rfl⟩) rfl hP hD hS ht9) hS.2.2 d_LW_write_30 hlocks
