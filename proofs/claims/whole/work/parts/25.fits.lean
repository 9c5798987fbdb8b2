set_option maxHeartbeats 4000000 in
set_option maxRecDepth 100000 in
/-- Tree.fits -/
theorem c_TR_fits {l : Launch} {dC : Nat → ClassId} {dI : Nat → Nat → Nat} {cI cJ : ClassId} {A : Nat → Prop} {ad : Nat → Nat} {L S C B : Nat} {t : Ts} (ok : tr_ok L S C B) : Met l y_TR_fits (k_TR_fits :: bw) { frames := 3, cells := 0, slots := 0, locals := 66 } (mP (dC, dI) kCl [(cI, .int), (cJ, .long)] [.ref (ad 0)] (tw_ cI cJ ad L S C B (ts_mk (ts_nodes t) (ts_cnts t) (ts_stash t) (ts_trail t) (ts_plan t) (ts_tgt t) (ts_way t) (ts_sought t))) A) (mQi (dC, dI) kCl (b2i (decide ((tr_fit L S B t).2 ≤ nI C))) (tw_ cI cJ ad L S C B (tr_fits L S B t)) A) 0 0 A := by
  refine Met.ofZ (own := "CoinTree$Tree") (by decide) rfl [.ref (ad 0)] (Nat.le_of_ble_eq_true rfl) (fun _ _ h => h.1) ?_
  intro p e s m below meth c ls C0 hv hl
  obtain ⟨hx, hb, hr, hml, hown, hT, hlocks⟩ := C0
  obtain ⟨-, hP, hK, hD⟩ := hv
  have hS : va_S A s.heap s.heap [] := va_S.rf
  have hl : lv_has ls 3 [(0, .ref (ad 0))] := hl
  refine lv_aload_n hx hb d_TR_fits_0 rfl (lv_at hl 0 rfl) ?_
  refine va_get (D := (dC, dI)) (ci := 2) (v := .ref (ad 12)) (C := R_TR) (T := F_TR) (N := 12) hx hb hT i_TR hown hK hP 0 rfl rfl 8 (by decide) (hT _ m_109) (fun _ h9 => h9) rfl d_TR_fits_1 ?_
  refine va_get (D := (dC, dI)) (ci := 0) (v := .int (ts_plan t).2.2.2) (C := R_RW) (T := F_RW) (N := 4) hx hb hT i_RW hown hK hP 12 rfl rfl 3 (by decide) (hT _ m_85) (fun _ h9 => h9) rfl d_TR_fits_4 ?_
  refine lv_istore_n (lv' := [(1, .int (ts_plan t).2.2.2), (0, .ref (ad 0))]) hx hb d_TR_fits_7 rfl hl (by decide) rfl (fun ls hl => ?_)
  refine lv_iconst (v := 0) hx hb d_TR_fits_8 (by decide) ?_
  refine lv_istore_n (lv' := [(2, .int 0), (1, .int (ts_plan t).2.2.2), (0, .ref (ad 0))]) hx hb d_TR_fits_9 rfl hl (by decide) rfl (fun ls hl => ?_)
  have lp : ∀ (N k : Nat) (ls : Array Slot) (H : Heap) (locs : List Loc), (rw_cnt B (ts_plan t).2.2.2) - k < N → k ≤ (rw_cnt B (ts_plan t).2.2.2) → va_P (dC, dI) kCl (tw_ cI cJ ad L S C B (ts_mk (ts_nodes t) (ts_cnts t) (ts_stash t) (ts_trail t) (ts_plan t) (lp_ tr_f0f k (ts_tgt t)) (ts_way t) (ts_sought t))) H → va_D A (tw_ cI cJ ad L S C B (ts_mk (ts_nodes t) (ts_cnts t) (ts_stash t) (ts_trail t) (ts_plan t) (lp_ tr_f0f k (ts_tgt t)) (ts_way t) (ts_sought t))) → va_S A s.heap H locs → lv_has ls 3 [(2, .int (nI k)), (1, .int (ts_plan t).2.2.2), (0, .ref (ad 0))] → W p l e ({ frames := 3, cells := 0, slots := 0, locals := 66 } : Room) s m ([.ref (ad 0)] : List Value).toArray below meth c H locs 0 0 (MQ below (mQi (dC, dI) kCl (b2i (decide ((tr_fit L S B t).2 ≤ nI C))) (tw_ cI cJ ad L S C B (tr_fits L S B t)) A) ([.ref (ad 0)] : List Value).toArray s 0 0 A) (F0 m 10 ls []) := by
    intro N
    induction N with
    | zero => intro k ls H locs hN; omega
    | succ N ih =>
      intro k ls H locs hN hk hP hD hS hl
      refine lv_iload_n hx hb d_TR_fits_10 rfl (lv_at hl 0 rfl) ?_
      refine lv_aload_n hx hb d_TR_fits_11 rfl (lv_at hl 2 rfl) ?_
      refine va_get (D := (dC, dI)) (ci := 2) (v := .ref (ad 12)) (C := R_TR) (T := F_TR) (N := 12) hx hb hT i_TR hown hK hP 0 rfl rfl 8 (by decide) (hT _ m_109) (fun _ h9 => h9) rfl d_TR_fits_12 ?_
      refine va_get (D := (dC, dI)) (ci := 0) (v := .int (ts_plan t).2.2.2) (C := R_RW) (T := F_RW) (N := 4) hx hb hT i_RW hown hK hP 12 rfl rfl 3 (by decide) (hT _ m_85) (fun _ h9 => h9) rfl d_TR_fits_15 ?_
      refine lv_icmp_ge (tgt := 43) hx hb d_TR_fits_18 (by decide) (fun c_1 => ?_) (fun c_1 => ?_)
      · have hkN : k = (rw_cnt B (ts_plan t).2.2.2) := Nat.le_antisymm hk (rw_c1 (tr_B_lt ok) hk c_1)
        subst hkN
        refine lv_aload_n hx hb d_TR_fits_43 rfl (lv_at hl 2 rfl) ?_
        refine va_get (D := (dC, dI)) (ci := 2) (v := .int (nI L)) (C := R_TR) (T := F_TR) (N := 12) hx hb hT i_TR hown hK hP 0 rfl rfl 0 (by decide) (hT _ m_98) (fun _ h9 => h9) rfl d_TR_fits_44 ?_
        refine lv_istore_n (lv' := [(2, .int (nI L)), (1, .int (ts_plan t).2.2.2), (0, .ref (ad 0))]) hx hb d_TR_fits_47 rfl hl (by decide) rfl (fun ls hl => ?_)
        have lp : ∀ (N k : Nat) (ls : Array Slot) (H : Heap) (locs : List Loc), (L + 1) - k < N → k ≤ (L + 1) → va_P (dC, dI) kCl (tw_ cI cJ ad L S C B (ts_mk (ts_nodes t) (ts_cnts t) (ts_stash t) (ts_trail t) (ts_plan t) ((lp_ (tr_f1f L S B (ts_plan t) (ts_way t)) k (tr_f0 B (ts_plan t) (ts_tgt t), (ts_plan t).2.2.2)).1) (ts_way t) (ts_sought t))) H → va_D A (tw_ cI cJ ad L S C B (ts_mk (ts_nodes t) (ts_cnts t) (ts_stash t) (ts_trail t) (ts_plan t) ((lp_ (tr_f1f L S B (ts_plan t) (ts_way t)) k (tr_f0 B (ts_plan t) (ts_tgt t), (ts_plan t).2.2.2)).1) (ts_way t) (ts_sought t))) → va_S A s.heap H locs → lv_has ls 3 [(2, .int (nI L - nI k)), (1, .int (lp_ (tr_f1f L S B (ts_plan t) (ts_way t)) k (tr_f0 B (ts_plan t) (ts_tgt t), (ts_plan t).2.2.2)).2), (0, .ref (ad 0))] → W p l e ({ frames := 3, cells := 0, slots := 0, locals := 66 } : Room) s m ([.ref (ad 0)] : List Value).toArray below meth c H locs 0 0 (MQ below (mQi (dC, dI) kCl (b2i (decide ((tr_fit L S B t).2 ≤ nI C))) (tw_ cI cJ ad L S C B (tr_fits L S B t)) A) ([.ref (ad 0)] : List Value).toArray s 0 0 A) (F0 m 48 ls []) := by
          intro N
          induction N with
          | zero => intro k ls H locs hN; omega
          | succ N ih =>
            intro k ls H locs hN hk hP hD hS hl
            refine lv_iload_n hx hb d_TR_fits_48 rfl (lv_at hl 0 rfl) ?_
            refine lv_if_lt (tgt := 75) hx hb d_TR_fits_49 (by decide) (fun c_2 => ?_) (fun c_2 => ?_)
            · have hkL : k = L + 1 := Nat.le_antisymm hk (Nat.lt_of_not_le fun h9 => absurd c_2 (by rw [pk_sub h9]; exact nI_pos (by have := ok.2.1; omega)))
              subst hkL
              refine lv_iload_n hx hb d_TR_fits_75 rfl (lv_at hl 1 rfl) ?_
              refine lv_aload_n hx hb d_TR_fits_76 rfl (lv_at hl 2 rfl) ?_
              refine va_get (D := (dC, dI)) (ci := 2) (v := .int (nI C)) (C := R_TR) (T := F_TR) (N := 12) hx hb hT i_TR hown hK hP 0 rfl rfl 3 (by decide) (hT _ m_102) (fun _ h9 => h9) rfl d_TR_fits_77 ?_
              refine lv_icmp_gt (tgt := 87) hx hb d_TR_fits_80 (by decide) (fun c_3 => ?_) (fun c_3 => ?_)
              · refine lv_iconst (v := 0) hx hb d_TR_fits_87 (by decide) ?_
                exact W.zret (ty := .boolean) hx hb hr nar_0 (fun t9 ht _ => mQi_end (by first | exact b2i_t (decide_eq_true (Int32.not_lt.mp (by assumption))) | exact b2i_f (decide_eq_false (Int32.not_le.mpr (by assumption)))) (rfl) hP hD hS ht) hS.2.2 d_TR_fits_88 hlocks
              · refine lv_iconst (v := 1) hx hb d_TR_fits_83 (by decide) ?_
                refine lv_goto (tgt := 88) hx hb d_TR_fits_84 (by decide) ?_
                exact W.zret (ty := .boolean) hx hb hr nar_1 (fun t9 ht _ => mQi_end (by first | exact b2i_t (decide_eq_true (Int32.not_lt.mp (by assumption))) | exact b2i_f (decide_eq_false (Int32.not_le.mpr (by assumption)))) (rfl) hP hD hS ht) hS.2.2 d_TR_fits_88 hlocks
            · have hlt : k ≤ L := Nat.le_of_not_lt fun h9 => c_2 (by rw [Nat.le_antisymm hk h9]; exact fl_neg L)
              rw [pk_sub hlt] at hl
              refine lv_iload_n hx hb d_TR_fits_52 rfl (lv_at hl 1 rfl) ?_
              refine lv_aload_n hx hb d_TR_fits_53 rfl (lv_at hl 2 rfl) ?_
              refine lv_aload_n hx hb d_TR_fits_54 rfl (lv_at hl 2 rfl) ?_
              refine lv_aload_n hx hb d_TR_fits_55 rfl (lv_at hl 2 rfl) ?_
              refine va_get (D := (dC, dI)) (ci := 2) (v := .int (ts_way t)) (C := R_TR) (T := F_TR) (N := 12) hx hb hT i_TR hown hK hP 0 rfl rfl 10 (by decide) (hT _ m_111) (fun _ h9 => h9) rfl d_TR_fits_56 ?_
              refine lv_iload_n hx hb d_TR_fits_59 rfl (lv_at hl 0 rfl) ?_
              refine zc_i (va_runV (As := [.int (ts_way t), .int (nI (L - k))]) (rest := [.ref (ad 0), .int (lp_ (tr_f1f L S B (ts_plan t) (ts_way t)) k (tr_f0 B (ts_plan t) (ts_tgt t), (ts_plan t).2.2.2)).2]) ⟨hx, hb, hml, hown, hT⟩ (c_TR_nodeOnWay (t := ts_mk (ts_nodes t) (ts_cnts t) (ts_stash t) (ts_trail t) (ts_plan t) ((lp_ (tr_f1f L S B (ts_plan t) (ts_way t)) k (tr_f0 B (ts_plan t) (ts_tgt t), (ts_plan t).2.2.2)).1) (ts_way t) (ts_sought t)) ok hP (ts_way t) (nI (L - k))) (cwV 2 hT (gi_V m_307 m_304 m_306 m_3 m_24) rfl rfl rfl p_TR_nodeOnWay ⟨Nat.le_of_ble_eq_true rfl, Nat.le_of_ble_eq_true rfl⟩) ⟨zP_blind, va_recv hK hP (ci := 2) (q0 := 0) rfl rfl, zP_pre hK⟩ rfl rfl hl.1 rfl (lv_room (Nat.le_of_ble_eq_true rfl)) d_TR_fits_60 ⟨Nat.le_refl _, Nat.le_refl _⟩) hS (fun locs hS => ?_)
              refine lv_iload_n hx hb d_TR_fits_63 rfl (lv_at hl 0 rfl) ?_
              refine mc_i (va_runV (As := [.int (tr_way L (ts_way t) (nI (L - k))), .int (nI (L - k))]) (rest := [.int (lp_ (tr_f1f L S B (ts_plan t) (ts_way t)) k (tr_f0 B (ts_plan t) (ts_tgt t), (ts_plan t).2.2.2)).2]) ⟨hx, hb, hml, hown, hT⟩ (c_TR_fillNode (t := ts_mk (ts_nodes t) (ts_cnts t) (ts_stash t) (ts_trail t) (ts_plan t) ((lp_ (tr_f1f L S B (ts_plan t) (ts_way t)) k (tr_f0 B (ts_plan t) (ts_tgt t), (ts_plan t).2.2.2)).1) (ts_way t) (ts_sought t)) ok (tr_way L (ts_way t) (nI (L - k))) (nI (L - k))) (cwV 2 hT (gi_V m_347 m_344 m_346 m_6 m_24) rfl rfl rfl p_TR_fillNode ⟨Nat.le_of_ble_eq_true rfl, Nat.le_of_ble_eq_true rfl⟩) ⟨mP_blind, va_recv hK hP (ci := 2) (q0 := 0) rfl rfl, mP_pre hK hP hD⟩ rfl rfl hl.1 rfl (lv_room (Nat.le_of_ble_eq_true rfl)) d_TR_fits_64 ⟨Nat.le_refl _, Nat.le_refl _⟩) hS (fun H locs hP hD hS => ?_)
              have hP : va_P (dC, dI) kCl (tw_ cI cJ ad L S C B (ts_mk (ts_nodes t) (ts_cnts t) (ts_stash t) (ts_trail t) (ts_plan t) ((tr_fN L S B (ts_plan t) (tr_way L (ts_way t) (nI (L - k))) (nI (L - k)) ((lp_ (tr_f1f L S B (ts_plan t) (ts_way t)) k (tr_f0 B (ts_plan t) (ts_tgt t), (ts_plan t).2.2.2)).1)).1) (ts_way t) (ts_sought t))) H := hP
              have hD : va_D A (tw_ cI cJ ad L S C B (ts_mk (ts_nodes t) (ts_cnts t) (ts_stash t) (ts_trail t) (ts_plan t) ((tr_fN L S B (ts_plan t) (tr_way L (ts_way t) (nI (L - k))) (nI (L - k)) ((lp_ (tr_f1f L S B (ts_plan t) (ts_way t)) k (tr_f0 B (ts_plan t) (ts_tgt t), (ts_plan t).2.2.2)).1)).1) (ts_way t) (ts_sought t))) := hD
              refine lv_isub hx hb d_TR_fits_67 ?_
              refine lv_istore_n (lv' := [(1, .int ((lp_ (tr_f1f L S B (ts_plan t) (ts_way t)) k (tr_f0 B (ts_plan t) (ts_tgt t), (ts_plan t).2.2.2)).2 - (nI (tr_fN L S B (ts_plan t) (tr_way L (ts_way t) (nI (L - k))) (nI (L - k)) ((lp_ (tr_f1f L S B (ts_plan t) (ts_way t)) k (tr_f0 B (ts_plan t) (ts_tgt t), (ts_plan t).2.2.2)).1)).2))), (2, .int (nI (L - k))), (0, .ref (ad 0))]) hx hb d_TR_fits_68 rfl hl (by decide) rfl (fun ls hl => ?_)
              refine lv_iinc (v := nI L - nI (k + 1)) (lv' := [(2, .int (nI L - nI (k + 1))), (1, .int ((lp_ (tr_f1f L S B (ts_plan t) (ts_way t)) k (tr_f0 B (ts_plan t) (ts_tgt t), (ts_plan t).2.2.2)).2 - (nI (tr_fN L S B (ts_plan t) (tr_way L (ts_way t) (nI (L - k))) (nI (L - k)) ((lp_ (tr_f1f L S B (ts_plan t) (ts_way t)) k (tr_f0 B (ts_plan t) (ts_tgt t), (ts_plan t).2.2.2)).1)).2))), (0, .ref (ad 0))]) hx hb d_TR_fits_69 hl (k := 1) rfl (fl_step hlt) (by decide) rfl (fun ls hl => ?_)
              refine lv_goto (tgt := 48) hx hb d_TR_fits_72 (by decide) ?_
              exact ih (k + 1) ls H locs (by omega) (by omega) (show va_P (dC, dI) kCl (tw_ cI cJ ad L S C B (ts_mk (ts_nodes t) (ts_cnts t) (ts_stash t) (ts_trail t) (ts_plan t) ((lp_ (tr_f1f L S B (ts_plan t) (ts_way t)) (k + 1) (tr_f0 B (ts_plan t) (ts_tgt t), (ts_plan t).2.2.2)).1) (ts_way t) (ts_sought t))) H by exact hP) (show va_D A (tw_ cI cJ ad L S C B (ts_mk (ts_nodes t) (ts_cnts t) (ts_stash t) (ts_trail t) (ts_plan t) ((lp_ (tr_f1f L S B (ts_plan t) (ts_way t)) (k + 1) (tr_f0 B (ts_plan t) (ts_tgt t), (ts_plan t).2.2.2)).1) (ts_way t) (ts_sought t))) by exact hD) hS (show lv_has ls 3 [(2, .int (nI L - nI (k + 1))), (1, .int (lp_ (tr_f1f L S B (ts_plan t) (ts_way t)) (k + 1) (tr_f0 B (ts_plan t) (ts_tgt t), (ts_plan t).2.2.2)).2), (0, .ref (ad 0))] by exact lv_sub hl [0, 1, 2] rfl)
        exact lp ((L + 1) + 1) 0 ls _ _ (by omega) (Nat.zero_le _) hP hD hS (show lv_has ls 3 [(2, .int (nI L - nI 0)), (1, .int (lp_ (tr_f1f L S B (ts_plan t) (ts_way t)) 0 (tr_f0 B (ts_plan t) (ts_tgt t), (ts_plan t).2.2.2)).2), (0, .ref (ad 0))] by rw [nI_0, Int32.sub_zero]; exact lv_sub hl [0, 1, 2] rfl)
      · refine lv_iload_n hx hb d_TR_fits_21 rfl (lv_at hl 0 rfl) ?_
        refine lv_aload_n hx hb d_TR_fits_22 rfl (lv_at hl 2 rfl) ?_
        refine va_get (D := (dC, dI)) (ci := 2) (v := .ref (ad 16)) (C := R_TR) (T := F_TR) (N := 12) hx hb hT i_TR hown hK hP 0 rfl rfl 9 (by decide) (hT _ m_110) (fun _ h9 => h9) rfl d_TR_fits_23 ?_
        refine va_alen (v := nI B) hx hb hK hP 16 0 rfl rfl rfl d_TR_fits_26 ?_
        refine lv_icmp_ge (tgt := 43) hx hb d_TR_fits_27 (by decide) (fun c_4 => ?_) (fun c_4 => ?_)
        · have hkN : k = (rw_cnt B (ts_plan t).2.2.2) := Nat.le_antisymm hk (rw_c2 (tr_B_lt ok) hk c_4)
          subst hkN
          refine lv_aload_n hx hb d_TR_fits_43 rfl (lv_at hl 2 rfl) ?_
          refine va_get (D := (dC, dI)) (ci := 2) (v := .int (nI L)) (C := R_TR) (T := F_TR) (N := 12) hx hb hT i_TR hown hK hP 0 rfl rfl 0 (by decide) (hT _ m_98) (fun _ h9 => h9) rfl d_TR_fits_44 ?_
          refine lv_istore_n (lv' := [(2, .int (nI L)), (1, .int (ts_plan t).2.2.2), (0, .ref (ad 0))]) hx hb d_TR_fits_47 rfl hl (by decide) rfl (fun ls hl => ?_)
          have lp : ∀ (N k : Nat) (ls : Array Slot) (H : Heap) (locs : List Loc), (L + 1) - k < N → k ≤ (L + 1) → va_P (dC, dI) kCl (tw_ cI cJ ad L S C B (ts_mk (ts_nodes t) (ts_cnts t) (ts_stash t) (ts_trail t) (ts_plan t) ((lp_ (tr_f1f L S B (ts_plan t) (ts_way t)) k (tr_f0 B (ts_plan t) (ts_tgt t), (ts_plan t).2.2.2)).1) (ts_way t) (ts_sought t))) H → va_D A (tw_ cI cJ ad L S C B (ts_mk (ts_nodes t) (ts_cnts t) (ts_stash t) (ts_trail t) (ts_plan t) ((lp_ (tr_f1f L S B (ts_plan t) (ts_way t)) k (tr_f0 B (ts_plan t) (ts_tgt t), (ts_plan t).2.2.2)).1) (ts_way t) (ts_sought t))) → va_S A s.heap H locs → lv_has ls 3 [(2, .int (nI L - nI k)), (1, .int (lp_ (tr_f1f L S B (ts_plan t) (ts_way t)) k (tr_f0 B (ts_plan t) (ts_tgt t), (ts_plan t).2.2.2)).2), (0, .ref (ad 0))] → W p l e ({ frames := 3, cells := 0, slots := 0, locals := 66 } : Room) s m ([.ref (ad 0)] : List Value).toArray below meth c H locs 0 0 (MQ below (mQi (dC, dI) kCl (b2i (decide ((tr_fit L S B t).2 ≤ nI C))) (tw_ cI cJ ad L S C B (tr_fits L S B t)) A) ([.ref (ad 0)] : List Value).toArray s 0 0 A) (F0 m 48 ls []) := by
            intro N
            induction N with
            | zero => intro k ls H locs hN; omega
            | succ N ih =>
              intro k ls H locs hN hk hP hD hS hl
              refine lv_iload_n hx hb d_TR_fits_48 rfl (lv_at hl 0 rfl) ?_
              refine lv_if_lt (tgt := 75) hx hb d_TR_fits_49 (by decide) (fun c_5 => ?_) (fun c_5 => ?_)
              · have hkL : k = L + 1 := Nat.le_antisymm hk (Nat.lt_of_not_le fun h9 => absurd c_5 (by rw [pk_sub h9]; exact nI_pos (by have := ok.2.1; omega)))
                subst hkL
                refine lv_iload_n hx hb d_TR_fits_75 rfl (lv_at hl 1 rfl) ?_
                refine lv_aload_n hx hb d_TR_fits_76 rfl (lv_at hl 2 rfl) ?_
                refine va_get (D := (dC, dI)) (ci := 2) (v := .int (nI C)) (C := R_TR) (T := F_TR) (N := 12) hx hb hT i_TR hown hK hP 0 rfl rfl 3 (by decide) (hT _ m_102) (fun _ h9 => h9) rfl d_TR_fits_77 ?_
                refine lv_icmp_gt (tgt := 87) hx hb d_TR_fits_80 (by decide) (fun c_6 => ?_) (fun c_6 => ?_)
                · refine lv_iconst (v := 0) hx hb d_TR_fits_87 (by decide) ?_
                  exact W.zret (ty := .boolean) hx hb hr nar_0 (fun t9 ht _ => mQi_end (by first | exact b2i_t (decide_eq_true (Int32.not_lt.mp (by assumption))) | exact b2i_f (decide_eq_false (Int32.not_le.mpr (by assumption)))) (rfl) hP hD hS ht) hS.2.2 d_TR_fits_88 hlocks
                · refine lv_iconst (v := 1) hx hb d_TR_fits_83 (by decide) ?_
                  refine lv_goto (tgt := 88) hx hb d_TR_fits_84 (by decide) ?_
                  exact W.zret (ty := .boolean) hx hb hr nar_1 (fun t9 ht _ => mQi_end (by first | exact b2i_t (decide_eq_true (Int32.not_lt.mp (by assumption))) | exact b2i_f (decide_eq_false (Int32.not_le.mpr (by assumption)))) (rfl) hP hD hS ht) hS.2.2 d_TR_fits_88 hlocks
              · have hlt : k ≤ L := Nat.le_of_not_lt fun h9 => c_5 (by rw [Nat.le_antisymm hk h9]; exact fl_neg L)
                rw [pk_sub hlt] at hl
                refine lv_iload_n hx hb d_TR_fits_52 rfl (lv_at hl 1 rfl) ?_
                refine lv_aload_n hx hb d_TR_fits_53 rfl (lv_at hl 2 rfl) ?_
                refine lv_aload_n hx hb d_TR_fits_54 rfl (lv_at hl 2 rfl) ?_
                refine lv_aload_n hx hb d_TR_fits_55 rfl (lv_at hl 2 rfl) ?_
                refine va_get (D := (dC, dI)) (ci := 2) (v := .int (ts_way t)) (C := R_TR) (T := F_TR) (N := 12) hx hb hT i_TR hown hK hP 0 rfl rfl 10 (by decide) (hT _ m_111) (fun _ h9 => h9) rfl d_TR_fits_56 ?_
                refine lv_iload_n hx hb d_TR_fits_59 rfl (lv_at hl 0 rfl) ?_
                refine zc_i (va_runV (As := [.int (ts_way t), .int (nI (L - k))]) (rest := [.ref (ad 0), .int (lp_ (tr_f1f L S B (ts_plan t) (ts_way t)) k (tr_f0 B (ts_plan t) (ts_tgt t), (ts_plan t).2.2.2)).2]) ⟨hx, hb, hml, hown, hT⟩ (c_TR_nodeOnWay (t := ts_mk (ts_nodes t) (ts_cnts t) (ts_stash t) (ts_trail t) (ts_plan t) ((lp_ (tr_f1f L S B (ts_plan t) (ts_way t)) k (tr_f0 B (ts_plan t) (ts_tgt t), (ts_plan t).2.2.2)).1) (ts_way t) (ts_sought t)) ok hP (ts_way t) (nI (L - k))) (cwV 2 hT (gi_V m_307 m_304 m_306 m_3 m_24) rfl rfl rfl p_TR_nodeOnWay ⟨Nat.le_of_ble_eq_true rfl, Nat.le_of_ble_eq_true rfl⟩) ⟨zP_blind, va_recv hK hP (ci := 2) (q0 := 0) rfl rfl, zP_pre hK⟩ rfl rfl hl.1 rfl (lv_room (Nat.le_of_ble_eq_true rfl)) d_TR_fits_60 ⟨Nat.le_refl _, Nat.le_refl _⟩) hS (fun locs hS => ?_)
                refine lv_iload_n hx hb d_TR_fits_63 rfl (lv_at hl 0 rfl) ?_
                refine mc_i (va_runV (As := [.int (tr_way L (ts_way t) (nI (L - k))), .int (nI (L - k))]) (rest := [.int (lp_ (tr_f1f L S B (ts_plan t) (ts_way t)) k (tr_f0 B (ts_plan t) (ts_tgt t), (ts_plan t).2.2.2)).2]) ⟨hx, hb, hml, hown, hT⟩ (c_TR_fillNode (t := ts_mk (ts_nodes t) (ts_cnts t) (ts_stash t) (ts_trail t) (ts_plan t) ((lp_ (tr_f1f L S B (ts_plan t) (ts_way t)) k (tr_f0 B (ts_plan t) (ts_tgt t), (ts_plan t).2.2.2)).1) (ts_way t) (ts_sought t)) ok (tr_way L (ts_way t) (nI (L - k))) (nI (L - k))) (cwV 2 hT (gi_V m_347 m_344 m_346 m_6 m_24) rfl rfl rfl p_TR_fillNode ⟨Nat.le_of_ble_eq_true rfl, Nat.le_of_ble_eq_true rfl⟩) ⟨mP_blind, va_recv hK hP (ci := 2) (q0 := 0) rfl rfl, mP_pre hK hP hD⟩ rfl rfl hl.1 rfl (lv_room (Nat.le_of_ble_eq_true rfl)) d_TR_fits_64 ⟨Nat.le_refl _, Nat.le_refl _⟩) hS (fun H locs hP hD hS => ?_)
                have hP : va_P (dC, dI) kCl (tw_ cI cJ ad L S C B (ts_mk (ts_nodes t) (ts_cnts t) (ts_stash t) (ts_trail t) (ts_plan t) ((tr_fN L S B (ts_plan t) (tr_way L (ts_way t) (nI (L - k))) (nI (L - k)) ((lp_ (tr_f1f L S B (ts_plan t) (ts_way t)) k (tr_f0 B (ts_plan t) (ts_tgt t), (ts_plan t).2.2.2)).1)).1) (ts_way t) (ts_sought t))) H := hP
                have hD : va_D A (tw_ cI cJ ad L S C B (ts_mk (ts_nodes t) (ts_cnts t) (ts_stash t) (ts_trail t) (ts_plan t) ((tr_fN L S B (ts_plan t) (tr_way L (ts_way t) (nI (L - k))) (nI (L - k)) ((lp_ (tr_f1f L S B (ts_plan t) (ts_way t)) k (tr_f0 B (ts_plan t) (ts_tgt t), (ts_plan t).2.2.2)).1)).1) (ts_way t) (ts_sought t))) := hD
                refine lv_isub hx hb d_TR_fits_67 ?_
                refine lv_istore_n (lv' := [(1, .int ((lp_ (tr_f1f L S B (ts_plan t) (ts_way t)) k (tr_f0 B (ts_plan t) (ts_tgt t), (ts_plan t).2.2.2)).2 - (nI (tr_fN L S B (ts_plan t) (tr_way L (ts_way t) (nI (L - k))) (nI (L - k)) ((lp_ (tr_f1f L S B (ts_plan t) (ts_way t)) k (tr_f0 B (ts_plan t) (ts_tgt t), (ts_plan t).2.2.2)).1)).2))), (2, .int (nI (L - k))), (0, .ref (ad 0))]) hx hb d_TR_fits_68 rfl hl (by decide) rfl (fun ls hl => ?_)
                refine lv_iinc (v := nI L - nI (k + 1)) (lv' := [(2, .int (nI L - nI (k + 1))), (1, .int ((lp_ (tr_f1f L S B (ts_plan t) (ts_way t)) k (tr_f0 B (ts_plan t) (ts_tgt t), (ts_plan t).2.2.2)).2 - (nI (tr_fN L S B (ts_plan t) (tr_way L (ts_way t) (nI (L - k))) (nI (L - k)) ((lp_ (tr_f1f L S B (ts_plan t) (ts_way t)) k (tr_f0 B (ts_plan t) (ts_tgt t), (ts_plan t).2.2.2)).1)).2))), (0, .ref (ad 0))]) hx hb d_TR_fits_69 hl (k := 1) rfl (fl_step hlt) (by decide) rfl (fun ls hl => ?_)
                refine lv_goto (tgt := 48) hx hb d_TR_fits_72 (by decide) ?_
                exact ih (k + 1) ls H locs (by omega) (by omega) (show va_P (dC, dI) kCl (tw_ cI cJ ad L S C B (ts_mk (ts_nodes t) (ts_cnts t) (ts_stash t) (ts_trail t) (ts_plan t) ((lp_ (tr_f1f L S B (ts_plan t) (ts_way t)) (k + 1) (tr_f0 B (ts_plan t) (ts_tgt t), (ts_plan t).2.2.2)).1) (ts_way t) (ts_sought t))) H by exact hP) (show va_D A (tw_ cI cJ ad L S C B (ts_mk (ts_nodes t) (ts_cnts t) (ts_stash t) (ts_trail t) (ts_plan t) ((lp_ (tr_f1f L S B (ts_plan t) (ts_way t)) (k + 1) (tr_f0 B (ts_plan t) (ts_tgt t), (ts_plan t).2.2.2)).1) (ts_way t) (ts_sought t))) by exact hD) hS (show lv_has ls 3 [(2, .int (nI L - nI (k + 1))), (1, .int (lp_ (tr_f1f L S B (ts_plan t) (ts_way t)) (k + 1) (tr_f0 B (ts_plan t) (ts_tgt t), (ts_plan t).2.2.2)).2), (0, .ref (ad 0))] by exact lv_sub hl [0, 1, 2] rfl)
          exact lp ((L + 1) + 1) 0 ls _ _ (by omega) (Nat.zero_le _) hP hD hS (show lv_has ls 3 [(2, .int (nI L - nI 0)), (1, .int (lp_ (tr_f1f L S B (ts_plan t) (ts_way t)) 0 (tr_f0 B (ts_plan t) (ts_tgt t), (ts_plan t).2.2.2)).2), (0, .ref (ad 0))] by rw [nI_0, Int32.sub_zero]; exact lv_sub hl [0, 1, 2] rfl)
        · have hlt := rw_c3 (tr_B_lt ok) hk c_1 c_4
          have hkB : k < B := Nat.lt_of_lt_of_le hlt (rw_cnt_le _ _)
          have hk31 : k < 2 ^ 31 := by have := tr_B_lt ok; omega
          refine lv_aload_n hx hb d_TR_fits_30 rfl (lv_at hl 2 rfl) ?_
          refine va_get (D := (dC, dI)) (ci := 2) (v := .ref (ad 16)) (C := R_TR) (T := F_TR) (N := 12) hx hb hT i_TR hown hK hP 0 rfl rfl 9 (by decide) (hT _ m_110) (fun _ h9 => h9) rfl d_TR_fits_31 ?_
          refine lv_iload_n hx hb d_TR_fits_34 rfl (lv_at hl 0 rfl) ?_
          refine lv_iconst (v := (-1)) hx hb d_TR_fits_35 (by decide) ?_
          refine va_iast hx hb hK hP hD hS 16 0 rfl rfl (vp_in_nI hkB (tr_B_lt ok)) d_TR_fits_36 (fun H locs hP hD hS => ?_)
          rw [nI_clamp hk31] at hP hD
          have hP : va_P (dC, dI) kCl (tw_ cI cJ ad L S C B (ts_mk (ts_nodes t) (ts_cnts t) (ts_stash t) (ts_trail t) (ts_plan t) (upd (lp_ tr_f0f k (ts_tgt t)) k (-1)) (ts_way t) (ts_sought t))) H := hP
          have hD : va_D A (tw_ cI cJ ad L S C B (ts_mk (ts_nodes t) (ts_cnts t) (ts_stash t) (ts_trail t) (ts_plan t) (upd (lp_ tr_f0f k (ts_tgt t)) k (-1)) (ts_way t) (ts_sought t))) := hD
          refine lv_iinc (v := nI (k + 1)) (lv' := [(2, .int (nI (k + 1))), (1, .int (ts_plan t).2.2.2), (0, .ref (ad 0))]) hx hb d_TR_fits_37 hl (k := 0) rfl (nI_1 k) (by decide) rfl (fun ls hl => ?_)
          refine lv_goto (tgt := 10) hx hb d_TR_fits_40 (by decide) ?_
          exact ih (k + 1) ls H locs (by omega) (by omega) (show va_P (dC, dI) kCl (tw_ cI cJ ad L S C B (ts_mk (ts_nodes t) (ts_cnts t) (ts_stash t) (ts_trail t) (ts_plan t) (lp_ tr_f0f (k + 1) (ts_tgt t)) (ts_way t) (ts_sought t))) H by exact hP) (show va_D A (tw_ cI cJ ad L S C B (ts_mk (ts_nodes t) (ts_cnts t) (ts_stash t) (ts_trail t) (ts_plan t) (lp_ tr_f0f (k + 1) (ts_tgt t)) (ts_way t) (ts_sought t))) by exact hD) hS (show lv_has ls 3 [(2, .int (nI (k + 1))), (1, .int (ts_plan t).2.2.2), (0, .ref (ad 0))] by exact lv_sub hl [0, 1, 2] rfl)
  exact lp ((rw_cnt B (ts_plan t).2.2.2) + 1) 0 ls _ _ (by omega) (Nat.zero_le _) hP hD hS (lv_sub hl [0, 1, 2] rfl)
