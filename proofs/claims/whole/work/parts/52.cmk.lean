def mv_cp (o v : Mv) : Mv := mv_mk (cp_ 512 (mv_bl o) (mv_bl v)) (cp_ 512 (mv_lf o) (mv_lf v)) (cp_ 512 (mv_vl o) (mv_vl v)) (cp_ 128 (mv_ct o) (mv_ct v)) (cp_ 160 (mv_sb o) (mv_sb v)) (cp_ 160 (mv_sl o) (mv_sl v)) (cp_ 160 (mv_sv o) (mv_sv v)) (cp_ 2 (mv_sz o) (mv_sz v)) (cp_ 16 (mv_ml o) (mv_ml v))

set_option maxHeartbeats 8000000 in
set_option maxRecDepth 100000 in
/-- CoinTreeModel.keep -/
theorem c_CM_keep {l : Launch} {dC : Nat → ClassId} {dI : Nat → Nat → Nat} {cI cJ : ClassId} {A : Nat → Prop} {ad : Nat → Nat} {L S C : Nat} {key : Int64} {th most asked : Int32} {td : Nat} {tr : Nat → Int32} {v o : Mv} (ok : mk_ok L S C) : Met l y_CM_keep (k_CM_keep :: bw) { frames := 0, cells := 0, slots := 0, locals := 0 } (mP (dC, dI) kCl [(cI, .int), (cJ, .long)] [.ref (ad 0)] (mw_ cI cJ ad L S C key th most asked td tr (v) (o)) A) (mQv (dC, dI) kCl (mw_ cI cJ ad L S C key th most asked td tr (v) (mv_cp o v)) A) 0 0 A := by
  refine Met.ofZ (own := "CoinTreeModel") (by decide) rfl [.ref (ad 0)] (Nat.le_of_ble_eq_true rfl) (fun _ _ h => h.1) ?_
  intro p e s m below meth c ls C0 hv hl
  obtain ⟨hx, hb, hr, hml, hown, hT, hlocks⟩ := C0
  obtain ⟨-, hP, hK, hD⟩ := hv
  have hS : va_S A s.heap s.heap [] := va_S.rf
  have hl : lv_has ls 2 [(0, .ref (ad 0))] := hl
  obtain ⟨qL1, qL5, qS1, qS4, qC⟩ := id ok
  
  refine lv_iconst (v := 0) hx hb d_CM_keep_0 (by decide) ?_
  refine lv_istore_n (lv' := [(1, .int 0), (0, .ref (ad 0))]) hx hb d_CM_keep_1 rfl hl (by decide) rfl (fun ls hl => ?_)
  have hP : va_P (dC, dI) kCl (mw_ cI cJ ad L S C key th most asked td tr (v) (mv_mk (cp_ 0 (mv_bl o) (mv_bl v)) (cp_ 0 (mv_lf o) (mv_lf v)) (cp_ 0 (mv_vl o) (mv_vl v)) (mv_ct o) (mv_sb o) (mv_sl o) (mv_sv o) (mv_sz o) (mv_ml o))) s.heap := by rw [cp_0 (f := mv_bl o), cp_0 (f := mv_lf o), cp_0 (f := mv_vl o)]; exact hP
  have hD : va_D A (mw_ cI cJ ad L S C key th most asked td tr (v) (mv_mk (cp_ 0 (mv_bl o) (mv_bl v)) (cp_ 0 (mv_lf o) (mv_lf v)) (cp_ 0 (mv_vl o) (mv_vl v)) (mv_ct o) (mv_sb o) (mv_sl o) (mv_sv o) (mv_sz o) (mv_ml o))) := by rw [cp_0 (f := mv_bl o), cp_0 (f := mv_lf o), cp_0 (f := mv_vl o)]; exact hD
  have lp1 : ∀ (N : Nat) (k0 : Nat) (ls : Array Slot) (H : Heap) (locs : List Loc), 512 - k0 < N → k0 ≤ 512 →  va_P (dC, dI) kCl (mw_ cI cJ ad L S C key th most asked td tr (v) (mv_mk (cp_ k0 (mv_bl o) (mv_bl v)) (cp_ k0 (mv_lf o) (mv_lf v)) (cp_ k0 (mv_vl o) (mv_vl v)) (mv_ct o) (mv_sb o) (mv_sl o) (mv_sv o) (mv_sz o) (mv_ml o))) H → va_D A (mw_ cI cJ ad L S C key th most asked td tr (v) (mv_mk (cp_ k0 (mv_bl o) (mv_bl v)) (cp_ k0 (mv_lf o) (mv_lf v)) (cp_ k0 (mv_vl o) (mv_vl v)) (mv_ct o) (mv_sb o) (mv_sl o) (mv_sv o) (mv_sz o) (mv_ml o))) → va_S A s.heap H locs → lv_has ls 2 [(1, .int (nI k0)), (0, .ref (ad 0))] → W p l e ({ frames := 0, cells := 0, slots := 0, locals := 0 } : Room) s m ([.ref (ad 0)] : List Value).toArray below meth c H locs 0 0 (MQ below (mQv (dC, dI) kCl (mw_ cI cJ ad L S C key th most asked td tr (v) (mv_cp o v)) A) ([.ref (ad 0)] : List Value).toArray s 0 0 A) (F0 m 2 ls []) := by
    intro N1
    induction N1 with
    | zero => intro k0 ls H locs hN; omega
    | succ N1 ih1 =>
      intro k0 ls H locs hN1 hk0 hP hD hS hl
      refine lv_iload_n hx hb d_CM_keep_2 rfl (lv_at hl 0 rfl) ?_
      refine lv_sipush (v := 512) hx hb d_CM_keep_3 (by decide) ?_
      refine lv_icmp_ge (tgt := 51) hx hb d_CM_keep_6 (by decide) (fun c_1 => ?_) (fun c_1 => ?_)
      · have c_1 := (nI_leI (a := 512) (b := k0) (by omega) (by omega)).mp c_1
        have he0 : k0 = 512 := by omega
        subst he0
        refine lv_iconst (v := 0) hx hb d_CM_keep_51 (by decide) ?_
        refine lv_istore_n (lv' := [(1, .int 0), (0, .ref (ad 0))]) hx hb d_CM_keep_52 rfl hl (by decide) rfl (fun ls hl => ?_)
        have hP : va_P (dC, dI) kCl (mw_ cI cJ ad L S C key th most asked td tr (v) (mv_mk (cp_ 512 (mv_bl o) (mv_bl v)) (cp_ 512 (mv_lf o) (mv_lf v)) (cp_ 512 (mv_vl o) (mv_vl v)) (cp_ 0 (mv_ct o) (mv_ct v)) (mv_sb o) (mv_sl o) (mv_sv o) (mv_sz o) (mv_ml o))) H := by rw [cp_0 (f := mv_ct o)]; exact hP
        have hD : va_D A (mw_ cI cJ ad L S C key th most asked td tr (v) (mv_mk (cp_ 512 (mv_bl o) (mv_bl v)) (cp_ 512 (mv_lf o) (mv_lf v)) (cp_ 512 (mv_vl o) (mv_vl v)) (cp_ 0 (mv_ct o) (mv_ct v)) (mv_sb o) (mv_sl o) (mv_sv o) (mv_sz o) (mv_ml o))) := by rw [cp_0 (f := mv_ct o)]; exact hD
        have lp2 : ∀ (N : Nat) (k1 : Nat) (ls : Array Slot) (H : Heap) (locs : List Loc), 128 - k1 < N → k1 ≤ 128 →  va_P (dC, dI) kCl (mw_ cI cJ ad L S C key th most asked td tr (v) (mv_mk (cp_ 512 (mv_bl o) (mv_bl v)) (cp_ 512 (mv_lf o) (mv_lf v)) (cp_ 512 (mv_vl o) (mv_vl v)) (cp_ k1 (mv_ct o) (mv_ct v)) (mv_sb o) (mv_sl o) (mv_sv o) (mv_sz o) (mv_ml o))) H → va_D A (mw_ cI cJ ad L S C key th most asked td tr (v) (mv_mk (cp_ 512 (mv_bl o) (mv_bl v)) (cp_ 512 (mv_lf o) (mv_lf v)) (cp_ 512 (mv_vl o) (mv_vl v)) (cp_ k1 (mv_ct o) (mv_ct v)) (mv_sb o) (mv_sl o) (mv_sv o) (mv_sz o) (mv_ml o))) → va_S A s.heap H locs → lv_has ls 2 [(1, .int (nI k1)), (0, .ref (ad 0))] → W p l e ({ frames := 0, cells := 0, slots := 0, locals := 0 } : Room) s m ([.ref (ad 0)] : List Value).toArray below meth c H locs 0 0 (MQ below (mQv (dC, dI) kCl (mw_ cI cJ ad L S C key th most asked td tr (v) (mv_cp o v)) A) ([.ref (ad 0)] : List Value).toArray s 0 0 A) (F0 m 53 ls []) := by
          intro N2
          induction N2 with
          | zero => intro k1 ls H locs hN; omega
          | succ N2 ih2 =>
            intro k1 ls H locs hN2 hk1 hP hD hS hl
            refine lv_iload_n hx hb d_CM_keep_53 rfl (lv_at hl 0 rfl) ?_
            refine lv_sipush (v := 128) hx hb d_CM_keep_54 (by decide) ?_
            refine lv_icmp_ge (tgt := 78) hx hb d_CM_keep_57 (by decide) (fun c_2 => ?_) (fun c_2 => ?_)
            · have c_2 := (nI_leI (a := 128) (b := k1) (by omega) (by omega)).mp c_2
              have he1 : k1 = 128 := by omega
              subst he1
              refine lv_iconst (v := 0) hx hb d_CM_keep_78 (by decide) ?_
              refine lv_istore_n (lv' := [(1, .int 0), (0, .ref (ad 0))]) hx hb d_CM_keep_79 rfl hl (by decide) rfl (fun ls hl => ?_)
              have hP : va_P (dC, dI) kCl (mw_ cI cJ ad L S C key th most asked td tr (v) (mv_mk (cp_ 512 (mv_bl o) (mv_bl v)) (cp_ 512 (mv_lf o) (mv_lf v)) (cp_ 512 (mv_vl o) (mv_vl v)) (cp_ 128 (mv_ct o) (mv_ct v)) (cp_ 0 (mv_sb o) (mv_sb v)) (cp_ 0 (mv_sl o) (mv_sl v)) (cp_ 0 (mv_sv o) (mv_sv v)) (mv_sz o) (mv_ml o))) H := by rw [cp_0 (f := mv_sb o), cp_0 (f := mv_sl o), cp_0 (f := mv_sv o)]; exact hP
              have hD : va_D A (mw_ cI cJ ad L S C key th most asked td tr (v) (mv_mk (cp_ 512 (mv_bl o) (mv_bl v)) (cp_ 512 (mv_lf o) (mv_lf v)) (cp_ 512 (mv_vl o) (mv_vl v)) (cp_ 128 (mv_ct o) (mv_ct v)) (cp_ 0 (mv_sb o) (mv_sb v)) (cp_ 0 (mv_sl o) (mv_sl v)) (cp_ 0 (mv_sv o) (mv_sv v)) (mv_sz o) (mv_ml o))) := by rw [cp_0 (f := mv_sb o), cp_0 (f := mv_sl o), cp_0 (f := mv_sv o)]; exact hD
              have lp3 : ∀ (N : Nat) (k2 : Nat) (ls : Array Slot) (H : Heap) (locs : List Loc), 160 - k2 < N → k2 ≤ 160 →  va_P (dC, dI) kCl (mw_ cI cJ ad L S C key th most asked td tr (v) (mv_mk (cp_ 512 (mv_bl o) (mv_bl v)) (cp_ 512 (mv_lf o) (mv_lf v)) (cp_ 512 (mv_vl o) (mv_vl v)) (cp_ 128 (mv_ct o) (mv_ct v)) (cp_ k2 (mv_sb o) (mv_sb v)) (cp_ k2 (mv_sl o) (mv_sl v)) (cp_ k2 (mv_sv o) (mv_sv v)) (mv_sz o) (mv_ml o))) H → va_D A (mw_ cI cJ ad L S C key th most asked td tr (v) (mv_mk (cp_ 512 (mv_bl o) (mv_bl v)) (cp_ 512 (mv_lf o) (mv_lf v)) (cp_ 512 (mv_vl o) (mv_vl v)) (cp_ 128 (mv_ct o) (mv_ct v)) (cp_ k2 (mv_sb o) (mv_sb v)) (cp_ k2 (mv_sl o) (mv_sl v)) (cp_ k2 (mv_sv o) (mv_sv v)) (mv_sz o) (mv_ml o))) → va_S A s.heap H locs → lv_has ls 2 [(1, .int (nI k2)), (0, .ref (ad 0))] → W p l e ({ frames := 0, cells := 0, slots := 0, locals := 0 } : Room) s m ([.ref (ad 0)] : List Value).toArray below meth c H locs 0 0 (MQ below (mQv (dC, dI) kCl (mw_ cI cJ ad L S C key th most asked td tr (v) (mv_cp o v)) A) ([.ref (ad 0)] : List Value).toArray s 0 0 A) (F0 m 80 ls []) := by
                intro N3
                induction N3 with
                | zero => intro k2 ls H locs hN; omega
                | succ N3 ih3 =>
                  intro k2 ls H locs hN3 hk2 hP hD hS hl
                  refine lv_iload_n hx hb d_CM_keep_80 rfl (lv_at hl 0 rfl) ?_
                  refine lv_sipush (v := 160) hx hb d_CM_keep_81 (by decide) ?_
                  refine lv_icmp_ge (tgt := 129) hx hb d_CM_keep_84 (by decide) (fun c_3 => ?_) (fun c_3 => ?_)
                  · have c_3 := (nI_leI (a := 160) (b := k2) (by omega) (by omega)).mp c_3
                    have he2 : k2 = 160 := by omega
                    subst he2
                    refine lv_iconst (v := 0) hx hb d_CM_keep_129 (by decide) ?_
                    refine lv_istore_n (lv' := [(1, .int 0), (0, .ref (ad 0))]) hx hb d_CM_keep_130 rfl hl (by decide) rfl (fun ls hl => ?_)
                    have hP : va_P (dC, dI) kCl (mw_ cI cJ ad L S C key th most asked td tr (v) (mv_mk (cp_ 512 (mv_bl o) (mv_bl v)) (cp_ 512 (mv_lf o) (mv_lf v)) (cp_ 512 (mv_vl o) (mv_vl v)) (cp_ 128 (mv_ct o) (mv_ct v)) (cp_ 160 (mv_sb o) (mv_sb v)) (cp_ 160 (mv_sl o) (mv_sl v)) (cp_ 160 (mv_sv o) (mv_sv v)) (cp_ 0 (mv_sz o) (mv_sz v)) (mv_ml o))) H := by rw [cp_0 (f := mv_sz o)]; exact hP
                    have hD : va_D A (mw_ cI cJ ad L S C key th most asked td tr (v) (mv_mk (cp_ 512 (mv_bl o) (mv_bl v)) (cp_ 512 (mv_lf o) (mv_lf v)) (cp_ 512 (mv_vl o) (mv_vl v)) (cp_ 128 (mv_ct o) (mv_ct v)) (cp_ 160 (mv_sb o) (mv_sb v)) (cp_ 160 (mv_sl o) (mv_sl v)) (cp_ 160 (mv_sv o) (mv_sv v)) (cp_ 0 (mv_sz o) (mv_sz v)) (mv_ml o))) := by rw [cp_0 (f := mv_sz o)]; exact hD
                    have lp4 : ∀ (N : Nat) (k3 : Nat) (ls : Array Slot) (H : Heap) (locs : List Loc), 2 - k3 < N → k3 ≤ 2 →  va_P (dC, dI) kCl (mw_ cI cJ ad L S C key th most asked td tr (v) (mv_mk (cp_ 512 (mv_bl o) (mv_bl v)) (cp_ 512 (mv_lf o) (mv_lf v)) (cp_ 512 (mv_vl o) (mv_vl v)) (cp_ 128 (mv_ct o) (mv_ct v)) (cp_ 160 (mv_sb o) (mv_sb v)) (cp_ 160 (mv_sl o) (mv_sl v)) (cp_ 160 (mv_sv o) (mv_sv v)) (cp_ k3 (mv_sz o) (mv_sz v)) (mv_ml o))) H → va_D A (mw_ cI cJ ad L S C key th most asked td tr (v) (mv_mk (cp_ 512 (mv_bl o) (mv_bl v)) (cp_ 512 (mv_lf o) (mv_lf v)) (cp_ 512 (mv_vl o) (mv_vl v)) (cp_ 128 (mv_ct o) (mv_ct v)) (cp_ 160 (mv_sb o) (mv_sb v)) (cp_ 160 (mv_sl o) (mv_sl v)) (cp_ 160 (mv_sv o) (mv_sv v)) (cp_ k3 (mv_sz o) (mv_sz v)) (mv_ml o))) → va_S A s.heap H locs → lv_has ls 2 [(1, .int (nI k3)), (0, .ref (ad 0))] → W p l e ({ frames := 0, cells := 0, slots := 0, locals := 0 } : Room) s m ([.ref (ad 0)] : List Value).toArray below meth c H locs 0 0 (MQ below (mQv (dC, dI) kCl (mw_ cI cJ ad L S C key th most asked td tr (v) (mv_cp o v)) A) ([.ref (ad 0)] : List Value).toArray s 0 0 A) (F0 m 131 ls []) := by
                      intro N4
                      induction N4 with
                      | zero => intro k3 ls H locs hN; omega
                      | succ N4 ih4 =>
                        intro k3 ls H locs hN4 hk3 hP hD hS hl
                        refine lv_iload_n hx hb d_CM_keep_131 rfl (lv_at hl 0 rfl) ?_
                        refine lv_iconst (v := 2) hx hb d_CM_keep_132 (by decide) ?_
                        refine lv_icmp_ge (tgt := 154) hx hb d_CM_keep_133 (by decide) (fun c_4 => ?_) (fun c_4 => ?_)
                        · have c_4 := (nI_leI (a := 2) (b := k3) (by omega) (by omega)).mp c_4
                          have he3 : k3 = 2 := by omega
                          subst he3
                          refine lv_iconst (v := 0) hx hb d_CM_keep_154 (by decide) ?_
                          refine lv_istore_n (lv' := [(1, .int 0), (0, .ref (ad 0))]) hx hb d_CM_keep_155 rfl hl (by decide) rfl (fun ls hl => ?_)
                          have hP : va_P (dC, dI) kCl (mw_ cI cJ ad L S C key th most asked td tr (v) (mv_mk (cp_ 512 (mv_bl o) (mv_bl v)) (cp_ 512 (mv_lf o) (mv_lf v)) (cp_ 512 (mv_vl o) (mv_vl v)) (cp_ 128 (mv_ct o) (mv_ct v)) (cp_ 160 (mv_sb o) (mv_sb v)) (cp_ 160 (mv_sl o) (mv_sl v)) (cp_ 160 (mv_sv o) (mv_sv v)) (cp_ 2 (mv_sz o) (mv_sz v)) (cp_ 0 (mv_ml o) (mv_ml v)))) H := by rw [cp_0 (f := mv_ml o)]; exact hP
                          have hD : va_D A (mw_ cI cJ ad L S C key th most asked td tr (v) (mv_mk (cp_ 512 (mv_bl o) (mv_bl v)) (cp_ 512 (mv_lf o) (mv_lf v)) (cp_ 512 (mv_vl o) (mv_vl v)) (cp_ 128 (mv_ct o) (mv_ct v)) (cp_ 160 (mv_sb o) (mv_sb v)) (cp_ 160 (mv_sl o) (mv_sl v)) (cp_ 160 (mv_sv o) (mv_sv v)) (cp_ 2 (mv_sz o) (mv_sz v)) (cp_ 0 (mv_ml o) (mv_ml v)))) := by rw [cp_0 (f := mv_ml o)]; exact hD
                          have lp5 : ∀ (N : Nat) (k4 : Nat) (ls : Array Slot) (H : Heap) (locs : List Loc), 16 - k4 < N → k4 ≤ 16 →  va_P (dC, dI) kCl (mw_ cI cJ ad L S C key th most asked td tr (v) (mv_mk (cp_ 512 (mv_bl o) (mv_bl v)) (cp_ 512 (mv_lf o) (mv_lf v)) (cp_ 512 (mv_vl o) (mv_vl v)) (cp_ 128 (mv_ct o) (mv_ct v)) (cp_ 160 (mv_sb o) (mv_sb v)) (cp_ 160 (mv_sl o) (mv_sl v)) (cp_ 160 (mv_sv o) (mv_sv v)) (cp_ 2 (mv_sz o) (mv_sz v)) (cp_ k4 (mv_ml o) (mv_ml v)))) H → va_D A (mw_ cI cJ ad L S C key th most asked td tr (v) (mv_mk (cp_ 512 (mv_bl o) (mv_bl v)) (cp_ 512 (mv_lf o) (mv_lf v)) (cp_ 512 (mv_vl o) (mv_vl v)) (cp_ 128 (mv_ct o) (mv_ct v)) (cp_ 160 (mv_sb o) (mv_sb v)) (cp_ 160 (mv_sl o) (mv_sl v)) (cp_ 160 (mv_sv o) (mv_sv v)) (cp_ 2 (mv_sz o) (mv_sz v)) (cp_ k4 (mv_ml o) (mv_ml v)))) → va_S A s.heap H locs → lv_has ls 2 [(1, .int (nI k4)), (0, .ref (ad 0))] → W p l e ({ frames := 0, cells := 0, slots := 0, locals := 0 } : Room) s m ([.ref (ad 0)] : List Value).toArray below meth c H locs 0 0 (MQ below (mQv (dC, dI) kCl (mw_ cI cJ ad L S C key th most asked td tr (v) (mv_cp o v)) A) ([.ref (ad 0)] : List Value).toArray s 0 0 A) (F0 m 156 ls []) := by
                            intro N5
                            induction N5 with
                            | zero => intro k4 ls H locs hN; omega
                            | succ N5 ih5 =>
                              intro k4 ls H locs hN5 hk4 hP hD hS hl
                              refine lv_iload_n hx hb d_CM_keep_156 rfl (lv_at hl 0 rfl) ?_
                              refine lv_bipush (v := 16) hx hb d_CM_keep_157 (by decide) ?_
                              refine lv_icmp_ge (tgt := 180) hx hb d_CM_keep_159 (by decide) (fun c_5 => ?_) (fun c_5 => ?_)
                              · have c_5 := (nI_leI (a := 16) (b := k4) (by omega) (by omega)).mp c_5
                                have he4 : k4 = 16 := by omega
                                subst he4
                                exact W.vret hx hb hr (fun t9 ht _ => mQv_end (rfl) hP hD hS ht) hS.2.2 d_CM_keep_180 hlocks
                              · have c_5 := (not_congr (nI_leI (a := 16) (b := k4) (by omega) (by omega))).mp c_5
                                refine lv_aload_n hx hb d_CM_keep_162 rfl (lv_at hl 1 rfl) ?_
                                refine va_get (D := (dC, dI)) (ci := 4) (v := .ref (ad 19)) (C := R_CM) (T := F_CM) (N := 27) hx hb hT i_CM hown hK hP 0 rfl rfl 26 (by decide) (hT _ m_497) (fun _ h9 => h9) rfl d_CM_keep_163 ?_
                                refine lv_iload_n hx hb d_CM_keep_166 rfl (lv_at hl 0 rfl) ?_
                                refine lv_aload_n hx hb d_CM_keep_167 rfl (lv_at hl 1 rfl) ?_
                                refine va_get (D := (dC, dI)) (ci := 4) (v := .ref (ad 9)) (C := R_CM) (T := F_CM) (N := 27) hx hb hT i_CM hown hK hP 0 rfl rfl 13 (by decide) (hT _ m_484) (fun _ h9 => h9) rfl d_CM_keep_168 ?_
                                refine lv_iload_n hx hb d_CM_keep_171 rfl (lv_at hl 0 rfl) ?_
                                refine va_iald hx hb hK hP 9 0 rfl rfl (vp_in_nI (n := k4) (by omega) (by omega)) d_CM_keep_172 ?_
                                refine W.eq (g2 := F0 m 173 ls [.int ((mv_ml v) k4), .int (nI k4), .ref (ad 19)]) (by rw [nI_clamp (n := k4) (by omega)] <;> rfl) ?_
                                refine va_iast hx hb hK hP hD hS 19 0 rfl rfl (vp_in_nI (n := k4) (by omega) (by omega)) d_CM_keep_173 (fun H locs hP hD hS => ?_)
                                rw [nI_clamp (n := k4) (by omega)] at hP hD
                                have hP : va_P (dC, dI) kCl (mw_ cI cJ ad L S C key th most asked td tr (v) (mv_mk (cp_ 512 (mv_bl o) (mv_bl v)) (cp_ 512 (mv_lf o) (mv_lf v)) (cp_ 512 (mv_vl o) (mv_vl v)) (cp_ 128 (mv_ct o) (mv_ct v)) (cp_ 160 (mv_sb o) (mv_sb v)) (cp_ 160 (mv_sl o) (mv_sl v)) (cp_ 160 (mv_sv o) (mv_sv v)) (cp_ 2 (mv_sz o) (mv_sz v)) (upd (cp_ k4 (mv_ml o) (mv_ml v)) k4 ((mv_ml v) k4)))) H := hP
                                have hD : va_D A (mw_ cI cJ ad L S C key th most asked td tr (v) (mv_mk (cp_ 512 (mv_bl o) (mv_bl v)) (cp_ 512 (mv_lf o) (mv_lf v)) (cp_ 512 (mv_vl o) (mv_vl v)) (cp_ 128 (mv_ct o) (mv_ct v)) (cp_ 160 (mv_sb o) (mv_sb v)) (cp_ 160 (mv_sl o) (mv_sl v)) (cp_ 160 (mv_sv o) (mv_sv v)) (cp_ 2 (mv_sz o) (mv_sz v)) (upd (cp_ k4 (mv_ml o) (mv_ml v)) k4 ((mv_ml v) k4)))) := hD
                                rw [cp_s (f := mv_ml o) (g := mv_ml v) (k := k4)] at hP hD
                                refine lv_iinc (v := nI (k4 + 1)) (lv' := [(1, .int (nI (k4 + 1))), (0, .ref (ad 0))]) hx hb d_CM_keep_174 hl (k := 0) rfl (nI_1 k4) (by decide) rfl (fun ls hl => ?_)
                                refine lv_goto (tgt := 156) hx hb d_CM_keep_177 (by decide) ?_
                                exact ih5 (k4 + 1) ls H locs (by omega) (by omega) hP hD hS (lv_sub hl [0, 1] rfl)
                          exact lp5 ((16 - 0) + 1) 0 ls _ _ (by omega) (by omega) hP hD hS (lv_sub hl [0, 1] rfl)
                        · have c_4 := (not_congr (nI_leI (a := 2) (b := k3) (by omega) (by omega))).mp c_4
                          refine lv_aload_n hx hb d_CM_keep_136 rfl (lv_at hl 1 rfl) ?_
                          refine va_get (D := (dC, dI)) (ci := 4) (v := .ref (ad 18)) (C := R_CM) (T := F_CM) (N := 27) hx hb hT i_CM hown hK hP 0 rfl rfl 25 (by decide) (hT _ m_496) (fun _ h9 => h9) rfl d_CM_keep_137 ?_
                          refine lv_iload_n hx hb d_CM_keep_140 rfl (lv_at hl 0 rfl) ?_
                          refine lv_aload_n hx hb d_CM_keep_141 rfl (lv_at hl 1 rfl) ?_
                          refine va_get (D := (dC, dI)) (ci := 4) (v := .ref (ad 8)) (C := R_CM) (T := F_CM) (N := 27) hx hb hT i_CM hown hK hP 0 rfl rfl 12 (by decide) (hT _ m_483) (fun _ h9 => h9) rfl d_CM_keep_142 ?_
                          refine lv_iload_n hx hb d_CM_keep_145 rfl (lv_at hl 0 rfl) ?_
                          refine va_iald hx hb hK hP 8 0 rfl rfl (vp_in_nI (n := k3) (by omega) (by omega)) d_CM_keep_146 ?_
                          refine W.eq (g2 := F0 m 147 ls [.int (nI ((mv_sz v) k3)), .int (nI k3), .ref (ad 18)]) (by rw [nI_clamp (n := k3) (by omega)] <;> rfl) ?_
                          refine va_iast hx hb hK hP hD hS 18 0 rfl rfl (vp_in_nI (n := k3) (by omega) (by omega)) d_CM_keep_147 (fun H locs hP hD hS => ?_)
                          rw [nI_clamp (n := k3) (by omega)] at hP hD
                          rw [up_nI (x := ((mv_sz v) k3))] at hP hD
                          have hP : va_P (dC, dI) kCl (mw_ cI cJ ad L S C key th most asked td tr (v) (mv_mk (cp_ 512 (mv_bl o) (mv_bl v)) (cp_ 512 (mv_lf o) (mv_lf v)) (cp_ 512 (mv_vl o) (mv_vl v)) (cp_ 128 (mv_ct o) (mv_ct v)) (cp_ 160 (mv_sb o) (mv_sb v)) (cp_ 160 (mv_sl o) (mv_sl v)) (cp_ 160 (mv_sv o) (mv_sv v)) (upN (cp_ k3 (mv_sz o) (mv_sz v)) k3 ((mv_sz v) k3)) (mv_ml o))) H := hP
                          have hD : va_D A (mw_ cI cJ ad L S C key th most asked td tr (v) (mv_mk (cp_ 512 (mv_bl o) (mv_bl v)) (cp_ 512 (mv_lf o) (mv_lf v)) (cp_ 512 (mv_vl o) (mv_vl v)) (cp_ 128 (mv_ct o) (mv_ct v)) (cp_ 160 (mv_sb o) (mv_sb v)) (cp_ 160 (mv_sl o) (mv_sl v)) (cp_ 160 (mv_sv o) (mv_sv v)) (upN (cp_ k3 (mv_sz o) (mv_sz v)) k3 ((mv_sz v) k3)) (mv_ml o))) := hD
                          rw [cp_sN (f := mv_sz o) (g := mv_sz v) (k := k3)] at hP hD
                          refine lv_iinc (v := nI (k3 + 1)) (lv' := [(1, .int (nI (k3 + 1))), (0, .ref (ad 0))]) hx hb d_CM_keep_148 hl (k := 0) rfl (nI_1 k3) (by decide) rfl (fun ls hl => ?_)
                          refine lv_goto (tgt := 131) hx hb d_CM_keep_151 (by decide) ?_
                          exact ih4 (k3 + 1) ls H locs (by omega) (by omega) hP hD hS (lv_sub hl [0, 1] rfl)
                    exact lp4 ((2 - 0) + 1) 0 ls _ _ (by omega) (by omega) hP hD hS (lv_sub hl [0, 1] rfl)
                  · have c_3 := (not_congr (nI_leI (a := 160) (b := k2) (by omega) (by omega))).mp c_3
                    refine lv_aload_n hx hb d_CM_keep_87 rfl (lv_at hl 1 rfl) ?_
                    refine va_get (D := (dC, dI)) (ci := 4) (v := .ref (ad 15)) (C := R_CM) (T := F_CM) (N := 27) hx hb hT i_CM hown hK hP 0 rfl rfl 22 (by decide) (hT _ m_493) (fun _ h9 => h9) rfl d_CM_keep_88 ?_
                    refine lv_iload_n hx hb d_CM_keep_91 rfl (lv_at hl 0 rfl) ?_
                    refine lv_aload_n hx hb d_CM_keep_92 rfl (lv_at hl 1 rfl) ?_
                    refine va_get (D := (dC, dI)) (ci := 4) (v := .ref (ad 5)) (C := R_CM) (T := F_CM) (N := 27) hx hb hT i_CM hown hK hP 0 rfl rfl 9 (by decide) (hT _ m_480) (fun _ h9 => h9) rfl d_CM_keep_93 ?_
                    refine lv_iload_n hx hb d_CM_keep_96 rfl (lv_at hl 0 rfl) ?_
                    refine va_iald hx hb hK hP 5 0 rfl rfl (vp_in_nI (n := k2) (by omega) (by omega)) d_CM_keep_97 ?_
                    refine W.eq (g2 := F0 m 98 ls [.int ((mv_sb v) k2), .int (nI k2), .ref (ad 15)]) (by rw [nI_clamp (n := k2) (by omega)] <;> rfl) ?_
                    refine va_iast hx hb hK hP hD hS 15 0 rfl rfl (vp_in_nI (n := k2) (by omega) (by omega)) d_CM_keep_98 (fun H locs hP hD hS => ?_)
                    rw [nI_clamp (n := k2) (by omega)] at hP hD
                    have hP : va_P (dC, dI) kCl (mw_ cI cJ ad L S C key th most asked td tr (v) (mv_mk (cp_ 512 (mv_bl o) (mv_bl v)) (cp_ 512 (mv_lf o) (mv_lf v)) (cp_ 512 (mv_vl o) (mv_vl v)) (cp_ 128 (mv_ct o) (mv_ct v)) (upd (cp_ k2 (mv_sb o) (mv_sb v)) k2 ((mv_sb v) k2)) (cp_ k2 (mv_sl o) (mv_sl v)) (cp_ k2 (mv_sv o) (mv_sv v)) (mv_sz o) (mv_ml o))) H := hP
                    have hD : va_D A (mw_ cI cJ ad L S C key th most asked td tr (v) (mv_mk (cp_ 512 (mv_bl o) (mv_bl v)) (cp_ 512 (mv_lf o) (mv_lf v)) (cp_ 512 (mv_vl o) (mv_vl v)) (cp_ 128 (mv_ct o) (mv_ct v)) (upd (cp_ k2 (mv_sb o) (mv_sb v)) k2 ((mv_sb v) k2)) (cp_ k2 (mv_sl o) (mv_sl v)) (cp_ k2 (mv_sv o) (mv_sv v)) (mv_sz o) (mv_ml o))) := hD
                    rw [cp_s (f := mv_sb o) (g := mv_sb v) (k := k2)] at hP hD
                    refine lv_aload_n hx hb d_CM_keep_99 rfl (lv_at hl 1 rfl) ?_
                    refine va_get (D := (dC, dI)) (ci := 4) (v := .ref (ad 16)) (C := R_CM) (T := F_CM) (N := 27) hx hb hT i_CM hown hK hP 0 rfl rfl 23 (by decide) (hT _ m_494) (fun _ h9 => h9) rfl d_CM_keep_100 ?_
                    refine lv_iload_n hx hb d_CM_keep_103 rfl (lv_at hl 0 rfl) ?_
                    refine lv_aload_n hx hb d_CM_keep_104 rfl (lv_at hl 1 rfl) ?_
                    refine va_get (D := (dC, dI)) (ci := 4) (v := .ref (ad 6)) (C := R_CM) (T := F_CM) (N := 27) hx hb hT i_CM hown hK hP 0 rfl rfl 10 (by decide) (hT _ m_481) (fun _ h9 => h9) rfl d_CM_keep_105 ?_
                    refine lv_iload_n hx hb d_CM_keep_108 rfl (lv_at hl 0 rfl) ?_
                    refine va_iald hx hb hK hP 6 0 rfl rfl (vp_in_nI (n := k2) (by omega) (by omega)) d_CM_keep_109 ?_
                    refine W.eq (g2 := F0 m 110 ls [.int ((mv_sl v) k2), .int (nI k2), .ref (ad 16)]) (by rw [nI_clamp (n := k2) (by omega)] <;> rfl) ?_
                    refine va_iast hx hb hK hP hD hS 16 0 rfl rfl (vp_in_nI (n := k2) (by omega) (by omega)) d_CM_keep_110 (fun H locs hP hD hS => ?_)
                    rw [nI_clamp (n := k2) (by omega)] at hP hD
                    have hP : va_P (dC, dI) kCl (mw_ cI cJ ad L S C key th most asked td tr (v) (mv_mk (cp_ 512 (mv_bl o) (mv_bl v)) (cp_ 512 (mv_lf o) (mv_lf v)) (cp_ 512 (mv_vl o) (mv_vl v)) (cp_ 128 (mv_ct o) (mv_ct v)) (cp_ (k2 + 1) (mv_sb o) (mv_sb v)) (upd (cp_ k2 (mv_sl o) (mv_sl v)) k2 ((mv_sl v) k2)) (cp_ k2 (mv_sv o) (mv_sv v)) (mv_sz o) (mv_ml o))) H := hP
                    have hD : va_D A (mw_ cI cJ ad L S C key th most asked td tr (v) (mv_mk (cp_ 512 (mv_bl o) (mv_bl v)) (cp_ 512 (mv_lf o) (mv_lf v)) (cp_ 512 (mv_vl o) (mv_vl v)) (cp_ 128 (mv_ct o) (mv_ct v)) (cp_ (k2 + 1) (mv_sb o) (mv_sb v)) (upd (cp_ k2 (mv_sl o) (mv_sl v)) k2 ((mv_sl v) k2)) (cp_ k2 (mv_sv o) (mv_sv v)) (mv_sz o) (mv_ml o))) := hD
                    rw [cp_s (f := mv_sl o) (g := mv_sl v) (k := k2)] at hP hD
                    refine lv_aload_n hx hb d_CM_keep_111 rfl (lv_at hl 1 rfl) ?_
                    refine va_get (D := (dC, dI)) (ci := 4) (v := .ref (ad 17)) (C := R_CM) (T := F_CM) (N := 27) hx hb hT i_CM hown hK hP 0 rfl rfl 24 (by decide) (hT _ m_495) (fun _ h9 => h9) rfl d_CM_keep_112 ?_
                    refine lv_iload_n hx hb d_CM_keep_115 rfl (lv_at hl 0 rfl) ?_
                    refine lv_aload_n hx hb d_CM_keep_116 rfl (lv_at hl 1 rfl) ?_
                    refine va_get (D := (dC, dI)) (ci := 4) (v := .ref (ad 7)) (C := R_CM) (T := F_CM) (N := 27) hx hb hT i_CM hown hK hP 0 rfl rfl 11 (by decide) (hT _ m_482) (fun _ h9 => h9) rfl d_CM_keep_117 ?_
                    refine lv_iload_n hx hb d_CM_keep_120 rfl (lv_at hl 0 rfl) ?_
                    refine va_lald hx hb hK hP 7 1 rfl rfl (vp_in_nI (n := k2) (by omega) (by omega)) d_CM_keep_121 ?_
                    refine W.eq (g2 := F0 m 122 ls [.long ((mv_sv v) k2), .int (nI k2), .ref (ad 17)]) (by rw [nI_clamp (n := k2) (by omega)] <;> rfl) ?_
                    refine va_last hx hb hK hP hD hS 17 1 rfl rfl (vp_in_nI (n := k2) (by omega) (by omega)) d_CM_keep_122 (fun H locs hP hD hS => ?_)
                    rw [nI_clamp (n := k2) (by omega)] at hP hD
                    have hP : va_P (dC, dI) kCl (mw_ cI cJ ad L S C key th most asked td tr (v) (mv_mk (cp_ 512 (mv_bl o) (mv_bl v)) (cp_ 512 (mv_lf o) (mv_lf v)) (cp_ 512 (mv_vl o) (mv_vl v)) (cp_ 128 (mv_ct o) (mv_ct v)) (cp_ (k2 + 1) (mv_sb o) (mv_sb v)) (cp_ (k2 + 1) (mv_sl o) (mv_sl v)) (vp_updL (cp_ k2 (mv_sv o) (mv_sv v)) k2 ((mv_sv v) k2)) (mv_sz o) (mv_ml o))) H := hP
                    have hD : va_D A (mw_ cI cJ ad L S C key th most asked td tr (v) (mv_mk (cp_ 512 (mv_bl o) (mv_bl v)) (cp_ 512 (mv_lf o) (mv_lf v)) (cp_ 512 (mv_vl o) (mv_vl v)) (cp_ 128 (mv_ct o) (mv_ct v)) (cp_ (k2 + 1) (mv_sb o) (mv_sb v)) (cp_ (k2 + 1) (mv_sl o) (mv_sl v)) (vp_updL (cp_ k2 (mv_sv o) (mv_sv v)) k2 ((mv_sv v) k2)) (mv_sz o) (mv_ml o))) := hD
                    rw [cp_sL (f := mv_sv o) (g := mv_sv v) (k := k2)] at hP hD
                    refine lv_iinc (v := nI (k2 + 1)) (lv' := [(1, .int (nI (k2 + 1))), (0, .ref (ad 0))]) hx hb d_CM_keep_123 hl (k := 0) rfl (nI_1 k2) (by decide) rfl (fun ls hl => ?_)
                    refine lv_goto (tgt := 80) hx hb d_CM_keep_126 (by decide) ?_
                    exact ih3 (k2 + 1) ls H locs (by omega) (by omega) hP hD hS (lv_sub hl [0, 1] rfl)
              exact lp3 ((160 - 0) + 1) 0 ls _ _ (by omega) (by omega) hP hD hS (lv_sub hl [0, 1] rfl)
            · have c_2 := (not_congr (nI_leI (a := 128) (b := k1) (by omega) (by omega))).mp c_2
              refine lv_aload_n hx hb d_CM_keep_60 rfl (lv_at hl 1 rfl) ?_
              refine va_get (D := (dC, dI)) (ci := 4) (v := .ref (ad 14)) (C := R_CM) (T := F_CM) (N := 27) hx hb hT i_CM hown hK hP 0 rfl rfl 21 (by decide) (hT _ m_492) (fun _ h9 => h9) rfl d_CM_keep_61 ?_
              refine lv_iload_n hx hb d_CM_keep_64 rfl (lv_at hl 0 rfl) ?_
              refine lv_aload_n hx hb d_CM_keep_65 rfl (lv_at hl 1 rfl) ?_
              refine va_get (D := (dC, dI)) (ci := 4) (v := .ref (ad 4)) (C := R_CM) (T := F_CM) (N := 27) hx hb hT i_CM hown hK hP 0 rfl rfl 8 (by decide) (hT _ m_479) (fun _ h9 => h9) rfl d_CM_keep_66 ?_
              refine lv_iload_n hx hb d_CM_keep_69 rfl (lv_at hl 0 rfl) ?_
              refine va_iald hx hb hK hP 4 0 rfl rfl (vp_in_nI (n := k1) (by omega) (by omega)) d_CM_keep_70 ?_
              refine W.eq (g2 := F0 m 71 ls [.int ((mv_ct v) k1), .int (nI k1), .ref (ad 14)]) (by rw [nI_clamp (n := k1) (by omega)] <;> rfl) ?_
              refine va_iast hx hb hK hP hD hS 14 0 rfl rfl (vp_in_nI (n := k1) (by omega) (by omega)) d_CM_keep_71 (fun H locs hP hD hS => ?_)
              rw [nI_clamp (n := k1) (by omega)] at hP hD
              have hP : va_P (dC, dI) kCl (mw_ cI cJ ad L S C key th most asked td tr (v) (mv_mk (cp_ 512 (mv_bl o) (mv_bl v)) (cp_ 512 (mv_lf o) (mv_lf v)) (cp_ 512 (mv_vl o) (mv_vl v)) (upd (cp_ k1 (mv_ct o) (mv_ct v)) k1 ((mv_ct v) k1)) (mv_sb o) (mv_sl o) (mv_sv o) (mv_sz o) (mv_ml o))) H := hP
              have hD : va_D A (mw_ cI cJ ad L S C key th most asked td tr (v) (mv_mk (cp_ 512 (mv_bl o) (mv_bl v)) (cp_ 512 (mv_lf o) (mv_lf v)) (cp_ 512 (mv_vl o) (mv_vl v)) (upd (cp_ k1 (mv_ct o) (mv_ct v)) k1 ((mv_ct v) k1)) (mv_sb o) (mv_sl o) (mv_sv o) (mv_sz o) (mv_ml o))) := hD
              rw [cp_s (f := mv_ct o) (g := mv_ct v) (k := k1)] at hP hD
              refine lv_iinc (v := nI (k1 + 1)) (lv' := [(1, .int (nI (k1 + 1))), (0, .ref (ad 0))]) hx hb d_CM_keep_72 hl (k := 0) rfl (nI_1 k1) (by decide) rfl (fun ls hl => ?_)
              refine lv_goto (tgt := 53) hx hb d_CM_keep_75 (by decide) ?_
              exact ih2 (k1 + 1) ls H locs (by omega) (by omega) hP hD hS (lv_sub hl [0, 1] rfl)
        exact lp2 ((128 - 0) + 1) 0 ls _ _ (by omega) (by omega) hP hD hS (lv_sub hl [0, 1] rfl)
      · have c_1 := (not_congr (nI_leI (a := 512) (b := k0) (by omega) (by omega))).mp c_1
        refine lv_aload_n hx hb d_CM_keep_9 rfl (lv_at hl 1 rfl) ?_
        refine va_get (D := (dC, dI)) (ci := 4) (v := .ref (ad 11)) (C := R_CM) (T := F_CM) (N := 27) hx hb hT i_CM hown hK hP 0 rfl rfl 18 (by decide) (hT _ m_489) (fun _ h9 => h9) rfl d_CM_keep_10 ?_
        refine lv_iload_n hx hb d_CM_keep_13 rfl (lv_at hl 0 rfl) ?_
        refine lv_aload_n hx hb d_CM_keep_14 rfl (lv_at hl 1 rfl) ?_
        refine va_get (D := (dC, dI)) (ci := 4) (v := .ref (ad 1)) (C := R_CM) (T := F_CM) (N := 27) hx hb hT i_CM hown hK hP 0 rfl rfl 5 (by decide) (hT _ m_476) (fun _ h9 => h9) rfl d_CM_keep_15 ?_
        refine lv_iload_n hx hb d_CM_keep_18 rfl (lv_at hl 0 rfl) ?_
        refine va_iald hx hb hK hP 1 0 rfl rfl (vp_in_nI (n := k0) (by omega) (by omega)) d_CM_keep_19 ?_
        refine W.eq (g2 := F0 m 20 ls [.int ((mv_bl v) k0), .int (nI k0), .ref (ad 11)]) (by rw [nI_clamp (n := k0) (by omega)] <;> rfl) ?_
        refine va_iast hx hb hK hP hD hS 11 0 rfl rfl (vp_in_nI (n := k0) (by omega) (by omega)) d_CM_keep_20 (fun H locs hP hD hS => ?_)
        rw [nI_clamp (n := k0) (by omega)] at hP hD
        have hP : va_P (dC, dI) kCl (mw_ cI cJ ad L S C key th most asked td tr (v) (mv_mk (upd (cp_ k0 (mv_bl o) (mv_bl v)) k0 ((mv_bl v) k0)) (cp_ k0 (mv_lf o) (mv_lf v)) (cp_ k0 (mv_vl o) (mv_vl v)) (mv_ct o) (mv_sb o) (mv_sl o) (mv_sv o) (mv_sz o) (mv_ml o))) H := hP
        have hD : va_D A (mw_ cI cJ ad L S C key th most asked td tr (v) (mv_mk (upd (cp_ k0 (mv_bl o) (mv_bl v)) k0 ((mv_bl v) k0)) (cp_ k0 (mv_lf o) (mv_lf v)) (cp_ k0 (mv_vl o) (mv_vl v)) (mv_ct o) (mv_sb o) (mv_sl o) (mv_sv o) (mv_sz o) (mv_ml o))) := hD
        rw [cp_s (f := mv_bl o) (g := mv_bl v) (k := k0)] at hP hD
        refine lv_aload_n hx hb d_CM_keep_21 rfl (lv_at hl 1 rfl) ?_
        refine va_get (D := (dC, dI)) (ci := 4) (v := .ref (ad 12)) (C := R_CM) (T := F_CM) (N := 27) hx hb hT i_CM hown hK hP 0 rfl rfl 19 (by decide) (hT _ m_490) (fun _ h9 => h9) rfl d_CM_keep_22 ?_
        refine lv_iload_n hx hb d_CM_keep_25 rfl (lv_at hl 0 rfl) ?_
        refine lv_aload_n hx hb d_CM_keep_26 rfl (lv_at hl 1 rfl) ?_
        refine va_get (D := (dC, dI)) (ci := 4) (v := .ref (ad 2)) (C := R_CM) (T := F_CM) (N := 27) hx hb hT i_CM hown hK hP 0 rfl rfl 6 (by decide) (hT _ m_477) (fun _ h9 => h9) rfl d_CM_keep_27 ?_
        refine lv_iload_n hx hb d_CM_keep_30 rfl (lv_at hl 0 rfl) ?_
        refine va_iald hx hb hK hP 2 0 rfl rfl (vp_in_nI (n := k0) (by omega) (by omega)) d_CM_keep_31 ?_
        refine W.eq (g2 := F0 m 32 ls [.int ((mv_lf v) k0), .int (nI k0), .ref (ad 12)]) (by rw [nI_clamp (n := k0) (by omega)] <;> rfl) ?_
        refine va_iast hx hb hK hP hD hS 12 0 rfl rfl (vp_in_nI (n := k0) (by omega) (by omega)) d_CM_keep_32 (fun H locs hP hD hS => ?_)
        rw [nI_clamp (n := k0) (by omega)] at hP hD
        have hP : va_P (dC, dI) kCl (mw_ cI cJ ad L S C key th most asked td tr (v) (mv_mk (cp_ (k0 + 1) (mv_bl o) (mv_bl v)) (upd (cp_ k0 (mv_lf o) (mv_lf v)) k0 ((mv_lf v) k0)) (cp_ k0 (mv_vl o) (mv_vl v)) (mv_ct o) (mv_sb o) (mv_sl o) (mv_sv o) (mv_sz o) (mv_ml o))) H := hP
        have hD : va_D A (mw_ cI cJ ad L S C key th most asked td tr (v) (mv_mk (cp_ (k0 + 1) (mv_bl o) (mv_bl v)) (upd (cp_ k0 (mv_lf o) (mv_lf v)) k0 ((mv_lf v) k0)) (cp_ k0 (mv_vl o) (mv_vl v)) (mv_ct o) (mv_sb o) (mv_sl o) (mv_sv o) (mv_sz o) (mv_ml o))) := hD
        rw [cp_s (f := mv_lf o) (g := mv_lf v) (k := k0)] at hP hD
        refine lv_aload_n hx hb d_CM_keep_33 rfl (lv_at hl 1 rfl) ?_
        refine va_get (D := (dC, dI)) (ci := 4) (v := .ref (ad 13)) (C := R_CM) (T := F_CM) (N := 27) hx hb hT i_CM hown hK hP 0 rfl rfl 20 (by decide) (hT _ m_491) (fun _ h9 => h9) rfl d_CM_keep_34 ?_
        refine lv_iload_n hx hb d_CM_keep_37 rfl (lv_at hl 0 rfl) ?_
        refine lv_aload_n hx hb d_CM_keep_38 rfl (lv_at hl 1 rfl) ?_
        refine va_get (D := (dC, dI)) (ci := 4) (v := .ref (ad 3)) (C := R_CM) (T := F_CM) (N := 27) hx hb hT i_CM hown hK hP 0 rfl rfl 7 (by decide) (hT _ m_478) (fun _ h9 => h9) rfl d_CM_keep_39 ?_
        refine lv_iload_n hx hb d_CM_keep_42 rfl (lv_at hl 0 rfl) ?_
        refine va_lald hx hb hK hP 3 1 rfl rfl (vp_in_nI (n := k0) (by omega) (by omega)) d_CM_keep_43 ?_
        refine W.eq (g2 := F0 m 44 ls [.long ((mv_vl v) k0), .int (nI k0), .ref (ad 13)]) (by rw [nI_clamp (n := k0) (by omega)] <;> rfl) ?_
        refine va_last hx hb hK hP hD hS 13 1 rfl rfl (vp_in_nI (n := k0) (by omega) (by omega)) d_CM_keep_44 (fun H locs hP hD hS => ?_)
        rw [nI_clamp (n := k0) (by omega)] at hP hD
        have hP : va_P (dC, dI) kCl (mw_ cI cJ ad L S C key th most asked td tr (v) (mv_mk (cp_ (k0 + 1) (mv_bl o) (mv_bl v)) (cp_ (k0 + 1) (mv_lf o) (mv_lf v)) (vp_updL (cp_ k0 (mv_vl o) (mv_vl v)) k0 ((mv_vl v) k0)) (mv_ct o) (mv_sb o) (mv_sl o) (mv_sv o) (mv_sz o) (mv_ml o))) H := hP
        have hD : va_D A (mw_ cI cJ ad L S C key th most asked td tr (v) (mv_mk (cp_ (k0 + 1) (mv_bl o) (mv_bl v)) (cp_ (k0 + 1) (mv_lf o) (mv_lf v)) (vp_updL (cp_ k0 (mv_vl o) (mv_vl v)) k0 ((mv_vl v) k0)) (mv_ct o) (mv_sb o) (mv_sl o) (mv_sv o) (mv_sz o) (mv_ml o))) := hD
        rw [cp_sL (f := mv_vl o) (g := mv_vl v) (k := k0)] at hP hD
        refine lv_iinc (v := nI (k0 + 1)) (lv' := [(1, .int (nI (k0 + 1))), (0, .ref (ad 0))]) hx hb d_CM_keep_45 hl (k := 0) rfl (nI_1 k0) (by decide) rfl (fun ls hl => ?_)
        refine lv_goto (tgt := 2) hx hb d_CM_keep_48 (by decide) ?_
        exact ih1 (k0 + 1) ls H locs (by omega) (by omega) hP hD hS (lv_sub hl [0, 1] rfl)
  exact lp1 ((512 - 0) + 1) 0 ls _ _ (by omega) (by omega) hP hD hS (lv_sub hl [0, 1] rfl)

set_option maxHeartbeats 8000000 in
set_option maxRecDepth 100000 in
/-- CoinTreeModel.takeBack -/
theorem c_CM_takeBack {l : Launch} {dC : Nat → ClassId} {dI : Nat → Nat → Nat} {cI cJ : ClassId} {A : Nat → Prop} {ad : Nat → Nat} {L S C : Nat} {key : Int64} {th most asked : Int32} {td : Nat} {tr : Nat → Int32} {v o : Mv} (ok : mk_ok L S C) : Met l y_CM_takeBack (k_CM_takeBack :: bw) { frames := 0, cells := 0, slots := 0, locals := 0 } (mP (dC, dI) kCl [(cI, .int), (cJ, .long)] [.ref (ad 0)] (mw_ cI cJ ad L S C key th most asked td tr (v) (o)) A) (mQv (dC, dI) kCl (mw_ cI cJ ad L S C key th most asked td tr (mv_cp v o) (o)) A) 0 0 A := by
  refine Met.ofZ (own := "CoinTreeModel") (by decide) rfl [.ref (ad 0)] (Nat.le_of_ble_eq_true rfl) (fun _ _ h => h.1) ?_
  intro p e s m below meth c ls C0 hv hl
  obtain ⟨hx, hb, hr, hml, hown, hT, hlocks⟩ := C0
  obtain ⟨-, hP, hK, hD⟩ := hv
  have hS : va_S A s.heap s.heap [] := va_S.rf
  have hl : lv_has ls 2 [(0, .ref (ad 0))] := hl
  obtain ⟨qL1, qL5, qS1, qS4, qC⟩ := id ok
  
  refine lv_iconst (v := 0) hx hb d_CM_takeBack_0 (by decide) ?_
  refine lv_istore_n (lv' := [(1, .int 0), (0, .ref (ad 0))]) hx hb d_CM_takeBack_1 rfl hl (by decide) rfl (fun ls hl => ?_)
  have hP : va_P (dC, dI) kCl (mw_ cI cJ ad L S C key th most asked td tr (mv_mk (cp_ 0 (mv_bl v) (mv_bl o)) (cp_ 0 (mv_lf v) (mv_lf o)) (cp_ 0 (mv_vl v) (mv_vl o)) (mv_ct v) (mv_sb v) (mv_sl v) (mv_sv v) (mv_sz v) (mv_ml v)) (o)) s.heap := by rw [cp_0 (f := mv_bl v), cp_0 (f := mv_lf v), cp_0 (f := mv_vl v)]; exact hP
  have hD : va_D A (mw_ cI cJ ad L S C key th most asked td tr (mv_mk (cp_ 0 (mv_bl v) (mv_bl o)) (cp_ 0 (mv_lf v) (mv_lf o)) (cp_ 0 (mv_vl v) (mv_vl o)) (mv_ct v) (mv_sb v) (mv_sl v) (mv_sv v) (mv_sz v) (mv_ml v)) (o)) := by rw [cp_0 (f := mv_bl v), cp_0 (f := mv_lf v), cp_0 (f := mv_vl v)]; exact hD
  have lp1 : ∀ (N : Nat) (k0 : Nat) (ls : Array Slot) (H : Heap) (locs : List Loc), 512 - k0 < N → k0 ≤ 512 →  va_P (dC, dI) kCl (mw_ cI cJ ad L S C key th most asked td tr (mv_mk (cp_ k0 (mv_bl v) (mv_bl o)) (cp_ k0 (mv_lf v) (mv_lf o)) (cp_ k0 (mv_vl v) (mv_vl o)) (mv_ct v) (mv_sb v) (mv_sl v) (mv_sv v) (mv_sz v) (mv_ml v)) (o)) H → va_D A (mw_ cI cJ ad L S C key th most asked td tr (mv_mk (cp_ k0 (mv_bl v) (mv_bl o)) (cp_ k0 (mv_lf v) (mv_lf o)) (cp_ k0 (mv_vl v) (mv_vl o)) (mv_ct v) (mv_sb v) (mv_sl v) (mv_sv v) (mv_sz v) (mv_ml v)) (o)) → va_S A s.heap H locs → lv_has ls 2 [(1, .int (nI k0)), (0, .ref (ad 0))] → W p l e ({ frames := 0, cells := 0, slots := 0, locals := 0 } : Room) s m ([.ref (ad 0)] : List Value).toArray below meth c H locs 0 0 (MQ below (mQv (dC, dI) kCl (mw_ cI cJ ad L S C key th most asked td tr (mv_cp v o) (o)) A) ([.ref (ad 0)] : List Value).toArray s 0 0 A) (F0 m 2 ls []) := by
    intro N1
    induction N1 with
    | zero => intro k0 ls H locs hN; omega
    | succ N1 ih1 =>
      intro k0 ls H locs hN1 hk0 hP hD hS hl
      refine lv_iload_n hx hb d_CM_takeBack_2 rfl (lv_at hl 0 rfl) ?_
      refine lv_sipush (v := 512) hx hb d_CM_takeBack_3 (by decide) ?_
      refine lv_icmp_ge (tgt := 51) hx hb d_CM_takeBack_6 (by decide) (fun c_1 => ?_) (fun c_1 => ?_)
      · have c_1 := (nI_leI (a := 512) (b := k0) (by omega) (by omega)).mp c_1
        have he0 : k0 = 512 := by omega
        subst he0
        refine lv_iconst (v := 0) hx hb d_CM_takeBack_51 (by decide) ?_
        refine lv_istore_n (lv' := [(1, .int 0), (0, .ref (ad 0))]) hx hb d_CM_takeBack_52 rfl hl (by decide) rfl (fun ls hl => ?_)
        have hP : va_P (dC, dI) kCl (mw_ cI cJ ad L S C key th most asked td tr (mv_mk (cp_ 512 (mv_bl v) (mv_bl o)) (cp_ 512 (mv_lf v) (mv_lf o)) (cp_ 512 (mv_vl v) (mv_vl o)) (cp_ 0 (mv_ct v) (mv_ct o)) (mv_sb v) (mv_sl v) (mv_sv v) (mv_sz v) (mv_ml v)) (o)) H := by rw [cp_0 (f := mv_ct v)]; exact hP
        have hD : va_D A (mw_ cI cJ ad L S C key th most asked td tr (mv_mk (cp_ 512 (mv_bl v) (mv_bl o)) (cp_ 512 (mv_lf v) (mv_lf o)) (cp_ 512 (mv_vl v) (mv_vl o)) (cp_ 0 (mv_ct v) (mv_ct o)) (mv_sb v) (mv_sl v) (mv_sv v) (mv_sz v) (mv_ml v)) (o)) := by rw [cp_0 (f := mv_ct v)]; exact hD
        have lp2 : ∀ (N : Nat) (k1 : Nat) (ls : Array Slot) (H : Heap) (locs : List Loc), 128 - k1 < N → k1 ≤ 128 →  va_P (dC, dI) kCl (mw_ cI cJ ad L S C key th most asked td tr (mv_mk (cp_ 512 (mv_bl v) (mv_bl o)) (cp_ 512 (mv_lf v) (mv_lf o)) (cp_ 512 (mv_vl v) (mv_vl o)) (cp_ k1 (mv_ct v) (mv_ct o)) (mv_sb v) (mv_sl v) (mv_sv v) (mv_sz v) (mv_ml v)) (o)) H → va_D A (mw_ cI cJ ad L S C key th most asked td tr (mv_mk (cp_ 512 (mv_bl v) (mv_bl o)) (cp_ 512 (mv_lf v) (mv_lf o)) (cp_ 512 (mv_vl v) (mv_vl o)) (cp_ k1 (mv_ct v) (mv_ct o)) (mv_sb v) (mv_sl v) (mv_sv v) (mv_sz v) (mv_ml v)) (o)) → va_S A s.heap H locs → lv_has ls 2 [(1, .int (nI k1)), (0, .ref (ad 0))] → W p l e ({ frames := 0, cells := 0, slots := 0, locals := 0 } : Room) s m ([.ref (ad 0)] : List Value).toArray below meth c H locs 0 0 (MQ below (mQv (dC, dI) kCl (mw_ cI cJ ad L S C key th most asked td tr (mv_cp v o) (o)) A) ([.ref (ad 0)] : List Value).toArray s 0 0 A) (F0 m 53 ls []) := by
          intro N2
          induction N2 with
          | zero => intro k1 ls H locs hN; omega
          | succ N2 ih2 =>
            intro k1 ls H locs hN2 hk1 hP hD hS hl
            refine lv_iload_n hx hb d_CM_takeBack_53 rfl (lv_at hl 0 rfl) ?_
            refine lv_sipush (v := 128) hx hb d_CM_takeBack_54 (by decide) ?_
            refine lv_icmp_ge (tgt := 78) hx hb d_CM_takeBack_57 (by decide) (fun c_2 => ?_) (fun c_2 => ?_)
            · have c_2 := (nI_leI (a := 128) (b := k1) (by omega) (by omega)).mp c_2
              have he1 : k1 = 128 := by omega
              subst he1
              refine lv_iconst (v := 0) hx hb d_CM_takeBack_78 (by decide) ?_
              refine lv_istore_n (lv' := [(1, .int 0), (0, .ref (ad 0))]) hx hb d_CM_takeBack_79 rfl hl (by decide) rfl (fun ls hl => ?_)
              have hP : va_P (dC, dI) kCl (mw_ cI cJ ad L S C key th most asked td tr (mv_mk (cp_ 512 (mv_bl v) (mv_bl o)) (cp_ 512 (mv_lf v) (mv_lf o)) (cp_ 512 (mv_vl v) (mv_vl o)) (cp_ 128 (mv_ct v) (mv_ct o)) (cp_ 0 (mv_sb v) (mv_sb o)) (cp_ 0 (mv_sl v) (mv_sl o)) (cp_ 0 (mv_sv v) (mv_sv o)) (mv_sz v) (mv_ml v)) (o)) H := by rw [cp_0 (f := mv_sb v), cp_0 (f := mv_sl v), cp_0 (f := mv_sv v)]; exact hP
              have hD : va_D A (mw_ cI cJ ad L S C key th most asked td tr (mv_mk (cp_ 512 (mv_bl v) (mv_bl o)) (cp_ 512 (mv_lf v) (mv_lf o)) (cp_ 512 (mv_vl v) (mv_vl o)) (cp_ 128 (mv_ct v) (mv_ct o)) (cp_ 0 (mv_sb v) (mv_sb o)) (cp_ 0 (mv_sl v) (mv_sl o)) (cp_ 0 (mv_sv v) (mv_sv o)) (mv_sz v) (mv_ml v)) (o)) := by rw [cp_0 (f := mv_sb v), cp_0 (f := mv_sl v), cp_0 (f := mv_sv v)]; exact hD
              have lp3 : ∀ (N : Nat) (k2 : Nat) (ls : Array Slot) (H : Heap) (locs : List Loc), 160 - k2 < N → k2 ≤ 160 →  va_P (dC, dI) kCl (mw_ cI cJ ad L S C key th most asked td tr (mv_mk (cp_ 512 (mv_bl v) (mv_bl o)) (cp_ 512 (mv_lf v) (mv_lf o)) (cp_ 512 (mv_vl v) (mv_vl o)) (cp_ 128 (mv_ct v) (mv_ct o)) (cp_ k2 (mv_sb v) (mv_sb o)) (cp_ k2 (mv_sl v) (mv_sl o)) (cp_ k2 (mv_sv v) (mv_sv o)) (mv_sz v) (mv_ml v)) (o)) H → va_D A (mw_ cI cJ ad L S C key th most asked td tr (mv_mk (cp_ 512 (mv_bl v) (mv_bl o)) (cp_ 512 (mv_lf v) (mv_lf o)) (cp_ 512 (mv_vl v) (mv_vl o)) (cp_ 128 (mv_ct v) (mv_ct o)) (cp_ k2 (mv_sb v) (mv_sb o)) (cp_ k2 (mv_sl v) (mv_sl o)) (cp_ k2 (mv_sv v) (mv_sv o)) (mv_sz v) (mv_ml v)) (o)) → va_S A s.heap H locs → lv_has ls 2 [(1, .int (nI k2)), (0, .ref (ad 0))] → W p l e ({ frames := 0, cells := 0, slots := 0, locals := 0 } : Room) s m ([.ref (ad 0)] : List Value).toArray below meth c H locs 0 0 (MQ below (mQv (dC, dI) kCl (mw_ cI cJ ad L S C key th most asked td tr (mv_cp v o) (o)) A) ([.ref (ad 0)] : List Value).toArray s 0 0 A) (F0 m 80 ls []) := by
                intro N3
                induction N3 with
                | zero => intro k2 ls H locs hN; omega
                | succ N3 ih3 =>
                  intro k2 ls H locs hN3 hk2 hP hD hS hl
                  refine lv_iload_n hx hb d_CM_takeBack_80 rfl (lv_at hl 0 rfl) ?_
                  refine lv_sipush (v := 160) hx hb d_CM_takeBack_81 (by decide) ?_
                  refine lv_icmp_ge (tgt := 129) hx hb d_CM_takeBack_84 (by decide) (fun c_3 => ?_) (fun c_3 => ?_)
                  · have c_3 := (nI_leI (a := 160) (b := k2) (by omega) (by omega)).mp c_3
                    have he2 : k2 = 160 := by omega
                    subst he2
                    refine lv_iconst (v := 0) hx hb d_CM_takeBack_129 (by decide) ?_
                    refine lv_istore_n (lv' := [(1, .int 0), (0, .ref (ad 0))]) hx hb d_CM_takeBack_130 rfl hl (by decide) rfl (fun ls hl => ?_)
                    have hP : va_P (dC, dI) kCl (mw_ cI cJ ad L S C key th most asked td tr (mv_mk (cp_ 512 (mv_bl v) (mv_bl o)) (cp_ 512 (mv_lf v) (mv_lf o)) (cp_ 512 (mv_vl v) (mv_vl o)) (cp_ 128 (mv_ct v) (mv_ct o)) (cp_ 160 (mv_sb v) (mv_sb o)) (cp_ 160 (mv_sl v) (mv_sl o)) (cp_ 160 (mv_sv v) (mv_sv o)) (cp_ 0 (mv_sz v) (mv_sz o)) (mv_ml v)) (o)) H := by rw [cp_0 (f := mv_sz v)]; exact hP
                    have hD : va_D A (mw_ cI cJ ad L S C key th most asked td tr (mv_mk (cp_ 512 (mv_bl v) (mv_bl o)) (cp_ 512 (mv_lf v) (mv_lf o)) (cp_ 512 (mv_vl v) (mv_vl o)) (cp_ 128 (mv_ct v) (mv_ct o)) (cp_ 160 (mv_sb v) (mv_sb o)) (cp_ 160 (mv_sl v) (mv_sl o)) (cp_ 160 (mv_sv v) (mv_sv o)) (cp_ 0 (mv_sz v) (mv_sz o)) (mv_ml v)) (o)) := by rw [cp_0 (f := mv_sz v)]; exact hD
                    have lp4 : ∀ (N : Nat) (k3 : Nat) (ls : Array Slot) (H : Heap) (locs : List Loc), 2 - k3 < N → k3 ≤ 2 →  va_P (dC, dI) kCl (mw_ cI cJ ad L S C key th most asked td tr (mv_mk (cp_ 512 (mv_bl v) (mv_bl o)) (cp_ 512 (mv_lf v) (mv_lf o)) (cp_ 512 (mv_vl v) (mv_vl o)) (cp_ 128 (mv_ct v) (mv_ct o)) (cp_ 160 (mv_sb v) (mv_sb o)) (cp_ 160 (mv_sl v) (mv_sl o)) (cp_ 160 (mv_sv v) (mv_sv o)) (cp_ k3 (mv_sz v) (mv_sz o)) (mv_ml v)) (o)) H → va_D A (mw_ cI cJ ad L S C key th most asked td tr (mv_mk (cp_ 512 (mv_bl v) (mv_bl o)) (cp_ 512 (mv_lf v) (mv_lf o)) (cp_ 512 (mv_vl v) (mv_vl o)) (cp_ 128 (mv_ct v) (mv_ct o)) (cp_ 160 (mv_sb v) (mv_sb o)) (cp_ 160 (mv_sl v) (mv_sl o)) (cp_ 160 (mv_sv v) (mv_sv o)) (cp_ k3 (mv_sz v) (mv_sz o)) (mv_ml v)) (o)) → va_S A s.heap H locs → lv_has ls 2 [(1, .int (nI k3)), (0, .ref (ad 0))] → W p l e ({ frames := 0, cells := 0, slots := 0, locals := 0 } : Room) s m ([.ref (ad 0)] : List Value).toArray below meth c H locs 0 0 (MQ below (mQv (dC, dI) kCl (mw_ cI cJ ad L S C key th most asked td tr (mv_cp v o) (o)) A) ([.ref (ad 0)] : List Value).toArray s 0 0 A) (F0 m 131 ls []) := by
                      intro N4
                      induction N4 with
                      | zero => intro k3 ls H locs hN; omega
                      | succ N4 ih4 =>
                        intro k3 ls H locs hN4 hk3 hP hD hS hl
                        refine lv_iload_n hx hb d_CM_takeBack_131 rfl (lv_at hl 0 rfl) ?_
                        refine lv_iconst (v := 2) hx hb d_CM_takeBack_132 (by decide) ?_
                        refine lv_icmp_ge (tgt := 154) hx hb d_CM_takeBack_133 (by decide) (fun c_4 => ?_) (fun c_4 => ?_)
                        · have c_4 := (nI_leI (a := 2) (b := k3) (by omega) (by omega)).mp c_4
                          have he3 : k3 = 2 := by omega
                          subst he3
                          refine lv_iconst (v := 0) hx hb d_CM_takeBack_154 (by decide) ?_
                          refine lv_istore_n (lv' := [(1, .int 0), (0, .ref (ad 0))]) hx hb d_CM_takeBack_155 rfl hl (by decide) rfl (fun ls hl => ?_)
                          have hP : va_P (dC, dI) kCl (mw_ cI cJ ad L S C key th most asked td tr (mv_mk (cp_ 512 (mv_bl v) (mv_bl o)) (cp_ 512 (mv_lf v) (mv_lf o)) (cp_ 512 (mv_vl v) (mv_vl o)) (cp_ 128 (mv_ct v) (mv_ct o)) (cp_ 160 (mv_sb v) (mv_sb o)) (cp_ 160 (mv_sl v) (mv_sl o)) (cp_ 160 (mv_sv v) (mv_sv o)) (cp_ 2 (mv_sz v) (mv_sz o)) (cp_ 0 (mv_ml v) (mv_ml o))) (o)) H := by rw [cp_0 (f := mv_ml v)]; exact hP
                          have hD : va_D A (mw_ cI cJ ad L S C key th most asked td tr (mv_mk (cp_ 512 (mv_bl v) (mv_bl o)) (cp_ 512 (mv_lf v) (mv_lf o)) (cp_ 512 (mv_vl v) (mv_vl o)) (cp_ 128 (mv_ct v) (mv_ct o)) (cp_ 160 (mv_sb v) (mv_sb o)) (cp_ 160 (mv_sl v) (mv_sl o)) (cp_ 160 (mv_sv v) (mv_sv o)) (cp_ 2 (mv_sz v) (mv_sz o)) (cp_ 0 (mv_ml v) (mv_ml o))) (o)) := by rw [cp_0 (f := mv_ml v)]; exact hD
                          have lp5 : ∀ (N : Nat) (k4 : Nat) (ls : Array Slot) (H : Heap) (locs : List Loc), 16 - k4 < N → k4 ≤ 16 →  va_P (dC, dI) kCl (mw_ cI cJ ad L S C key th most asked td tr (mv_mk (cp_ 512 (mv_bl v) (mv_bl o)) (cp_ 512 (mv_lf v) (mv_lf o)) (cp_ 512 (mv_vl v) (mv_vl o)) (cp_ 128 (mv_ct v) (mv_ct o)) (cp_ 160 (mv_sb v) (mv_sb o)) (cp_ 160 (mv_sl v) (mv_sl o)) (cp_ 160 (mv_sv v) (mv_sv o)) (cp_ 2 (mv_sz v) (mv_sz o)) (cp_ k4 (mv_ml v) (mv_ml o))) (o)) H → va_D A (mw_ cI cJ ad L S C key th most asked td tr (mv_mk (cp_ 512 (mv_bl v) (mv_bl o)) (cp_ 512 (mv_lf v) (mv_lf o)) (cp_ 512 (mv_vl v) (mv_vl o)) (cp_ 128 (mv_ct v) (mv_ct o)) (cp_ 160 (mv_sb v) (mv_sb o)) (cp_ 160 (mv_sl v) (mv_sl o)) (cp_ 160 (mv_sv v) (mv_sv o)) (cp_ 2 (mv_sz v) (mv_sz o)) (cp_ k4 (mv_ml v) (mv_ml o))) (o)) → va_S A s.heap H locs → lv_has ls 2 [(1, .int (nI k4)), (0, .ref (ad 0))] → W p l e ({ frames := 0, cells := 0, slots := 0, locals := 0 } : Room) s m ([.ref (ad 0)] : List Value).toArray below meth c H locs 0 0 (MQ below (mQv (dC, dI) kCl (mw_ cI cJ ad L S C key th most asked td tr (mv_cp v o) (o)) A) ([.ref (ad 0)] : List Value).toArray s 0 0 A) (F0 m 156 ls []) := by
                            intro N5
                            induction N5 with
                            | zero => intro k4 ls H locs hN; omega
                            | succ N5 ih5 =>
                              intro k4 ls H locs hN5 hk4 hP hD hS hl
                              refine lv_iload_n hx hb d_CM_takeBack_156 rfl (lv_at hl 0 rfl) ?_
                              refine lv_bipush (v := 16) hx hb d_CM_takeBack_157 (by decide) ?_
                              refine lv_icmp_ge (tgt := 180) hx hb d_CM_takeBack_159 (by decide) (fun c_5 => ?_) (fun c_5 => ?_)
                              · have c_5 := (nI_leI (a := 16) (b := k4) (by omega) (by omega)).mp c_5
                                have he4 : k4 = 16 := by omega
                                subst he4
                                exact W.vret hx hb hr (fun t9 ht _ => mQv_end (rfl) hP hD hS ht) hS.2.2 d_CM_takeBack_180 hlocks
                              · have c_5 := (not_congr (nI_leI (a := 16) (b := k4) (by omega) (by omega))).mp c_5
                                refine lv_aload_n hx hb d_CM_takeBack_162 rfl (lv_at hl 1 rfl) ?_
                                refine va_get (D := (dC, dI)) (ci := 4) (v := .ref (ad 9)) (C := R_CM) (T := F_CM) (N := 27) hx hb hT i_CM hown hK hP 0 rfl rfl 13 (by decide) (hT _ m_484) (fun _ h9 => h9) rfl d_CM_takeBack_163 ?_
                                refine lv_iload_n hx hb d_CM_takeBack_166 rfl (lv_at hl 0 rfl) ?_
                                refine lv_aload_n hx hb d_CM_takeBack_167 rfl (lv_at hl 1 rfl) ?_
                                refine va_get (D := (dC, dI)) (ci := 4) (v := .ref (ad 19)) (C := R_CM) (T := F_CM) (N := 27) hx hb hT i_CM hown hK hP 0 rfl rfl 26 (by decide) (hT _ m_497) (fun _ h9 => h9) rfl d_CM_takeBack_168 ?_
                                refine lv_iload_n hx hb d_CM_takeBack_171 rfl (lv_at hl 0 rfl) ?_
                                refine va_iald hx hb hK hP 19 0 rfl rfl (vp_in_nI (n := k4) (by omega) (by omega)) d_CM_takeBack_172 ?_
                                refine W.eq (g2 := F0 m 173 ls [.int ((mv_ml o) k4), .int (nI k4), .ref (ad 9)]) (by rw [nI_clamp (n := k4) (by omega)] <;> rfl) ?_
                                refine va_iast hx hb hK hP hD hS 9 0 rfl rfl (vp_in_nI (n := k4) (by omega) (by omega)) d_CM_takeBack_173 (fun H locs hP hD hS => ?_)
                                rw [nI_clamp (n := k4) (by omega)] at hP hD
                                have hP : va_P (dC, dI) kCl (mw_ cI cJ ad L S C key th most asked td tr (mv_mk (cp_ 512 (mv_bl v) (mv_bl o)) (cp_ 512 (mv_lf v) (mv_lf o)) (cp_ 512 (mv_vl v) (mv_vl o)) (cp_ 128 (mv_ct v) (mv_ct o)) (cp_ 160 (mv_sb v) (mv_sb o)) (cp_ 160 (mv_sl v) (mv_sl o)) (cp_ 160 (mv_sv v) (mv_sv o)) (cp_ 2 (mv_sz v) (mv_sz o)) (upd (cp_ k4 (mv_ml v) (mv_ml o)) k4 ((mv_ml o) k4))) (o)) H := hP
                                have hD : va_D A (mw_ cI cJ ad L S C key th most asked td tr (mv_mk (cp_ 512 (mv_bl v) (mv_bl o)) (cp_ 512 (mv_lf v) (mv_lf o)) (cp_ 512 (mv_vl v) (mv_vl o)) (cp_ 128 (mv_ct v) (mv_ct o)) (cp_ 160 (mv_sb v) (mv_sb o)) (cp_ 160 (mv_sl v) (mv_sl o)) (cp_ 160 (mv_sv v) (mv_sv o)) (cp_ 2 (mv_sz v) (mv_sz o)) (upd (cp_ k4 (mv_ml v) (mv_ml o)) k4 ((mv_ml o) k4))) (o)) := hD
                                rw [cp_s (f := mv_ml v) (g := mv_ml o) (k := k4)] at hP hD
                                refine lv_iinc (v := nI (k4 + 1)) (lv' := [(1, .int (nI (k4 + 1))), (0, .ref (ad 0))]) hx hb d_CM_takeBack_174 hl (k := 0) rfl (nI_1 k4) (by decide) rfl (fun ls hl => ?_)
                                refine lv_goto (tgt := 156) hx hb d_CM_takeBack_177 (by decide) ?_
                                exact ih5 (k4 + 1) ls H locs (by omega) (by omega) hP hD hS (lv_sub hl [0, 1] rfl)
                          exact lp5 ((16 - 0) + 1) 0 ls _ _ (by omega) (by omega) hP hD hS (lv_sub hl [0, 1] rfl)
                        · have c_4 := (not_congr (nI_leI (a := 2) (b := k3) (by omega) (by omega))).mp c_4
                          refine lv_aload_n hx hb d_CM_takeBack_136 rfl (lv_at hl 1 rfl) ?_
                          refine va_get (D := (dC, dI)) (ci := 4) (v := .ref (ad 8)) (C := R_CM) (T := F_CM) (N := 27) hx hb hT i_CM hown hK hP 0 rfl rfl 12 (by decide) (hT _ m_483) (fun _ h9 => h9) rfl d_CM_takeBack_137 ?_
                          refine lv_iload_n hx hb d_CM_takeBack_140 rfl (lv_at hl 0 rfl) ?_
                          refine lv_aload_n hx hb d_CM_takeBack_141 rfl (lv_at hl 1 rfl) ?_
                          refine va_get (D := (dC, dI)) (ci := 4) (v := .ref (ad 18)) (C := R_CM) (T := F_CM) (N := 27) hx hb hT i_CM hown hK hP 0 rfl rfl 25 (by decide) (hT _ m_496) (fun _ h9 => h9) rfl d_CM_takeBack_142 ?_
                          refine lv_iload_n hx hb d_CM_takeBack_145 rfl (lv_at hl 0 rfl) ?_
                          refine va_iald hx hb hK hP 18 0 rfl rfl (vp_in_nI (n := k3) (by omega) (by omega)) d_CM_takeBack_146 ?_
                          refine W.eq (g2 := F0 m 147 ls [.int (nI ((mv_sz o) k3)), .int (nI k3), .ref (ad 8)]) (by rw [nI_clamp (n := k3) (by omega)] <;> rfl) ?_
                          refine va_iast hx hb hK hP hD hS 8 0 rfl rfl (vp_in_nI (n := k3) (by omega) (by omega)) d_CM_takeBack_147 (fun H locs hP hD hS => ?_)
                          rw [nI_clamp (n := k3) (by omega)] at hP hD
                          rw [up_nI (x := ((mv_sz o) k3))] at hP hD
                          have hP : va_P (dC, dI) kCl (mw_ cI cJ ad L S C key th most asked td tr (mv_mk (cp_ 512 (mv_bl v) (mv_bl o)) (cp_ 512 (mv_lf v) (mv_lf o)) (cp_ 512 (mv_vl v) (mv_vl o)) (cp_ 128 (mv_ct v) (mv_ct o)) (cp_ 160 (mv_sb v) (mv_sb o)) (cp_ 160 (mv_sl v) (mv_sl o)) (cp_ 160 (mv_sv v) (mv_sv o)) (upN (cp_ k3 (mv_sz v) (mv_sz o)) k3 ((mv_sz o) k3)) (mv_ml v)) (o)) H := hP
                          have hD : va_D A (mw_ cI cJ ad L S C key th most asked td tr (mv_mk (cp_ 512 (mv_bl v) (mv_bl o)) (cp_ 512 (mv_lf v) (mv_lf o)) (cp_ 512 (mv_vl v) (mv_vl o)) (cp_ 128 (mv_ct v) (mv_ct o)) (cp_ 160 (mv_sb v) (mv_sb o)) (cp_ 160 (mv_sl v) (mv_sl o)) (cp_ 160 (mv_sv v) (mv_sv o)) (upN (cp_ k3 (mv_sz v) (mv_sz o)) k3 ((mv_sz o) k3)) (mv_ml v)) (o)) := hD
                          rw [cp_sN (f := mv_sz v) (g := mv_sz o) (k := k3)] at hP hD
                          refine lv_iinc (v := nI (k3 + 1)) (lv' := [(1, .int (nI (k3 + 1))), (0, .ref (ad 0))]) hx hb d_CM_takeBack_148 hl (k := 0) rfl (nI_1 k3) (by decide) rfl (fun ls hl => ?_)
                          refine lv_goto (tgt := 131) hx hb d_CM_takeBack_151 (by decide) ?_
                          exact ih4 (k3 + 1) ls H locs (by omega) (by omega) hP hD hS (lv_sub hl [0, 1] rfl)
                    exact lp4 ((2 - 0) + 1) 0 ls _ _ (by omega) (by omega) hP hD hS (lv_sub hl [0, 1] rfl)
                  · have c_3 := (not_congr (nI_leI (a := 160) (b := k2) (by omega) (by omega))).mp c_3
                    refine lv_aload_n hx hb d_CM_takeBack_87 rfl (lv_at hl 1 rfl) ?_
                    refine va_get (D := (dC, dI)) (ci := 4) (v := .ref (ad 5)) (C := R_CM) (T := F_CM) (N := 27) hx hb hT i_CM hown hK hP 0 rfl rfl 9 (by decide) (hT _ m_480) (fun _ h9 => h9) rfl d_CM_takeBack_88 ?_
                    refine lv_iload_n hx hb d_CM_takeBack_91 rfl (lv_at hl 0 rfl) ?_
                    refine lv_aload_n hx hb d_CM_takeBack_92 rfl (lv_at hl 1 rfl) ?_
                    refine va_get (D := (dC, dI)) (ci := 4) (v := .ref (ad 15)) (C := R_CM) (T := F_CM) (N := 27) hx hb hT i_CM hown hK hP 0 rfl rfl 22 (by decide) (hT _ m_493) (fun _ h9 => h9) rfl d_CM_takeBack_93 ?_
                    refine lv_iload_n hx hb d_CM_takeBack_96 rfl (lv_at hl 0 rfl) ?_
                    refine va_iald hx hb hK hP 15 0 rfl rfl (vp_in_nI (n := k2) (by omega) (by omega)) d_CM_takeBack_97 ?_
                    refine W.eq (g2 := F0 m 98 ls [.int ((mv_sb o) k2), .int (nI k2), .ref (ad 5)]) (by rw [nI_clamp (n := k2) (by omega)] <;> rfl) ?_
                    refine va_iast hx hb hK hP hD hS 5 0 rfl rfl (vp_in_nI (n := k2) (by omega) (by omega)) d_CM_takeBack_98 (fun H locs hP hD hS => ?_)
                    rw [nI_clamp (n := k2) (by omega)] at hP hD
                    have hP : va_P (dC, dI) kCl (mw_ cI cJ ad L S C key th most asked td tr (mv_mk (cp_ 512 (mv_bl v) (mv_bl o)) (cp_ 512 (mv_lf v) (mv_lf o)) (cp_ 512 (mv_vl v) (mv_vl o)) (cp_ 128 (mv_ct v) (mv_ct o)) (upd (cp_ k2 (mv_sb v) (mv_sb o)) k2 ((mv_sb o) k2)) (cp_ k2 (mv_sl v) (mv_sl o)) (cp_ k2 (mv_sv v) (mv_sv o)) (mv_sz v) (mv_ml v)) (o)) H := hP
                    have hD : va_D A (mw_ cI cJ ad L S C key th most asked td tr (mv_mk (cp_ 512 (mv_bl v) (mv_bl o)) (cp_ 512 (mv_lf v) (mv_lf o)) (cp_ 512 (mv_vl v) (mv_vl o)) (cp_ 128 (mv_ct v) (mv_ct o)) (upd (cp_ k2 (mv_sb v) (mv_sb o)) k2 ((mv_sb o) k2)) (cp_ k2 (mv_sl v) (mv_sl o)) (cp_ k2 (mv_sv v) (mv_sv o)) (mv_sz v) (mv_ml v)) (o)) := hD
                    rw [cp_s (f := mv_sb v) (g := mv_sb o) (k := k2)] at hP hD
                    refine lv_aload_n hx hb d_CM_takeBack_99 rfl (lv_at hl 1 rfl) ?_
                    refine va_get (D := (dC, dI)) (ci := 4) (v := .ref (ad 6)) (C := R_CM) (T := F_CM) (N := 27) hx hb hT i_CM hown hK hP 0 rfl rfl 10 (by decide) (hT _ m_481) (fun _ h9 => h9) rfl d_CM_takeBack_100 ?_
                    refine lv_iload_n hx hb d_CM_takeBack_103 rfl (lv_at hl 0 rfl) ?_
                    refine lv_aload_n hx hb d_CM_takeBack_104 rfl (lv_at hl 1 rfl) ?_
                    refine va_get (D := (dC, dI)) (ci := 4) (v := .ref (ad 16)) (C := R_CM) (T := F_CM) (N := 27) hx hb hT i_CM hown hK hP 0 rfl rfl 23 (by decide) (hT _ m_494) (fun _ h9 => h9) rfl d_CM_takeBack_105 ?_
                    refine lv_iload_n hx hb d_CM_takeBack_108 rfl (lv_at hl 0 rfl) ?_
                    refine va_iald hx hb hK hP 16 0 rfl rfl (vp_in_nI (n := k2) (by omega) (by omega)) d_CM_takeBack_109 ?_
                    refine W.eq (g2 := F0 m 110 ls [.int ((mv_sl o) k2), .int (nI k2), .ref (ad 6)]) (by rw [nI_clamp (n := k2) (by omega)] <;> rfl) ?_
                    refine va_iast hx hb hK hP hD hS 6 0 rfl rfl (vp_in_nI (n := k2) (by omega) (by omega)) d_CM_takeBack_110 (fun H locs hP hD hS => ?_)
                    rw [nI_clamp (n := k2) (by omega)] at hP hD
                    have hP : va_P (dC, dI) kCl (mw_ cI cJ ad L S C key th most asked td tr (mv_mk (cp_ 512 (mv_bl v) (mv_bl o)) (cp_ 512 (mv_lf v) (mv_lf o)) (cp_ 512 (mv_vl v) (mv_vl o)) (cp_ 128 (mv_ct v) (mv_ct o)) (cp_ (k2 + 1) (mv_sb v) (mv_sb o)) (upd (cp_ k2 (mv_sl v) (mv_sl o)) k2 ((mv_sl o) k2)) (cp_ k2 (mv_sv v) (mv_sv o)) (mv_sz v) (mv_ml v)) (o)) H := hP
                    have hD : va_D A (mw_ cI cJ ad L S C key th most asked td tr (mv_mk (cp_ 512 (mv_bl v) (mv_bl o)) (cp_ 512 (mv_lf v) (mv_lf o)) (cp_ 512 (mv_vl v) (mv_vl o)) (cp_ 128 (mv_ct v) (mv_ct o)) (cp_ (k2 + 1) (mv_sb v) (mv_sb o)) (upd (cp_ k2 (mv_sl v) (mv_sl o)) k2 ((mv_sl o) k2)) (cp_ k2 (mv_sv v) (mv_sv o)) (mv_sz v) (mv_ml v)) (o)) := hD
                    rw [cp_s (f := mv_sl v) (g := mv_sl o) (k := k2)] at hP hD
                    refine lv_aload_n hx hb d_CM_takeBack_111 rfl (lv_at hl 1 rfl) ?_
                    refine va_get (D := (dC, dI)) (ci := 4) (v := .ref (ad 7)) (C := R_CM) (T := F_CM) (N := 27) hx hb hT i_CM hown hK hP 0 rfl rfl 11 (by decide) (hT _ m_482) (fun _ h9 => h9) rfl d_CM_takeBack_112 ?_
                    refine lv_iload_n hx hb d_CM_takeBack_115 rfl (lv_at hl 0 rfl) ?_
                    refine lv_aload_n hx hb d_CM_takeBack_116 rfl (lv_at hl 1 rfl) ?_
                    refine va_get (D := (dC, dI)) (ci := 4) (v := .ref (ad 17)) (C := R_CM) (T := F_CM) (N := 27) hx hb hT i_CM hown hK hP 0 rfl rfl 24 (by decide) (hT _ m_495) (fun _ h9 => h9) rfl d_CM_takeBack_117 ?_
                    refine lv_iload_n hx hb d_CM_takeBack_120 rfl (lv_at hl 0 rfl) ?_
                    refine va_lald hx hb hK hP 17 1 rfl rfl (vp_in_nI (n := k2) (by omega) (by omega)) d_CM_takeBack_121 ?_
                    refine W.eq (g2 := F0 m 122 ls [.long ((mv_sv o) k2), .int (nI k2), .ref (ad 7)]) (by rw [nI_clamp (n := k2) (by omega)] <;> rfl) ?_
                    refine va_last hx hb hK hP hD hS 7 1 rfl rfl (vp_in_nI (n := k2) (by omega) (by omega)) d_CM_takeBack_122 (fun H locs hP hD hS => ?_)
                    rw [nI_clamp (n := k2) (by omega)] at hP hD
                    have hP : va_P (dC, dI) kCl (mw_ cI cJ ad L S C key th most asked td tr (mv_mk (cp_ 512 (mv_bl v) (mv_bl o)) (cp_ 512 (mv_lf v) (mv_lf o)) (cp_ 512 (mv_vl v) (mv_vl o)) (cp_ 128 (mv_ct v) (mv_ct o)) (cp_ (k2 + 1) (mv_sb v) (mv_sb o)) (cp_ (k2 + 1) (mv_sl v) (mv_sl o)) (vp_updL (cp_ k2 (mv_sv v) (mv_sv o)) k2 ((mv_sv o) k2)) (mv_sz v) (mv_ml v)) (o)) H := hP
                    have hD : va_D A (mw_ cI cJ ad L S C key th most asked td tr (mv_mk (cp_ 512 (mv_bl v) (mv_bl o)) (cp_ 512 (mv_lf v) (mv_lf o)) (cp_ 512 (mv_vl v) (mv_vl o)) (cp_ 128 (mv_ct v) (mv_ct o)) (cp_ (k2 + 1) (mv_sb v) (mv_sb o)) (cp_ (k2 + 1) (mv_sl v) (mv_sl o)) (vp_updL (cp_ k2 (mv_sv v) (mv_sv o)) k2 ((mv_sv o) k2)) (mv_sz v) (mv_ml v)) (o)) := hD
                    rw [cp_sL (f := mv_sv v) (g := mv_sv o) (k := k2)] at hP hD
                    refine lv_iinc (v := nI (k2 + 1)) (lv' := [(1, .int (nI (k2 + 1))), (0, .ref (ad 0))]) hx hb d_CM_takeBack_123 hl (k := 0) rfl (nI_1 k2) (by decide) rfl (fun ls hl => ?_)
                    refine lv_goto (tgt := 80) hx hb d_CM_takeBack_126 (by decide) ?_
                    exact ih3 (k2 + 1) ls H locs (by omega) (by omega) hP hD hS (lv_sub hl [0, 1] rfl)
              exact lp3 ((160 - 0) + 1) 0 ls _ _ (by omega) (by omega) hP hD hS (lv_sub hl [0, 1] rfl)
            · have c_2 := (not_congr (nI_leI (a := 128) (b := k1) (by omega) (by omega))).mp c_2
              refine lv_aload_n hx hb d_CM_takeBack_60 rfl (lv_at hl 1 rfl) ?_
              refine va_get (D := (dC, dI)) (ci := 4) (v := .ref (ad 4)) (C := R_CM) (T := F_CM) (N := 27) hx hb hT i_CM hown hK hP 0 rfl rfl 8 (by decide) (hT _ m_479) (fun _ h9 => h9) rfl d_CM_takeBack_61 ?_
              refine lv_iload_n hx hb d_CM_takeBack_64 rfl (lv_at hl 0 rfl) ?_
              refine lv_aload_n hx hb d_CM_takeBack_65 rfl (lv_at hl 1 rfl) ?_
              refine va_get (D := (dC, dI)) (ci := 4) (v := .ref (ad 14)) (C := R_CM) (T := F_CM) (N := 27) hx hb hT i_CM hown hK hP 0 rfl rfl 21 (by decide) (hT _ m_492) (fun _ h9 => h9) rfl d_CM_takeBack_66 ?_
              refine lv_iload_n hx hb d_CM_takeBack_69 rfl (lv_at hl 0 rfl) ?_
              refine va_iald hx hb hK hP 14 0 rfl rfl (vp_in_nI (n := k1) (by omega) (by omega)) d_CM_takeBack_70 ?_
              refine W.eq (g2 := F0 m 71 ls [.int ((mv_ct o) k1), .int (nI k1), .ref (ad 4)]) (by rw [nI_clamp (n := k1) (by omega)] <;> rfl) ?_
              refine va_iast hx hb hK hP hD hS 4 0 rfl rfl (vp_in_nI (n := k1) (by omega) (by omega)) d_CM_takeBack_71 (fun H locs hP hD hS => ?_)
              rw [nI_clamp (n := k1) (by omega)] at hP hD
              have hP : va_P (dC, dI) kCl (mw_ cI cJ ad L S C key th most asked td tr (mv_mk (cp_ 512 (mv_bl v) (mv_bl o)) (cp_ 512 (mv_lf v) (mv_lf o)) (cp_ 512 (mv_vl v) (mv_vl o)) (upd (cp_ k1 (mv_ct v) (mv_ct o)) k1 ((mv_ct o) k1)) (mv_sb v) (mv_sl v) (mv_sv v) (mv_sz v) (mv_ml v)) (o)) H := hP
              have hD : va_D A (mw_ cI cJ ad L S C key th most asked td tr (mv_mk (cp_ 512 (mv_bl v) (mv_bl o)) (cp_ 512 (mv_lf v) (mv_lf o)) (cp_ 512 (mv_vl v) (mv_vl o)) (upd (cp_ k1 (mv_ct v) (mv_ct o)) k1 ((mv_ct o) k1)) (mv_sb v) (mv_sl v) (mv_sv v) (mv_sz v) (mv_ml v)) (o)) := hD
              rw [cp_s (f := mv_ct v) (g := mv_ct o) (k := k1)] at hP hD
              refine lv_iinc (v := nI (k1 + 1)) (lv' := [(1, .int (nI (k1 + 1))), (0, .ref (ad 0))]) hx hb d_CM_takeBack_72 hl (k := 0) rfl (nI_1 k1) (by decide) rfl (fun ls hl => ?_)
              refine lv_goto (tgt := 53) hx hb d_CM_takeBack_75 (by decide) ?_
              exact ih2 (k1 + 1) ls H locs (by omega) (by omega) hP hD hS (lv_sub hl [0, 1] rfl)
        exact lp2 ((128 - 0) + 1) 0 ls _ _ (by omega) (by omega) hP hD hS (lv_sub hl [0, 1] rfl)
      · have c_1 := (not_congr (nI_leI (a := 512) (b := k0) (by omega) (by omega))).mp c_1
        refine lv_aload_n hx hb d_CM_takeBack_9 rfl (lv_at hl 1 rfl) ?_
        refine va_get (D := (dC, dI)) (ci := 4) (v := .ref (ad 1)) (C := R_CM) (T := F_CM) (N := 27) hx hb hT i_CM hown hK hP 0 rfl rfl 5 (by decide) (hT _ m_476) (fun _ h9 => h9) rfl d_CM_takeBack_10 ?_
        refine lv_iload_n hx hb d_CM_takeBack_13 rfl (lv_at hl 0 rfl) ?_
        refine lv_aload_n hx hb d_CM_takeBack_14 rfl (lv_at hl 1 rfl) ?_
        refine va_get (D := (dC, dI)) (ci := 4) (v := .ref (ad 11)) (C := R_CM) (T := F_CM) (N := 27) hx hb hT i_CM hown hK hP 0 rfl rfl 18 (by decide) (hT _ m_489) (fun _ h9 => h9) rfl d_CM_takeBack_15 ?_
        refine lv_iload_n hx hb d_CM_takeBack_18 rfl (lv_at hl 0 rfl) ?_
        refine va_iald hx hb hK hP 11 0 rfl rfl (vp_in_nI (n := k0) (by omega) (by omega)) d_CM_takeBack_19 ?_
        refine W.eq (g2 := F0 m 20 ls [.int ((mv_bl o) k0), .int (nI k0), .ref (ad 1)]) (by rw [nI_clamp (n := k0) (by omega)] <;> rfl) ?_
        refine va_iast hx hb hK hP hD hS 1 0 rfl rfl (vp_in_nI (n := k0) (by omega) (by omega)) d_CM_takeBack_20 (fun H locs hP hD hS => ?_)
        rw [nI_clamp (n := k0) (by omega)] at hP hD
        have hP : va_P (dC, dI) kCl (mw_ cI cJ ad L S C key th most asked td tr (mv_mk (upd (cp_ k0 (mv_bl v) (mv_bl o)) k0 ((mv_bl o) k0)) (cp_ k0 (mv_lf v) (mv_lf o)) (cp_ k0 (mv_vl v) (mv_vl o)) (mv_ct v) (mv_sb v) (mv_sl v) (mv_sv v) (mv_sz v) (mv_ml v)) (o)) H := hP
        have hD : va_D A (mw_ cI cJ ad L S C key th most asked td tr (mv_mk (upd (cp_ k0 (mv_bl v) (mv_bl o)) k0 ((mv_bl o) k0)) (cp_ k0 (mv_lf v) (mv_lf o)) (cp_ k0 (mv_vl v) (mv_vl o)) (mv_ct v) (mv_sb v) (mv_sl v) (mv_sv v) (mv_sz v) (mv_ml v)) (o)) := hD
        rw [cp_s (f := mv_bl v) (g := mv_bl o) (k := k0)] at hP hD
        refine lv_aload_n hx hb d_CM_takeBack_21 rfl (lv_at hl 1 rfl) ?_
        refine va_get (D := (dC, dI)) (ci := 4) (v := .ref (ad 2)) (C := R_CM) (T := F_CM) (N := 27) hx hb hT i_CM hown hK hP 0 rfl rfl 6 (by decide) (hT _ m_477) (fun _ h9 => h9) rfl d_CM_takeBack_22 ?_
        refine lv_iload_n hx hb d_CM_takeBack_25 rfl (lv_at hl 0 rfl) ?_
        refine lv_aload_n hx hb d_CM_takeBack_26 rfl (lv_at hl 1 rfl) ?_
        refine va_get (D := (dC, dI)) (ci := 4) (v := .ref (ad 12)) (C := R_CM) (T := F_CM) (N := 27) hx hb hT i_CM hown hK hP 0 rfl rfl 19 (by decide) (hT _ m_490) (fun _ h9 => h9) rfl d_CM_takeBack_27 ?_
        refine lv_iload_n hx hb d_CM_takeBack_30 rfl (lv_at hl 0 rfl) ?_
        refine va_iald hx hb hK hP 12 0 rfl rfl (vp_in_nI (n := k0) (by omega) (by omega)) d_CM_takeBack_31 ?_
        refine W.eq (g2 := F0 m 32 ls [.int ((mv_lf o) k0), .int (nI k0), .ref (ad 2)]) (by rw [nI_clamp (n := k0) (by omega)] <;> rfl) ?_
        refine va_iast hx hb hK hP hD hS 2 0 rfl rfl (vp_in_nI (n := k0) (by omega) (by omega)) d_CM_takeBack_32 (fun H locs hP hD hS => ?_)
        rw [nI_clamp (n := k0) (by omega)] at hP hD
        have hP : va_P (dC, dI) kCl (mw_ cI cJ ad L S C key th most asked td tr (mv_mk (cp_ (k0 + 1) (mv_bl v) (mv_bl o)) (upd (cp_ k0 (mv_lf v) (mv_lf o)) k0 ((mv_lf o) k0)) (cp_ k0 (mv_vl v) (mv_vl o)) (mv_ct v) (mv_sb v) (mv_sl v) (mv_sv v) (mv_sz v) (mv_ml v)) (o)) H := hP
        have hD : va_D A (mw_ cI cJ ad L S C key th most asked td tr (mv_mk (cp_ (k0 + 1) (mv_bl v) (mv_bl o)) (upd (cp_ k0 (mv_lf v) (mv_lf o)) k0 ((mv_lf o) k0)) (cp_ k0 (mv_vl v) (mv_vl o)) (mv_ct v) (mv_sb v) (mv_sl v) (mv_sv v) (mv_sz v) (mv_ml v)) (o)) := hD
        rw [cp_s (f := mv_lf v) (g := mv_lf o) (k := k0)] at hP hD
        refine lv_aload_n hx hb d_CM_takeBack_33 rfl (lv_at hl 1 rfl) ?_
        refine va_get (D := (dC, dI)) (ci := 4) (v := .ref (ad 3)) (C := R_CM) (T := F_CM) (N := 27) hx hb hT i_CM hown hK hP 0 rfl rfl 7 (by decide) (hT _ m_478) (fun _ h9 => h9) rfl d_CM_takeBack_34 ?_
        refine lv_iload_n hx hb d_CM_takeBack_37 rfl (lv_at hl 0 rfl) ?_
        refine lv_aload_n hx hb d_CM_takeBack_38 rfl (lv_at hl 1 rfl) ?_
        refine va_get (D := (dC, dI)) (ci := 4) (v := .ref (ad 13)) (C := R_CM) (T := F_CM) (N := 27) hx hb hT i_CM hown hK hP 0 rfl rfl 20 (by decide) (hT _ m_491) (fun _ h9 => h9) rfl d_CM_takeBack_39 ?_
        refine lv_iload_n hx hb d_CM_takeBack_42 rfl (lv_at hl 0 rfl) ?_
        refine va_lald hx hb hK hP 13 1 rfl rfl (vp_in_nI (n := k0) (by omega) (by omega)) d_CM_takeBack_43 ?_
        refine W.eq (g2 := F0 m 44 ls [.long ((mv_vl o) k0), .int (nI k0), .ref (ad 3)]) (by rw [nI_clamp (n := k0) (by omega)] <;> rfl) ?_
        refine va_last hx hb hK hP hD hS 3 1 rfl rfl (vp_in_nI (n := k0) (by omega) (by omega)) d_CM_takeBack_44 (fun H locs hP hD hS => ?_)
        rw [nI_clamp (n := k0) (by omega)] at hP hD
        have hP : va_P (dC, dI) kCl (mw_ cI cJ ad L S C key th most asked td tr (mv_mk (cp_ (k0 + 1) (mv_bl v) (mv_bl o)) (cp_ (k0 + 1) (mv_lf v) (mv_lf o)) (vp_updL (cp_ k0 (mv_vl v) (mv_vl o)) k0 ((mv_vl o) k0)) (mv_ct v) (mv_sb v) (mv_sl v) (mv_sv v) (mv_sz v) (mv_ml v)) (o)) H := hP
        have hD : va_D A (mw_ cI cJ ad L S C key th most asked td tr (mv_mk (cp_ (k0 + 1) (mv_bl v) (mv_bl o)) (cp_ (k0 + 1) (mv_lf v) (mv_lf o)) (vp_updL (cp_ k0 (mv_vl v) (mv_vl o)) k0 ((mv_vl o) k0)) (mv_ct v) (mv_sb v) (mv_sl v) (mv_sv v) (mv_sz v) (mv_ml v)) (o)) := hD
        rw [cp_sL (f := mv_vl v) (g := mv_vl o) (k := k0)] at hP hD
        refine lv_iinc (v := nI (k0 + 1)) (lv' := [(1, .int (nI (k0 + 1))), (0, .ref (ad 0))]) hx hb d_CM_takeBack_45 hl (k := 0) rfl (nI_1 k0) (by decide) rfl (fun ls hl => ?_)
        refine lv_goto (tgt := 2) hx hb d_CM_takeBack_48 (by decide) ?_
        exact ih1 (k0 + 1) ls H locs (by omega) (by omega) hP hD hS (lv_sub hl [0, 1] rfl)
  exact lp1 ((512 - 0) + 1) 0 ls _ _ (by omega) (by omega) hP hD hS (lv_sub hl [0, 1] rfl)

set_option maxHeartbeats 8000000 in
set_option maxRecDepth 100000 in
/-- CoinTreeModel.mark -/
theorem c_CM_mark {l : Launch} {dC : Nat → ClassId} {dI : Nat → Nat → Nat} {cI cJ : ClassId} {A : Nat → Prop} {ad : Nat → Nat} {L S C : Nat} {key : Int64} {th most asked : Int32} {td : Nat} {tr : Nat → Int32} {v o : Mv} (ok : mk_ok L S C) (htd : td < 600) (x1 x2 : Int32) : Met l y_CM_mark (k_CM_mark :: bw) { frames := 0, cells := 0, slots := 0, locals := 0 } (mP (dC, dI) kCl [(cI, .int), (cJ, .long)] [.ref (ad 0), .int x1, .int x2] (mw_ cI cJ ad L S C key th most asked td tr (v) (o)) A) (mQv (dC, dI) kCl (mw_ cI cJ ad L S C key th most asked (td + 1) (upd (upd tr (2 * td) x1) (2 * td + 1) x2) (v) (o)) A) 0 0 A := by
  refine Met.ofZ (own := "CoinTreeModel") (by decide) rfl [.ref (ad 0), .int x1, .int x2] (Nat.le_of_ble_eq_true rfl) (fun _ _ h => h.1) ?_
  intro p e s m below meth c ls C0 hv hl
  obtain ⟨hx, hb, hr, hml, hown, hT, hlocks⟩ := C0
  obtain ⟨-, hP, hK, hD⟩ := hv
  have hS : va_S A s.heap s.heap [] := va_S.rf
  have hl : lv_has ls 4 [(0, .ref (ad 0)), (1, .int x1), (2, .int x2)] := hl
  obtain ⟨qL1, qL5, qS1, qS4, qC⟩ := id ok
  
  refine lv_aload_n hx hb d_CM_mark_0 rfl (lv_at hl 0 rfl) ?_
  refine va_get (D := (dC, dI)) (ci := 4) (v := .int (nI td)) (C := R_CM) (T := F_CM) (N := 27) hx hb hT i_CM hown hK hP 0 rfl rfl 17 (by decide) (hT _ m_488) (fun _ h9 => h9) rfl d_CM_mark_1 ?_
  refine lv_sipush (v := 600) hx hb d_CM_mark_4 (by decide) ?_
  refine lv_icmp_ne (tgt := 49) hx hb d_CM_mark_7 (by decide) (fun c_1 => ?_) (fun c_1 => ?_)
  · have c_1 := (not_congr (nI_eq (a := td) (b := 600) (by omega) (by omega))).mp c_1
    refine lv_aload_n hx hb d_CM_mark_49 rfl (lv_at hl 0 rfl) ?_
    refine va_get (D := (dC, dI)) (ci := 4) (v := .ref (ad 10)) (C := R_CM) (T := F_CM) (N := 27) hx hb hT i_CM hown hK hP 0 rfl rfl 16 (by decide) (hT _ m_487) (fun _ h9 => h9) rfl d_CM_mark_50 ?_
    refine lv_iconst (v := 2) hx hb d_CM_mark_53 (by decide) ?_
    refine lv_aload_n hx hb d_CM_mark_54 rfl (lv_at hl 0 rfl) ?_
    refine va_get (D := (dC, dI)) (ci := 4) (v := .int (nI td)) (C := R_CM) (T := F_CM) (N := 27) hx hb hT i_CM hown hK hP 0 rfl rfl 17 (by decide) (hT _ m_488) (fun _ h9 => h9) rfl d_CM_mark_55 ?_
    refine lv_imul hx hb d_CM_mark_58 ?_
    refine W.eq (g2 := F0 m 59 ls [.int (nI (2 * td)), .ref (ad 10)]) (congrArg (fun q9 : Int32 => F0 m 59 ls (.int q9 :: .ref (ad 10) :: [])) (pk_mul 2 td)) ?_
    refine lv_iload_n hx hb d_CM_mark_59 rfl (lv_at hl 1 rfl) ?_
    refine va_iast hx hb hK hP hD hS 10 0 rfl rfl (vp_in_nI (n := (2 * td)) (by omega) (by omega)) d_CM_mark_60 (fun H locs hP hD hS => ?_)
    rw [nI_clamp (n := (2 * td)) (by omega)] at hP hD
    have hP : va_P (dC, dI) kCl (mw_ cI cJ ad L S C key th most asked td (upd tr (2 * td) x1) (v) (o)) H := hP
    have hD : va_D A (mw_ cI cJ ad L S C key th most asked td (upd tr (2 * td) x1) (v) (o)) := hD
    refine lv_aload_n hx hb d_CM_mark_61 rfl (lv_at hl 0 rfl) ?_
    refine va_get (D := (dC, dI)) (ci := 4) (v := .ref (ad 10)) (C := R_CM) (T := F_CM) (N := 27) hx hb hT i_CM hown hK hP 0 rfl rfl 16 (by decide) (hT _ m_487) (fun _ h9 => h9) rfl d_CM_mark_62 ?_
    refine lv_iconst (v := 2) hx hb d_CM_mark_65 (by decide) ?_
    refine lv_aload_n hx hb d_CM_mark_66 rfl (lv_at hl 0 rfl) ?_
    refine va_get (D := (dC, dI)) (ci := 4) (v := .int (nI td)) (C := R_CM) (T := F_CM) (N := 27) hx hb hT i_CM hown hK hP 0 rfl rfl 17 (by decide) (hT _ m_488) (fun _ h9 => h9) rfl d_CM_mark_67 ?_
    refine lv_imul hx hb d_CM_mark_70 ?_
    refine W.eq (g2 := F0 m 71 ls [.int (nI (2 * td)), .ref (ad 10)]) (congrArg (fun q9 : Int32 => F0 m 71 ls (.int q9 :: .ref (ad 10) :: [])) (pk_mul 2 td)) ?_
    refine lv_iconst (v := 1) hx hb d_CM_mark_71 (by decide) ?_
    refine lv_iadd hx hb d_CM_mark_72 ?_
    refine W.eq (g2 := F0 m 73 ls [.int (nI ((2 * td) + 1)), .ref (ad 10)]) (congrArg (fun q9 : Int32 => F0 m 73 ls (.int q9 :: .ref (ad 10) :: [])) (nI_add (2 * td) 1)) ?_
    refine lv_iload_n hx hb d_CM_mark_73 rfl (lv_at hl 2 rfl) ?_
    refine va_iast hx hb hK hP hD hS 10 0 rfl rfl (vp_in_nI (n := ((2 * td) + 1)) (by omega) (by omega)) d_CM_mark_74 (fun H locs hP hD hS => ?_)
    rw [nI_clamp (n := ((2 * td) + 1)) (by omega)] at hP hD
    have hP : va_P (dC, dI) kCl (mw_ cI cJ ad L S C key th most asked td (upd (upd tr (2 * td) x1) ((2 * td) + 1) x2) (v) (o)) H := hP
    have hD : va_D A (mw_ cI cJ ad L S C key th most asked td (upd (upd tr (2 * td) x1) ((2 * td) + 1) x2) (v) (o)) := hD
    refine lv_aload_n hx hb d_CM_mark_75 rfl (lv_at hl 0 rfl) ?_
    refine lv_dup hx hb d_CM_mark_76 rfl ?_
    refine va_get (D := (dC, dI)) (ci := 4) (v := .int (nI td)) (C := R_CM) (T := F_CM) (N := 27) hx hb hT i_CM hown hK hP 0 rfl rfl 17 (by decide) (hT _ m_488) (fun _ h9 => h9) rfl d_CM_mark_77 ?_
    refine lv_iconst (v := 1) hx hb d_CM_mark_80 (by decide) ?_
    refine lv_iadd hx hb d_CM_mark_81 ?_
    refine W.eq (g2 := F0 m 82 ls [.int (nI (td + 1)), .ref (ad 0)]) (congrArg (fun q9 : Int32 => F0 m 82 ls (.int q9 :: .ref (ad 0) :: [])) (nI_add td 1)) ?_
    refine va_put (D := (dC, dI)) (ci := 4) (v := .int (nI (td + 1))) (ty := .int) (C := R_CM) (T := F_CM) (N := 27) hx hb hT i_CM t_CM t_CM_ok n_CM hown hK hP hD hS 0 rfl rfl 17 (by decide) (hT _ m_488) (fun _ h9 => h9) rfl (by decide +kernel) rfl rfl (Nat.le_of_ble_eq_true rfl) d_CM_mark_82 (fun H locs hP hD hS => ?_)
    have hP : va_P (dC, dI) kCl (mw_ cI cJ ad L S C key th most asked (td + 1) (upd (upd tr (2 * td) x1) ((2 * td) + 1) x2) (v) (o)) H := hP
    have hD : va_D A (mw_ cI cJ ad L S C key th most asked (td + 1) (upd (upd tr (2 * td) x1) ((2 * td) + 1) x2) (v) (o)) := hD
    exact W.vret hx hb hr (fun t9 ht _ => mQv_end (rfl) hP hD hS ht) hS.2.2 d_CM_mark_85 hlocks
  · have c_1 := (nI_eq (a := td) (b := 600) (by omega) (by omega)).mp c_1
    omega
