set_option maxHeartbeats 4000000 in
set_option maxRecDepth 100000 in
/-- Row.find -/
theorem c_RW_find {l : Launch} {dC : Nat → ClassId} {dI : Nat → Nat → Nat} {cI cJ : ClassId} {H : Heap} {ws : va_W} {i0 h a1 a2 a3 n : Nat} {r : Rw} (hP : va_P (dC, dI) kCl ws H) (hr0 : rw_in ws i0 h a1 a2 a3 n cI cJ r) (hn : n < 2 ^ 31) (mk : Int32) : Met l y_RW_find (k_RW_find :: bw) { frames := 0, cells := 0, slots := 0, locals := 0 } (zP (dC, dI) kCl [(cI, .int), (cJ, .long)] [.ref h, .int mk] H) (zQi H (rw_find r.1 mk (rw_cnt n r.2.2.2) 0)) 0 0 (fun _ => False) := by
  refine Met.ofZ (own := "CoinTree$Row") (by decide) rfl [.ref h, .int mk] (Nat.le_of_ble_eq_true rfl) (fun _ _ h => h.1) ?_
  intro p e s m below meth c ls C0 hv hl
  obtain ⟨hx, hb, hr, hml, hown, hT, hlocks⟩ := C0
  obtain ⟨-, rfl, hK⟩ := hv
  have hS : va_S (fun _ => False) s.heap s.heap [] := va_S.rf
  have hl : lv_has ls 3 [(0, .ref h), (1, .int mk)] := hl
  refine lv_iconst (v := 0) hx hb d_RW_find_0 (by decide) ?_
  refine lv_istore_n (lv' := [(2, .int 0), (0, .ref h), (1, .int mk)]) hx hb d_RW_find_1 rfl hl (by decide) rfl (fun ls hl => ?_)
  have lp : ∀ (N : Nat) (j : Nat) (ls : Array Slot) (locs : List Loc), rw_cnt n r.2.2.2 - j < N → j ≤ rw_cnt n r.2.2.2 → rw_find r.1 mk (rw_cnt n r.2.2.2 - j) j = rw_find r.1 mk (rw_cnt n r.2.2.2) 0 →  va_S (fun _ => False) s.heap s.heap locs → lv_has ls 3 [(2, .int (nI j)), (0, .ref h), (1, .int mk)] → W p l e ({ frames := 0, cells := 0, slots := 0, locals := 0 } : Room) s m ([.ref h, .int mk] : List Value).toArray below meth c s.heap locs 0 0 (MQ below (zQi s.heap (rw_find r.1 mk (rw_cnt n r.2.2.2) 0)) ([.ref h, .int mk] : List Value).toArray s 0 0 (fun _ => False)) (F0 m 2 ls []) := by
    intro N
    induction N with
    | zero => intro j ls locs hN; omega
    | succ N ih =>
      intro j ls locs hN hj hf hS hl
      refine lv_iload_n hx hb d_RW_find_2 rfl (lv_at hl 0 rfl) ?_
      refine lv_aload_n hx hb d_RW_find_3 rfl (lv_at hl 1 rfl) ?_
      refine va_get (D := (dC, dI)) (ci := 0) (v := .int r.2.2.2) (C := R_RW) (T := F_RW) (N := 4) hx hb hT i_RW hown hK hP i0 hr0.1 rfl 3 (by decide) (hT _ m_87) (fun _ h9 => h9) rfl d_RW_find_4 ?_
      refine lv_icmp_ge (tgt := 37) hx hb d_RW_find_7 (by decide) (fun c_1 => ?_) (fun c_1 => ?_)
      · refine lv_iconst (v := (-1)) hx hb d_RW_find_37 (by decide) ?_
        exact W.iret hx hb hr (fun t9 ht _ => zQi_end (by first | exact rw_find_z hf (rw_c1 hn hj c_1) | exact rw_find_z hf (rw_c2 hn hj c_2)) rfl ht) hS.2.2 d_RW_find_38 hlocks
      · refine lv_iload_n hx hb d_RW_find_10 rfl (lv_at hl 0 rfl) ?_
        refine lv_aload_n hx hb d_RW_find_11 rfl (lv_at hl 1 rfl) ?_
        refine va_get (D := (dC, dI)) (ci := 0) (v := .ref a1) (C := R_RW) (T := F_RW) (N := 4) hx hb hT i_RW hown hK hP i0 hr0.1 rfl 0 (by decide) (hT _ m_82) (fun _ h9 => h9) rfl d_RW_find_12 ?_
        refine va_alen (v := nI n) hx hb hK hP (i0 + 1) 0 hr0.2.1 rfl rfl d_RW_find_15 ?_
        refine lv_icmp_ge (tgt := 37) hx hb d_RW_find_16 (by decide) (fun c_2 => ?_) (fun c_2 => ?_)
        · refine lv_iconst (v := (-1)) hx hb d_RW_find_37 (by decide) ?_
          exact W.iret hx hb hr (fun t9 ht _ => zQi_end (by first | exact rw_find_z hf (rw_c1 hn hj c_1) | exact rw_find_z hf (rw_c2 hn hj c_2)) rfl ht) hS.2.2 d_RW_find_38 hlocks
        · have hlt := rw_c3 hn hj c_1 c_2
          have hj31 : j < 2 ^ 31 := by have := rw_cnt_le n r.2.2.2; omega
          refine lv_aload_n hx hb d_RW_find_19 rfl (lv_at hl 1 rfl) ?_
          refine va_get (D := (dC, dI)) (ci := 0) (v := .ref a1) (C := R_RW) (T := F_RW) (N := 4) hx hb hT i_RW hown hK hP i0 hr0.1 rfl 0 (by decide) (hT _ m_82) (fun _ h9 => h9) rfl d_RW_find_20 ?_
          refine lv_iload_n hx hb d_RW_find_23 rfl (lv_at hl 0 rfl) ?_
          refine va_iald hx hb hK hP (i0 + 1) 0 hr0.2.1 rfl (vp_in_nI (by have := rw_cnt_le n r.2.2.2; omega) hn) d_RW_find_24 ?_
          refine lv_iload_n hx hb d_RW_find_25 rfl (lv_at hl 2 rfl) ?_
          refine lv_icmp_ne (tgt := 31) hx hb d_RW_find_26 (by decide) (fun c_3 => ?_) (fun c_3 => ?_)
          · have hne : ¬ r.1 j = mk := by rw [nI_clamp hj31] at c_3; exact c_3
            refine lv_iinc (v := nI (j + 1)) (lv' := [(2, .int (nI (j + 1))), (0, .ref h), (1, .int mk)]) hx hb d_RW_find_31 hl (k := 0) rfl (nI_1 j) (by decide) rfl (fun ls hl => ?_)
            refine lv_goto (tgt := 2) hx hb d_RW_find_34 (by decide) ?_
            exact ih (j + 1) ls locs (by omega) hlt (rw_find_n hf hlt hne) hS (lv_sub hl [0, 1, 2] rfl)
          · refine lv_iload_n hx hb d_RW_find_29 rfl (lv_at hl 0 rfl) ?_
            exact W.iret hx hb hr (fun t9 ht _ => zQi_end (rw_find_y hf hlt (by rw [← c_3, nI_clamp hj31])) rfl ht) hS.2.2 d_RW_find_30 hlocks
  exact lp (rw_cnt n r.2.2.2 + 1) 0 ls _ (by omega) (Nat.zero_le _) rfl hS hl
