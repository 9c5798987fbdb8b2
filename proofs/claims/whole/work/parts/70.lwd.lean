set_option maxHeartbeats 8000000 in
set_option maxRecDepth 100000 in
/-- the law's loop -/
theorem law_loop {p : Program} {e : Env} {s : State} {m : MethodId} {below : List Frame} {meth : Method} {c : Code} {l : Launch} {b n : Nat} {xs : Nat → Int32} (hn9 : n ≤ 3076) (C0 : lw_At p s m meth c b n xs) (hl9 : l.stackTraces = false) {A : Nat → Prop} (hA : ∀ q, s.heap.size ≤ q → A q) (hbA : ¬ A b) {dC : Nat → ClassId} {dI : Nat → Nat → Nat} {cI cJ : ClassId} (hK : va_K (dC, dI) kCl [(cI, .int), (cJ, .long)] s) (xe : xE A s s.heap) (hN : xNc s) {x ml q : Nat} {a0 a1 ad : Nat → Nat} {L S C : Nat} {key : Int64} (ok : mk_ok L S C) (ok0 : tr_ok L S C 64) (ok1 : tr_ok (mL L 1) S C 16) (hA2 : ∀ q, A q → s.heap.size ≤ q) : ∀ (N k : Nat) (z : Cs) (u : Mz) (f : Nat → Int64) (ls : Array Slot) (H : Heap) (locs : List Loc), n + 10 - 6 * k < N → 6 * k ≤ n → RI L S C z u → u.2.2.2.1 ≤ k → va_P (dC, dI) kCl (lw_w cI cJ x ml a0 a1 L S C key z ad u q f) H → va_D A (lw_w cI cJ x ml a0 a1 L S C key z ad u q f) → va_S A s.heap H locs → lv_has ls 8 [(4, .int (nI (4 + 6 * k))), (0, .ref b), (1, .ref x), (2, .ref (ad 0)), (3, .ref q)] → W p l e room_1 s m #[Value.ref b] below meth c H locs (57 + 2 * k) (11694 + 12 * k) (lw_Z below #[Value.ref b] s) (F0 m 65 ls []) := by
  obtain ⟨hx, hb, hr, hml, hown, hts, hX, hbl, hlocks, hgv⟩ := id C0
  have hown : s.vm.findClass "CoinTreeLaw" = some m.cls := hown
  have hT : ∀ w ∈ bw, w.before #[Value.ref b] s = true := fun w h => hts w (List.mem_filter.mp h).1
  intro N
  induction N with
  | zero => intro k z u f ls H locs hN9; omega
  | succ N ih =>
    intro k z u f ls H locs hN9 hk6 hRI htd hP hD hS hl
    refine lv_iload hx hb d_LW_law_65 (lv_at hl 0 rfl) ?_
    refine lv_aload_n hx hb d_LW_law_67 rfl (lv_at hl 1 rfl) ?_
    refine va_slen hx hb hX hbl hbA hS d_LW_law_68 ?_
    refine lv_bipush (v := 6) hx hb d_LW_law_69 (by decide) ?_
    refine lv_isub hx hb d_LW_law_71 ?_
    refine lv_icmp_gt (tgt := 683) hx hb d_LW_law_72 (by decide) (fun c_1 => ?_) (fun c_1 => ?_)
    · have hexit := c_1
      refine lv_iconst (v := 1) hx hb d_LW_law_683 (by decide) ?_
      refine va_forget (fun q9 h9 => hA2 _ (hS.2.2 q9 h9)) ?_
      refine W.widen (k := 601024) (n := 7293000) (by omega) (by omega) ?_
      exact lw_ret hx hb hr hlocks d_LW_law_684
    · have hk : 4 + 6 * k + 6 ≤ n := by
        rcases lw_exit (n := n) (i := 4 + 6 * k) hn9 (by omega) with h9 | h9
        · exact absurd h9.1 c_1
        · exact h9.2
      refine lv_aload_n hx hb d_LW_law_75 rfl (lv_at hl 1 rfl) ?_
      refine lv_iload hx hb d_LW_law_76 (lv_at hl 0 rfl) ?_
      refine va_sld hx hb hX hbl hbA hS (vp_in_nI (n := (4 + 6 * k)) (by omega) (by omega)) d_LW_law_78 ?_
      refine W.eq (g2 := F0 m 79 ls [.int (xs (4 + 6 * k))]) (by rw [nI_clamp (n := (4 + 6 * k)) (by omega)]) ?_
      refine lv_bipush (v := 7) hx hb d_LW_law_79 (by decide) ?_
      refine lv_iand hx hb d_LW_law_81 ?_
      obtain ⟨t, ht8, e7⟩ := lw_and7 (xs (4 + 6 * k))
      refine W.eq (g2 := F0 m 82 ls [.int (nI t)]) (by rw [e7]) ?_
      have kont : ∀ (z' : Cs) (u' : Mz) (f' : Nat → Int64) (ls : Array Slot) (H : Heap) (locs : List Loc), RI L S C z' u' → u'.2.2.2.1 ≤ k + 1 → va_P (dC, dI) kCl (lw_w cI cJ x ml a0 a1 L S C key z' ad u' q f') H → va_D A (lw_w cI cJ x ml a0 a1 L S C key z' ad u' q f') → va_S A s.heap H locs → lv_has ls 8 [(4, .int (nI (4 + 6 * k))), (0, .ref b), (1, .ref x), (2, .ref (ad 0)), (3, .ref q)] → W p l e room_1 s m #[Value.ref b] below meth c H locs (57 + 2 * (k + 1)) (11694 + 12 * (k + 1)) (lw_Z below #[Value.ref b] s) (F0 m 677 ls []) := by
        intro z' u' f' ls H locs hRI htd hP hD hS hl
        refine lv_iinc (v := nI (4 + 6 * (k + 1))) (lv' := [(4, .int (nI (4 + 6 * (k + 1)))), (0, .ref b), (1, .ref x), (2, .ref (ad 0)), (3, .ref q)]) hx hb d_LW_law_677 hl (k := 0) rfl (lw_inc k) (by decide) rfl (fun ls hl => ?_)
        refine lv_goto (tgt := 65) hx hb d_LW_law_680 (by decide) ?_
        exact ih (k + 1) z' u' f' ls H locs (by omega) (by omega) hRI htd hP hD hS hl
      rcases (show t = 0 ∨ t = 1 ∨ t = 2 ∨ t = 3 ∨ t = 4 ∨ t = 5 ∨ t = 6 ∨ t = 7 by omega) with rfl | rfl | rfl | rfl | rfl | rfl | rfl | rfl
      · refine lv_tableIn (off := 42) (tgt := 124) hx hb d_LW_law_82 (by decide +kernel) (by decide +kernel) (by decide +kernel) (by decide) ?_
        exact law_c0 hn9 C0 hl9 hA hbA hK xe hN ok ok0 ok1 hk hRI htd hP hD hS (lv_sub hl [0, 1, 2, 3, 4] rfl) kont
      · refine lv_tableIn (off := 121) (tgt := 203) hx hb d_LW_law_82 (by decide +kernel) (by decide +kernel) (by decide +kernel) (by decide) ?_
        exact law_c1 hn9 C0 hl9 hA hbA hK xe hN ok ok0 ok1 hk hRI htd hP hD hS (lv_sub hl [0, 1, 2, 3, 4] rfl) kont
      · refine lv_tableIn (off := 244) (tgt := 326) hx hb d_LW_law_82 (by decide +kernel) (by decide +kernel) (by decide +kernel) (by decide) ?_
        exact law_c2 hn9 C0 hl9 hA hbA hK xe hN ok ok0 ok1 hk hRI htd hP hD hS (lv_sub hl [0, 1, 2, 3, 4] rfl) kont
      · refine lv_tableIn (off := 312) (tgt := 394) hx hb d_LW_law_82 (by decide +kernel) (by decide +kernel) (by decide +kernel) (by decide) ?_
        exact law_c3 hn9 C0 hl9 hA hbA hK xe hN ok ok0 ok1 hk hRI htd hP hD hS (lv_sub hl [0, 1, 2, 3, 4] rfl) kont
      · refine lv_tableIn (off := 403) (tgt := 485) hx hb d_LW_law_82 (by decide +kernel) (by decide +kernel) (by decide +kernel) (by decide) ?_
        exact law_c4 hn9 C0 hl9 hA hbA hK xe hN ok ok0 ok1 hk hRI htd hP hD hS (lv_sub hl [0, 1, 2, 3, 4] rfl) kont
      · refine lv_tableIn (off := 471) (tgt := 553) hx hb d_LW_law_82 (by decide +kernel) (by decide +kernel) (by decide +kernel) (by decide) ?_
        exact law_c5 hn9 C0 hl9 hA hbA hK xe hN ok ok0 ok1 hk hRI htd hP hD hS (lv_sub hl [0, 1, 2, 3, 4] rfl) kont
      · refine lv_tableIn (off := 539) (tgt := 621) hx hb d_LW_law_82 (by decide +kernel) (by decide +kernel) (by decide +kernel) (by decide) ?_
        exact law_c6 hn9 C0 hl9 hA hbA hK xe hN ok ok0 ok1 hk hRI htd hP hD hS (lv_sub hl [0, 1, 2, 3, 4] rfl) kont
      · refine lv_tableOut (tgt := 677) hx hb d_LW_law_82 (Or.inr (by decide +kernel)) (by decide) ?_
        refine W.widen (k := 57 + 2 * (k + 1)) (n := 11694 + 12 * (k + 1)) (by omega) (by omega) ?_
        exact kont z u f ls H locs hRI (Nat.le_succ_of_le htd) hP hD hS (lv_sub hl [0, 1, 2, 3, 4] rfl)
