theorem fits_same {L S B : Nat} {t t0 : Ts} (e : ts_nodes t = ts_nodes t0 ∧ ts_cnts t = ts_cnts t0 ∧ ts_stash t = ts_stash t0 ∧ ts_trail t = ts_trail t0) : ts_nodes (tr_fits L S B t) = ts_nodes t0 ∧ ts_cnts (tr_fits L S B t) = ts_cnts t0 ∧ ts_stash (tr_fits L S B t) = ts_stash t0 ∧ ts_trail (tr_fits L S B t) = ts_trail t0 := e
theorem csm0 {a : Nat → Int32} {b c : Int32} {d e : Ts} : cs_ml (cs_mk a b c d e) = a := rfl
theorem csm1 {a : Nat → Int32} {b c : Int32} {d e : Ts} : cs_asked (cs_mk a b c d e) = b := rfl
theorem csm2 {a : Nat → Int32} {b c : Int32} {d e : Ts} : cs_most (cs_mk a b c d e) = c := rfl
theorem csm3 {a : Nat → Int32} {b c : Int32} {d e : Ts} : cs_t0 (cs_mk a b c d e) = d := rfl
theorem csm4 {a : Nat → Int32} {b c : Int32} {d e : Ts} : cs_t1 (cs_mk a b c d e) = e := rfl
section AG
variable {L S C : Nat} {z : Cs} {th most asked : Int32} {td : Nat} {tr : Nat → Int32} {v o : Mv}
theorem b_in {j : Nat} (hj : j < 64) : ¬ (nI j < 0 ∨ 63 < nI j) := by
  rw [← nI_0, nI_ltI (by omega) (by omega), show (63 : Int32) = nI 63 from rfl, nI_ltI (by omega) (by omega)]
  omega
theorem b_in2 {j : Nat} (hj : j < 64) : ¬ (nI j < 0 ∨ 64 ≤ nI j) := by
  rw [← nI_0, nI_ltI (by omega) (by omega), show (64 : Int32) = nI 64 from rfl, nI_leI (by omega) (by omega)]
  omega
/-- what the model leaves where the block and both coins are good -/
def ma_3 (L S C : Nat) (most asked : Int32) (td : Nat) (tr : Nat → Int32) (v o : Mv) (q1 q0 i0 : Nat) (V3 V4 V6 : Mv) (r : Int64) (u : Mz) : Prop :=
  (mv_sz V3 1 ≤ C ∧ mv_sz V6 0 ≤ C ∧ r = mv_sv V4 (80 * 0 + i0) ∧ u = (0, if most < nI (mv_sz V6 0) then nI (mv_sz V6 0) else most, asked + 1, td + 1, upd (upd tr (2 * td) (nI q0)) (2 * td + 1) (nI q1), V6, mv_cp o v)) ∨
     (¬ (mv_sz V3 1 ≤ C ∧ mv_sz V6 0 ≤ C) ∧ r = 0 ∧ u = (3, most, asked, td, tr, mv_cp V6 (mv_cp o v), mv_cp o v))
theorem ask_both {j co mc : Nat} {nw : Bool} {nv r : Int64} {u : Mz} (ok : mk_ok L S C) (h : RI L S C z (th, most, asked, td, tr, v, o)) (hj : j < 64) (hco : co < 2 ^ L) (hmc : mc < 2 ^ mL L 1) (hm : ma_ret L S C most asked td tr v o (nI j) nw nv (nI co) (nI mc) r u) :
    (ak_f1 (mL L 1) S C z j (nI co) (nI mc) = true ∧ ak_f0 L (mL L 1) S C z j nw nv (nI co) = true ∧ u.1 = 0 ∧ u.2.2.2.1 = td + 1 ∧ r = ak_val L (mL L 1) S C z j ∧ RI L S C (ak_z L (mL L 1) S C z j nw nv (nI co) (nI mc)) u) ∨
    (¬ (ak_f1 (mL L 1) S C z j (nI co) (nI mc) = true ∧ ak_f0 L (mL L 1) S C z j nw nv (nI co) = true) ∧ u.1 = 3 ∧ u.2.2.2.1 = td ∧ ∀ z' : Cs, cs_ml z' = cs_ml z → cs_most z' = cs_most z → cs_asked z' = cs_asked z → (cs_t0 z' = ak_t0b L (mL L 1) S C z j nw nv (nI co) ∨ cs_t0 z' = ak_t0c L (mL L 1) S C z j nw nv (nI co)) → cs_t1 z' = ak_t1c (mL L 1) S C z j (nI co) (nI mc) → RI L S C z' u) := by
  have hm5 := (mL_le (T := 1) ok.1 ok.2.1).2
  have h32 := p2_le ok.2.1
  have h32m := p2_le hm5
  obtain ⟨q1, i1, q0, i0, V1, V3, V4, V6, c1, c2, c3, c4, c5, c6, c7, c8, c9, d1, d2, d3, d4, d5, d6, d7, d8, d9, e1, e2⟩ := ask_core (nw := nw) (nv := nv) ok h hj hco hmc
  rcases hm with ⟨hb, -⟩ | ⟨-, hb, -⟩ | ⟨j', q1', i1', q0', i0', V1', V3', V4', V6', f1, f2, f3, f4, f5, f6, f7, f8, f9, g1, g2, g3, g4, g5, g6, g7, g8⟩
  · exact absurd hb (b_in hj)
  · exact absurd ⟨rwh_nI (by omega) hco, rwh_nI (by omega) hmc⟩ hb
  · have hjj : j' = j := ((nI_eq (by omega) (by omega)).mp f2).symm
    subst hjj
    have hq1 : q1' = q1 := (nI_eq (by omega) (by omega)).mp (f6.symm.trans c2)
    subst hq1
    have hV1 : V1' = V1 := f7.trans c3.symm
    subst hV1
    have hi1 : i1' = i1 := by
      have := (nI_eq (by omega) (by omega)).mp (f9.symm.trans c6)
      omega
    subst hi1
    have hV3 : V3' = V3 := g1.trans c7.symm
    subst hV3
    have hq0 : q0' = q0 := (nI_eq (by omega) (by omega)).mp (g3.symm.trans c9)
    subst hq0
    have hV4 : V4' = V4 := g4.trans d1.symm
    subst hV4
    have hi0 : i0' = i0 := by
      have := (nI_eq (by omega) (by omega)).mp (g6.symm.trans d4)
      omega
    subst hi0
    have hV6 : V6' = V6 := g7.trans d5.symm
    subst hV6
    rcases g8 with ⟨k1, k2, k3, k4⟩ | ⟨k1, k2, k3⟩
    · refine Or.inl ⟨d7.trans (decide_eq_true k1), d8.trans (decide_eq_true k2), by rw [k4], by rw [k4], k3.trans d6.symm, ?_⟩
      rw [k4]; exact e2 k1 k2 _ _
    · refine Or.inr ⟨fun hh => k1 ⟨of_decide_eq_true (d7.symm.trans hh.1), of_decide_eq_true (d8.symm.trans hh.2)⟩, by rw [k3], by rw [k3], fun z' x1 x2 x3 x4 x5 => ?_⟩
      rw [k3]
      refine RI_back ok h x1 x2 x3 ?_ ?_
      · rcases x4 with x4 | x4
        · rw [x4]; exact e1
        · rw [x4]; unfold ak_t0c; exact fits_same e1
      · rw [x5]; unfold ak_t1c; exact fits_same d9
theorem ask_ret_ok {b co mc : Int32} {nw : Bool} {nv r rm : Int64} {zc : Cs} {um : Mz} (ok : mk_ok L S C) (h : RI L S C z (th, most, asked, td, tr, v, o)) (hc : ak_ret L (mL L 1) S C z b nw nv co mc r zc) (hm : ma_ret L S C most asked td tr v o b nw nv co mc rm um) : um.1 = 0 ∧ r = rm ∧ RI L S C zc um ∧ um.2.2.2.1 ≤ td + 1 := by
  have hm5 := (mL_le (T := 1) ok.1 ok.2.1).2
  have h32 := p2_le ok.2.1
  have h32m := p2_le hm5
  obtain ⟨j, eb, hj, a1, a2, a3, a4, a5, a6⟩ := hc
  obtain ⟨co, hco, rfl⟩ := has_nI (by omega) a1
  obtain ⟨mc, hmc, rfl⟩ := has_nI (by omega) a2
  subst eb
  rcases ask_both ok h hj hco hmc hm with ⟨-, -, k1, k2, k3, k4⟩ | ⟨k1, -⟩
  · rw [a6]; exact ⟨k1, a5.trans k3.symm, k4, by rw [k2]; exact Nat.le_refl _⟩
  · exact absurd ⟨a3, a4⟩ k1
theorem ask_thr_ok {b co mc : Int32} {nw : Bool} {nv rm : Int64} {E : String} {zc : Cs} {um : Mz} (ok : mk_ok L S C) (h : RI L S C z (th, most, asked, td, tr, v, o)) (hc : ak_thr L (mL L 1) S C z b nw nv co mc E zc) (hm : ma_ret L S C most asked td tr v o b nw nv co mc rm um) :
    ((E = xIO ∧ um.1 = 1) ∨ (E = xIA ∧ um.1 = 2) ∨ (E = xUO ∧ um.1 = 3)) ∧ RI L S C zc um ∧ um.2.2.2.1 ≤ td + 1 := by
  have hm5 := (mL_le (T := 1) ok.1 ok.2.1).2
  have h32 := p2_le ok.2.1
  have h32m := p2_le hm5
  rcases hc with ⟨eE, hb, eu⟩ | ⟨eE, ⟨j, eb, hj⟩, hbad, eu⟩ | ⟨eE, j, eb, hj, a1, a2, a3⟩
  · have hb2 : b < 0 ∨ 63 < b := by
      rcases hb with hb | hb
      · exact Or.inl hb
      · refine Or.inr ?_
        rw [Int32.lt_iff_toInt_lt, show (63 : Int32).toInt = 63 from rfl]
        rw [Int32.le_iff_toInt_le, show (64 : Int32).toInt = 64 from rfl] at hb
        omega
    rcases hm with ⟨-, -, e⟩ | ⟨⟨j, hj, e⟩, -⟩ | ⟨j, _, _, _, _, _, _, _, _, hj, e, -⟩
    · rw [e, eu]; exact ⟨Or.inl ⟨eE, rfl⟩, h, Nat.le_succ _⟩
    · rw [e] at hb2; exact absurd hb2 (b_in hj)
    · rw [e] at hb2; exact absurd hb2 (b_in hj)
  · subst eb
    rcases hm with ⟨hb, -⟩ | ⟨-, -, -, e⟩ | ⟨_, _, _, _, _, _, _, _, _, -, -, f3, f4, -⟩
    · exact absurd hb (b_in hj)
    · rw [e, eu]; exact ⟨Or.inr (Or.inl ⟨eE, rfl⟩), h, Nat.le_succ _⟩
    · rcases hbad with q | q
      · rw [f3] at q; cases q
      · rw [f4] at q; cases q
  · obtain ⟨co, hco, rfl⟩ := has_nI (by omega) a1
    obtain ⟨mc, hmc, rfl⟩ := has_nI (by omega) a2
    subst eb
    rcases ask_both ok h hj hco hmc hm with ⟨k1, k2, -⟩ | ⟨-, k1, k2, k3⟩
    · rcases a3 with ⟨q, -⟩ | ⟨-, q, -⟩
      · rw [k1] at q; cases q
      · rw [k2] at q; cases q
    · refine ⟨Or.inr (Or.inr ⟨eE, k1⟩), ?_, by rw [k2]; exact Nat.le_succ _⟩
      rcases a3 with ⟨-, eu⟩ | ⟨-, -, eu⟩
      · rw [eu]; exact k3 _ csm0 csm2 csm1 (Or.inl csm3) csm4
      · rw [eu]; exact k3 _ csm0 csm2 csm1 (Or.inr csm3) csm4
/-- what the model's ask wants of its state -/
theorem ask_pre (ok : mk_ok L S C) (h : RI L S C z (th, most, asked, td, tr, v, o)) : mv_sz v 0 ≤ 40 ∧ mv_sz v 1 ≤ 40 ∧ (∀ i, i < 16 → ∃ q, q < 2 ^ mL L 1 ∧ mv_ml v i = nI q) ∧
    (∀ j, j < 64 → ∀ q1, q1 < 2 ^ mL L 1 → ∀ i1, mv_ml v (j / 4) = nI q1 → i1 < mv_sz (mv_gather L S 1 (nI (j / 4)) q1 v) 1 → mv_at (mv_gather L S 1 (nI (j / 4)) q1 v) 1 (nI (j / 4)) = nI (80 * 1 + i1) → ∃ q0, q0 < 2 ^ L ∧ ma_lf L (ma_tl (mv_sv (mv_gather L S 1 (nI (j / 4)) q1 v) (80 * 1 + i1)) j) j = nI q0) ∧
    (ts_trail (cs_t0 z)).2 = td ∧ (ts_trail (cs_t1 z)).2 = td := by
  have h' := h
  obtain ⟨la, F, N0, N1, r0, r1, g, e2, e3, t0, t1⟩ := h'
  have hm5 := (mL_le (T := 1) ok.1 ok.2.1).2
  have h32 := p2_le ok.2.1
  have h32m := p2_le hm5
  have hC := ok.2.2.2.2
  have z0 : mv_sz v 0 ≤ C := r0.2.2.2.2.1
  have z1 : mv_sz v 1 ≤ C := r1.2.2.2.2.1
  refine ⟨by omega, by omega, fun i hi => ⟨la i, (g.1 i hi).2.2, (g.1 i hi).1⟩, fun j hj q1' hq1 i1' e i1lt ea => ?_, t0.1, t1.1⟩
  obtain ⟨q1, i1, q0, i0, V1, V3, V4, V6, c1, c2, c3, c4, c5, c6, c7, c8, c9, -⟩ := ask_core (co := 0) (mc := 0) (nw := false) (nv := 0) ok h hj (Nat.two_pow_pos _) (Nat.two_pow_pos _)
  have hq : q1' = q1 := (nI_eq (by omega) (by omega)).mp (e.symm.trans c2)
  subst hq
  rw [← c3] at i1lt ea ⊢
  have hi1 : i1' = i1 := by
    have := (nI_eq (by omega) (by omega)).mp (ea.symm.trans c6)
    omega
  subst hi1
  exact ⟨q0, c8, c9⟩
end AG
-- what the model's questions answer
def mo_trace (td : Nat) (tr : Nat → Int32) (x k r th : Int32) : Prop := (th = 1 ∧ r = 0 ∧ ((x < 0 ∨ 1 < x) ∨ k < 0 ∨ nI td ≤ k)) ∨ (th = 0 ∧ ∃ T i, T < 2 ∧ x = nI T ∧ i < td ∧ k = nI i ∧ r = tr (2 * i + T))
def mo_nd (L : Nat) (x nd : Int32) : Prop := (x < 0 ∨ 1 < x) ∨ tr_nd (cs_L x L (mL L 1)) nd = false
def mo_written (L : Nat) (v : Mv) (x nd r th : Int32) : Prop := (th = 1 ∧ r = 0 ∧ mo_nd L x nd) ∨ (th = 0 ∧ ∃ T n, T < 2 ∧ x = nI T ∧ 1 ≤ n ∧ n < 2 * 2 ^ mL L T ∧ nd = nI n ∧ r = mv_ct v (64 * T + n))
def mo_stash (v : Mv) (x k r th : Int32) : Prop := (th = 1 ∧ r = 0 ∧ ((x < 0 ∨ 1 < x) ∨ k < 0)) ∨ (th = 0 ∧ ∃ T i, T < 2 ∧ x = nI T ∧ i < 2 ^ 31 ∧ k = nI i ∧ r = if mv_sz v T ≤ i then -1 else mv_sb v (80 * T + i))
def mo_word (v : Mv) (p w : Nat) : Int64 := if mv_bl v p = -1 then 0 else if w = 0 then (mv_bl v p).toInt64 + 1 else if w = 1 then (mv_lf v p).toInt64 else mv_vl v p
def mo_num (T n s w : Nat) : Int64 := (((nI T).toInt64 * 64 + (nI n).toInt64) * 4 + (nI s).toInt64) * 4 + (nI w).toInt64
def mo_seal (key : Int64) (T n s w : Nat) (c : Int32) : Int64 := ct_mix (key + 1000003 * mo_num T n s w + (-7046029254386353131) * c.toInt64)
def mo_stored (L S : Nat) (key : Int64) (v : Mv) (x nd sl wd : Int32) (r : Int64) (th : Int32) : Prop :=
  (th = 1 ∧ r = 0 ∧ ((x < 0 ∨ 1 < x) ∨ tr_nd (cs_L x L (mL L 1)) nd = false ∨ (sl < 0 ∨ nI S ≤ sl) ∨ (wd < 0 ∨ 3 ≤ wd))) ∨
  (th = 0 ∧ ∃ T n s w, T < 2 ∧ x = nI T ∧ 1 ≤ n ∧ n < 2 * 2 ^ mL L T ∧ nd = nI n ∧ s < S ∧ sl = nI s ∧ w < 3 ∧ wd = nI w ∧ r = mo_word v (256 * T + 4 * n + s) w ^^^ mo_seal key T n s w (mv_ct v (64 * T + n)))
def mo_cnt (L S C : Nat) (most asked : Int32) (td : Nat) (v : Mv) (k : Nat) : Int32 := match k with
  | 0 => nI (2 ^ L)
  | 1 => nI (2 ^ mL L 1)
  | 2 => nI S
  | 3 => nI C
  | 4 => nI (mv_sz v 0)
  | 5 => nI (mv_sz v 1)
  | 6 => most
  | 7 => asked
  | _ => nI td
def mo_count (L S C : Nat) (most asked : Int32) (td : Nat) (v : Mv) (wh r th : Int32) : Prop := (th = 1 ∧ r = 0 ∧ (wh < 0 ∨ 8 < wh)) ∨ (th = 0 ∧ ∃ k, k < 9 ∧ wh = nI k ∧ r = mo_cnt L S C most asked td v k)
section OB
variable {L S C : Nat} {z : Cs} {th most asked : Int32} {td : Nat} {tr : Nat → Int32} {v o : Mv}
theorem x_in {T : Nat} (hT : T < 2) : ¬ (nI T < 0 ∨ 1 < nI T) := by
  rw [← nI_0, nI_ltI (by omega) (by omega), show (1 : Int32) = nI 1 from rfl, nI_ltI (by omega) (by omega)]
  omega
theorem RI_T (h : RI L S C z (th, most, asked, td, tr, v, o)) {T : Nat} (hT : T < 2) : ∃ (B : Nat) (G : Int32 → Int32 → Int64 → Prop) (N : Int32 → Nat), rt T (mL L T) S C B G N (cs_t (nI T) z) v ∧ tq T td tr (cs_t (nI T) z) ∧ cs_L (nI T) L (mL L 1) = mL L T := by
  obtain ⟨la, F, N0, N1, r0, r1, g, e2, e3, t0, t1⟩ := h
  rcases (show T = 0 ∨ T = 1 by omega) with e | e
  · subst e
    refine ⟨64, G0 L F, N0, ?_, ?_, ?_⟩
    · rw [mL_a rfl]; exact r0
    · exact t0
    · rw [mL_a rfl]; exact cs_L_0
  · subst e
    refine ⟨16, G1 la F, N1, ?_, ?_, ?_⟩
    · exact r1
    · exact t1
    · exact cs_L_1
theorem td_t (h : RI L S C z (th, most, asked, td, tr, v, o)) (x : Int32) : (ts_trail (cs_t x z)).2 = td := by
  obtain ⟨la, F, N0, N1, r0, r1, g, e2, e3, t0, t1⟩ := h
  unfold cs_t
  split
  · exact t0.1
  · exact t1.1
theorem ob_trace (h : RI L S C z (th, most, asked, td, tr, v, o)) (htd : td < 2 ^ 31) {x k r th' : Int32} (hm : mo_trace td tr x k r th') :
    (((x < 0 ∨ 1 < x) ∨ k < 0 ∨ nI (ts_trail (cs_t x z)).2 ≤ k) ∧ th' = 1) ∨ (¬ ((x < 0 ∨ 1 < x) ∨ k < 0 ∨ nI (ts_trail (cs_t x z)).2 ≤ k) ∧ th' = 0 ∧ r = (ts_trail (cs_t x z)).1 k.toNatClampNeg) := by
  rw [td_t h]
  rcases hm with ⟨a, -, c⟩ | ⟨a, T, i, hT, rfl, hi, rfl, er⟩
  · exact Or.inl ⟨c, a⟩
  · refine Or.inr ⟨?_, a, ?_⟩
    · rintro (q | q | q)
      · exact x_in hT q
      · rw [← nI_0, nI_ltI (by omega) (by omega)] at q; omega
      · rw [nI_leI (by omega) (by omega)] at q; omega
    · obtain ⟨B, G, N, -, t, -⟩ := RI_T h hT
      rw [nI_clamp (by omega), er]
      exact (t.2 i hi).symm
theorem nd_in {D : Nat} {x : Int32} (hD : D ≤ 5) (h : tr_nd D x = true) : ∃ n, 1 ≤ n ∧ n < 2 * 2 ^ D ∧ x = nI n := by
  have h32 := p2_le hD
  simp only [tr_nd, Bool.and_eq_true, decide_eq_true_eq] at h
  obtain ⟨h1, h2⟩ := h
  obtain ⟨n, hn, rfl⟩ := nI_of (x := x) (fun q => by
    rw [Int32.lt_iff_toInt_lt, show (0 : Int32).toInt = 0 from rfl] at q
    rw [Int32.le_iff_toInt_le, show (1 : Int32).toInt = 1 from rfl] at h1
    omega)
  rw [show (1 : Int32) = nI 1 from rfl, nI_leI (by omega) hn] at h1
  rw [show (2 : Int32) = nI 2 from rfl, pk_mul, nI_ltI hn (by omega)] at h2
  exact ⟨n, h1, h2, rfl⟩
theorem ob_written (ok : mk_ok L S C) (h : RI L S C z (th, most, asked, td, tr, v, o)) {x nd r th' : Int32} (hm : mo_written L v x nd r th') :
    (((x < 0 ∨ 1 < x) ∨ tr_nd (cs_L x L (mL L 1)) nd = false) ∧ th' = 1) ∨ (¬ ((x < 0 ∨ 1 < x) ∨ tr_nd (cs_L x L (mL L 1)) nd = false) ∧ th' = 0 ∧ r = ts_cnts (cs_t x z) nd.toNatClampNeg) := by
  rcases hm with ⟨a, -, c⟩ | ⟨a, T, n, hT, rfl, h1, h2, rfl, er⟩
  · exact Or.inl ⟨c, a⟩
  · obtain ⟨B, G, N, r1, -, e⟩ := RI_T h hT
    have hD := (mL_le (T := T) ok.1 ok.2.1).2
    have h32 := p2_le hD
    refine Or.inr ⟨?_, a, ?_⟩
    · rintro (q | q)
      · exact x_in hT q
      · rw [e, nd_ok hD h1 h2] at q; cases q
    · rw [nI_clamp (by omega), er]
      exact (r1.2.2.2.2.2 n h2).symm
theorem ob_stash (ok : mk_ok L S C) (h : RI L S C z (th, most, asked, td, tr, v, o)) {x k r th' : Int32} (hm : mo_stash v x k r th') :
    (((x < 0 ∨ 1 < x) ∨ k < 0) ∧ th' = 1) ∨ (¬ ((x < 0 ∨ 1 < x) ∨ k < 0) ∧ th' = 0 ∧ r = ct_stash C (cs_t x z) k) := by
  rcases hm with ⟨a, -, c⟩ | ⟨a, T, i, hT, rfl, hi, rfl, er⟩
  · exact Or.inl ⟨c, a⟩
  · obtain ⟨B, G, N, ⟨-, -, -, r1, r2, -⟩, -, -⟩ := RI_T h hT
    have hC := ok.2.2.2.2
    refine Or.inr ⟨?_, a, ?_⟩
    · rintro (q | q)
      · exact x_in hT q
      · rw [← nI_0, nI_ltI (by omega) (by omega)] at q; omega
    · unfold ct_stash
      rw [r1.1, er]
      by_cases e : mv_sz v T ≤ i
      · rw [if_pos e, if_pos ((nI_leI (by omega) hi).mpr e)]
      · rw [if_neg e, if_neg (fun q => e ((nI_leI (by omega) hi).mp q)), rwa_nI (by omega) (by omega), (r1.2 i (by omega)).1, Int32.add_sub_cancel]
theorem i64n {n : Nat} (h : n < 2 ^ 31) : (nI n).toInt64 = Int64.ofNat n := by
  apply Int64.toBitVec_inj.mp
  rw [nI64 h]
  rfl
theorem num_eq {T n s w : Nat} (hT : T < 2) (hn : n < 64) (hs : s < 4) (hw : w < 3) : (((nI T * 64 + nI n) * 4 + nI s) * 4 + nI w).toInt64 = mo_num T n s w := by
  unfold mo_num
  rw [show (64 : Int32) = nI 64 from rfl, show (4 : Int32) = nI 4 from rfl, pk_mul, nI_add, pk_mul, nI_add, pk_mul, nI_add, i64n (by omega), i64n (by omega), i64n (by omega), i64n (by omega), i64n (by omega), show (64 : Int64) = Int64.ofNat 64 from rfl, show (4 : Int64) = Int64.ofNat 4 from rfl]
  rw [← Int64.ofNat_mul, ← Int64.ofNat_add, ← Int64.ofNat_mul, ← Int64.ofNat_add, ← Int64.ofNat_mul, ← Int64.ofNat_add]
theorem ob_stored (ok : mk_ok L S C) (h : RI L S C z (th, most, asked, td, tr, v, o)) {key r : Int64} {x nd sl wd th' : Int32} (hm : mo_stored L S key v x nd sl wd r th') :
    (((x < 0 ∨ 1 < x) ∨ tr_nd (cs_L x L (mL L 1)) nd = false ∨ (sl < 0 ∨ nI S ≤ sl) ∨ (wd < 0 ∨ 3 ≤ wd)) ∧ th' = 1) ∨ (¬ ((x < 0 ∨ 1 < x) ∨ tr_nd (cs_L x L (mL L 1)) nd = false ∨ (sl < 0 ∨ nI S ≤ sl) ∨ (wd < 0 ∨ 3 ≤ wd)) ∧ th' = 0 ∧
      r = tr_word (cs_L x L (mL L 1)) S (cs_t x z) nd sl wd.toNatClampNeg ^^^ ct_seal key x nd sl wd (ts_cnts (cs_t x z) nd.toNatClampNeg)) := by
  rcases hm with ⟨a, -, c⟩ | ⟨a, T, n, s, w, hT, rfl, h1, h2, rfl, hs, rfl, hw, rfl, er⟩
  · exact Or.inl ⟨c, a⟩
  · obtain ⟨B, G, N, ⟨g, ⟨r0, -⟩, r1, -, -, r2⟩, -, e⟩ := RI_T h hT
    obtain ⟨l1, l5, s1, s4, c40⟩ := ok
    have hD := (mL_le (T := T) l1 l5).2
    have h32 := p2_le hD
    refine Or.inr ⟨?_, a, ?_⟩
    · rintro (q | q | (q | q) | (q | q))
      · exact x_in hT q
      · rw [e, nd_ok hD h1 h2] at q; cases q
      · rw [← nI_0, nI_ltI (by omega) (by omega)] at q; omega
      · rw [nI_leI (by omega) (by omega)] at q; omega
      · rw [← nI_0, nI_ltI (by omega) (by omega)] at q; omega
      · rw [show (3 : Int32) = nI 3 from rfl, nI_leI (by omega) (by omega)] at q; omega
    · have hp := nN_p (D := mL L T) h2 hs
      have hseal : ct_seal key (nI T) (nI n) (nI s) (nI w) (mv_ct v (64 * T + n)) = mo_seal key T n s w (mv_ct v (64 * T + n)) := by
        unfold ct_seal mo_seal
        rw [num_eq hT (by omega) (by omega) hw]
      rw [er, nI_clamp (by omega), nI_clamp (by omega), r2 n h2, hseal, e]
      congr 1
      unfold tr_word mo_word
      rw [pk_mul, nI_add, rwa_nI (nN_lt hD s4) hp, rwa_nI (nN_lt hD s4) hp, rwl_nI (nN_lt hD s4) hp]
      rcases r1 n s h2 hs with ⟨q1, q2, q3, q4⟩ | ⟨q1, q2, q3, q4⟩
      · rw [if_pos q1, q2, q3, q4]
        split
        · rfl
        · split <;> rfl
      · rw [if_neg q1, q2, q3, q4]
        have hb := r0.1 (4 * n + s) (by omega)
        rw [show 256 * T + (4 * n + s) = 256 * T + 4 * n + s by omega] at hb
        obtain ⟨k, hk, ek⟩ := g.2.1 _ _ _ (hb q1).1
        have := g.1
        rw [ek, nI64_1 (by omega)]
theorem ob_count (h : RI L S C z (th, most, asked, td, tr, v, o)) {wh r th' : Int32} (hm : mo_count L S C most asked td v wh r th') :
    ((wh < 0 ∨ 8 < wh) ∧ th' = 1) ∨ (¬ (wh < 0 ∨ 8 < wh) ∧ th' = 0 ∧ r = ct_cnt L (mL L 1) S C z wh.toNatClampNeg) := by
  rcases hm with ⟨a, -, c⟩ | ⟨a, k, hk, rfl, er⟩
  · exact Or.inl ⟨c, a⟩
  · obtain ⟨la, F, N0, N1, r0, r1, g, e2, e3, t0, t1⟩ := h
    refine Or.inr ⟨?_, a, ?_⟩
    · rw [← nI_0, nI_ltI (by omega) (by omega), show (8 : Int32) = nI 8 from rfl, nI_ltI (by omega) (by omega)]
      omega
    · rw [nI_clamp (by omega), er]
      rcases (show k = 0 ∨ k = 1 ∨ k = 2 ∨ k = 3 ∨ k = 4 ∨ k = 5 ∨ k = 6 ∨ k = 7 ∨ k = 8 by omega) with rfl | rfl | rfl | rfl | rfl | rfl | rfl | rfl | rfl
      · rfl
      · rfl
      · rfl
      · rfl
      · exact r0.2.2.2.1.1.symm
      · exact r1.2.2.2.1.1.symm
      · exact e2.symm
      · exact e3.symm
      · exact congrArg nI t0.1.symm
end OB
theorem ml0_at {M : Nat} (hM : M ≤ 5) : ∀ k m, m < k → k ≤ 16 → ct_ml0 M k m = nI (m % 2 ^ M) := by
  intro k
  induction k with
  | zero => intro m h; omega
  | succ k ih =>
    intro m h h16
    show upd (lp_ (ct_mlf M) k (fun _ => 0)) k (nI k &&& (nI (2 ^ M) - 1)) m = _
    by_cases e : m = k
    · rw [e, pk_us, msk (by omega) hM]
    · rw [up_n e]; exact ih m (by omega) (by omega)
theorem rt_0 {T D S C B : Nat} {G : Int32 → Int32 → Int64 → Prop} {v : Mv} (hT : T < 2) (hD : D ≤ 5) (hS : S ≤ 4) (hB : B ≤ 64) (hG : ∀ b l x, G b l x → ∃ k, k < B ∧ b = nI k) (h1 : ∀ i, i < 512 → mv_bl v i = -1) (h2 : mv_sz v T = 0) (h3 : ∀ i, i < 128 → mv_ct v i = 0) : rt T D S C B G (fun _ => 0) ts_z v := by
  have h32 := p2_le hD
  refine ⟨⟨hB, hG, fun _ _ => Nat.zero_le _⟩, ⟨⟨fun c hc hn => absurd (h1 _ (by omega)) hn, fun i hi => by omega⟩, fun y hy => ?_⟩, fun n s hn hs => Or.inl ⟨h1 _ (by omega), rfl, rfl, rfl⟩, ⟨by rw [h2]; rfl, fun i hi => by omega⟩, by omega, fun n hn => by rw [h3 _ (by omega)]; rfl⟩
  unfold tot
  rw [h2, ci_zero (f := fun c => mv_bl v (256 * T + c)) 256 (fun c hc => by rw [h1 _ (by omega)]; exact Ne.symm hy)]
  rfl
theorem RI_0 {L S C : Nat} {th : Int32} {tr : Nat → Int32} {v o : Mv} (ok : mk_ok L S C) (h1 : ∀ i, i < 512 → mv_bl v i = -1) (h20 : mv_sz v 0 = 0) (h21 : mv_sz v 1 = 0) (h3 : ∀ i, i < 128 → mv_ct v i = 0) (h4 : ∀ m, m < 16 → mv_ml v m = nI (m % 2 ^ mL L 1)) : RI L S C (cs_mk (ct_ml0 (mL L 1) 16) 0 0 ts_z ts_z) (th, 0, 0, 0, tr, v, o) := by
  have hm5 := (mL_le (T := 1) ok.1 ok.2.1).2
  have hS := ok.2.2.2.1
  refine ⟨fun m => m % 2 ^ mL L 1, fun _ => 0, fun _ => 0, fun _ => 0, rt_0 (by decide) ok.2.1 hS (by decide) (fun b l x h => ?_) h1 h20 h3, rt_0 (by decide) hm5 hS (by decide) (fun b l x h => ?_) h1 h21 h3, ⟨fun m hm => ⟨h4 m hm, ml0_at hm5 16 m hm (Nat.le_refl _), Nat.mod_lt _ (Nat.two_pow_pos _)⟩, fun _ _ => Nat.zero_le _, fun _ _ _ _ _ => rfl⟩, rfl, rfl, ⟨rfl, fun k hk => absurd hk (Nat.not_lt_zero k)⟩, ⟨rfl, fun k hk => absurd hk (Nat.not_lt_zero k)⟩⟩
  · obtain ⟨k, hk, ek, -⟩ := h
    exact ⟨k, hk, ek⟩
  · obtain ⟨k, hk, ek, -⟩ := h
    exact ⟨k, hk, ek⟩
