theorem tr_nd_t {L : Nat} {x : Int32} (h1 : ¬ x < 1) (h2 : ¬ 2 * nI (2 ^ L) ≤ x) : tr_nd L x = true := by
  simp only [tr_nd, Bool.and_eq_true, decide_eq_true_eq]
  exact ⟨Int32.not_lt.mp h1, Int32.not_le.mp h2⟩
theorem tr_nd_f1 {L : Nat} {x : Int32} (h : x < 1) : tr_nd L x = false := by
  have h2 : ¬ 1 ≤ x := Int32.not_le.mpr h
  simp [tr_nd, h2]
theorem tr_nd_f2 {L : Nat} {x : Int32} (h : 2 * nI (2 ^ L) ≤ x) : tr_nd L x = false := by
  have h2 : ¬ x < 2 * nI (2 ^ L) := Int32.not_lt.mpr h
  simp [tr_nd, h2]
theorem tr_nd_vp {L S C B : Nat} {x : Int32} (ok : tr_ok L S C B) (h : tr_nd L x = true) : vp_in x (2 * 2 ^ L) := by
  simp only [tr_nd, Bool.and_eq_true, decide_eq_true_eq] at h
  obtain ⟨h1, h2⟩ := h
  have h3 := tr_p2 ok.2.1
  rw [vp_in_iff]
  rw [show (2 : Int32) = nI 2 from rfl, pk_mul, Int32.lt_iff_toInt_lt, nI_toInt (by omega)] at h2
  rw [Int32.le_iff_toInt_le, show (1 : Int32).toInt = 1 from rfl] at h1
  omega

theorem clamp_lt (x : Int32) : x.toNatClampNeg < 2 ^ 31 := by
  have h := i32_clampT (x := x)
  have h2 := x.toInt_lt
  omega
theorem le_clamp {x : Int32} {k : Nat} (hk : k < 2 ^ 31) (h : x ≤ nI k) : x.toNatClampNeg ≤ k := by
  rw [Int32.le_iff_toInt_le, nI_toInt hk] at h
  have h2 := i32_clampT (x := x)
  omega
theorem lt_clamp {x : Int32} {k : Nat} (hk : k < 2 ^ 31) (h : ¬ x ≤ nI k) : k < x.toNatClampNeg := by
  rw [Int32.le_iff_toInt_le, nI_toInt hk] at h
  have h2 := i32_clampT (x := x)
  omega
theorem tr_gather_n {L S C B : Nat} {t : Ts} {blk lf : Int32} (h : ¬ tr_look B (tr_gP L S C B t lf) (blk + 1) = -1) : tr_gather L S C B t blk lf = ts_mk (ts_nodes t) (ts_cnts t) (ts_stash t) (ts_trail t) (tr_gP L S C B t lf) (ts_tgt t) lf (tr_look B (tr_gP L S C B t lf) (blk + 1)) := if_neg h
theorem tr_gather_y {L S C B : Nat} {t : Ts} {blk lf : Int32} (h : tr_look B (tr_gP L S C B t lf) (blk + 1) = -1) : tr_gather L S C B t blk lf = ts_mk (ts_nodes t) (ts_cnts t) (ts_stash t) (ts_trail t) (rw_new B (tr_gP L S C B t lf) (blk + 1)) (ts_tgt t) lf (tr_gP L S C B t lf).2.2.2 := if_pos h
section FN
variable {L S B : Nat} {pl : Rw} {nd lv : Int32} {tg : Nat → Int32} {k : Nat} {q : (Nat → Int32) × Nat}
theorem tr_fNf_a (h : q.2 < S) (h1 : ¬ q.1 k = -1) : tr_fNf L S B pl nd lv k q = q := by unfold tr_fNf; rw [if_pos h, if_neg h1]
theorem tr_fNf_b (h : q.2 < S) (h1 : q.1 k = -1) (h2 : ¬ tr_way L (rw_at B pl.2.1 (nI k)) lv = nd) : tr_fNf L S B pl nd lv k q = q := by unfold tr_fNf; rw [if_pos h, if_pos h1, if_neg h2]
theorem tr_fNf_c (h : q.2 < S) (h1 : q.1 k = -1) (h2 : tr_way L (rw_at B pl.2.1 (nI k)) lv = nd) : tr_fNf L S B pl nd lv k q = (upd q.1 k (nd * nI S + nI q.2), q.2 + 1) := by unfold tr_fNf; rw [if_pos h, if_pos h1, if_pos h2]
theorem tr_fNf_d (h : ¬ q.2 < S) : tr_fNf L S B pl nd lv k q = q := by unfold tr_fNf; rw [if_neg h]
theorem tr_fN_le : ∀ k, (lp_ (tr_fNf L S B pl nd lv) k (tg, 0)).2 ≤ S := by
  intro k
  induction k with
  | zero => exact Nat.zero_le _
  | succ k ih =>
    show (tr_fNf L S B pl nd lv k (lp_ (tr_fNf L S B pl nd lv) k (tg, 0))).2 ≤ S
    generalize lp_ (tr_fNf L S B pl nd lv) k (tg, 0) = q at ih
    unfold tr_fNf
    split
    · split
      · split
        · show q.2 + 1 ≤ S
          omega
        · exact ih
      · exact ih
    · exact ih
theorem tr_fN_full (h : ¬ (lp_ (tr_fNf L S B pl nd lv) k (tg, 0)).2 < S) : ∀ d, lp_ (tr_fNf L S B pl nd lv) (k + d) (tg, 0) = lp_ (tr_fNf L S B pl nd lv) k (tg, 0) := by
  intro d
  induction d with
  | zero => rfl
  | succ d ih =>
    show tr_fNf L S B pl nd lv (k + d) (lp_ (tr_fNf L S B pl nd lv) (k + d) (tg, 0)) = _
    rw [ih]
    exact tr_fNf_d h
theorem tr_fN_end (hk : k ≤ rw_cnt B pl.2.2.2) (h : ¬ (lp_ (tr_fNf L S B pl nd lv) k (tg, 0)).2 < S) : lp_ (tr_fNf L S B pl nd lv) k (tg, 0) = tr_fN L S B pl nd lv tg := by
  have h2 := tr_fN_full h (rw_cnt B pl.2.2.2 - k)
  rw [show k + (rw_cnt B pl.2.2.2 - k) = rw_cnt B pl.2.2.2 by omega] at h2
  exact h2.symm
end FN
theorem fl_step {k L : Nat} (h : k ≤ L) : nI (L - k) + (-1) = nI L - nI (k + 1) := by
  rw [← pk_sub h, ← nI_1, Int32.sub_eq_add_neg, Int32.sub_eq_add_neg, Int32.neg_add, Int32.sub_eq_add_neg, Int32.add_assoc]
theorem fl_neg (L : Nat) : nI L - nI (L + 1) < 0 := by
  rw [← nI_1, show nI L - (nI L + 1) = (-1 : Int32) by rw [Int32.sub_eq_add_neg, Int32.neg_add, Int32.sub_eq_add_neg, ← Int32.add_assoc, Int32.add_right_neg, Int32.zero_add]]
  decide
theorem tl_min {c : Nat} (h : c < 600) : (if (600 : Int32) < nI c + 1 then 600 else nI c + 1) = nI (c + 1) := by
  rw [nI_1, if_neg]
  rw [show (600 : Int32) = nI 600 from rfl]
  exact nI_nlt (by omega) (by omega)
theorem tl_in_set {ws : va_W} {i0 h a : Nat} {cI : ClassId} {t : Tl} (q : tl_in ws i0 h a cI t) (f : Nat → Int32) (x y : Value) :
    ((ws.set (i0 + 1) (a, .inl (cI, 600, .inl f))).set i0 (h, .inr (1, [.ref a, x, y]))) = (ws.set i0 (h, .inr (1, [.ref a, x, y]))).set (i0 + 1) (a, .inl (cI, 600, .inl f)) := List.set_comm _ _ (by omega)
