section CA
variable {T D S B C P lf : Nat} {pl : Rw} {v0 w : Mv} {G : Int32 → Int32 → Int64 → Prop} {N : Int32 → Nat}
theorem ix_inj {S n n' s s' : Nat} (hs : s < S) (hs' : s' < S) (e : n * S + s = n' * S + s') : n = n' ∧ s = s' := by
  have h1 : (n * S + s) / S = n := by
    rw [Nat.mul_comm, Nat.mul_add_div (by omega), Nat.div_eq_of_lt hs, Nat.add_zero]
  have h2 : (n' * S + s') / S = n' := by
    rw [Nat.mul_comm, Nat.mul_add_div (by omega), Nat.div_eq_of_lt hs', Nat.add_zero]
  have h3 : n = n' := by rw [← h1, ← h2, e]
  subst h3
  exact ⟨rfl, by omega⟩
def r0 (r : Rw) (p : Nat) : Prop := r.1 p = 0 ∧ r.2.1 p = 0 ∧ r.2.2.1 p = 0
def rs (r r' : Rw) (p : Nat) : Prop := r'.1 p = r.1 p ∧ r'.2.1 p = r.2.1 p ∧ r'.2.2.1 p = r.2.2.1 p
theorem rs.tr {r r' r'' : Rw} {p : Nat} (h : rs r r' p) (g : rs r' r'' p) : rs r r'' p := ⟨g.1.trans h.1, g.2.1.trans h.2.1, g.2.2.trans h.2.2⟩
theorem eN_all (hD : D ≤ 5) (hS : S ≤ 4) {nd : Nat} (hn : nd < 2 * 2 ^ D) (r : Rw) : ∀ j, j ≤ S → (∀ s, s < j → r0 (lp_ (tr_eNf D S (nI nd)) j r) (nd * S + s)) ∧ (∀ p, (∀ s, s < j → ¬ p = nd * S + s) → rs r (lp_ (tr_eNf D S (nI nd)) j r) p) := by
  intro j
  induction j with
  | zero => intro _; exact ⟨fun s h => by omega, fun p _ => ⟨rfl, rfl, rfl⟩⟩
  | succ j ih =>
    intro hj
    obtain ⟨h1, h2⟩ := ih (by omega)
    show (∀ s, s < j + 1 → r0 (tr_eNf D S (nI nd) j (lp_ (tr_eNf D S (nI nd)) j r)) (nd * S + s)) ∧ (∀ p, _ → rs r (tr_eNf D S (nI nd) j (lp_ (tr_eNf D S (nI nd)) j r)) p)
    generalize lp_ (tr_eNf D S (nI nd)) j r = q at *
    have hp := nN_p (D := D) (S := S) (n := nd) (s := j) hn (by omega)
    have e : tr_eNf D S (nI nd) j q = (upd q.1 (nd * S + j) 0, upd q.2.1 (nd * S + j) 0, vp_updL q.2.2.1 (nd * S + j) 0, q.2.2.2) := by
      unfold tr_eNf
      rw [pk_mul, nI_add, rwp_nI (nN_lt hD hS) hp]
    rw [e]
    refine ⟨fun s hs => ?_, fun p hp2 => ?_⟩
    · show upd q.1 _ 0 _ = 0 ∧ upd q.2.1 _ 0 _ = 0 ∧ vp_updL q.2.2.1 _ 0 _ = 0
      by_cases z : s = j
      · rw [z, pk_us, pk_us, upL_e rfl]; exact ⟨rfl, rfl, rfl⟩
      · rw [up_n (by omega), up_n (by omega), upL_n (by omega)]; exact h1 s (by omega)
    · show upd q.1 _ 0 p = _ ∧ upd q.2.1 _ 0 p = _ ∧ vp_updL q.2.2.1 _ 0 p = _
      have := hp2 j (by omega)
      rw [up_n this, up_n this, upL_n this]
      exact h2 p (fun s hs => hp2 s (by omega))
theorem nd_ok {D nd : Nat} (hD : D ≤ 5) (h1 : 1 ≤ nd) (h2 : nd < 2 * 2 ^ D) : tr_nd D (nI nd) = true := by
  have := p2_le hD
  unfold tr_nd
  simp only [Bool.and_eq_true, decide_eq_true_eq]
  refine ⟨?_, ?_⟩
  · rw [show (1 : Int32) = nI 1 from rfl, nI_leI (by omega) (by omega)]; exact h1
  · rw [show (2 : Int32) = nI 2 from rfl, pk_mul, nI_ltI (by omega) (by omega)]; exact h2
theorem cE_all (hD : D ≤ 5) (hS : S ≤ 4) (hlf : lf < 2 ^ D) (r : Rw) (cn : Nat → Int32) : ∀ k, k ≤ D + 1 →
    (∀ i s, i < k → s < S → r0 (lp_ (tr_cEf D S (nI lf)) k (r, cn)).1 (mnd D lf (D - i) * S + s)) ∧ (∀ n s, s < S → (∀ i, i < k → ¬ n = mnd D lf (D - i)) → rs r (lp_ (tr_cEf D S (nI lf)) k (r, cn)).1 (n * S + s)) ∧
    (∀ i, i < k → (lp_ (tr_cEf D S (nI lf)) k (r, cn)).2 (mnd D lf (D - i)) = cn (mnd D lf (D - i)) + 1) ∧ (∀ n, (∀ i, i < k → ¬ n = mnd D lf (D - i)) → (lp_ (tr_cEf D S (nI lf)) k (r, cn)).2 n = cn n) := by
  intro k
  induction k with
  | zero => intro _; exact ⟨fun i s h => by omega, fun n s _ _ => ⟨rfl, rfl, rfl⟩, fun i h => by omega, fun n _ => rfl⟩
  | succ k ih =>
    intro hk
    obtain ⟨h1, h2, h3, h4⟩ := ih (by omega)
    show (∀ i s, i < k + 1 → s < S → r0 (tr_cEf D S (nI lf) k (lp_ (tr_cEf D S (nI lf)) k (r, cn))).1 _) ∧ (∀ n s, s < S → _ → rs r (tr_cEf D S (nI lf) k (lp_ (tr_cEf D S (nI lf)) k (r, cn))).1 _) ∧ (∀ i, i < k + 1 → (tr_cEf D S (nI lf) k (lp_ (tr_cEf D S (nI lf)) k (r, cn))).2 _ = _) ∧ (∀ n, _ → (tr_cEf D S (nI lf) k (lp_ (tr_cEf D S (nI lf)) k (r, cn))).2 n = _)
    generalize lp_ (tr_cEf D S (nI lf)) k (r, cn) = q at *
    have hnd := mnd_lt2 (up := D - k) hlf
    have h32 := p2_le hD
    have e : tr_cEf D S (nI lf) k q = (lp_ (tr_eNf D S (nI (mnd D lf (D - k)))) S q.1, upd q.2 (mnd D lf (D - k)) (q.2 (mnd D lf (D - k)) + 1)) := by
      unfold tr_cEf tr_eN
      rw [way_nI hD (by omega) hlf, if_pos (nd_ok hD (mnd_pos (by omega)) hnd), nI_clamp (by omega)]
    rw [e]
    obtain ⟨g1, g2⟩ := eN_all hD hS hnd q.1 S (Nat.le_refl S)
    have hneq : ∀ i, i < k → ¬ mnd D lf (D - i) = mnd D lf (D - k) := fun i hi z => by
      have := mnd_inj (D := D) (lf := lf) (a := D - i) (b := D - k) (by omega) (by omega) z
      omega
    refine ⟨fun i s hi hs => ?_, fun n s hs hn => ?_, fun i hi => ?_, fun n hn => ?_⟩
    · by_cases z : i = k
      · rw [z]; exact g1 s hs
      · have hr := g2 (mnd D lf (D - i) * S + s) (fun s' hs' z2 => hneq i (by omega) (ix_inj hs hs' z2).1)
        obtain ⟨a, b, c⟩ := h1 i s (by omega) hs
        exact ⟨hr.1.trans a, hr.2.1.trans b, hr.2.2.trans c⟩
    · exact (h2 n s hs (fun i hi => hn i (by omega))).tr (g2 (n * S + s) (fun s' hs' z2 => hn k (by omega) (ix_inj hs hs' z2).1))
    · show upd q.2 _ _ _ = _
      by_cases z : i = k
      · rw [z, pk_us, h4 _ (fun i hi z => hneq i hi z.symm)]
      · rw [up_n (hneq i (by omega))]; exact h3 i (by omega)
    · show upd q.2 _ _ _ = _
      rw [up_n (hn k (by omega))]; exact h4 n (fun i hi => hn i (by omega))
/-- the place of the model's place c in a class's row -/
def ix (S c : Nat) : Nat := c / 4 * S + c % 4
theorem cS_all (hD : D ≤ 5) (hS : S ≤ 4) (hC : C ≤ 40) (hPB : P ≤ B) (hB : B ≤ 64) (hlf : lf < 2 ^ D) {tg : Nat → Int32} (h : iv T D S P lf pl v0 G N tg w) (hz : mv_sz w T ≤ C) (r st : Rw) (hst : st.2.2.2 = nI 0) : ∀ k, k ≤ P →
    (∀ c, c < 256 → wy D S lf c → (∃ j, j < k ∧ tg j = nI (ix S c)) → (lp_ (tr_cSf D S C B pl tg) k (r, st)).1.1 (ix S c) = mv_bl w (256 * T + c) + 1 ∧ (lp_ (tr_cSf D S C B pl tg) k (r, st)).1.2.1 (ix S c) = mv_lf w (256 * T + c) ∧ (lp_ (tr_cSf D S C B pl tg) k (r, st)).1.2.2.1 (ix S c) = mv_vl w (256 * T + c)) ∧
    (∀ p, p < tr_nN D S → (∀ j, j < k → ¬ tg j = nI p) → rs r (lp_ (tr_cSf D S C B pl tg) k (r, st)).1 p) ∧
    (lp_ (tr_cSf D S C B pl tg) k (r, st)).2.2.2.2 = nI (ci_ tg (-1) k) ∧ (∀ i, i < ci_ tg (-1) k → (lp_ (tr_cSf D S C B pl tg) k (r, st)).2.1 i = mv_sb w (80 * T + i) + 1 ∧ (lp_ (tr_cSf D S C B pl tg) k (r, st)).2.2.1 i = mv_sl w (80 * T + i) ∧ (lp_ (tr_cSf D S C B pl tg) k (r, st)).2.2.2.1 i = mv_sv w (80 * T + i)) := by
  obtain ⟨f1, f1b, f2, f3, f5, -⟩ := h
  have h32 := p2_le hD
  have hwn : ∀ c, wy D S lf c → ix S c < tr_nN D S := fun c hw => by
    obtain ⟨⟨up, hu, e⟩, h2⟩ := hw
    exact nN_p (by rw [e]; exact mnd_lt2 hlf) h2
  have hnl := nN_lt hD hS
  intro k
  induction k with
  | zero => intro _; exact ⟨fun c _ _ ⟨j, hj, _⟩ => by omega, fun p _ _ => ⟨rfl, rfl, rfl⟩, hst, fun i hi => absurd hi (Nat.not_lt_zero i)⟩
  | succ k ih =>
    intro hk
    obtain ⟨h1, h2, h3, h4⟩ := ih (by omega)
    show (∀ c, c < 256 → wy D S lf c → (∃ j, j < k + 1 ∧ tg j = nI (ix S c)) → (tr_cSf D S C B pl tg k (lp_ (tr_cSf D S C B pl tg) k (r, st))).1.1 (ix S c) = _ ∧ (tr_cSf D S C B pl tg k (lp_ (tr_cSf D S C B pl tg) k (r, st))).1.2.1 (ix S c) = _ ∧ (tr_cSf D S C B pl tg k (lp_ (tr_cSf D S C B pl tg) k (r, st))).1.2.2.1 (ix S c) = _) ∧ (∀ p, _ → _ → rs r (tr_cSf D S C B pl tg k (lp_ (tr_cSf D S C B pl tg) k (r, st))).1 p) ∧ (tr_cSf D S C B pl tg k (lp_ (tr_cSf D S C B pl tg) k (r, st))).2.2.2.2 = _ ∧ (∀ i, _ → (tr_cSf D S C B pl tg k (lp_ (tr_cSf D S C B pl tg) k (r, st))).2.1 i = _ ∧ (tr_cSf D S C B pl tg k (lp_ (tr_cSf D S C B pl tg) k (r, st))).2.2.1 i = _ ∧ (tr_cSf D S C B pl tg k (lp_ (tr_cSf D S C B pl tg) k (r, st))).2.2.2.1 i = _)
    generalize lp_ (tr_cSf D S C B pl tg) k (r, st) = q at *
    by_cases hg : tg k = -1
    · have hci := ci_le (f := tg) (x := -1) P (show k + 1 ≤ P from hk)
      rw [ci_s hg] at hci ⊢
      obtain ⟨a1, a2, a3⟩ := f1b k (by omega) hg
      have e : tr_cSf D S C B pl tg k q = (q.1, (upd q.2.1 (ci_ tg (-1) k) (pl.1 k), upd q.2.2.1 (ci_ tg (-1) k) (pl.2.1 k), vp_updL q.2.2.2.1 (ci_ tg (-1) k) (pl.2.2.1 k), nI (ci_ tg (-1) k + 1))) := by
        unfold tr_cSf
        rw [if_pos hg, rwapp_nI h3 (by omega) (by omega) (by omega) (by omega)]
      rw [e]
      refine ⟨fun c hc hw ⟨j, hj, ej⟩ => h1 c hc hw ⟨j, ?_, ej⟩, fun p hp hn => h2 p hp (fun j hj => hn j (by omega)), rfl, fun i hi => ?_⟩
      · by_cases z : j = k
        · rw [z, hg] at ej
          have := hwn c hw
          exact absurd ej.symm (nI_m1 (by omega))
        · omega
      · show upd q.2.1 _ _ i = _ ∧ upd q.2.2.1 _ _ i = _ ∧ vp_updL q.2.2.2.1 _ _ i = _
        by_cases z : i = ci_ tg (-1) k
        · rw [z, pk_us, pk_us, upL_e rfl]; exact ⟨a1.symm, a2.symm, a3.symm⟩
        · rw [up_n z, up_n z, upL_n z]; exact h4 i (by omega)
    · rw [ci_ns hg]
      obtain ⟨c0, hc0, hw0, et, b1, b2, b3⟩ := f2 k (by omega) hg
      have hp0 : ix S c0 < tr_nN D S := hwn c0 hw0
      have et : tg k = nI (ix S c0) := et
      have e : tr_cSf D S C B pl tg k q = ((upd q.1.1 (ix S c0) (pl.1 k), upd q.1.2.1 (ix S c0) (pl.2.1 k), vp_updL q.1.2.2.1 (ix S c0) (pl.2.2.1 k), q.1.2.2.2), q.2) := by
        unfold tr_cSf rw_copy
        rw [if_neg hg, et, rwp_nI hnl hp0, rwa_nI (by omega) (by omega), rwa_nI (by omega) (by omega), rwl_nI (by omega) (by omega)]
      rw [e]
      refine ⟨fun c hc hw ⟨j, hj, ej⟩ => ?_, fun p hp hn => ?_, h3, h4⟩
      · show upd q.1.1 _ _ _ = _ ∧ upd q.1.2.1 _ _ _ = _ ∧ vp_updL q.1.2.2.1 _ _ _ = _
        by_cases z : c = c0
        · rw [z, pk_us, pk_us, upL_e rfl]; exact ⟨b1.symm, b2.symm, b3.symm⟩
        · have hne : ix S c ≠ ix S c0 := fun y => z (by
            have h5 := ix_inj hw.2 hw0.2 y
            omega)
          rw [up_n hne, up_n hne, upL_n hne]
          refine h1 c hc hw ⟨j, ?_, ej⟩
          by_cases y : j = k
          · rw [y, et] at ej
            have h6 := hwn c hw
            exact absurd ((nI_eq (by omega) (by omega)).mp ej).symm hne
          · omega
      · show upd q.1.1 _ _ _ = _ ∧ upd q.1.2.1 _ _ _ = _ ∧ vp_updL q.1.2.2.1 _ _ _ = _
        have hne : p ≠ ix S c0 := fun y => hn k (by omega) (by rw [y]; exact et)
        rw [up_n hne, up_n hne, upL_n hne]
        exact h2 p hp (fun j hj => hn j (by omega))
/-- the class carries out what the model has done -/
theorem carry_lock (hT : T < 2) (hD : D ≤ 5) (hS : S ≤ 4) (hC : C ≤ 40) (hPB : P ≤ B) (hB : B ≤ 64) (hlf : lf < 2 ^ D) (hpl : ∀ k, k < P → ¬ pl.1 k = 0) (hcnt : rw_cnt B pl.2.2.2 = P) {tg : Nat → Int32} (h : iv T D S P lf pl v0 G N tg w) (hz : mv_sz w T ≤ C) {t : Ts} (ep : ts_plan t = pl) (eg : ts_tgt t = tg) (ew : ts_way t = nI lf)
    {vo : Mv} (hrn : rn T D S (ts_nodes t) vo) (ho : ∀ c, c < 256 → ¬ wy D S lf c → mv_bl v0 (256 * T + c) = mv_bl vo (256 * T + c) ∧ mv_lf v0 (256 * T + c) = mv_lf vo (256 * T + c) ∧ mv_vl v0 (256 * T + c) = mv_vl vo (256 * T + c))
    (hk : ∀ n, n < 2 * 2 ^ D → ts_cnts t n = mv_ct vo (64 * T + n)) (hw1 : ∀ up, up < D + 1 → mv_ct w (64 * T + mnd D lf up) = mv_ct vo (64 * T + mnd D lf up) + 1) (hw2 : ∀ n, (∀ up, up < D + 1 → ¬ n = mnd D lf up) → mv_ct w (64 * T + n) = mv_ct vo (64 * T + n)) :
    rn T D S (ts_nodes (tr_carry D S C B t)) w ∧ rp T (ts_stash (tr_carry D S C B t)) w ∧ (∀ n, n < 2 * 2 ^ D → ts_cnts (tr_carry D S C B t) n = mv_ct w (64 * T + n)) ∧ ts_trail (tr_carry D S C B t) = tl_add (ts_trail t) (nI lf) := by
  subst ep eg
  have h32 := p2_le hD
  have hnl := nN_lt hD hS
  obtain ⟨e1, e2, e3, e4⟩ := cE_all hD hS hlf (ts_nodes t) (ts_cnts t) (D + 1) (Nat.le_refl _)
  have hE : tr_cE D S t = lp_ (tr_cEf D S (nI lf)) (D + 1) (ts_nodes t, ts_cnts t) := by
    unfold tr_cE
    rw [ew]
  rw [← hE] at e1 e2 e3 e4
  obtain ⟨s1, s2, s3, s4⟩ := cS_all (C := C) (B := B) hD hS hC hPB hB hlf h hz (tr_cE D S t).1 (rw_size (ts_stash t) 0) rfl P (Nat.le_refl _)
  have hSx : tr_cS D S C B t = lp_ (tr_cSf D S C B (ts_plan t) (ts_tgt t)) P ((tr_cE D S t).1, rw_size (ts_stash t) 0) := by
    unfold tr_cS
    rw [hcnt]
  rw [← hSx] at s1 s2 s3 s4
  obtain ⟨f1, f1b, f2, f3, f5, -⟩ := h
  refine ⟨fun n s hn hs => ?_, ⟨?_, fun i hi => ?_⟩, fun n hn => ?_, by show tl_add (ts_trail t) (ts_way t) = _; rw [ew]⟩
  · show (_ ∧ (tr_cS D S C B t).1.1 (n * S + s) = 0 ∧ (tr_cS D S C B t).1.2.1 (n * S + s) = 0 ∧ (tr_cS D S C B t).1.2.2.1 (n * S + s) = 0) ∨ (_ ∧ (tr_cS D S C B t).1.1 (n * S + s) = _ ∧ (tr_cS D S C B t).1.2.1 (n * S + s) = _ ∧ (tr_cS D S C B t).1.2.2.1 (n * S + s) = _)
    have hc4 : (4 * n + s) / 4 = n := by omega
    have hc5 : (4 * n + s) % 4 = s := by omega
    have hix : ix S (4 * n + s) = n * S + s := by unfold ix; rw [hc4, hc5]
    have hidx : n * S + s < tr_nN D S := nN_p hn hs
    have hmo : 256 * T + (4 * n + s) = 256 * T + 4 * n + s := by omega
    have hback : ∀ j, j < P → ts_tgt t j = nI (n * S + s) → wy D S lf (4 * n + s) ∧ an_ T (ts_plan t) w j (4 * n + s) := fun j hj ej => by
      have hg : ¬ ts_tgt t j = -1 := by rw [ej]; exact nI_m1 (by omega)
      obtain ⟨c', hc', hw', et, ha⟩ := f2 j hj hg
      have hb : c' / 4 * S + c' % 4 < tr_nN D S := by
        obtain ⟨⟨up, hu, e⟩, h2⟩ := hw'
        exact nN_p (by rw [e]; exact mnd_lt2 hlf) h2
      have h7 := ix_inj hs hw'.2 ((nI_eq (by omega) (by omega)).mp (ej.symm.trans et))
      have h8 : c' = 4 * n + s := by omega
      subst h8
      exact ⟨hw', ha⟩
    by_cases hw : wy D S lf (4 * n + s)
    · by_cases hb : mv_bl w (256 * T + (4 * n + s)) = -1
      · left
        have hno : ∀ j, j < P → ¬ ts_tgt t j = nI (n * S + s) := fun j hj ej => by
          obtain ⟨-, a1, -⟩ := hback j hj ej
          rw [hb] at a1
          exact hpl j hj (a1.symm.trans (by decide))
        have hr := s2 _ hidx hno
        obtain ⟨⟨up, hu, e⟩, h2⟩ := hw
        rw [hc4] at e
        have h0 := e1 (D - up) s (by omega) hs
        rw [show D - (D - up) = up by omega, ← e] at h0
        rw [← hmo]
        exact ⟨hb, hr.1.trans h0.1, hr.2.1.trans h0.2.1, hr.2.2.trans h0.2.2⟩
      · right
        obtain ⟨j, hj, ej⟩ := f3 _ (by omega) hw hb
        have h9 := s1 _ (by omega) hw ⟨j, hj, ej⟩
        rw [hix, hmo] at h9
        rw [hmo] at hb
        exact ⟨hb, h9⟩
    · have hno : ∀ j, j < P → ¬ ts_tgt t j = nI (n * S + s) := fun j hj ej => hw (hback j hj ej).1
      have hr := s2 _ hidx hno
      have hr2 := e2 n s hs (fun i hi e => hw ⟨⟨D - i, by omega, by rw [hc4]; exact e⟩, by omega⟩)
      obtain ⟨r1, r2, r3⟩ := hr2.tr hr
      obtain ⟨m1, m2, m3⟩ := f5 _ (by omega) hw
      obtain ⟨o1, o2, o3⟩ := ho _ (by omega) hw
      rw [hmo] at m1 m2 m3 o1 o2 o3
      rw [r1, r2, r3, m1, m2, m3, o1, o2, o3]
      exact hrn n s hn hs
  · show (tr_cS D S C B t).2.2.2.2 = _
    rw [s3, f1]
  · show (tr_cS D S C B t).2.1 i = _ ∧ (tr_cS D S C B t).2.2.1 i = _ ∧ (tr_cS D S C B t).2.2.2.1 i = _
    exact s4 i (by rw [← f1]; exact hi)
  · show (tr_cE D S t).2 n = _
    by_cases hw : ∃ up, up < D + 1 ∧ n = mnd D lf up
    · obtain ⟨up, hu, e⟩ := hw
      subst e
      have := e3 (D - up) (by omega)
      rw [show D - (D - up) = up by omega] at this
      rw [this, hk _ hn, hw1 up hu]
    · have hw' : ∀ up, up < D + 1 → ¬ n = mnd D lf up := fun up hu e => hw ⟨up, hu, e⟩
      rw [e4 n (fun i hi e => hw' (D - i) (by omega) e), hk n hn, hw2 n hw']
end CA
theorem sm_rn {T D S : Nat} {r : Rw} {v w : Mv} (hD : D ≤ 5) (hS : S ≤ 4) (h : sm T v w) (q : rn T D S r v) : rn T D S r w := fun n s hn hs => by
  have h32 := p2_le hD
  obtain ⟨a, b, c⟩ := h.1 (4 * n + s) (by omega)
  rw [show 256 * T + (4 * n + s) = 256 * T + 4 * n + s by omega] at a b c
  rw [a, b, c]
  exact q n s hn hs
theorem sm_rp {T : Nat} {r : Rw} {v w : Mv} (h : sm T v w) (hz : mv_sz v T ≤ 80) (q : rp T r v) : rp T r w := by
  refine ⟨by rw [h.2.2.2]; exact q.1, fun i hi => ?_⟩
  rw [h.2.2.2] at hi
  obtain ⟨a, b, c⟩ := h.2.2.1 i (by omega)
  rw [a, b, c]
  exact q.2 i hi
theorem st_sm {T T' i : Nat} {v : Mv} {l : Int32} {x : Int64} {ml : Nat → Int32} (hT : T < 2) (hT' : T' < 2) (hn : T' ≠ T) (hi : i < 80) : sm T' v (st_ v (80 * T + i) l x ml) :=
  ⟨fun _ _ => ⟨rfl, rfl, rfl⟩, fun _ _ => rfl, fun k hk => ⟨rfl, up_n (by omega), upL_n (by omega)⟩, rfl⟩
/-- one visit of a tree: gather, settle, fits, carryOut -/
theorem visit {L T D S C B lf b : Nat} {G : Int32 → Int32 → Int64 → Prop} {N : Int32 → Nat} {v : Mv} {t : Ts} (g : gN_ B G N) (hT : T < 2) (hm : mL L T = D) (h1L : 1 ≤ L) (hL5 : L ≤ 5) (hS : S ≤ 4) (hC : C ≤ 40) (hlf : lf < 2 ^ D) (hb : b < B) (hj : jt T D S G N v) (hrn : rn T D S (ts_nodes t) v) (hrs : rp T (ts_stash t) v) (hz : mv_sz v T ≤ C) (hk : ∀ n, n < 2 * 2 ^ D → ts_cnts t n = mv_ct v (64 * T + n))
    (hGl : ∀ l x, G (nI b) l x → l = nI lf) :
    ∃ i, i < mv_sz (mv_gather L S T (nI b) lf v) T ∧ mv_sz (mv_gather L S T (nI b) lf v) T ≤ B ∧ mv_at (mv_gather L S T (nI b) lf v) T (nI b) = nI (80 * T + i) ∧ gx G N (nI b) (nI b) (mv_sl (mv_gather L S T (nI b) lf v) (80 * T + i)) (mv_sv (mv_gather L S T (nI b) lf v) (80 * T + i)) ∧
      mv_ml (mv_gather L S T (nI b) lf v) = mv_ml v ∧
      rw_atL B (ts_plan (tr_gather D S C B t (nI b) (nI lf))).2.2.1 (ts_sought (tr_gather D S C B t (nI b) (nI lf))) = mv_sv (mv_gather L S T (nI b) lf v) (80 * T + i) ∧
      ∀ (l' : Int32) (x' : Int64) (ml' : Nat → Int32) (G' : Int32 → Int32 → Int64 → Prop), (∀ b' l x, b' ≠ nI b → gx G N (nI b) b' l x → G' b' l x) → G' (nI b) l' x' → (∀ b' l x, G' b' l x → ∃ k, k < B ∧ b' = nI k) →
        ∀ (t2 : Ts) (v3 : Mv), t2 = tr_settle B (tr_gather D S C B t (nI b) (nI lf)) l' x' → v3 = mv_fill L S T lf (st_ (mv_gather L S T (nI b) lf v) (80 * T + i) l' x' ml') →
        (tr_fit D S B t2).2 = nI (mv_sz v3 T) ∧ mv_sz v3 T ≤ B ∧ jt T D S G' (n1 N (nI b)) v3 ∧ gN_ B G' (n1 N (nI b)) ∧ (∀ T', T' < 2 → T' ≠ T → sm T' v v3) ∧ mv_ml v3 = ml' ∧
        (ts_nodes t2 = ts_nodes t ∧ ts_cnts t2 = ts_cnts t ∧ ts_stash t2 = ts_stash t ∧ ts_trail t2 = ts_trail t) ∧
        (mv_sz v3 T ≤ C → rn T D S (ts_nodes (tr_carry D S C B (tr_fits D S B t2))) v3 ∧ rp T (ts_stash (tr_carry D S C B (tr_fits D S B t2))) v3 ∧ (∀ n, n < 2 * 2 ^ D → ts_cnts (tr_carry D S C B (tr_fits D S B t2)) n = mv_ct v3 (64 * T + n)) ∧ ts_trail (tr_carry D S C B (tr_fits D S B t2)) = tl_add (ts_trail t) (nI lf)) := by
  obtain ⟨i, h1, h2, h3, h4, ⟨pl, h5, h6⟩, h7, h8, h9⟩ := gather_lock g hT hm h1L hL5 hS hC hlf hb hj hrn hrs hz hGl
  have hB := g.1
  have hD : D ≤ 5 := by rw [← hm]; exact (mL_le h1L hL5).2
  have h32 := p2_le hD
  rw [h5]
  generalize mv_gather L S T (nI b) lf v = v1 at *
  refine ⟨i, h1, h4, h2, ?_, h7.2.2.2.2.1, ?_, ?_⟩
  · have := h8.2 i h1
    rw [h3] at this
    exact this
  · show rw_atL B pl.2.2.1 (nI i) = _
    rw [rwl_nI (by omega) (by omega)]
    exact (h6.2 i h1).2.2
  · intro l' x' ml' G' a1 a2 a3 t2 v3 et ev
    have htb : tot T (nI b) v1 ≤ 1 := by
      rw [h9 _ (nI_m1 (by omega))]
      unfold n1
      rw [if_pos rfl]; exact Nat.le_refl _
    have hg' : gN_ B G' (n1 N (nI b)) := ⟨hB, a3, fun k hk => by
      unfold n1
      split
      · exact Nat.le_refl _
      · exact g.2.2 k hk⟩
    -- the plan as it is settled
    obtain ⟨p2, hp2⟩ : ∃ p2 : Rw, p2 = (upd pl.1 i (pl.1 i), upd pl.2.1 i l', vp_updL pl.2.2.1 i x', pl.2.2.2) := ⟨_, rfl⟩
    obtain ⟨v2, hv2⟩ : ∃ v2 : Mv, v2 = st_ v1 (80 * T + i) l' x' ml' := ⟨_, rfl⟩
    have et2 : t2 = ts_mk (ts_nodes t) (ts_cnts t) (ts_stash t) (ts_trail t) p2 (ts_tgt t) (nI lf) (nI i) := by
      rw [et]
      show ts_mk (ts_nodes t) (ts_cnts t) (ts_stash t) (ts_trail t) (rw_put B pl (nI i) (rw_at B pl.1 (nI i)) l' x') (ts_tgt t) (nI lf) (nI i) = _
      rw [rwp_nI (by omega) (by omega), rwa_nI (by omega) (by omega), hp2]
    have hr2 : rp T p2 v2 := by rw [hp2, hv2]; exact st_rp h6 h1 rfl
    have hw2 : pw T D S G' v2 := by rw [hv2]; exact st_pw h8 h1 h3 htb a1 a2
    have hz2 : mv_sz v2 T = mv_sz v1 T := by rw [hv2]; rfl
    have ht2 : ∀ y, y ≠ -1 → tot T y v2 = n1 N (nI b) y := fun y hy => by rw [hv2]; exact h9 y hy
    have hbl2 : mv_bl v2 = mv_bl v1 := by rw [hv2]; rfl
    have hE2 : ∀ c, c < 256 → wy D S lf c → mv_bl v2 (256 * T + c) = -1 := fun c hc hw => by rw [hbl2]; exact h7.1 c hc hw
    have hpl : ∀ k, k < mv_sz v2 T → ¬ p2.1 k = 0 := fun k hk e => by
      obtain ⟨q, hq, eb⟩ := a3 _ _ _ (hw2.2 k hk)
      have e2 := (hr2.2 k hk).1
      rw [e, eb] at e2
      exact nI_m1 (by omega) (i1_0 e2.symm)
    have hcnt : rw_cnt B p2.2.2.2 = mv_sz v2 T := by
      unfold rw_cnt
      rw [hr2.1, nI_clamp (by omega)]
      omega
    have hfl := fit_lock (B := B) (G := G') (N := n1 N (nI b)) hT hD hS (show mv_sz v2 T ≤ B by omega) hB hpl hcnt hlf (tr_f0 B p2 (ts_tgt t)) (iv_0 hr2 rfl (fun k hk => by unfold tr_f0; rw [hcnt]; exact f0_all _ _ hk) hE2 hw2 ht2) rfl hE2 (D + 1) (Nat.le_refl _)
    have ev3 : v3 = lp_ (mv_fU D S T lf) (D + 1) v2 := by
      rw [ev, hv2, ← hm]; rfl
    have efit : tr_fit D S B t2 = lp_ (tr_f1f D S B p2 (nI lf)) (D + 1) (tr_f0 B p2 (ts_tgt t), nI (mv_sz v2 T)) := by
      rw [← hr2.1, et2]; rfl
    rw [← ev3, ← efit] at hfl
    obtain ⟨j1, j2, -, j4, j5⟩ := hfl
    have hct : mv_ct v2 = mv_ct v := by rw [hv2]; exact h7.2.2.2.2.2.1
    have hjt : jt T D S G' (n1 N (nI b)) v3 := ⟨j1.2.2.2.2.2.2.1, j1.2.2.2.2.2.1⟩
    refine ⟨j2, jt_sz hg' hjt, hjt, hg', fun T' q1 q2 => ?_, ?_, ?_, fun hzC => ?_⟩
    · have s2 : sm T' v1 v2 := by rw [hv2]; exact st_sm hT q1 q2 (by omega)
      exact ((h7.2.2.2.2.2.2 T' q1 q2).tr s2).tr (j1.2.2.2.2.2.2.2.1 T' q1 q2)
    · rw [j1.2.2.2.2.2.2.2.2, hv2]; rfl
    · rw [et2]; exact ⟨rfl, rfl, rfl, rfl⟩
    · have key := carry_lock (C := C) (B := B) (vo := v) (t := tr_fits D S B t2) hT hD hS hC (show mv_sz v2 T ≤ B by omega) hB hlf hpl hcnt j1 hzC (by rw [et2]; rfl) rfl (by rw [et2]; rfl) (by rw [et2]; exact hrn) (fun c hc hw => by
        refine ⟨by rw [hbl2]; exact h7.2.1 c hc hw, ?_, ?_⟩
        · rw [hv2]; show mv_lf v1 _ = _; rw [h7.2.2.1]
        · rw [hv2]; show mv_vl v1 _ = _; rw [h7.2.2.2.1]) (by rw [et2]; exact hk) (fun up hu => by rw [j4 up hu, hct]) (fun n hn => by rw [j5 n hn, hct])
      obtain ⟨k1, k2, k3, k4⟩ := key
      refine ⟨k1, k2, k3, ?_⟩
      rw [k4, et2]; rfl
-- sixteen bits of a long
def fd (x : Int64) (k : Nat) : Nat := x.toUInt64.toNat / 2 ^ (16 * k) % 65536
theorem u_tl (u : UInt64) : u.toInt64.toInt32 &&& 65535 = nI (u.toNat % 65536) := by
  apply Int32.toBitVec_inj.mp
  apply BitVec.eq_of_toNat_eq
  rw [Int32.toBitVec_and, BitVec.toNat_and]
  have h1 : (u.toInt64.toInt32).toBitVec.toNat = u.toNat % 2 ^ 32 := by
    rw [Int64.toBitVec_toInt32, BitVec.signExtend_eq_setWidth_of_le _ (by decide), BitVec.toNat_setWidth]
    rfl
  have h2 : (65535 : Int32).toBitVec.toNat = 2 ^ 16 - 1 := by decide
  have h3 : (nI (u.toNat % 65536)).toBitVec.toNat = u.toNat % 65536 % 2 ^ 32 := rfl
  rw [h1, h2, h3, Nat.and_two_pow_sub_one_eq_mod]
  omega
theorem u_num (u : UInt64) : (u.toInt64 &&& 65535).toInt32 = nI (u.toNat % 65536) := by
  apply Int32.toBitVec_inj.mp
  apply BitVec.eq_of_toNat_eq
  rw [Int64.toBitVec_toInt32, BitVec.signExtend_eq_setWidth_of_le _ (by decide), BitVec.toNat_setWidth, Int64.toBitVec_and, BitVec.toNat_and]
  have h1 : u.toInt64.toBitVec.toNat = u.toNat := rfl
  have h2 : (65535 : Int64).toBitVec.toNat = 2 ^ 16 - 1 := by decide
  have h3 : (nI (u.toNat % 65536)).toBitVec.toNat = u.toNat % 65536 % 2 ^ 32 := rfl
  rw [h1, h2, h3, Nat.and_two_pow_sub_one_eq_mod]
theorem u_shr (x : Int64) {s : Nat} (hs : s < 4) : (x.toUInt64 >>> ((nI (16 * s)).toInt64.toUInt64 &&& Int64.toUInt64 63)).toNat % 65536 = fd x s := by
  have h : ((nI (16 * s)).toInt64.toUInt64 &&& Int64.toUInt64 63).toNat % 64 = 16 * s := by
    have key : ∀ i : Fin 4, ((nI (16 * i.val)).toInt64.toUInt64 &&& Int64.toUInt64 63).toNat % 64 = 16 * i.val := by decide
    exact key ⟨s, hs⟩
  rw [UInt64.toNat_shiftRight, h, Nat.shiftRight_eq_div_pow]
  rfl
theorem tl_fd (x : Int64) (j : Nat) : ma_tl x j = nI (fd x (j % 4)) := by
  unfold ma_tl
  rw [u_tl, u_shr x (Nat.mod_lt _ (by decide))]
theorem num_fd (x : Int64) (j : Nat) : ct_num x (nI (j % 4 * 16)) = nI (fd x (j % 4)) := by
  unfold ct_num
  rw [u_num, Nat.mul_comm (j % 4) 16, u_shr x (Nat.mod_lt _ (by decide))]
theorem fd_0 (k : Nat) : fd 0 k = 0 := by
  unfold fd
  rw [show (0 : Int64).toUInt64.toNat = 0 from rfl, Nat.zero_div]
theorem fd_lt {x : Int64} {k : Nat} : fd x k < 65536 := Nat.mod_lt _ (by decide)
theorem fd_bv (x : Int64) (k : Nat) : fd x k = (BitVec.extractLsb' (16 * k) 16 x.toBitVec).toNat := by
  rw [BitVec.extractLsb'_toNat, Nat.shiftRight_eq_div_pow]
  rfl
theorem nI64 {n : Nat} (h : n < 2 ^ 31) : (nI n).toInt64.toBitVec = BitVec.ofNat 64 n := by
  rw [Int32.toBitVec_toInt64]
  apply BitVec.eq_of_toInt_eq
  rw [BitVec.toInt_signExtend_of_le (by decide)]
  have h1 : (nI n).toBitVec.toInt = (nI n).toInt := rfl
  rw [h1, nI_toInt h, BitVec.toInt_eq_toNat_bmod, BitVec.toNat_ofNat]
  rw [Int.bmod_def]
  omega
theorem nI64_1 {q : Nat} (h : q + 1 < 2 ^ 31) : (nI q + 1).toInt64 = (nI q).toInt64 + 1 := by
  apply Int64.toBitVec_inj.mp
  rw [nI_1, nI64 h, Int64.toBitVec_add, nI64 (by omega)]
  exact BitVec.ofNat_add q 1
def fp_ (X : BitVec 64) (s n : Nat) : BitVec 64 := (X &&& (((65535#64) <<< (16 * s)) ^^^ (-1#64))) ||| ((BitVec.ofNat 64 n) <<< (16 * s))
theorem fp_fd {X : BitVec 64} {s n k : Nat} (hs : s < 4) (hk : k < 4) (hn : n < 65536) : (BitVec.extractLsb' (16 * k) 16 (fp_ X s n)).toNat = if k = s then n else (BitVec.extractLsb' (16 * k) 16 X).toNat := by
  have h65 : ∀ i, (65535#64).getLsbD i = decide (i < 16) := fun i => by
    rw [BitVec.getLsbD_ofNat, show 65535 = 2 ^ 16 - 1 from rfl, Nat.testBit_two_pow_sub_one]
    by_cases h : i < 16
    · have : i < 64 := by omega
      simp [h, this]
    · simp [h]
  have hn16 : ∀ i, 16 ≤ i → n.testBit i = false := fun i hi => Nat.testBit_lt_two_pow (Nat.lt_of_lt_of_le hn (Nat.pow_le_pow_right (show 2 > 0 by decide) hi))
  by_cases e : k = s
  · subst e
    rw [if_pos rfl]
    have : BitVec.extractLsb' (16 * k) 16 (fp_ X k n) = BitVec.ofNat 16 n := by
      apply BitVec.eq_of_getLsbD_eq
      intro i hi
      unfold fp_
      rw [BitVec.getLsbD_extractLsb', BitVec.getLsbD_or, BitVec.getLsbD_and, BitVec.getLsbD_xor, BitVec.getLsbD_shiftLeft, BitVec.getLsbD_shiftLeft, h65, BitVec.getLsbD_ofNat, BitVec.getLsbD_ofNat, show 16 * k + i - 16 * k = i by omega]
      have h1 : (-1#64).getLsbD (16 * k + i) = true := by
        rw [show -1#64 = BitVec.allOnes 64 by decide, BitVec.getLsbD_allOnes]
        simp; omega
      rw [h1]
      have a1 : 16 * k + i < 64 := by omega
      have a2 : ¬ 16 * k + i < 16 * k := by omega
      have a3 : i < 64 := by omega
      simp [hi, a1, a2, a3]
    rw [this, BitVec.toNat_ofNat]
    omega
  · rw [if_neg e]
    congr 1
    apply BitVec.eq_of_getLsbD_eq
    intro i hi
    unfold fp_
    rw [BitVec.getLsbD_extractLsb', BitVec.getLsbD_extractLsb', BitVec.getLsbD_or, BitVec.getLsbD_and, BitVec.getLsbD_xor, BitVec.getLsbD_shiftLeft, BitVec.getLsbD_shiftLeft, h65, BitVec.getLsbD_ofNat]
    have h1 : (-1#64).getLsbD (16 * k + i) = true := by
      rw [show -1#64 = BitVec.allOnes 64 by decide, BitVec.getLsbD_allOnes]
      simp; omega
    rw [h1]
    have a1 : 16 * k + i < 64 := by omega
    by_cases h2 : 16 * k + i < 16 * s
    · simp [hi, a1, h2]
    · have h3 : ¬ 16 * k + i - 16 * s < 16 := by omega
      have h4 := hn16 (16 * k + i - 16 * s) (by omega)
      simp [hi, a1, h2, h3, h4]
theorem sh_bv {s : Nat} (hs : s < 4) : (((nI (16 * s)).toInt64 &&& 63).toBitVec.smod 64) = BitVec.ofNat 64 (16 * s) := by
  have key : ∀ i : Fin 4, (((nI (16 * i.val)).toInt64 &&& 63).toBitVec.smod 64) = BitVec.ofNat 64 (16 * i.val) := by decide
  exact key ⟨s, hs⟩
theorem nx_bv {x : Int64} {j q : Nat} (hq : q + 1 < 65536) : (ma_nx x j (nI q)).toBitVec = fp_ x.toBitVec (j % 4) (q + 1) := by
  have hs : j % 4 < 4 := Nat.mod_lt _ (by decide)
  unfold ma_nx fp_
  rw [← nI64_1 (by omega), nI_1, Int64.toBitVec_or, Int64.toBitVec_and, Int64.toBitVec_xor, Int64.toBitVec_shiftLeft, Int64.toBitVec_shiftLeft, sh_bv hs, nI64 (by omega)]
  have h : (BitVec.ofNat 64 (16 * (j % 4))).toNat = 16 * (j % 4) := by rw [BitVec.toNat_ofNat]; omega
  rw [BitVec.shiftLeft_eq', BitVec.shiftLeft_eq', h]
  rfl
theorem nx_fd {x : Int64} {j q k : Nat} (hq : q + 1 < 65536) (hk : k < 4) : fd (ma_nx x j (nI q)) k = if k = j % 4 then q + 1 else fd x k := by
  rw [fd_bv, fd_bv, nx_bv hq]
  exact fp_fd (Nat.mod_lt _ (by decide)) hk hq
theorem with_nx {x : Int64} {j q : Nat} (hq : q + 1 < 65536) : ct_with x (nI (j % 4 * 16)) (nI q + 1) = ma_nx x j (nI q) := by
  unfold ct_with ma_nx
  rw [nI64_1 (by omega), Nat.mul_comm (j % 4) 16]
theorem msk {a L : Nat} (ha : a < 64) (hL : L ≤ 5) : nI a &&& (nI (2 ^ L) - 1) = nI (a % 2 ^ L) := by
  have key : ∀ i : Fin 64, ∀ k : Fin 6, nI i.val &&& (nI (2 ^ k.val) - 1) = nI (i.val % 2 ^ k.val) := by decide +kernel
  exact key ⟨a, ha⟩ ⟨L, by omega⟩
/-- the leaf that the class goes to, and the model's -/
def lfo (L j f : Nat) : Nat := if f = 0 then j % 2 ^ L else f - 1
theorem lfo_lt {L j f : Nat} (hf : f ≤ 2 ^ L) : lfo L j f < 2 ^ L := by
  have := Nat.two_pow_pos L
  unfold lfo
  split
  · exact Nat.mod_lt _ this
  · omega
theorem told_lfo {L j f : Nat} {x : Int64} (hL : L ≤ 5) (hj : j < 64) (hf : fd x (j % 4) = f) (hf2 : f ≤ 2 ^ L) : ct_told L x (nI (j % 4 * 16)) (nI j) = nI (lfo L j f) := by
  have h32 := p2_le hL
  unfold ct_told lfo
  rw [num_fd, hf]
  by_cases e : f = 0
  · rw [if_pos e, if_pos (by rw [e]; rfl), msk hj hL]
  · have hz : ¬ nI f = (0 : Int32) := fun z => e ((nI_eq (a := f) (b := 0) (by omega) (by omega)).mp z)
    rw [if_neg e, if_neg hz, show (1 : Int32) = nI 1 from rfl, pk_sub (by omega), show nI (2 ^ L) - nI 1 = nI (2 ^ L) - 1 from rfl, msk (by omega) hL, Nat.mod_eq_of_lt (by omega)]
theorem malf_lfo {L j f : Nat} {x : Int64} (hL : L ≤ 5) (hf : fd x (j % 4) = f) (hf2 : f ≤ 2 ^ L) : ma_lf L (ma_tl x j) j = nI (lfo L j f) := by
  have h32 := p2_le hL
  unfold ma_lf lfo
  rw [tl_fd, hf]
  by_cases e : f = 0
  · rw [if_pos e, if_pos (by rw [e]; rfl)]
  · have hz : ¬ nI f = (0 : Int32) := fun z => e ((nI_eq (a := f) (b := 0) (by omega) (by omega)).mp z)
    rw [if_neg e, if_neg hz, show (1 : Int32) = nI 1 from rfl, pk_sub (by omega)]
-- class and model, side by side
def G1 (la F : Nat → Nat) (b l : Int32) (x : Int64) : Prop := ∃ m, m < 16 ∧ b = nI m ∧ l = nI (la m) ∧ ∀ j, j < 4 → fd x j = F (4 * m + j)
def G0 (L : Nat) (F : Nat → Nat) (b l : Int32) (x : Int64) : Prop := ∃ k, k < 64 ∧ b = nI k ∧ ∃ q, q < 2 ^ L ∧ l = nI q ∧ F k = q + 1
def rt (T D S C B : Nat) (G : Int32 → Int32 → Int64 → Prop) (N : Int32 → Nat) (t : Ts) (v : Mv) : Prop := gN_ B G N ∧ jt T D S G N v ∧ rn T D S (ts_nodes t) v ∧ rp T (ts_stash t) v ∧ mv_sz v T ≤ C ∧ ∀ n, n < 2 * 2 ^ D → ts_cnts t n = mv_ct v (64 * T + n)
def tq (T td : Nat) (tr : Nat → Int32) (t : Ts) : Prop := (ts_trail t).2 = td ∧ ∀ k, k < td → (ts_trail t).1 k = tr (2 * k + T)
def gh (L M : Nat) (la F : Nat → Nat) (N1 : Int32 → Nat) (ml cml : Nat → Int32) : Prop := (∀ m, m < 16 → ml m = nI (la m) ∧ cml m = nI (la m) ∧ la m < 2 ^ M) ∧ (∀ b, b < 64 → F b ≤ 2 ^ L) ∧ (∀ m, m < 16 → N1 (nI m) = 0 → ∀ j, j < 4 → F (4 * m + j) = 0)
def RI (L S C : Nat) (z : Cs) (u : Mz) : Prop := ∃ (la F : Nat → Nat) (N0 N1 : Int32 → Nat), rt 0 L S C 64 (G0 L F) N0 (cs_t0 z) u.2.2.2.2.2.1 ∧ rt 1 (mL L 1) S C 16 (G1 la F) N1 (cs_t1 z) u.2.2.2.2.2.1 ∧ gh L (mL L 1) la F N1 (mv_ml u.2.2.2.2.2.1) (cs_ml z) ∧ cs_most z = u.2.1 ∧ cs_asked z = u.2.2.1 ∧ tq 0 u.2.2.2.1 u.2.2.2.2.1 (cs_t0 z) ∧ tq 1 u.2.2.2.1 u.2.2.2.2.1 (cs_t1 z)
theorem rt_sm {T D S C B : Nat} {G : Int32 → Int32 → Int64 → Prop} {N : Int32 → Nat} {t : Ts} {v w : Mv} (hD : D ≤ 5) (hS : S ≤ 4) (hC : C ≤ 40) (s : sm T v w) (h : rt T D S C B G N t v) : rt T D S C B G N t w := by
  obtain ⟨a, b, c, d, e, f⟩ := h
  have h32 := p2_le hD
  exact ⟨a, ⟨s.pW (by omega) b.1, fun y hy => (s.toT (by omega)).trans (b.2 y hy)⟩, sm_rn hD hS s c, sm_rp s (by omega) d, by rw [s.2.2.2]; exact e, fun n hn => by rw [s.2.1 n (by omega)]; exact f n hn⟩
theorem rt_t {T D S C B : Nat} {G : Int32 → Int32 → Int64 → Prop} {N : Int32 → Nat} {t t' : Ts} {v : Mv} (h : ts_nodes t' = ts_nodes t ∧ ts_cnts t' = ts_cnts t ∧ ts_stash t' = ts_stash t ∧ ts_trail t' = ts_trail t) (q : rt T D S C B G N t v) : rt T D S C B G N t' v := by
  unfold rt
  rw [h.1, h.2.1, h.2.2.1]
  exact q
theorem tq_t {T td : Nat} {tr : Nat → Int32} {t t' : Ts} (h : ts_trail t' = ts_trail t) (q : tq T td tr t) : tq T td tr t' := by
  unfold tq
  rw [h]
  exact q
theorem tq_add {T td : Nat} {tr : Nat → Int32} {t t' : Ts} {x y z : Int32} (hT : T < 2) (h : ts_trail t' = tl_add (ts_trail t) x) (e : x = if T = 0 then y else z) (q : tq T td tr t) : tq T (td + 1) (upd (upd tr (2 * td) y) (2 * td + 1) z) t' := by
  unfold tq
  rw [h]
  refine ⟨by show (ts_trail t).2 + 1 = _; rw [q.1], fun k hk => ?_⟩
  show upd (ts_trail t).1 (ts_trail t).2 x k = _
  rw [q.1]
  by_cases k0 : k = td
  · rw [k0, pk_us, e]
    by_cases t0 : T = 0
    · rw [if_pos t0, up_n (by omega), up_e (by omega)]
    · rw [if_neg t0, up_e (by omega)]
  · rw [up_n k0, up_n (by omega), up_n (by omega)]
    exact q.2 k (by omega)
theorem has_nI {n : Nat} {x : Int32} (hn : n < 2 ^ 31) (h : rw_has n x = true) : ∃ q, q < n ∧ x = nI q := by
  simp only [rw_has, Bool.and_eq_true, decide_eq_true_eq] at h
  obtain ⟨q, hq, rfl⟩ := nI_of h.1
  exact ⟨q, (nI_ltI hq hn).mp h.2, rfl⟩
theorem cp_lt {α : Type} {n i : Nat} {f g : Nat → α} (h : i < n) : cp_ n f g i = g i := if_pos h
theorem cp_sm {T : Nat} {V o v : Mv} (hT : T < 2) : sm T v (mv_cp V (mv_cp o v)) := by
  refine ⟨fun c hc => ⟨?_, ?_, ?_⟩, fun n hn => ?_, fun i hi => ⟨?_, ?_, ?_⟩, ?_⟩
  · exact (cp_lt (n := 512) (by omega)).trans (cp_lt (n := 512) (by omega))
  · exact (cp_lt (n := 512) (by omega)).trans (cp_lt (n := 512) (by omega))
  · exact (cp_lt (n := 512) (by omega)).trans (cp_lt (n := 512) (by omega))
  · exact (cp_lt (n := 128) (by omega)).trans (cp_lt (n := 128) (by omega))
  · exact (cp_lt (n := 160) (by omega)).trans (cp_lt (n := 160) (by omega))
  · exact (cp_lt (n := 160) (by omega)).trans (cp_lt (n := 160) (by omega))
  · exact (cp_lt (n := 160) (by omega)).trans (cp_lt (n := 160) (by omega))
  · exact (cp_lt (n := 2) (by omega)).trans (cp_lt (n := 2) (by omega))
theorem cp_ml {V o v : Mv} {m : Nat} (hm : m < 16) : mv_ml (mv_cp V (mv_cp o v)) m = mv_ml v m := (cp_lt (n := 16) hm).trans (cp_lt (n := 16) hm)
section AC
variable {L S C : Nat} {z : Cs} {th most asked : Int32} {td : Nat} {tr : Nat → Int32} {v o : Mv}
theorem RI_back {th' : Int32} {V o' : Mv} {z' : Cs} (ok : mk_ok L S C) (h : RI L S C z (th, most, asked, td, tr, v, o)) (e1 : cs_ml z' = cs_ml z) (e2 : cs_most z' = cs_most z) (e3 : cs_asked z' = cs_asked z) (e4 : ts_nodes (cs_t0 z') = ts_nodes (cs_t0 z) ∧ ts_cnts (cs_t0 z') = ts_cnts (cs_t0 z) ∧ ts_stash (cs_t0 z') = ts_stash (cs_t0 z) ∧ ts_trail (cs_t0 z') = ts_trail (cs_t0 z))
    (e5 : ts_nodes (cs_t1 z') = ts_nodes (cs_t1 z) ∧ ts_cnts (cs_t1 z') = ts_cnts (cs_t1 z) ∧ ts_stash (cs_t1 z') = ts_stash (cs_t1 z) ∧ ts_trail (cs_t1 z') = ts_trail (cs_t1 z)) : RI L S C z' (th', most, asked, td, tr, mv_cp V (mv_cp o v), o') := by
  obtain ⟨l1, l5, s1, s4, c40⟩ := ok
  obtain ⟨la, F, N0, N1, r0, r1, g, m1, m2, q0, q1⟩ := h
  refine ⟨la, F, N0, N1, rt_t e4 (rt_sm l5 s4 c40 (cp_sm (by decide)) r0), rt_t e5 (rt_sm (mL_le l1 l5).2 s4 c40 (cp_sm (by decide)) r1), ⟨fun m hm => ?_, g.2⟩, e2.trans m1, e3.trans m2, tq_t e4.2.2.2 q0, tq_t e5.2.2.2 q1⟩
  rw [e1]
  obtain ⟨g1, g2, g3⟩ := g.1 m hm
  exact ⟨(cp_ml hm).trans g1, g2, g3⟩
theorem ask_core {j co mc : Nat} {nw : Bool} {nv : Int64} (ok : mk_ok L S C) (h : RI L S C z (th, most, asked, td, tr, v, o)) (hj : j < 64) (hco : co < 2 ^ L) (hmc : mc < 2 ^ mL L 1) :
    ∃ (q1 i1 q0 i0 : Nat) (V1 V3 V4 V6 : Mv), q1 < 2 ^ mL L 1 ∧ mv_ml v (j / 4) = nI q1 ∧ V1 = mv_gather L S 1 (nI (j / 4)) q1 v ∧ i1 < mv_sz V1 1 ∧ mv_sz V1 1 ≤ 64 ∧ mv_at V1 1 (nI (j / 4)) = nI (80 * 1 + i1) ∧
      V3 = mv_fill L S 1 q1 (ma_s1 V1 (80 * 1 + i1) (j / 4) (nI mc) (ma_nx (mv_sv V1 (80 * 1 + i1)) j (nI co))) ∧
      q0 < 2 ^ L ∧ ma_lf L (ma_tl (mv_sv V1 (80 * 1 + i1)) j) j = nI q0 ∧ V4 = mv_gather L S 0 (nI j) q0 V3 ∧ i0 < mv_sz V4 0 ∧ mv_sz V4 0 ≤ 64 ∧ mv_at V4 0 (nI j) = nI (80 * 0 + i0) ∧
      V6 = mv_fill L S 0 q0 (ma_s0 V4 (80 * 0 + i0) (nI co) (if nw = true then nv else mv_sv V4 (80 * 0 + i0))) ∧
      ak_val L (mL L 1) S C z j = mv_sv V4 (80 * 0 + i0) ∧ ak_f1 (mL L 1) S C z j (nI co) (nI mc) = decide (mv_sz V3 1 ≤ C) ∧ ak_f0 L (mL L 1) S C z j nw nv (nI co) = decide (mv_sz V6 0 ≤ C) ∧
      (ts_nodes (ak_t1b (mL L 1) S C z j (nI co) (nI mc)) = ts_nodes (cs_t1 z) ∧ ts_cnts (ak_t1b (mL L 1) S C z j (nI co) (nI mc)) = ts_cnts (cs_t1 z) ∧ ts_stash (ak_t1b (mL L 1) S C z j (nI co) (nI mc)) = ts_stash (cs_t1 z) ∧ ts_trail (ak_t1b (mL L 1) S C z j (nI co) (nI mc)) = ts_trail (cs_t1 z)) ∧
      (ts_nodes (ak_t0b L (mL L 1) S C z j nw nv (nI co)) = ts_nodes (cs_t0 z) ∧ ts_cnts (ak_t0b L (mL L 1) S C z j nw nv (nI co)) = ts_cnts (cs_t0 z) ∧ ts_stash (ak_t0b L (mL L 1) S C z j nw nv (nI co)) = ts_stash (cs_t0 z) ∧ ts_trail (ak_t0b L (mL L 1) S C z j nw nv (nI co)) = ts_trail (cs_t0 z)) ∧
      (mv_sz V3 1 ≤ C → mv_sz V6 0 ≤ C → ∀ (th' : Int32) (o' : Mv), RI L S C (ak_z L (mL L 1) S C z j nw nv (nI co) (nI mc)) (th', if most < nI (mv_sz V6 0) then nI (mv_sz V6 0) else most, asked + 1, td + 1, upd (upd tr (2 * td) (nI q0)) (2 * td + 1) (nI q1), V6, o')) := by
  obtain ⟨l1, l5, s1, s4, c40⟩ := ok
  obtain ⟨la, F, N0, N1, r0, r1, ⟨g1, g2, g3⟩, e2, e3, t0, t1⟩ := h
  have hm5 := (mL_le (T := 1) l1 l5).2
  have h32 := p2_le l5
  have h32m := p2_le hm5
  have hm16 : j / 4 < 16 := by omega
  obtain ⟨ml1, ml2, ml3⟩ := g1 (j / 4) hm16
  have r0' := r0
  obtain ⟨ga, gb, gc, gd, ge, gf⟩ := r1
  have hV1 := visit (T := 1) (b := j / 4) (lf := la (j / 4)) (t := cs_t1 z) ga (by decide) rfl l1 l5 s4 c40 ml3 hm16 gb gc gd ge gf (fun l x hG => by
    obtain ⟨m, hm, em, el, -⟩ := hG
    rw [nI_eq (by omega) (by omega)] at em
    rw [em]; exact el)
  obtain ⟨i1, a1, a2, a3, a4, a5, a6, a7⟩ := hV1
  obtain ⟨V1, hV1⟩ : ∃ V1 : Mv, V1 = mv_gather L S 1 (nI (j / 4)) (la (j / 4)) v := ⟨_, rfl⟩
  rw [← hV1] at a1 a2 a3 a4 a5 a6 a7
  have hml2 : cs_ml z (j / 4) = nI (la (j / 4)) := ml2
  have hnum : ak_num (mL L 1) S C z j = mv_sv V1 (80 * 1 + i1) := by
    unfold ak_num ak_t1a
    rw [hml2]; exact a6
  have hfd : ∀ k, k < 4 → fd (mv_sv V1 (80 * 1 + i1)) k = F (4 * (j / 4) + k) := fun k hk => by
    rcases a4 with ⟨m, hm, em, -, hF⟩ | ⟨-, -, ex, hN⟩
    · rw [nI_eq (by omega) (by omega)] at em
      rw [em]; exact hF k hk
    · rw [ex, fd_0, g3 (j / 4) hm16 hN k hk]
  have hfj : fd (mv_sv V1 (80 * 1 + i1)) (j % 4) = F j := by
    rw [hfd _ (Nat.mod_lt _ (by decide)), show 4 * (j / 4) + j % 4 = j by omega]
  have hFj := g2 j hj
  obtain ⟨b1, b2, b3, b4, b5, b6, b7, b8⟩ := a7 (nI mc) (ma_nx (mv_sv V1 (80 * 1 + i1)) j (nI co)) (upd (mv_ml V1) (j / 4) (nI mc)) (G1 (upN la (j / 4) mc) (upN F j (co + 1))) (fun b' l x hne hG => by
      rcases hG with ⟨m, hm, em, el, hF⟩ | ⟨eb, -⟩
      · have hmm : m ≠ j / 4 := fun q => hne (by rw [em, q])
        exact ⟨m, hm, em, by rw [upN_n hmm]; exact el, fun k hk => by rw [hF k hk, upN_n (by omega)]⟩
      · exact absurd eb hne) ⟨j / 4, hm16, rfl, by rw [upN_s], fun k hk => by
        rw [nx_fd (by omega) hk]
        by_cases e : k = j % 4
        · rw [if_pos e, show 4 * (j / 4) + k = j by omega, upN_s]
        · rw [if_neg e, upN_n (by omega)]; exact hfd k hk⟩ (fun b' l x hG => by
        obtain ⟨m, hm, em, -⟩ := hG
        exact ⟨m, hm, em⟩) (ak_t1b (mL L 1) S C z j (nI co) (nI mc)) _ (by
        unfold ak_t1b
        rw [hnum, with_nx (by omega)]
        unfold ak_t1a
        rw [hml2]) rfl
  obtain ⟨V3, hV3⟩ : ∃ V3 : Mv, V3 = mv_fill L S 1 (la (j / 4)) (ma_s1 V1 (80 * 1 + i1) (j / 4) (nI mc) (ma_nx (mv_sv V1 (80 * 1 + i1)) j (nI co))) := ⟨_, rfl⟩
  have hst1 : st_ V1 (80 * 1 + i1) (nI mc) (ma_nx (mv_sv V1 (80 * 1 + i1)) j (nI co)) (upd (mv_ml V1) (j / 4) (nI mc)) = ma_s1 V1 (80 * 1 + i1) (j / 4) (nI mc) (ma_nx (mv_sv V1 (80 * 1 + i1)) j (nI co)) := rfl
  rw [hst1, ← hV3] at b1 b2 b3 b5 b6 b8
  -- tree 0
  obtain ⟨c1, c2, c3, c4, c5, c6⟩ := rt_sm l5 s4 c40 (b5 0 (by decide) (by decide)) r0
  have hq0 : lfo L j (F j) < 2 ^ L := lfo_lt hFj
  have hV4 := visit (T := 0) (b := j) (lf := lfo L j (F j)) (t := cs_t0 z) c1 (by decide) (mL_a rfl) l1 l5 s4 c40 hq0 hj c2 c3 c4 c5 c6 (fun l x hG => by
    obtain ⟨k, hk, ek, q, hq, el, eF⟩ := hG
    rw [nI_eq (by omega) (by omega)] at ek
    subst ek
    rw [el]
    unfold lfo
    rw [eF, if_neg (by omega)]
    rfl)
  obtain ⟨i0, d1, d2, d3, d4, d5, d6, d7⟩ := hV4
  obtain ⟨V4, hV4⟩ : ∃ V4 : Mv, V4 = mv_gather L S 0 (nI j) (lfo L j (F j)) V3 := ⟨_, rfl⟩
  rw [← hV4] at d1 d2 d3 d4 d5 d6 d7
  have htold : ct_told L (ak_num (mL L 1) S C z j) (nI (j % 4 * 16)) (nI j) = nI (lfo L j (F j)) := by
    rw [hnum]; exact told_lfo l5 hj hfj hFj
  have hval : ak_val L (mL L 1) S C z j = mv_sv V4 (80 * 0 + i0) := by
    unfold ak_val ak_t0a
    rw [htold]; exact d6
  obtain ⟨f1, f2, f3, f4, f5, f6, f7, f8⟩ := d7 (nI co) (if nw = true then nv else mv_sv V4 (80 * 0 + i0)) (mv_ml V4) (G0 L (upN F j (co + 1))) (fun b' l x hne hG => by
      rcases hG with ⟨k, hk, ek, q, hq, el, eF⟩ | ⟨eb, -⟩
      · have hkj : k ≠ j := fun e => hne (by rw [ek, e])
        exact ⟨k, hk, ek, q, hq, el, by rw [upN_n hkj]; exact eF⟩
      · exact absurd eb hne) ⟨j, hj, rfl, co, hco, rfl, upN_s⟩ (fun b' l x hG => by
        obtain ⟨k, hk, ek, -⟩ := hG
        exact ⟨k, hk, ek⟩) (ak_t0b L (mL L 1) S C z j nw nv (nI co)) _ (by
        unfold ak_t0b
        rw [hval]
        unfold ak_t0a
        rw [htold]) rfl
  obtain ⟨V6, hV6⟩ : ∃ V6 : Mv, V6 = mv_fill L S 0 (lfo L j (F j)) (ma_s0 V4 (80 * 0 + i0) (nI co) (if nw = true then nv else mv_sv V4 (80 * 0 + i0))) := ⟨_, rfl⟩
  have hst0 : st_ V4 (80 * 0 + i0) (nI co) (if nw = true then nv else mv_sv V4 (80 * 0 + i0)) (mv_ml V4) = ma_s0 V4 (80 * 0 + i0) (nI co) (if nw = true then nv else mv_sv V4 (80 * 0 + i0)) := rfl
  rw [hst0, ← hV6] at f1 f2 f3 f5 f6 f8
  refine ⟨la (j / 4), i1, lfo L j (F j), i0, V1, V3, V4, V6, ml3, ml1, hV1, a1, by omega, a3, hV3, hq0, malf_lfo l5 hfj hFj, hV4, d1, d2, d3, hV6, hval, ?_, ?_, b7, f7, ?_⟩
  · unfold ak_f1
    rw [b1]
    exact decide_eq_decide.mpr (nI_leI (by omega) (by omega))
  · unfold ak_f0
    rw [f1]
    exact decide_eq_decide.mpr (nI_leI (by omega) (by omega))
  · intro hz3 hz6 th' o'
    obtain ⟨x1, x2, x3, x4⟩ := b8 hz3
    obtain ⟨y1, y2, y3, y4⟩ := f8 hz6
    have hmlV : mv_ml V6 = upd (mv_ml v) (j / 4) (nI mc) := by rw [f6, d5, b6, a5]
    have hd0 : tr_carry L S C 64 (tr_fits L S 64 (ak_t0b L (mL L 1) S C z j nw nv (nI co))) = ak_t0d L (mL L 1) S C z j nw nv (nI co) := by
      unfold ak_t0d ak_t0c; rfl
    have hd1 : tr_carry (mL L 1) S C 16 (tr_fits (mL L 1) S 16 (ak_t1b (mL L 1) S C z j (nI co) (nI mc))) = ak_t1d (mL L 1) S C z j (nI co) (nI mc) := by
      unfold ak_t1d ak_t1c; rfl
    rw [hd0] at y1 y2 y3 y4
    rw [hd1] at x1 x2 x3 x4
    unfold ak_z
    generalize ak_t0d L (mL L 1) S C z j nw nv (nI co) = T0 at y1 y2 y3 y4 ⊢
    generalize ak_t1d (mL L 1) S C z j (nI co) (nI mc) = T1 at x1 x2 x3 x4 ⊢
    have hrt1 : rt 1 (mL L 1) S C 16 (G1 (upN la (j / 4) mc) (upN F j (co + 1))) (n1 N1 (nI (j / 4))) T1 V3 := ⟨b4, b3, x1, x2, hz3, x3⟩
    have hsz : (ts_stash T0).2.2.2 = nI (mv_sz V6 0) := y2.1
    refine ⟨upN la (j / 4) mc, upN F j (co + 1), n1 N0 (nI j), n1 N1 (nI (j / 4)), ⟨f4, f3, y1, y2, hz6, y3⟩, rt_sm hm5 s4 c40 (f5 1 (by decide) (by decide)) hrt1, ⟨fun m hm => ?_, fun b hb => ?_, fun m hm hN k hk => ?_⟩, ?_, ?_, ?_, ?_⟩
    · show mv_ml V6 m = _ ∧ upd (cs_ml z) (j / 4) (nI mc) m = _ ∧ _
      rw [hmlV]
      by_cases e : m = j / 4
      · rw [e, pk_us, pk_us, upN_s]; exact ⟨rfl, rfl, hmc⟩
      · rw [up_n e, up_n e, upN_n e]; exact g1 m hm
    · by_cases e : b = j
      · rw [e, upN_s]; omega
      · rw [upN_n e]; exact g2 b hb
    · unfold n1 at hN
      by_cases e : nI m = nI (j / 4)
      · rw [if_pos e] at hN; omega
      · rw [if_neg e] at hN
        have hmj : m ≠ j / 4 := fun q => e (by rw [q])
        rw [upN_n (by omega)]; exact g3 m hm hN k hk
    · show (if cs_most z < _ then _ else cs_most z) = if most < _ then _ else most
      rw [hsz, show cs_most z = most from e2]
    · show cs_asked z + 1 = asked + 1
      rw [show cs_asked z = asked from e3]
    · exact tq_add (by decide) y4 (if_pos rfl).symm t0
    · exact tq_add (by decide) x4 (if_neg (by decide)).symm t1
end AC
