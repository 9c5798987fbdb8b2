-- CoinTreeModel.ask: its state, what it leaves
abbrev Mz : Type := Int32 × Int32 × Int32 × Nat × (Nat → Int32) × Mv × Mv
def mzw (cI cJ : ClassId) (ad : Nat → Nat) (L S C : Nat) (key : Int64) (u : Mz) : va_W := mw_ cI cJ ad L S C key u.1 u.2.1 u.2.2.1 u.2.2.2.1 u.2.2.2.2.1 u.2.2.2.2.2.1 u.2.2.2.2.2.2
theorem nI_m1 {n : Nat} (h : n < 2 ^ 31) : ¬ nI n = -1 := fun e => by
  have h1 := nI_toInt h
  rw [e, show (-1 : Int32).toInt = -1 from rfl] at h1
  omega
theorem mv_find_in {v : Mv} {T : Nat} {b : Int32} : ∀ (n j : Nat), 80 * T + j + n < 2 ^ 31 → (mv_find v T b n j = -1 ∧ ∀ i, j ≤ i → i < j + n → ¬ mv_sb v (80 * T + i) = b) ∨ ∃ i, j ≤ i ∧ i < j + n ∧ mv_find v T b n j = nI (80 * T + i) ∧ mv_sb v (80 * T + i) = b ∧ ∀ i', j ≤ i' → i' < i → ¬ mv_sb v (80 * T + i') = b := by
  intro n
  induction n with
  | zero => intro j _; exact Or.inl ⟨rfl, fun i h1 h2 => by omega⟩
  | succ n ih =>
    intro j hj
    by_cases h : mv_sb v (80 * T + j) = b
    · exact Or.inr ⟨j, Nat.le_refl _, by omega, if_pos h, h, fun i' h1 h2 => by omega⟩
    · have e : mv_find v T b (n + 1) j = mv_find v T b n (j + 1) := if_neg h
      rcases ih (j + 1) (by omega) with ⟨h1, h2⟩ | ⟨i, h1, h2, h3, h4, h5⟩
      · refine Or.inl ⟨e.trans h1, fun i h3 h4 => ?_⟩
        by_cases h5 : i = j
        · rw [h5]; exact h
        · exact h2 i (by omega) (by omega)
      · refine Or.inr ⟨i, by omega, by omega, e.trans h3, h4, fun i' h6 h7 => ?_⟩
        by_cases h8 : i' = j
        · rw [h8]; exact h
        · exact h5 i' (by omega) h7
theorem mv_at_in {v : Mv} {T : Nat} {b : Int32} (hT : T < 2) (hz : mv_sz v T ≤ 80) : (mv_at v T b = -1 ∧ ∀ i, i < mv_sz v T → ¬ mv_sb v (80 * T + i) = b) ∨ ∃ i, i < mv_sz v T ∧ mv_at v T b = nI (80 * T + i) ∧ mv_sb v (80 * T + i) = b ∧ ∀ i', i' < i → ¬ mv_sb v (80 * T + i') = b := by
  rcases mv_find_in (v := v) (T := T) (b := b) (mv_sz v T) 0 (by omega) with ⟨h1, h2⟩ | ⟨i, h1, h2, h3, h4, h5⟩
  · exact Or.inl ⟨h1, fun i h => h2 i (by omega) (by omega)⟩
  · exact Or.inr ⟨i, by omega, h3, h4, fun i' h => h5 i' (by omega) h⟩
theorem mv_gather_sz {L S T : Nat} {b : Int32} {lf : Nat} {v : Mv} (h1 : 1 ≤ L) (h5 : L ≤ 5) (hS : S ≤ 4) (hz : mv_sz v T ≤ 40) : mv_sz (mv_gather L S T b lf v) T ≤ 65 := by
  have hW : mv_sz (mv_gW (mL L T) S T lf v) T ≤ mv_sz v T + (mL L T + 1) * S := mv_gW_sz _
  have hm := (mL_le (T := T) h1 h5).2
  have hS2 : (mL L T + 1) * S ≤ 6 * 4 := Nat.mul_le_mul (by omega) hS
  unfold mv_gather
  split
  · rw [show mv_sz (mv_push (mv_gW (mL L T) S T lf v) T b 0 0) T = mv_sz (mv_gW (mL L T) S T lf v) T + 1 from upN_s]; omega
  · omega
theorem mv_gather_at {L S T : Nat} {b : Int32} {lf : Nat} {v : Mv} (hT : T < 2) (h1 : 1 ≤ L) (h5 : L ≤ 5) (hS : S ≤ 4) (hz : mv_sz v T ≤ 40) : ∃ i, i < mv_sz (mv_gather L S T b lf v) T ∧ mv_at (mv_gather L S T b lf v) T b = nI (80 * T + i) ∧ mv_sb (mv_gather L S T b lf v) (80 * T + i) = b := by
  have hz2 := mv_gather_sz (b := b) (lf := lf) h1 h5 hS hz
  rcases mv_at_in (v := mv_gather L S T b lf v) (b := b) hT (by omega) with ⟨h1, h2⟩ | ⟨i, h1, h2, h3, -⟩
  · exfalso
    generalize hG : mv_gather L S T b lf v = G at *
    unfold mv_gather at hG
    by_cases hc : mv_at (mv_gW (mL L T) S T lf v) T b = -1
    · rw [if_pos hc] at hG
      subst hG
      refine h2 (mv_sz (mv_gW (mL L T) S T lf v) T) ?_ ?_
      · rw [show mv_sz (mv_push (mv_gW (mL L T) S T lf v) T b 0 0) T = mv_sz (mv_gW (mL L T) S T lf v) T + 1 from upN_s]; omega
      · exact pk_us
    · rw [if_neg hc] at hG
      subst hG
      exact hc h1
  · exact ⟨i, h1, h2, h3⟩
-- the other tree's size stays
theorem mv_gf_o {T T' nd s : Nat} {v : Mv} (h : T' ≠ T) : mv_sz (mv_gf T nd s v) T' = mv_sz v T' := by
  unfold mv_gf
  split
  · rfl
  · exact upN_n h
theorem lp_keep {α β : Type} {f : Nat → α → α} (g : α → β) (h : ∀ k x, g (f k x) = g x) (n : Nat) (x : α) : g (lp_ f n x) = g x := by
  induction n with
  | zero => rfl
  | succ n ih => exact (h n _).trans ih
theorem mv_gW_o {D S T T' lf : Nat} {v : Mv} (h : T' ≠ T) : mv_sz (mv_gW D S T lf v) T' = mv_sz v T' :=
  lp_keep (f := mv_gWf D S T lf) (fun v => mv_sz v T') (fun k x => lp_keep (f := mv_gf T (mnd D lf (D - k))) (fun v => mv_sz v T') (fun _ _ => mv_gf_o h) S x) _ _
theorem mv_gather_o {L S T T' : Nat} {b : Int32} {lf : Nat} {v : Mv} (h : T' ≠ T) : mv_sz (mv_gather L S T b lf v) T' = mv_sz v T' := by
  unfold mv_gather
  split
  · exact (upN_n h).trans (mv_gW_o h)
  · exact mv_gW_o h
theorem mv_fL_o {D S T T' up nd : Nat} (h : T' ≠ T) : ∀ (f : Nat) (v : Mv) (k s : Nat), mv_sz (mv_fL D S T up nd f v k s) T' = mv_sz v T' := by
  intro f
  induction f with
  | zero => intro v k s; rfl
  | succ f ih =>
    intro v k s
    show mv_sz (if s < S then (if _ then _ else _) else v) T' = _
    split
    · split
      · exact (ih _ _ _).trans (upN_n h)
      · exact ih _ _ _
    · rfl
theorem mv_fill_o {L S T T' lf : Nat} {v : Mv} (h : T' ≠ T) : mv_sz (mv_fill L S T lf v) T' = mv_sz v T' :=
  lp_keep (f := mv_fU (mL L T) S T lf) (fun v => mv_sz v T') (fun k x => mv_fL_o (D := mL L T) (S := S) (T := T) (up := k) (nd := mnd (mL L T) lf k) h (mv_sz x T) x 0 0) _ _
def ma_s1 (v : Mv) (q m : Nat) (mc : Int32) (x : Int64) : Mv := mv_mk (mv_bl v) (mv_lf v) (mv_vl v) (mv_ct v) (mv_sb v) (upd (mv_sl v) q mc) (vp_updL (mv_sv v) q x) (mv_sz v) (upd (mv_ml v) m mc)
def ma_s0 (v : Mv) (q : Nat) (co : Int32) (x : Int64) : Mv := mv_mk (mv_bl v) (mv_lf v) (mv_vl v) (mv_ct v) (mv_sb v) (upd (mv_sl v) q co) (vp_updL (mv_sv v) q x) (mv_sz v) (mv_ml v)
def ma_tl (x : Int64) (j : Nat) : Int32 := (x.toUInt64 >>> ((nI (16 * (j % 4))).toInt64.toUInt64 &&& Int64.toUInt64 63)).toInt64.toInt32 &&& 65535
def ma_nx (x : Int64) (j : Nat) (co : Int32) : Int64 := (x &&& ((65535 <<< ((nI (16 * (j % 4))).toInt64 &&& 63)) ^^^ (-1))) ||| ((co.toInt64 + 1) <<< ((nI (16 * (j % 4))).toInt64 &&& 63))
def ma_lf (L : Nat) (t : Int32) (j : Nat) : Int32 := if t = 0 then nI (j % 2 ^ L) else t - 1
def ma_ret (L S C : Nat) (most asked : Int32) (td : Nat) (tr : Nat → Int32) (v o : Mv) (b : Int32) (nw : Bool) (nv : Int64) (co mc : Int32) (r : Int64) (u : Mz) : Prop :=
  ((b < 0 ∨ 63 < b) ∧ r = 0 ∧ u = (1, most, asked, td, tr, v, o)) ∨
  ((∃ j : Nat, j < 64 ∧ b = nI j) ∧ ¬ (rw_has (2 ^ L) co = true ∧ rw_has (2 ^ mL L 1) mc = true) ∧ r = 0 ∧ u = (2, most, asked, td, tr, v, o)) ∨
  (∃ (j q1 i1 q0 i0 : Nat) (V1 V3 V4 V6 : Mv), j < 64 ∧ b = nI j ∧ rw_has (2 ^ L) co = true ∧ rw_has (2 ^ mL L 1) mc = true ∧
    q1 < 2 ^ mL L 1 ∧ mv_ml v (j / 4) = nI q1 ∧ V1 = mv_gather L S 1 (nI (j / 4)) q1 v ∧ i1 < mv_sz V1 1 ∧ mv_at V1 1 (nI (j / 4)) = nI (80 * 1 + i1) ∧
    V3 = mv_fill L S 1 q1 (ma_s1 V1 (80 * 1 + i1) (j / 4) mc (ma_nx (mv_sv V1 (80 * 1 + i1)) j co)) ∧
    q0 < 2 ^ L ∧ ma_lf L (ma_tl (mv_sv V1 (80 * 1 + i1)) j) j = nI q0 ∧ V4 = mv_gather L S 0 (nI j) q0 V3 ∧ i0 < mv_sz V4 0 ∧ mv_at V4 0 (nI j) = nI (80 * 0 + i0) ∧
    V6 = mv_fill L S 0 q0 (ma_s0 V4 (80 * 0 + i0) co (if nw = true then nv else mv_sv V4 (80 * 0 + i0))) ∧
    ((mv_sz V3 1 ≤ C ∧ mv_sz V6 0 ≤ C ∧ r = mv_sv V4 (80 * 0 + i0) ∧ u = (0, if most < nI (mv_sz V6 0) then nI (mv_sz V6 0) else most, asked + 1, td + 1, upd (upd tr (2 * td) (nI q0)) (2 * td + 1) (nI q1), V6, mv_cp o v)) ∨
     (¬ (mv_sz V3 1 ≤ C ∧ mv_sz V6 0 ≤ C) ∧ r = 0 ∧ u = (3, most, asked, td, tr, mv_cp V6 (mv_cp o v), mv_cp o v))))
def aQl (D : va_G) (cl : List vw_C) (f : Mz → va_W) (ret : Int64 → Mz → Prop) (A : Nat → Prop) : Array Value → State → Outcome → State → Prop := va_Ql ret (fun u t => va_P D cl (f u) t.heap ∧ va_D A (f u)) A
theorem aQl_end {D : va_G} {cl : List vw_C} {a : Array Value} {s t : State} {H : Heap} {locs : List Loc} {A : Nat → Prop} {f : Mz → va_W} {ret : Int64 → Mz → Prop} {ws : va_W} {v : Int64} (u : Mz) (h : ret v u) (e : ws = f u) (hP : va_P D cl ws H) (hD : va_D A ws) (hS : va_S A s.heap H locs) (ht : t.heap = H) : aQl D cl f ret A a s (.returned (some (.long v))) t := by
  subst e
  exact ⟨⟨v, u, rfl, h, by rw [ht]; exact hP, hD⟩, hS.F ht⟩
def mQl (D : va_G) (cl : List vw_C) (r : Int64) (ws : va_W) (A : Nat → Prop) : Array Value → State → Outcome → State → Prop := va_Ql (fun x (_ : Unit) => x = r) (fun _ t => va_P D cl ws t.heap ∧ va_D A ws) A
theorem mQl_end {D : va_G} {cl : List vw_C} {a : Array Value} {s t : State} {H : Heap} {locs : List Loc} {ws ws' : va_W} {A : Nat → Prop} {v r : Int64} (ev : v = r) (e : ws = ws') (hP : va_P D cl ws H) (hD : va_D A ws) (hS : va_S A s.heap H locs) (ht : t.heap = H) : mQl D cl r ws' A a s (.returned (some (.long v))) t := by
  subst e
  exact ⟨⟨v, (), rfl, ev, by rw [ht]; exact hP, hD⟩, hS.F ht⟩
theorem ak_c {b : Int32} (h1 : ¬ b < 0) (h2 : b ≤ 63) : ∃ j : Nat, j < 64 ∧ b = nI j := by
  obtain ⟨j, hj, rfl⟩ := nI_of h1
  rw [show (63 : Int32) = nI 63 from rfl, nI_leI hj (by omega)] at h2
  exact ⟨j, by omega, rfl⟩
