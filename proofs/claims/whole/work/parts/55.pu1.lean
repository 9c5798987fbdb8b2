-- counting how often a number stands in a stretch
def ci_ (f : Nat → Int32) (x : Int32) : Nat → Nat
  | 0 => 0
  | n + 1 => ci_ f x n + (if f n = x then 1 else 0)
theorem up_n {f : Nat → Int32} {k j : Nat} {x : Int32} (h : j ≠ k) : upd f k x j = f j := if_neg h
theorem up_e {f : Nat → Int32} {k j : Nat} {x : Int32} (h : j = k) : upd f k x j = x := if_pos h
theorem upL_n {f : Nat → Int64} {k j : Nat} {x : Int64} (h : j ≠ k) : vp_updL f k x j = f j := if_neg h
theorem upL_e {f : Nat → Int64} {k j : Nat} {x : Int64} (h : j = k) : vp_updL f k x j = x := if_pos h
theorem ci_congr {f g : Nat → Int32} {x : Int32} : ∀ n, (∀ i, i < n → f i = g i) → ci_ f x n = ci_ g x n := by
  intro n
  induction n with
  | zero => intro _; rfl
  | succ n ih =>
    intro h
    show ci_ f x n + _ = ci_ g x n + _
    rw [ih (fun i hi => h i (by omega)), h n (by omega)]
theorem ci_pt {f g : Nat → Int32} {x : Int32} {c : Nat} : ∀ n, c < n → (∀ i, i < n → i ≠ c → g i = f i) → ci_ g x n + (if f c = x then 1 else 0) = ci_ f x n + (if g c = x then 1 else 0) := by
  intro n
  induction n with
  | zero => intro h; omega
  | succ n ih =>
    intro h hg
    show ci_ g x n + (if g n = x then 1 else 0) + _ = ci_ f x n + (if f n = x then 1 else 0) + _
    by_cases e : c = n
    · subst e
      rw [ci_congr (f := g) (g := f) c (fun i hi => hg i (by omega) (by omega))]
      omega
    · have := ih (by omega) (fun i hi => hg i (by omega))
      rw [hg n (by omega) (fun q => e q.symm)]
      omega
theorem ci_le {f : Nat → Int32} {x : Int32} {c : Nat} : ∀ n, c ≤ n → ci_ f x c ≤ ci_ f x n := by
  intro n
  induction n with
  | zero => intro h; rw [show c = 0 by omega]; exact Nat.le_refl _
  | succ n ih =>
    intro h
    by_cases e : c = n + 1
    · rw [e]; exact Nat.le_refl _
    · exact Nat.le_trans (ih (by omega)) (Nat.le_add_right _ _)
theorem ci_pos {f : Nat → Int32} {x : Int32} {i n : Nat} (h : i < n) (e : f i = x) : 1 ≤ ci_ f x n := by
  refine Nat.le_trans ?_ (ci_le n (show i + 1 ≤ n from h))
  show 1 ≤ ci_ f x i + _
  rw [if_pos e]; omega
theorem ci_two {f : Nat → Int32} {x : Int32} {i j n : Nat} (hi : i < j) (h : j < n) (e : f i = x) (e2 : f j = x) : 2 ≤ ci_ f x n := by
  refine Nat.le_trans ?_ (ci_le n (show j + 1 ≤ n from h))
  have := ci_pos hi e
  show 2 ≤ ci_ f x j + _
  rw [if_pos e2]; omega
theorem ci_zero {f : Nat → Int32} {x : Int32} : ∀ n, (∀ i, i < n → ¬ f i = x) → ci_ f x n = 0 := by
  intro n
  induction n with
  | zero => intro _; rfl
  | succ n ih =>
    intro h
    show ci_ f x n + _ = 0
    rw [ih (fun i hi => h i (by omega)), if_neg (h n (by omega))]
theorem ci_none {f : Nat → Int32} {x : Int32} {n i : Nat} (h : ci_ f x n = 0) (hi : i < n) : ¬ f i = x := fun e => by
  have := ci_pos hi e
  omega
theorem ci_pull {f g : Nat → Int32} {x : Int32} {k : Nat} : ∀ n, k ≤ n → (∀ i, i < k → g i = f i) → (∀ i, k ≤ i → i < n → g i = f (i + 1)) → ci_ g x n + (if f k = x then 1 else 0) = ci_ f x (n + 1) := by
  intro n
  induction n with
  | zero =>
    intro h _ _
    rw [show k = 0 by omega]
    rfl
  | succ n ih =>
    intro h h1 h2
    by_cases e : k = n + 1
    · subst e
      rw [ci_congr (f := g) (g := f) (n + 1) h1]
      rfl
    · have := ih (by omega) h1 (fun i a b => h2 i a (by omega))
      show ci_ g x n + (if g n = x then 1 else 0) + _ = ci_ f x (n + 1) + (if f (n + 1) = x then 1 else 0)
      rw [h2 n (by omega) (by omega)]
      omega
-- pigeons
def sg_ (g : Nat → Nat) : Nat → Nat
  | 0 => 0
  | n + 1 => sg_ g n + g n
theorem sg_le {g : Nat → Nat} : ∀ B, (∀ k, k < B → g k ≤ 1) → sg_ g B ≤ B := by
  intro B
  induction B with
  | zero => intro _; exact Nat.le_refl _
  | succ B ih =>
    intro h
    have h1 := ih (fun k hk => h k (by omega))
    have h2 := h B (by omega)
    show sg_ g B + g B ≤ B + 1
    omega
theorem sg_add {g h : Nat → Nat} (B : Nat) : sg_ (fun k => g k + h k) B = sg_ g B + sg_ h B := by
  induction B with
  | zero => rfl
  | succ B ih =>
    show sg_ _ B + (g B + h B) = sg_ g B + g B + (sg_ h B + h B)
    rw [ih]; omega
theorem sg_one {b : Nat} : ∀ B, b < B → B < 2 ^ 31 → 1 ≤ sg_ (fun k => if nI b = nI k then 1 else 0) B := by
  intro B
  induction B with
  | zero => intro h; omega
  | succ B ih =>
    intro h hB
    show 1 ≤ sg_ _ B + (if nI b = nI B then 1 else 0)
    by_cases e : b = B
    · rw [e, if_pos rfl]; omega
    · have := ih (by omega) (by omega)
      omega
theorem ci_sum {f : Nat → Int32} {B : Nat} (hB : B < 2 ^ 31) : ∀ n, (∀ i, i < n → ∃ b, b < B ∧ f i = nI b) → n ≤ sg_ (fun k => ci_ f (nI k) n) B := by
  intro n
  induction n with
  | zero => intro _; exact Nat.zero_le _
  | succ n ih =>
    intro h
    have h1 := ih (fun i hi => h i (by omega))
    obtain ⟨b, hb, e⟩ := h n (by omega)
    have h2 := sg_one B hb hB
    show n + 1 ≤ sg_ (fun k => ci_ f (nI k) n + (if f n = nI k then 1 else 0)) B
    rw [sg_add, e]
    omega
theorem ci_bound {f : Nat → Int32} {B n : Nat} (hB : B < 2 ^ 31) (h : ∀ i, i < n → ∃ b, b < B ∧ f i = nI b) (h1 : ∀ k, k < B → ci_ f (nI k) n ≤ 1) : n ≤ B := Nat.le_trans (ci_sum hB n h) (sg_le B h1)
-- the model's tree T: how often a block stands in it; what holds of each entry; what another tree keeps
def tot (T : Nat) (x : Int32) (v : Mv) : Nat := ci_ (fun c => mv_bl v (256 * T + c)) x 256 + ci_ (fun i => mv_sb v (80 * T + i)) x (mv_sz v T)
def ow (D S : Nat) (lf : Int32) (c : Nat) : Prop := c % 4 < S ∧ ∃ up, up ≤ D ∧ (nI (2 ^ D) + lf) >>> (nI up &&& 31) = nI (c / 4)
def pw (T D S : Nat) (G : Int32 → Int32 → Int64 → Prop) (v : Mv) : Prop :=
  (∀ c, c < 256 → ¬ mv_bl v (256 * T + c) = -1 → G (mv_bl v (256 * T + c)) (mv_lf v (256 * T + c)) (mv_vl v (256 * T + c)) ∧ ow D S (mv_lf v (256 * T + c)) c) ∧
  (∀ i, i < mv_sz v T → G (mv_sb v (80 * T + i)) (mv_sl v (80 * T + i)) (mv_sv v (80 * T + i)))
def sm (T : Nat) (v w : Mv) : Prop :=
  (∀ c, c < 256 → mv_bl w (256 * T + c) = mv_bl v (256 * T + c) ∧ mv_lf w (256 * T + c) = mv_lf v (256 * T + c) ∧ mv_vl w (256 * T + c) = mv_vl v (256 * T + c)) ∧
  (∀ n, n < 64 → mv_ct w (64 * T + n) = mv_ct v (64 * T + n)) ∧
  (∀ i, i < 80 → mv_sb w (80 * T + i) = mv_sb v (80 * T + i) ∧ mv_sl w (80 * T + i) = mv_sl v (80 * T + i) ∧ mv_sv w (80 * T + i) = mv_sv v (80 * T + i)) ∧
  mv_sz w T = mv_sz v T
theorem sm.rf {T : Nat} {v : Mv} : sm T v v := ⟨fun _ _ => ⟨rfl, rfl, rfl⟩, fun _ _ => rfl, fun _ _ => ⟨rfl, rfl, rfl⟩, rfl⟩
theorem sm.tr {T : Nat} {u v w : Mv} (h : sm T u v) (g : sm T v w) : sm T u w := by
  obtain ⟨h1, h2, h3, h4⟩ := h
  obtain ⟨g1, g2, g3, g4⟩ := g
  refine ⟨fun c hc => ⟨?_, ?_, ?_⟩, fun n hn => (g2 n hn).trans (h2 n hn), fun i hi => ⟨?_, ?_, ?_⟩, g4.trans h4⟩
  · exact (g1 c hc).1.trans (h1 c hc).1
  · exact (g1 c hc).2.1.trans (h1 c hc).2.1
  · exact (g1 c hc).2.2.trans (h1 c hc).2.2
  · exact (g3 i hi).1.trans (h3 i hi).1
  · exact (g3 i hi).2.1.trans (h3 i hi).2.1
  · exact (g3 i hi).2.2.trans (h3 i hi).2.2
theorem sm.toT {T : Nat} {v w : Mv} {x : Int32} (h : sm T v w) (hz : mv_sz v T ≤ 80) : tot T x w = tot T x v := by
  obtain ⟨h1, h2, h3, h4⟩ := h
  unfold tot
  rw [h4, ci_congr (f := fun c => mv_bl w (256 * T + c)) (g := fun c => mv_bl v (256 * T + c)) 256 (fun c hc => (h1 c hc).1), ci_congr (f := fun i => mv_sb w (80 * T + i)) (g := fun i => mv_sb v (80 * T + i)) _ (fun i hi => (h3 i (by omega)).1)]
theorem sm.pW {T D S : Nat} {v w : Mv} {G : Int32 → Int32 → Int64 → Prop} (h : sm T v w) (hz : mv_sz v T ≤ 80) (p : pw T D S G v) : pw T D S G w := by
  obtain ⟨h1, h2, h3, h4⟩ := h
  refine ⟨fun c hc => ?_, fun i hi => ?_⟩
  · obtain ⟨a1, a2, a3⟩ := h1 c hc
    rw [a1, a2, a3]
    exact p.1 c hc
  · rw [h4] at hi
    obtain ⟨a1, a2, a3⟩ := h3 i (by omega)
    rw [a1, a2, a3]
    exact p.2 i hi
theorem pw.mono {T D S : Nat} {v : Mv} {G G' : Int32 → Int32 → Int64 → Prop} (p : pw T D S G v) (h : ∀ b l x, G b l x → G' b l x) : pw T D S G' v := ⟨fun c hc hn => ⟨h _ _ _ (p.1 c hc hn).1, (p.1 c hc hn).2⟩, fun i hi => h _ _ _ (p.2 i hi)⟩
theorem pw_sz {T D S B : Nat} {v : Mv} {G : Int32 → Int32 → Int64 → Prop} (p : pw T D S G v) (hG : ∀ b l x, G b l x → ∃ k, k < B ∧ b = nI k) (hB : B < 2 ^ 31) (ht : ∀ k, k < B → tot T (nI k) v ≤ 1) : mv_sz v T ≤ B :=
  ci_bound (f := fun i => mv_sb v (80 * T + i)) hB (fun i hi => hG _ _ _ (p.2 i hi)) (fun k hk => Nat.le_trans (Nat.le_add_left _ _) (ht k hk))
-- push
section PU
variable {T T' D S : Nat} {v : Mv} {b l : Int32} {x : Int64} {G : Int32 → Int32 → Int64 → Prop}
theorem push_tot {y : Int32} : tot T y (mv_push v T b l x) = tot T y v + (if b = y then 1 else 0) := by
  show ci_ (fun c => mv_bl v (256 * T + c)) y 256 + ci_ (fun i => upd (mv_sb v) (80 * T + mv_sz v T) b (80 * T + i)) y (upN (mv_sz v) T (mv_sz v T + 1) T) = _
  rw [upN_s]
  show _ + (ci_ (fun i => upd (mv_sb v) (80 * T + mv_sz v T) b (80 * T + i)) y (mv_sz v T) + (if upd (mv_sb v) (80 * T + mv_sz v T) b (80 * T + mv_sz v T) = y then 1 else 0)) = _
  rw [pk_us, ci_congr (g := fun i => mv_sb v (80 * T + i)) _ (fun i hi => up_n (by omega))]
  unfold tot
  omega
theorem push_pw (p : pw T D S G v) (h : G b l x) : pw T D S G (mv_push v T b l x) := by
  refine ⟨fun c hc hn => p.1 c hc hn, fun i hi => ?_⟩
  have hi : i < upN (mv_sz v) T (mv_sz v T + 1) T := hi
  rw [upN_s] at hi
  show G (upd (mv_sb v) (80 * T + mv_sz v T) b (80 * T + i)) (upd (mv_sl v) (80 * T + mv_sz v T) l (80 * T + i)) (vp_updL (mv_sv v) (80 * T + mv_sz v T) x (80 * T + i))
  by_cases e : i = mv_sz v T
  · rw [e, pk_us, pk_us, upL_e rfl]; exact h
  · rw [up_n (by omega), up_n (by omega), upL_n (by omega)]; exact p.2 i (by omega)
theorem push_sm (hT : T < 2) (hT' : T' < 2) (hn : T' ≠ T) (hz : mv_sz v T < 80) : sm T' v (mv_push v T b l x) := by
  refine ⟨fun _ _ => ⟨rfl, rfl, rfl⟩, fun _ _ => rfl, fun i hi => ⟨up_n (by omega), up_n (by omega), upL_n (by omega)⟩, upN_n hn⟩
end PU
-- one slot of gather
section GF
variable {T T' D S nd s : Nat} {v : Mv} {G : Int32 → Int32 → Int64 → Prop}
theorem gf_n (h : mv_bl v (256 * T + 4 * nd + s) = -1) : mv_gf T nd s v = v := if_pos h
theorem gf_y (h : ¬ mv_bl v (256 * T + 4 * nd + s) = -1) : mv_gf T nd s v = mv_emp (mv_push v T (mv_bl v (256 * T + 4 * nd + s)) (mv_lf v (256 * T + 4 * nd + s)) (mv_vl v (256 * T + 4 * nd + s))) (256 * T + 4 * nd + s) := if_neg h
theorem emp_tot {p : Nat} {y : Int32} (hp : p < 256) (hy : y ≠ -1) : tot T y (mv_emp v (256 * T + p)) + (if mv_bl v (256 * T + p) = y then 1 else 0) = tot T y v := by
  have h := ci_pt (f := fun c => mv_bl v (256 * T + c)) (g := fun c => upd (mv_bl v) (256 * T + p) (-1) (256 * T + c)) (x := y) 256 hp (fun i _ hi => up_n (by omega))
  simp only [pk_us] at h
  rw [if_neg (Ne.symm hy)] at h
  show ci_ (fun c => upd (mv_bl v) (256 * T + p) (-1) (256 * T + c)) y 256 + ci_ (fun i => mv_sb v (80 * T + i)) y (mv_sz v T) + _ = _
  unfold tot
  omega
theorem emp_pw {p : Nat} (q : pw T D S G v) : pw T D S G (mv_emp v p) := by
  refine ⟨fun c hc hn => ?_, q.2⟩
  have hn : ¬ upd (mv_bl v) p (-1) (256 * T + c) = -1 := hn
  show G (upd (mv_bl v) p (-1) (256 * T + c)) _ _ ∧ _
  by_cases e : 256 * T + c = p
  · exact absurd (up_e e) hn
  · rw [up_n e] at hn ⊢
    exact q.1 c hc hn
theorem emp_sm {p : Nat} (hT : T < 2) (hT' : T' < 2) (hn : T' ≠ T) (hp : p < 256) : sm T' v (mv_emp v (256 * T + p)) :=
  ⟨fun c hc => ⟨up_n (by omega), rfl, rfl⟩, fun _ _ => rfl, fun _ _ => ⟨rfl, rfl, rfl⟩, rfl⟩
theorem gf_tot {y : Int32} (hd : nd < 64) (hs : s < 4) (hy : y ≠ -1) : tot T y (mv_gf T nd s v) = tot T y v := by
  by_cases h : mv_bl v (256 * T + 4 * nd + s) = -1
  · rw [gf_n h]
  · rw [gf_y h]
    rw [show 256 * T + 4 * nd + s = 256 * T + (4 * nd + s) by omega] at h ⊢
    have h1 := emp_tot (T := T) (v := mv_push v T (mv_bl v (256 * T + (4 * nd + s))) (mv_lf v (256 * T + (4 * nd + s))) (mv_vl v (256 * T + (4 * nd + s)))) (p := 4 * nd + s) (y := y) (by omega) hy
    rw [push_tot] at h1
    have h2 : mv_bl (mv_push v T (mv_bl v (256 * T + (4 * nd + s))) (mv_lf v (256 * T + (4 * nd + s))) (mv_vl v (256 * T + (4 * nd + s)))) (256 * T + (4 * nd + s)) = mv_bl v (256 * T + (4 * nd + s)) := rfl
    rw [h2] at h1
    omega
theorem gf_pw (hd : nd < 64) (hs : s < 4) (p : pw T D S G v) : pw T D S G (mv_gf T nd s v) := by
  by_cases h : mv_bl v (256 * T + 4 * nd + s) = -1
  · rw [gf_n h]; exact p
  · rw [gf_y h]
    rw [show 256 * T + 4 * nd + s = 256 * T + (4 * nd + s) by omega] at h ⊢
    exact emp_pw (push_pw p (p.1 _ (by omega) h).1)
theorem gf_sm (hd : nd < 64) (hs : s < 4) (hT : T < 2) (hT' : T' < 2) (hn : T' ≠ T) (hz : mv_sz v T < 80) : sm T' v (mv_gf T nd s v) := by
  by_cases h : mv_bl v (256 * T + 4 * nd + s) = -1
  · rw [gf_n h]; exact sm.rf
  · rw [gf_y h]
    rw [show 256 * T + 4 * nd + s = 256 * T + (4 * nd + s) by omega] at h ⊢
    exact (push_sm hT hT' hn hz).tr (emp_sm hT hT' hn (by omega))
end GF
-- rows against the model's stretches
def rp (T : Nat) (r : Rw) (w : Mv) : Prop := r.2.2.2 = nI (mv_sz w T) ∧ ∀ i, i < mv_sz w T → r.1 i = mv_sb w (80 * T + i) + 1 ∧ r.2.1 i = mv_sl w (80 * T + i) ∧ r.2.2.1 i = mv_sv w (80 * T + i)
def rn (T D S : Nat) (r : Rw) (v : Mv) : Prop := ∀ n s, n < 2 * 2 ^ D → s < S →
  (mv_bl v (256 * T + 4 * n + s) = -1 ∧ r.1 (n * S + s) = 0 ∧ r.2.1 (n * S + s) = 0 ∧ r.2.2.1 (n * S + s) = 0) ∨
  (¬ mv_bl v (256 * T + 4 * n + s) = -1 ∧ r.1 (n * S + s) = mv_bl v (256 * T + 4 * n + s) + 1 ∧ r.2.1 (n * S + s) = mv_lf v (256 * T + 4 * n + s) ∧ r.2.2.1 (n * S + s) = mv_vl v (256 * T + 4 * n + s))
def jt (T D S : Nat) (G : Int32 → Int32 → Int64 → Prop) (N : Int32 → Nat) (v : Mv) : Prop := pw T D S G v ∧ ∀ y, y ≠ -1 → tot T y v = N y
def gN_ (B : Nat) (G : Int32 → Int32 → Int64 → Prop) (N : Int32 → Nat) : Prop := B ≤ 64 ∧ (∀ b l x, G b l x → ∃ k, k < B ∧ b = nI k) ∧ ∀ k, k < B → N (nI k) ≤ 1
theorem jt_sz {T D S B : Nat} {G : Int32 → Int32 → Int64 → Prop} {N : Int32 → Nat} {v : Mv} (g : gN_ B G N) (h : jt T D S G N v) : mv_sz v T ≤ B :=
  pw_sz h.1 g.2.1 (by have := g.1; omega) (fun k hk => by rw [h.2 _ (nI_m1 (by have := g.1; omega))]; exact g.2.2 k hk)
theorem i1_inj {x y : Int32} (h : x + 1 = y + 1) : x = y := by
  have h2 : x + 1 - 1 = y + 1 - 1 := by rw [h]
  rwa [Int32.add_sub_cancel, Int32.add_sub_cancel] at h2
theorem i1_0 {x : Int32} (h : x + 1 = 0) : x = -1 := i1_inj (y := -1) (h.trans (by decide))
theorem rwh_nI {n p : Nat} (hn : n < 2 ^ 31) (h : p < n) : rw_has n (nI p) = true := by
  simp only [rw_has, Bool.and_eq_true, decide_eq_true_eq]
  refine ⟨?_, (nI_ltI (by omega) hn).mpr h⟩
  rw [← nI_0, nI_ltI (by omega) (by omega)]; omega
theorem rwa_nI {n p : Nat} {f : Nat → Int32} (hn : n < 2 ^ 31) (h : p < n) : rw_at n f (nI p) = f p := by
  unfold rw_at
  rw [if_pos (rwh_nI hn h), nI_clamp (by omega)]
theorem rwl_nI {n p : Nat} {f : Nat → Int64} (hn : n < 2 ^ 31) (h : p < n) : rw_atL n f (nI p) = f p := by
  unfold rw_atL
  rw [if_pos (rwh_nI hn h), nI_clamp (by omega)]
theorem rwp_nI {n p : Nat} {r : Rw} {mk lf : Int32} {x : Int64} (hn : n < 2 ^ 31) (h : p < n) : rw_put n r (nI p) mk lf x = (upd r.1 p mk, upd r.2.1 p lf, vp_updL r.2.2.1 p x, r.2.2.2) := by
  unfold rw_put rw_up rw_upL
  rw [if_pos (rwh_nI hn h), if_pos (rwh_nI hn h), if_pos (rwh_nI hn h), nI_clamp (by omega)]
theorem rwapp_nI {B n2 p z : Nat} {pl r2 : Rw} (hs : pl.2.2.2 = nI z) (hz : z < B) (hB : B < 2 ^ 31) (hp : p < n2) (hn2 : n2 < 2 ^ 31) : rw_app B pl n2 r2 (nI p) = (upd pl.1 z (r2.1 p), upd pl.2.1 z (r2.2.1 p), vp_updL pl.2.2.1 z (r2.2.2.1 p), nI (z + 1)) := by
  unfold rw_app
  rw [hs, if_pos (rwh_nI hB hz)]
  unfold rw_copy
  rw [rwp_nI hB hz, rwa_nI hn2 hp, rwa_nI hn2 hp, rwl_nI hn2 hp, nI_1]
  rfl
theorem rp_push {T : Nat} {pl : Rw} {w : Mv} {b l mk : Int32} {x : Int64} (h : rp T pl w) (e : mk = b + 1) : rp T (upd pl.1 (mv_sz w T) mk, upd pl.2.1 (mv_sz w T) l, vp_updL pl.2.2.1 (mv_sz w T) x, nI (mv_sz w T + 1)) (mv_push w T b l x) := by
  have hz : mv_sz (mv_push w T b l x) T = mv_sz w T + 1 := upN_s
  refine ⟨by rw [hz], fun i hi => ?_⟩
  rw [hz] at hi
  show upd pl.1 _ _ i = upd (mv_sb w) (80 * T + mv_sz w T) b (80 * T + i) + 1 ∧ upd pl.2.1 _ _ i = upd (mv_sl w) (80 * T + mv_sz w T) l (80 * T + i) ∧ vp_updL pl.2.2.1 _ _ i = vp_updL (mv_sv w) (80 * T + mv_sz w T) x (80 * T + i)
  by_cases q : i = mv_sz w T
  · rw [q, pk_us, pk_us, pk_us, pk_us, upL_e rfl, upL_e rfl]
    exact ⟨e, rfl, rfl⟩
  · rw [up_n q, up_n q, upL_n q, up_n (by omega), up_n (by omega), upL_n (by omega)]
    exact h.2 i (by omega)
theorem nN_lt {D S : Nat} (h : D ≤ 5) (hS : S ≤ 4) : tr_nN D S < 2 ^ 31 := by
  have h3 := p2_le h
  have h4 : 2 * 2 ^ D * S ≤ 64 * 4 := Nat.mul_le_mul (by omega) hS
  unfold tr_nN
  omega
theorem nN_p {D S n s : Nat} (hn : n < 2 * 2 ^ D) (hs : s < S) : n * S + s < tr_nN D S := by
  have h : (n + 1) * S ≤ 2 * 2 ^ D * S := Nat.mul_le_mul_right S hn
  rw [Nat.succ_mul] at h
  unfold tr_nN
  omega
theorem way_nI {D lf k : Nat} (hD : D ≤ 5) (hk : k ≤ D) (hl : lf < 2 ^ D) : tr_way D (nI lf) (nI k) = nI (mnd D lf (D - k)) := by
  have := p2_le hD
  unfold tr_way
  rw [nI_add, pk_sub hk, nm_shr (by omega) (by omega)]
  rfl
theorem mnd_lt2 {D lf up : Nat} (hl : lf < 2 ^ D) : mnd D lf up < 2 * 2 ^ D := Nat.lt_of_le_of_lt (Nat.div_le_self _ _) (by omega)
theorem mnd_pos {D lf up : Nat} (hu : up ≤ D) : 1 ≤ mnd D lf up := by
  have h : 2 ^ up ≤ 2 ^ D := Nat.pow_le_pow_right (by decide) hu
  unfold mnd
  exact (Nat.le_div_iff_mul_le (Nat.two_pow_pos up)).mpr (by omega)
theorem mnd_inj1 {D lf a b : Nat} (hab : a < b) (hb : b ≤ D) : mnd D lf b < mnd D lf a := by
  have h1 : mnd D lf b = mnd D lf a / 2 ^ (b - a) := by
    unfold mnd
    rw [Nat.div_div_eq_div_mul, ← Nat.pow_add, show a + (b - a) = b by omega]
  have h2 := mnd_pos (D := D) (lf := lf) (up := a) (by omega)
  rw [h1]
  exact Nat.div_lt_self h2 (Nat.one_lt_two_pow (by omega))
theorem mnd_inj {D lf a b : Nat} (ha : a ≤ D) (hb : b ≤ D) (e : mnd D lf a = mnd D lf b) : a = b := by
  rcases Nat.lt_trichotomy a b with h | h | h
  · have := mnd_inj1 (lf := lf) h hb; omega
  · exact h
  · have := mnd_inj1 (lf := lf) h ha; omega
section GL
variable {T D S B : Nat} {G : Int32 → Int32 → Int64 → Prop} {N : Int32 → Nat} {v : Mv} {nodes : Rw}
/-- what gather keeps and empties -/
def gk (T : Nat) (w w' : Mv) (E : Nat → Prop) : Prop := (∀ c, c < 256 → E c → mv_bl w' (256 * T + c) = -1) ∧ (∀ c, c < 256 → ¬ E c → mv_bl w' (256 * T + c) = mv_bl w (256 * T + c)) ∧ mv_lf w' = mv_lf w ∧ mv_vl w' = mv_vl w ∧ mv_ml w' = mv_ml w ∧ mv_ct w' = mv_ct w ∧ ∀ T', T' < 2 → T' ≠ T → sm T' w w'
theorem gN_lock (g : gN_ B G N) (hT : T < 2) (hD : D ≤ 5) (hS : S ≤ 4) {nd : Nat} (hnd : nd < 2 * 2 ^ D) (hrn : rn T D S nodes v) {w : Mv} {pl : Rw} (hj : jt T D S G N w) (hr : rp T pl w)
    (hs : ∀ s, s < S → mv_bl w (256 * T + 4 * nd + s) = mv_bl v (256 * T + 4 * nd + s)) (hl : mv_lf w = mv_lf v) (hv : mv_vl w = mv_vl v) : ∀ j, j ≤ S →
    jt T D S G N (lp_ (mv_gf T nd) j w) ∧ rp T (lp_ (tr_gNf D S B nodes (nI nd)) j pl) (lp_ (mv_gf T nd) j w) ∧ gk T w (lp_ (mv_gf T nd) j w) (fun c => c / 4 = nd ∧ c % 4 < j) := by
  have h32 := p2_le hD
  intro j
  induction j with
  | zero => intro _; exact ⟨hj, hr, fun c _ h => by omega, fun c _ _ => rfl, rfl, rfl, rfl, rfl, fun _ _ _ => sm.rf⟩
  | succ j ih =>
    intro hjS
    obtain ⟨i1, i2, k1, k2, k3, k4, k5, k6, k7⟩ := ih (by omega)
    show jt T D S G N (mv_gf T nd j (lp_ (mv_gf T nd) j w)) ∧ rp T (tr_gNf D S B nodes (nI nd) j (lp_ (tr_gNf D S B nodes (nI nd)) j pl)) (mv_gf T nd j (lp_ (mv_gf T nd) j w)) ∧ gk T w (mv_gf T nd j (lp_ (mv_gf T nd) j w)) _
    generalize lp_ (mv_gf T nd) j w = w1 at *
    generalize lp_ (tr_gNf D S B nodes (nI nd)) j pl = p1 at *
    have hz := jt_sz g i1
    have hB := g.1
    have e0 : mv_bl w1 (256 * T + 4 * nd + j) = mv_bl v (256 * T + 4 * nd + j) := by
      have := k2 (4 * nd + j) (by omega) (by omega)
      rw [show 256 * T + (4 * nd + j) = 256 * T + 4 * nd + j by omega] at this
      rw [this]; exact hs j (by omega)
    have hp := nN_p (D := D) (S := S) (n := nd) (s := j) hnd (by omega)
    have hj1 : jt T D S G N (mv_gf T nd j w1) := ⟨gf_pw (by omega) (by omega) i1.1, fun y hy => by rw [gf_tot (by omega) (by omega) hy]; exact i1.2 y hy⟩
    have hat : rw_at (tr_nN D S) nodes.1 (nI nd * nI S + nI j) = nodes.1 (nd * S + j) := by rw [pk_mul, nI_add, rwa_nI (nN_lt hD hS) hp]
    refine ⟨hj1, ?_, ?_⟩
    · rcases hrn nd j hnd (by omega) with ⟨a1, a2, a3, a4⟩ | ⟨a1, a2, a3, a4⟩
      · rw [gf_n (e0.trans a1)]
        unfold tr_gNf
        rw [hat, a2, if_pos rfl]
        exact i2
      · have hb : ¬ mv_bl w1 (256 * T + 4 * nd + j) = -1 := by rw [e0]; exact a1
        have hz1 := jt_sz g hj1
        rw [gf_y hb] at hz1 ⊢
        have hz2 : mv_sz (mv_emp (mv_push w1 T (mv_bl w1 (256 * T + 4 * nd + j)) (mv_lf w1 (256 * T + 4 * nd + j)) (mv_vl w1 (256 * T + 4 * nd + j))) (256 * T + 4 * nd + j)) T = mv_sz w1 T + 1 := upN_s
        rw [hz2] at hz1
        unfold tr_gNf
        rw [hat, a2, if_neg (fun q => a1 (i1_0 q)), pk_mul, nI_add, rwapp_nI i2.1 (by omega) (by omega) hp (nN_lt hD hS), a2, a3, a4]
        have := rp_push (mk := mv_bl v (256 * T + 4 * nd + j) + 1) (b := mv_bl w1 (256 * T + 4 * nd + j)) (l := mv_lf w1 (256 * T + 4 * nd + j)) (x := mv_vl w1 (256 * T + 4 * nd + j)) i2 (by rw [e0])
        rw [k3, k4, hl, hv] at this ⊢
        exact this
    · by_cases hb : mv_bl w1 (256 * T + 4 * nd + j) = -1
      · rw [gf_n hb]
        refine ⟨fun c hc h => ?_, fun c hc h => k2 c hc (fun q => h ⟨q.1, by omega⟩), k3, k4, k5, k6, k7⟩
        by_cases q : c % 4 < j
        · exact k1 c hc ⟨h.1, q⟩
        · rw [show 256 * T + c = 256 * T + 4 * nd + j by omega]; exact hb
      · have hsm : ∀ T', T' < 2 → T' ≠ T → sm T' w1 (mv_gf T nd j w1) := fun T' h1 h2 => gf_sm (by omega) (by omega) hT h1 h2 (by omega)
        rw [gf_y hb] at hsm ⊢
        refine ⟨fun c hc h => ?_, fun c hc h => ?_, k3, k4, k5, k6, fun T' h1 h2 => (k7 T' h1 h2).tr (hsm T' h1 h2)⟩
        · show upd (mv_bl w1) (256 * T + 4 * nd + j) (-1) (256 * T + c) = -1
          by_cases q : c % 4 < j
          · rw [up_n (by omega)]; exact k1 c hc ⟨h.1, q⟩
          · exact up_e (by omega)
        · show upd (mv_bl w1) (256 * T + 4 * nd + j) (-1) (256 * T + c) = _
          rw [up_n (by omega)]
          exact k2 c hc (fun q => h ⟨q.1, by omega⟩)
theorem gW_lock (g : gN_ B G N) (hT : T < 2) (hD : D ≤ 5) (hS : S ≤ 4) {lf : Nat} (hlf : lf < 2 ^ D) (hrn : rn T D S nodes v) {pl : Rw} (hj : jt T D S G N v) (hr : rp T pl v) : ∀ k, k ≤ D + 1 →
    jt T D S G N (lp_ (mv_gWf D S T lf) k v) ∧ rp T (lp_ (tr_gWf D S B nodes (nI lf)) k pl) (lp_ (mv_gWf D S T lf) k v) ∧ gk T v (lp_ (mv_gWf D S T lf) k v) (fun c => (∃ i, i < k ∧ c / 4 = mnd D lf (D - i)) ∧ c % 4 < S) := by
  intro k
  induction k with
  | zero => intro _; exact ⟨hj, hr, fun c _ h => by obtain ⟨⟨i, hi, -⟩, -⟩ := h; omega, fun c _ _ => rfl, rfl, rfl, rfl, rfl, fun _ _ _ => sm.rf⟩
  | succ k ih =>
    intro hk
    obtain ⟨i1, i2, k1, k2, k3, k4, k5, k6, k7⟩ := ih (by omega)
    show jt T D S G N (mv_gN S T (mnd D lf (D - k)) (lp_ (mv_gWf D S T lf) k v)) ∧ rp T (tr_gN D S B nodes (tr_way D (nI lf) (nI k)) (lp_ (tr_gWf D S B nodes (nI lf)) k pl)) (mv_gN S T (mnd D lf (D - k)) (lp_ (mv_gWf D S T lf) k v)) ∧ gk T v (mv_gN S T (mnd D lf (D - k)) (lp_ (mv_gWf D S T lf) k v)) _
    generalize lp_ (mv_gWf D S T lf) k v = w1 at *
    generalize lp_ (tr_gWf D S B nodes (nI lf)) k pl = p1 at *
    have h32 := p2_le hD
    have hn2 := mnd_lt2 (up := D - k) hlf
    have hoff : ∀ c, c < 256 → c / 4 = mnd D lf (D - k) → mv_bl w1 (256 * T + c) = mv_bl v (256 * T + c) := fun c hc e => k2 c hc (fun ⟨⟨i, hi, e2⟩, _⟩ => by
      have := mnd_inj (D := D) (lf := lf) (a := D - k) (b := D - i) (by omega) (by omega) (e.symm.trans e2)
      omega)
    have key := gN_lock (w := w1) (pl := p1) g hT hD hS hn2 hrn i1 i2 (fun s hs => by
      have := hoff (4 * mnd D lf (D - k) + s) (by omega) (by omega)
      rw [show 256 * T + (4 * mnd D lf (D - k) + s) = 256 * T + 4 * mnd D lf (D - k) + s by omega] at this
      exact this) k3 k4 S (Nat.le_refl S)
    rw [way_nI hD (by omega) hlf]
    obtain ⟨j1, j2, m1, m2, m3, m4, m5, m6, m7⟩ := key
    refine ⟨j1, j2, fun c hc h => ?_, fun c hc h => ?_, m3.trans k3, m4.trans k4, m5.trans k5, m6.trans k6, fun T' h1 h2 => (k7 T' h1 h2).tr (m7 T' h1 h2)⟩
    · obtain ⟨⟨i, hi, e⟩, hcS⟩ := h
      by_cases q : c / 4 = mnd D lf (D - k)
      · exact m1 c hc ⟨q, hcS⟩
      · refine (m2 c hc (fun z => q z.1)).trans (k1 c hc ⟨⟨i, ?_, e⟩, hcS⟩)
        by_cases z : i = k
        · rw [z] at e; exact absurd e q
        · omega
    · refine (m2 c hc (fun z => h ⟨⟨k, by omega, z.1⟩, z.2⟩)).trans (k2 c hc (fun ⟨⟨i, hi, e⟩, z⟩ => h ⟨⟨i, by omega, e⟩, z⟩))
/-- the class's stash goes into its plan -/
theorem gS_lock {C : Nat} {stash plan : Rw} (hB : B ≤ 64) (hC : C ≤ 40) (hr : rp T stash v) (hz : mv_sz v T ≤ C) (hzB : mv_sz v T ≤ B) : rp T (tr_gS C B stash (rw_size plan 0)) v := by
  have key : ∀ k, k ≤ mv_sz v T → (lp_ (tr_gSf C B stash) k (rw_size plan 0)).2.2.2 = nI k ∧ ∀ i, i < k → (lp_ (tr_gSf C B stash) k (rw_size plan 0)).1 i = mv_sb v (80 * T + i) + 1 ∧ (lp_ (tr_gSf C B stash) k (rw_size plan 0)).2.1 i = mv_sl v (80 * T + i) ∧ (lp_ (tr_gSf C B stash) k (rw_size plan 0)).2.2.1 i = mv_sv v (80 * T + i) := by
    intro k
    induction k with
    | zero => intro _; exact ⟨rfl, fun i hi => by omega⟩
    | succ k ih =>
      intro hk
      obtain ⟨h1, h2⟩ := ih (by omega)
      show (tr_gSf C B stash k (lp_ (tr_gSf C B stash) k (rw_size plan 0))).2.2.2 = _ ∧ ∀ i, i < k + 1 → (tr_gSf C B stash k (lp_ (tr_gSf C B stash) k (rw_size plan 0))).1 i = _ ∧ (tr_gSf C B stash k (lp_ (tr_gSf C B stash) k (rw_size plan 0))).2.1 i = _ ∧ (tr_gSf C B stash k (lp_ (tr_gSf C B stash) k (rw_size plan 0))).2.2.1 i = _
      generalize lp_ (tr_gSf C B stash) k (rw_size plan 0) = p1 at *
      unfold tr_gSf
      rw [rwapp_nI h1 (by omega) (by omega) (show k < C by omega) (by omega)]
      refine ⟨rfl, fun i hi => ?_⟩
      show upd p1.1 k (stash.1 k) i = _ ∧ upd p1.2.1 k (stash.2.1 k) i = _ ∧ vp_updL p1.2.2.1 k (stash.2.2.1 k) i = _
      by_cases q : i = k
      · subst q
        rw [pk_us, pk_us, upL_e rfl]
        exact hr.2 i (by omega)
      · rw [up_n q, up_n q, upL_n q]
        exact h2 i (by omega)
  have hcl : stash.2.2.2.toNatClampNeg = mv_sz v T := by rw [hr.1, nI_clamp (by omega)]
  unfold tr_gS
  rw [hcl]
  exact key _ (Nat.le_refl _)
end GL
theorem find_lock {r : Rw} {w : Mv} {T : Nat} {x : Int32} : ∀ n j, (∀ i, j ≤ i → i < j + n → r.1 i = mv_sb w (80 * T + i) + 1) → (rw_find r.1 (x + 1) n j = -1 ∧ mv_find w T x n j = -1) ∨ ∃ i, j ≤ i ∧ i < j + n ∧ rw_find r.1 (x + 1) n j = nI i ∧ mv_find w T x n j = nI (80 * T + i) := by
  intro n
  induction n with
  | zero => intro j _; exact Or.inl ⟨rfl, rfl⟩
  | succ n ih =>
    intro j h
    have e := h j (Nat.le_refl _) (by omega)
    by_cases q : mv_sb w (80 * T + j) = x
    · exact Or.inr ⟨j, Nat.le_refl _, by omega, if_pos (by rw [e, q]), if_pos q⟩
    · have e1 : rw_find r.1 (x + 1) (n + 1) j = rw_find r.1 (x + 1) n (j + 1) := if_neg (fun z => q (i1_inj (e.symm.trans z)))
      have e2 : mv_find w T x (n + 1) j = mv_find w T x n (j + 1) := if_neg q
      rw [e1, e2]
      rcases ih (j + 1) (fun i h1 h2 => h i (by omega) (by omega)) with z | ⟨i, h1, h2, h3, h4⟩
      · exact Or.inl z
      · exact Or.inr ⟨i, by omega, by omega, h3, h4⟩
theorem look_lock {B T : Nat} {r : Rw} {w : Mv} {x : Int32} (hr : rp T r w) (hz : mv_sz w T ≤ B) (hB : B ≤ 64) : (tr_look B r (x + 1) = -1 ∧ mv_at w T x = -1) ∨ ∃ i, i < mv_sz w T ∧ tr_look B r (x + 1) = nI i ∧ mv_at w T x = nI (80 * T + i) := by
  unfold tr_look mv_at
  have hc : rw_cnt B r.2.2.2 = mv_sz w T := by
    unfold rw_cnt
    rw [hr.1, nI_clamp (by omega)]
    omega
  rw [hc]
  rcases find_lock (r := r) (w := w) (T := T) (x := x) (mv_sz w T) 0 (fun i _ h => (hr.2 i (by omega)).1) with z | ⟨i, h1, h2, h3, h4⟩
  · exact Or.inl z
  · exact Or.inr ⟨i, by omega, h3, h4⟩
/-- the places of a way -/
def wy (D S lf c : Nat) : Prop := (∃ up, up ≤ D ∧ c / 4 = mnd D lf up) ∧ c % 4 < S
def gx (G : Int32 → Int32 → Int64 → Prop) (N : Int32 → Nat) (b : Int32) (b' l : Int32) (x : Int64) : Prop := G b' l x ∨ (b' = b ∧ l = 0 ∧ x = 0 ∧ N b = 0)
def n1 (N : Int32 → Nat) (b y : Int32) : Nat := if y = b then 1 else N y
theorem gk_push {T : Nat} {v w : Mv} {E : Nat → Prop} {b l : Int32} {x : Int64} (hT : T < 2) (hz : mv_sz w T < 80) (h : gk T v w E) : gk T v (mv_push w T b l x) E := by
  obtain ⟨k1, k2, k3, k4, k5, k6, k7⟩ := h
  exact ⟨k1, k2, k3, k4, k5, k6, fun T' h1 h2 => (k7 T' h1 h2).tr (push_sm hT h1 h2 hz)⟩
theorem gather_lock {L T D S C B lf b : Nat} {G : Int32 → Int32 → Int64 → Prop} {N : Int32 → Nat} {v : Mv} {t : Ts} (g : gN_ B G N) (hT : T < 2) (hm : mL L T = D) (h1L : 1 ≤ L) (hL5 : L ≤ 5) (hS : S ≤ 4) (hC : C ≤ 40) (hlf : lf < 2 ^ D) (hb : b < B) (hj : jt T D S G N v) (hrn : rn T D S (ts_nodes t) v) (hrs : rp T (ts_stash t) v) (hz : mv_sz v T ≤ C)
    (hGl : ∀ l x, G (nI b) l x → l = nI lf) :
    ∃ i, i < mv_sz (mv_gather L S T (nI b) lf v) T ∧ mv_at (mv_gather L S T (nI b) lf v) T (nI b) = nI (80 * T + i) ∧ mv_sb (mv_gather L S T (nI b) lf v) (80 * T + i) = nI b ∧ mv_sz (mv_gather L S T (nI b) lf v) T ≤ B ∧
      (∃ pl : Rw, tr_gather D S C B t (nI b) (nI lf) = ts_mk (ts_nodes t) (ts_cnts t) (ts_stash t) (ts_trail t) pl (ts_tgt t) (nI lf) (nI i) ∧ rp T pl (mv_gather L S T (nI b) lf v)) ∧
      gk T v (mv_gather L S T (nI b) lf v) (wy D S lf) ∧ pw T D S (gx G N (nI b)) (mv_gather L S T (nI b) lf v) ∧ (∀ y, y ≠ -1 → tot T y (mv_gather L S T (nI b) lf v) = n1 N (nI b) y) := by
  subst hm
  have hD : mL L T ≤ 5 := (mL_le h1L hL5).2
  have hB := g.1
  have h32 := p2_le hD
  obtain ⟨i1, i2, k⟩ := gW_lock (lf := lf) (pl := tr_gS C B (ts_stash t) (rw_size (ts_plan t) 0)) g hT hD hS hlf hrn hj (gS_lock hB hC hrs hz (jt_sz g hj)) (mL L T + 1) (Nat.le_refl _)
  have hgat := mv_gather_at (T := T) (b := nI b) (lf := lf) (v := v) hT h1L hL5 hS (by omega)
  have kw : gk T v (mv_gW (mL L T) S T lf v) (wy (mL L T) S lf) := by
    obtain ⟨k1, k2, k3⟩ := k
    refine ⟨fun c hc h => k1 c hc ?_, fun c hc h => k2 c hc (fun q => h ?_), k3⟩
    · obtain ⟨⟨up, hu, e⟩, h2⟩ := h
      exact ⟨⟨mL L T - up, by omega, by rw [show mL L T - (mL L T - up) = up by omega]; exact e⟩, h2⟩
    · obtain ⟨⟨i, hi, e⟩, h2⟩ := q
      exact ⟨⟨mL L T - i, by omega, e⟩, h2⟩
  clear k
  have hzw := jt_sz g i1
  have hgP : tr_gP (mL L T) S C B t (nI lf) = lp_ (tr_gWf (mL L T) S B (ts_nodes t) (nI lf)) (mL L T + 1) (tr_gS C B (ts_stash t) (rw_size (ts_plan t) 0)) := rfl
  rw [← hgP] at i2
  have hlk := look_lock (x := nI b) i2 hzw hB
  change (_ ∧ mv_at (mv_gW (mL L T) S T lf v) T (nI b) = -1) ∨ _ at hlk
  change rp T _ (mv_gW (mL L T) S T lf v) at i2
  change jt T _ S G N (mv_gW (mL L T) S T lf v) at i1
  change mv_sz (mv_gW (mL L T) S T lf v) T ≤ B at hzw
  change _ ∨ (∃ i, i < mv_sz (mv_gW (mL L T) S T lf v) T ∧ _ ∧ mv_at (mv_gW (mL L T) S T lf v) T (nI b) = _) at hlk
  unfold mv_gather at hgat ⊢
  generalize mv_gW (mL L T) S T lf v = w at *
  rcases hlk with ⟨l1, l2⟩ | ⟨i, l0, l1, l2⟩
  · rw [if_pos l2] at hgat ⊢
    have hno : ∀ i, i < mv_sz w T → ¬ mv_sb w (80 * T + i) = nI b := by
      rcases mv_at_in (v := w) (b := nI b) hT (by omega) with ⟨-, q⟩ | ⟨i, q1, q2, -⟩
      · exact q
      · rw [l2] at q2
        exact absurd q2.symm (nI_m1 (by omega))
    have hbl : ∀ c, c < 256 → ¬ mv_bl w (256 * T + c) = nI b := fun c hc e => by
      have hne : ¬ mv_bl w (256 * T + c) = -1 := by rw [e]; exact nI_m1 (by omega)
      obtain ⟨p1, p2, up, hu, p3⟩ := i1.1.1 c hc hne
      rw [e] at p1
      rw [hGl _ _ p1, nI_add, nm_shr (by omega) (by omega), nI_eq (Nat.lt_of_le_of_lt (Nat.div_le_self _ _) (by omega)) (by omega)] at p3
      exact hne (kw.1 c hc ⟨⟨up, hu, p3.symm⟩, p2⟩)
    have h0 : tot T (nI b) w = 0 := by
      unfold tot
      rw [ci_zero (f := fun c => mv_bl w (256 * T + c)) 256 hbl, ci_zero (f := fun i => mv_sb w (80 * T + i)) _ hno]
    have hN0 : N (nI b) = 0 := by rw [← i1.2 _ (nI_m1 (by omega))]; exact h0
    have hpw : pw T (mL L T) S (gx G N (nI b)) (mv_push w T (nI b) 0 0) := push_pw (pw.mono i1.1 (fun _ _ _ h => Or.inl h)) (Or.inr ⟨rfl, rfl, rfl, hN0⟩)
    have htot : ∀ y, y ≠ -1 → tot T y (mv_push w T (nI b) 0 0) = n1 N (nI b) y := fun y hy => by
      rw [push_tot, i1.2 y hy]
      unfold n1
      by_cases e : y = nI b
      · rw [if_pos e, if_pos e.symm, e, hN0]
      · rw [if_neg e, if_neg (Ne.symm e)]; omega
    have hzp : mv_sz (mv_push w T (nI b) 0 0) T = mv_sz w T + 1 := upN_s
    have hz1 : mv_sz (mv_push w T (nI b) 0 0) T ≤ B := pw_sz hpw (fun b' l x h => by
      rcases h with h | h
      · exact g.2.1 _ _ _ h
      · exact ⟨b, hb, h.1⟩) (by omega) (fun k hk => by
        rw [htot _ (nI_m1 (by omega))]
        unfold n1
        split
        · exact Nat.le_refl _
        · exact g.2.2 k hk)
    rw [hzp] at hz1
    obtain ⟨i, q1, q2, q3⟩ := hgat
    have hi : i = mv_sz w T := by
      rw [hzp] at q1
      by_cases e : i = mv_sz w T
      · exact e
      · have h9 : mv_sb (mv_push w T (nI b) 0 0) (80 * T + i) = mv_sb w (80 * T + i) := up_n (by omega)
        rw [h9] at q3
        exact absurd q3 (hno i (by omega))
    refine ⟨i, q1, q2, q3, by rw [hzp]; exact hz1, ⟨rw_new B (tr_gP (mL L T) S C B t (nI lf)) (nI b + 1), ?_, ?_⟩, gk_push hT (by omega) kw, hpw, htot⟩
    · rw [tr_gather_y l1, i2.1, hi]
    · unfold rw_new
      rw [i2.1, if_pos (rwh_nI (by omega) (by omega)), rwp_nI (by omega) (by omega)]
      rw [nI_1 (mv_sz w T)]
      exact rp_push i2 rfl
  · have hne : ¬ mv_at w T (nI b) = -1 := by rw [l2]; exact nI_m1 (by omega)
    rw [if_neg hne] at hgat ⊢
    obtain ⟨i', q1, q2, q3⟩ := hgat
    have hii : i' = i := by
      rw [l2, nI_eq (by omega) (by omega)] at q2
      omega
    subst hii
    refine ⟨i', q1, q2, q3, hzw, ⟨tr_gP (mL L T) S C B t (nI lf), ?_, i2⟩, kw, pw.mono i1.1 (fun _ _ _ h => Or.inl h), fun y hy => ?_⟩
    · rw [tr_gather_n (by rw [l1]; exact nI_m1 (by omega)), l1]
    · rw [i1.2 y hy]
      unfold n1
      by_cases e : y = nI b
      · rw [if_pos e]
        have h1 : 1 ≤ tot T (nI b) w := Nat.le_trans (ci_pos (f := fun i => mv_sb w (80 * T + i)) q1 q3) (Nat.le_add_left _ _)
        rw [i1.2 _ (nI_m1 (by omega))] at h1
        have h2 := g.2.2 b hb
        rw [e]; omega
      · rw [if_neg e]
-- settle
def st_ (v : Mv) (q : Nat) (l : Int32) (x : Int64) (ml : Nat → Int32) : Mv := mv_mk (mv_bl v) (mv_lf v) (mv_vl v) (mv_ct v) (mv_sb v) (upd (mv_sl v) q l) (vp_updL (mv_sv v) q x) (mv_sz v) ml
theorem st_pw {T D S i : Nat} {v : Mv} {G G' : Int32 → Int32 → Int64 → Prop} {l b : Int32} {x : Int64} {ml : Nat → Int32} (p : pw T D S G v) (hi : i < mv_sz v T) (e : mv_sb v (80 * T + i) = b) (ht : tot T b v ≤ 1) (h : ∀ b' l x, b' ≠ b → G b' l x → G' b' l x) (h' : G' b l x) : pw T D S G' (st_ v (80 * T + i) l x ml) := by
  have hs1 := ci_pos (f := fun i => mv_sb v (80 * T + i)) hi e
  unfold tot at ht
  refine ⟨fun c hc hn => ?_, fun k hk => ?_⟩
  · obtain ⟨q1, q2⟩ := p.1 c hc hn
    refine ⟨h _ _ _ (fun z => ?_) q1, q2⟩
    have := ci_pos (f := fun c => mv_bl v (256 * T + c)) hc z
    omega
  · have hk : k < mv_sz v T := hk
    show G' (mv_sb v (80 * T + k)) (upd (mv_sl v) (80 * T + i) l (80 * T + k)) (vp_updL (mv_sv v) (80 * T + i) x (80 * T + k))
    by_cases q : k = i
    · rw [q, pk_us, upL_e rfl, e]; exact h'
    · rw [up_n (by omega), upL_n (by omega)]
      refine h _ _ _ (fun z => ?_) (p.2 k hk)
      rcases Nat.lt_or_gt_of_ne q with y | y
      · have := ci_two (f := fun i => mv_sb v (80 * T + i)) y hi z e; omega
      · have := ci_two (f := fun i => mv_sb v (80 * T + i)) y hk e z; omega
theorem st_rp {T i : Nat} {v : Mv} {pl : Rw} {l mk : Int32} {x : Int64} {ml : Nat → Int32} (h : rp T pl v) (hi : i < mv_sz v T) (e : mk = pl.1 i) : rp T (upd pl.1 i mk, upd pl.2.1 i l, vp_updL pl.2.2.1 i x, pl.2.2.2) (st_ v (80 * T + i) l x ml) := by
  refine ⟨h.1, fun k hk => ?_⟩
  show upd pl.1 i mk k = mv_sb v (80 * T + k) + 1 ∧ upd pl.2.1 i l k = upd (mv_sl v) (80 * T + i) l (80 * T + k) ∧ vp_updL pl.2.2.1 i x k = vp_updL (mv_sv v) (80 * T + i) x (80 * T + k)
  have h2 := h.2 k hk
  by_cases q : k = i
  · subst q
    rw [pk_us, pk_us, upL_e rfl, pk_us, upL_e rfl, e]
    exact ⟨h2.1, rfl, rfl⟩
  · rw [up_n q, up_n q, upL_n q, up_n (by omega), upL_n (by omega)]
    exact h2
theorem ci_n {f : Nat → Int32} {x : Int32} (n : Nat) : ci_ f x n ≤ n := by
  induction n with
  | zero => exact Nat.le_refl _
  | succ n ih => show ci_ f x n + _ ≤ n + 1; split <;> omega
-- fill: the class's targets against the model's pulls
theorem put_tot {T c q : Nat} {v : Mv} {y : Int32} (hc : c < 256) (he : mv_bl v (256 * T + c) = -1) (hy : y ≠ -1) : tot T y (mv_put v (256 * T + c) q) = tot T y v + (if mv_sb v q = y then 1 else 0) := by
  have h := ci_pt (f := fun i => mv_bl v (256 * T + i)) (g := fun i => upd (mv_bl v) (256 * T + c) (mv_sb v q) (256 * T + i)) (x := y) 256 hc (fun i _ hi => up_n (by omega))
  simp only [pk_us, he] at h
  rw [if_neg (Ne.symm hy)] at h
  show ci_ (fun i => upd (mv_bl v) (256 * T + c) (mv_sb v q) (256 * T + i)) y 256 + ci_ (fun i => mv_sb v (80 * T + i)) y (mv_sz v T) = _
  unfold tot
  omega
theorem shf_lo {α : Type} {b n i : Nat} {f : Nat → α} (h : i < b) : shf b n f i = f i := if_neg (by omega)
theorem shf_in {α : Type} {b n i : Nat} {f : Nat → α} (h : b ≤ i) (h2 : i < b + n) : shf b n f i = f (i + 1) := if_pos ⟨h, h2⟩
theorem shf_hi {α : Type} {b n i : Nat} {f : Nat → α} (h : b + n ≤ i) : shf b n f i = f i := if_neg (by omega)
theorem pull_tot {T k : Nat} {v : Mv} {y : Int32} (hk : k < mv_sz v T) : tot T y (mv_pull v T k) + (if mv_sb v (80 * T + k) = y then 1 else 0) = tot T y v := by
  have h := ci_pull (f := fun i => mv_sb v (80 * T + i)) (g := fun i => shf (80 * T + k) (mv_sz v T - 1 - k) (mv_sb v) (80 * T + i)) (x := y) (k := k) (mv_sz v T - 1) (by omega) (fun i hi => shf_lo (by omega)) (fun i h1 h2 => shf_in (by omega) (by omega))
  rw [show mv_sz v T - 1 + 1 = mv_sz v T by omega] at h
  show ci_ (fun c => mv_bl v (256 * T + c)) y 256 + ci_ (fun i => shf (80 * T + k) (mv_sz v T - 1 - k) (mv_sb v) (80 * T + i)) y (upN (mv_sz v) T (mv_sz v T - 1) T) + _ = _
  rw [upN_s]
  unfold tot
  omega
section FI
variable {T D S P lf : Nat} {pl : Rw} {v0 : Mv} {G : Int32 → Int32 → Int64 → Prop} {N : Int32 → Nat}
def at_ (T : Nat) (pl : Rw) (w : Mv) (k r : Nat) : Prop := mv_sb w (80 * T + r) + 1 = pl.1 k ∧ mv_sl w (80 * T + r) = pl.2.1 k ∧ mv_sv w (80 * T + r) = pl.2.2.1 k
def an_ (T : Nat) (pl : Rw) (w : Mv) (k c : Nat) : Prop := mv_bl w (256 * T + c) + 1 = pl.1 k ∧ mv_lf w (256 * T + c) = pl.2.1 k ∧ mv_vl w (256 * T + c) = pl.2.2.1 k
def iv (T D S P lf : Nat) (pl : Rw) (v0 : Mv) (G : Int32 → Int32 → Int64 → Prop) (N : Int32 → Nat) (tg : Nat → Int32) (w : Mv) : Prop :=
  mv_sz w T = ci_ tg (-1) P ∧ (∀ k, k < P → tg k = -1 → at_ T pl w k (ci_ tg (-1) k)) ∧
  (∀ k, k < P → ¬ tg k = -1 → ∃ c, c < 256 ∧ wy D S lf c ∧ tg k = nI (c / 4 * S + c % 4) ∧ an_ T pl w k c) ∧
  (∀ c, c < 256 → wy D S lf c → ¬ mv_bl w (256 * T + c) = -1 → ∃ k, k < P ∧ tg k = nI (c / 4 * S + c % 4)) ∧
  (∀ c, c < 256 → ¬ wy D S lf c → mv_bl w (256 * T + c) = mv_bl v0 (256 * T + c) ∧ mv_lf w (256 * T + c) = mv_lf v0 (256 * T + c) ∧ mv_vl w (256 * T + c) = mv_vl v0 (256 * T + c)) ∧
  (∀ y, y ≠ -1 → tot T y w = N y) ∧ pw T D S G w ∧ (∀ T', T' < 2 → T' ≠ T → sm T' v0 w) ∧ mv_ml w = mv_ml v0
theorem iv_step (hT : T < 2) (hS : S ≤ 4) (hP : P ≤ 64) (hpl : ∀ k, k < P → ¬ pl.1 k = 0) {tg : Nat → Int32} {w : Mv} {k c up : Nat} (h : iv T D S P lf pl v0 G N tg w) (hk : k < P) (hg : tg k = -1) (hc : c < 256) (hw : wy D S lf c) (he : mv_bl w (256 * T + c) = -1) (hu : up ≤ D) (hm : (nI (2 ^ D) + mv_sl w (80 * T + ci_ tg (-1) k)) >>> (nI up &&& 31) = nI (c / 4)) :
    iv T D S P lf pl v0 G N (upd tg k (nI (c / 4 * S + c % 4))) (mv_pull (mv_put w (256 * T + c) (80 * T + ci_ tg (-1) k)) T (ci_ tg (-1) k)) := by
  obtain ⟨f1, f1b, f2, f3, f5, ft, fp, fs, fm⟩ := h
  have hne : ¬ nI (c / 4 * S + c % 4) = (-1 : Int32) := by
    have : c / 4 * S ≤ 64 * 4 := Nat.mul_le_mul (by omega) hS
    exact nI_m1 (by omega)
  have hci := ci_pt (f := tg) (g := upd tg k (nI (c / 4 * S + c % 4))) (x := -1) P hk (fun i _ hi => up_n hi)
  rw [pk_us, if_pos hg, if_neg hne] at hci
  have hrk : ci_ tg (-1) k + 1 ≤ ci_ tg (-1) P := by
    refine Nat.le_trans (Nat.le_of_eq ?_) (ci_le P (show k + 1 ≤ P from hk))
    show _ = ci_ tg (-1) k + (if tg k = -1 then 1 else 0)
    rw [if_pos hg]
  have hlo : ∀ j, j ≤ k → ci_ (upd tg k (nI (c / 4 * S + c % 4))) (-1) j = ci_ tg (-1) j := fun j hj => ci_congr j (fun i hi => up_n (by omega))
  have hhi : ∀ j, k < j → ci_ (upd tg k (nI (c / 4 * S + c % 4))) (-1) j + 1 = ci_ tg (-1) j := fun j hj => by
    have h2 := ci_pt (f := tg) (g := upd tg k (nI (c / 4 * S + c % 4))) (x := -1) j hj (fun i _ hi => up_n hi)
    rw [pk_us, if_pos hg, if_neg hne] at h2
    omega
  have hrk2 : ∀ j, j < P → tg j = -1 → ci_ tg (-1) j + 1 ≤ ci_ tg (-1) P := fun j hj e => by
    refine Nat.le_trans (Nat.le_of_eq ?_) (ci_le P (show j + 1 ≤ P from hj))
    show _ = ci_ tg (-1) j + (if tg j = -1 then 1 else 0)
    rw [if_pos e]
  have hP2 : ci_ tg (-1) P ≤ P := ci_n P
  obtain ⟨a1, a2, a3⟩ := f1b k hk hg
  generalize hr : ci_ tg (-1) k = r at *
  have hzz : mv_sz (mv_put w (256 * T + c) (80 * T + r)) T = mv_sz w T := rfl
  refine ⟨?_, ?_, ?_, ?_, ?_, ?_, ?_, ?_, fm⟩
  · show upN (mv_sz w) T (mv_sz w T - 1) T = _
    rw [upN_s, f1]; omega
  · intro j hj hjg
    have hjk : j ≠ k := fun e => by rw [e, pk_us] at hjg; exact hne hjg
    rw [up_n hjk] at hjg
    have hold := f1b j hj hjg
    have hj2 := hrk2 j hj hjg
    show shf (80 * T + r) (mv_sz w T - 1 - r) (mv_sb w) _ + 1 = _ ∧ shf (80 * T + r) (mv_sz w T - 1 - r) (mv_sl w) _ = _ ∧ shf (80 * T + r) (mv_sz w T - 1 - r) (mv_sv w) _ = _
    rcases Nat.lt_or_gt_of_ne hjk with q | q
    · have hr2 : ci_ tg (-1) j + 1 ≤ r := by
        rw [← hr]
        refine Nat.le_trans (Nat.le_of_eq ?_) (ci_le k (show j + 1 ≤ k from q))
        show _ = ci_ tg (-1) j + (if tg j = -1 then 1 else 0)
        rw [if_pos hjg]
      rw [hlo j (by omega), shf_lo (by omega), shf_lo (by omega), shf_lo (by omega)]
      exact hold
    · have h3 := hhi j q
      have h4 : r + 1 ≤ ci_ tg (-1) j := by
        rw [← hr]
        refine Nat.le_trans (Nat.le_of_eq ?_) (ci_le j (show k + 1 ≤ j from q))
        show _ = ci_ tg (-1) k + (if tg k = -1 then 1 else 0)
        rw [if_pos hg]
      rw [shf_in (by omega) (by omega), shf_in (by omega) (by omega), shf_in (by omega) (by omega), show 80 * T + ci_ (upd tg k (nI (c / 4 * S + c % 4))) (-1) j + 1 = 80 * T + ci_ tg (-1) j by omega]
      exact hold
  · intro j hj hjg
    show ∃ c', c' < 256 ∧ wy D S lf c' ∧ _ ∧ upd (mv_bl w) (256 * T + c) (mv_sb w (80 * T + r)) (256 * T + c') + 1 = _ ∧ upd (mv_lf w) (256 * T + c) (mv_sl w (80 * T + r)) (256 * T + c') = _ ∧ vp_updL (mv_vl w) (256 * T + c) (mv_sv w (80 * T + r)) (256 * T + c') = _
    by_cases e : j = k
    · subst e
      refine ⟨c, hc, hw, pk_us, ?_⟩
      rw [pk_us, pk_us, upL_e rfl]
      exact ⟨a1, a2, a3⟩
    · rw [up_n e] at hjg
      obtain ⟨c', g1, g2, g3, g4, g5, g6⟩ := f2 j hj hjg
      have hcc : c' ≠ c := fun z => by
        rw [z, he] at g4
        exact hpl j hj (g4.symm.trans (by decide))
      refine ⟨c', g1, g2, (up_n e).trans g3, ?_⟩
      rw [up_n (by omega), up_n (by omega), upL_n (by omega)]
      exact ⟨g4, g5, g6⟩
  · intro c' hc' hw' hb'
    have hb' : ¬ upd (mv_bl w) (256 * T + c) (mv_sb w (80 * T + r)) (256 * T + c') = -1 := hb'
    by_cases e : c' = c
    · rw [e]; exact ⟨k, hk, pk_us⟩
    · rw [up_n (by omega)] at hb'
      obtain ⟨j, hj, ej⟩ := f3 c' hc' hw' hb'
      refine ⟨j, hj, ?_⟩
      have : j ≠ k := fun z => by
        rw [z, hg] at ej
        have : c' / 4 * S ≤ 64 * 4 := Nat.mul_le_mul (by omega) hS
        exact nI_m1 (by omega) ej.symm
      rw [up_n this]; exact ej
  · intro c' hc' hw'
    have hcc : c' ≠ c := fun z => hw' (by rw [z]; exact hw)
    show upd (mv_bl w) (256 * T + c) _ (256 * T + c') = _ ∧ upd (mv_lf w) (256 * T + c) _ (256 * T + c') = _ ∧ vp_updL (mv_vl w) (256 * T + c) _ (256 * T + c') = _
    rw [up_n (by omega), up_n (by omega), upL_n (by omega)]
    exact f5 c' hc' hw'
  · intro y hy
    have h1 := pull_tot (T := T) (k := r) (v := mv_put w (256 * T + c) (80 * T + r)) (y := y) (by rw [hzz]; omega)
    have h2 := put_tot (T := T) (q := 80 * T + r) (v := w) hc he hy
    have h3 : mv_sb (mv_put w (256 * T + c) (80 * T + r)) (80 * T + r) = mv_sb w (80 * T + r) := rfl
    rw [h2, h3] at h1
    rw [← ft y hy]
    omega
  · refine ⟨fun c' hc' hb' => ?_, fun i hi => ?_⟩
    · have hb' : ¬ upd (mv_bl w) (256 * T + c) (mv_sb w (80 * T + r)) (256 * T + c') = -1 := hb'
      show G (upd (mv_bl w) (256 * T + c) _ (256 * T + c')) (upd (mv_lf w) (256 * T + c) _ (256 * T + c')) (vp_updL (mv_vl w) (256 * T + c) _ (256 * T + c')) ∧ ow D S (upd (mv_lf w) (256 * T + c) _ (256 * T + c')) c'
      by_cases e : c' = c
      · rw [e, pk_us, pk_us, upL_e rfl]
        exact ⟨fp.2 r (by omega), hw.2, up, hu, hm⟩
      · rw [up_n (by omega)] at hb'
        rw [up_n (by omega), up_n (by omega), upL_n (by omega)]
        exact fp.1 c' hc' hb'
    · have hi : i < upN (mv_sz w) T (mv_sz w T - 1) T := hi
      rw [upN_s] at hi
      show G (shf (80 * T + r) (mv_sz w T - 1 - r) (mv_sb w) (80 * T + i)) (shf (80 * T + r) (mv_sz w T - 1 - r) (mv_sl w) (80 * T + i)) (shf (80 * T + r) (mv_sz w T - 1 - r) (mv_sv w) (80 * T + i))
      by_cases e : i < r
      · rw [shf_lo (by omega), shf_lo (by omega), shf_lo (by omega)]
        exact fp.2 i (by omega)
      · rw [shf_in (by omega) (by omega), shf_in (by omega) (by omega), shf_in (by omega) (by omega)]
        exact fp.2 (i + 1) (by omega)
  · intro T' h1 h2
    refine (fs T' h1 h2).tr ⟨fun c' hc' => ?_, fun _ _ => rfl, fun i hi => ?_, upN_n h2⟩
    · show upd (mv_bl w) (256 * T + c) _ (256 * T' + c') = _ ∧ upd (mv_lf w) (256 * T + c) _ (256 * T' + c') = _ ∧ vp_updL (mv_vl w) (256 * T + c) _ (256 * T' + c') = _
      rw [up_n (by omega), up_n (by omega), upL_n (by omega)]
      exact ⟨rfl, rfl, rfl⟩
    · have hx : 80 * T' + i < 80 * T + r ∨ 80 * T + r + (mv_sz w T - 1 - r) ≤ 80 * T' + i := by omega
      show shf (80 * T + r) (mv_sz w T - 1 - r) (mv_sb w) (80 * T' + i) = _ ∧ shf (80 * T + r) (mv_sz w T - 1 - r) (mv_sl w) (80 * T' + i) = _ ∧ shf (80 * T + r) (mv_sz w T - 1 - r) (mv_sv w) (80 * T' + i) = _
      rcases hx with q | q
      · rw [shf_lo q, shf_lo q, shf_lo q]; exact ⟨rfl, rfl, rfl⟩
      · rw [shf_hi q, shf_hi q, shf_hi q]; exact ⟨rfl, rfl, rfl⟩
end FI
section FO
variable {T D S B P lf : Nat} {pl : Rw} {v0 : Mv} {G : Int32 → Int32 → Int64 → Prop} {N : Int32 → Nat}
theorem ci_s {f : Nat → Int32} {x : Int32} {k : Nat} (h : f k = x) : ci_ f x (k + 1) = ci_ f x k + 1 := by
  show ci_ f x k + (if f k = x then 1 else 0) = _
  rw [if_pos h]
theorem ci_ns {f : Nat → Int32} {x : Int32} {k : Nat} (h : ¬ f k = x) : ci_ f x (k + 1) = ci_ f x k := by
  show ci_ f x k + (if f k = x then 1 else 0) = _
  rw [if_neg h]; rfl
theorem iv_cnt {tg : Nat → Int32} {w : Mv} {nd : Nat} (hT : T < 2) (hn : nd < 64) (h : iv T D S P lf pl v0 G N tg w) : iv T D S P lf pl v0 G N tg (mv_cnt w (64 * T + nd)) := by
  obtain ⟨f1, f1b, f2, f3, f5, ft, fp, fs, fm⟩ := h
  exact ⟨f1, f1b, f2, f3, f5, ft, fp, fun T' h1 h2 => (fs T' h1 h2).tr ⟨fun _ _ => ⟨rfl, rfl, rfl⟩, fun n hn => up_n (by omega), fun _ _ => ⟨rfl, rfl, rfl⟩, rfl⟩, fm⟩
theorem fN_lock (hT : T < 2) (hD : D ≤ 5) (hS : S ≤ 4) (hPB : P ≤ B) (hB : B ≤ 64) (hpl : ∀ k, k < P → ¬ pl.1 k = 0) {up : Nat} (hu : up ≤ D) (hlf : lf < 2 ^ D) (tg0 : Nat → Int32) : ∀ d k, k + d = P → ∀ w : Mv,
    iv T D S P lf pl v0 G N (lp_ (tr_fNf D S B pl (nI (mnd D lf up)) (nI (D - up))) k (tg0, 0)).1 w →
    (∀ s', (lp_ (tr_fNf D S B pl (nI (mnd D lf up)) (nI (D - up))) k (tg0, 0)).2 ≤ s' → s' < S → mv_bl w (256 * T + (4 * mnd D lf up + s')) = -1) →
    ∃ F : Mv, F = mv_fL D S T up (mnd D lf up) (mv_sz w T - ci_ (lp_ (tr_fNf D S B pl (nI (mnd D lf up)) (nI (D - up))) k (tg0, 0)).1 (-1) k) w (ci_ (lp_ (tr_fNf D S B pl (nI (mnd D lf up)) (nI (D - up))) k (tg0, 0)).1 (-1) k) (lp_ (tr_fNf D S B pl (nI (mnd D lf up)) (nI (D - up))) k (tg0, 0)).2 ∧
      iv T D S P lf pl v0 G N (lp_ (tr_fNf D S B pl (nI (mnd D lf up)) (nI (D - up))) P (tg0, 0)).1 F ∧
      (lp_ (tr_fNf D S B pl (nI (mnd D lf up)) (nI (D - up))) P (tg0, 0)).2 + mv_sz F T = (lp_ (tr_fNf D S B pl (nI (mnd D lf up)) (nI (D - up))) k (tg0, 0)).2 + mv_sz w T ∧
      (∀ c, c < 256 → c / 4 ≠ mnd D lf up → mv_bl F (256 * T + c) = mv_bl w (256 * T + c)) ∧ mv_ct F = mv_ct w := by
  have h32 := p2_le hD
  have hnd := mnd_lt2 (up := up) hlf
  intro d
  induction d with
  | zero =>
    intro k hk w hi he
    rw [show k = P by omega] at hi ⊢
    refine ⟨_, rfl, ?_⟩
    rw [mv_fL_z (by rw [hi.1]; exact Nat.le_refl _)]
    exact ⟨hi, rfl, fun _ _ _ => rfl, rfl⟩
  | succ d ih =>
    intro k hk w hi he
    have ih := ih (k + 1) (by omega)
    have hl : lp_ (tr_fNf D S B pl (nI (mnd D lf up)) (nI (D - up))) (k + 1) (tg0, 0) = tr_fNf D S B pl (nI (mnd D lf up)) (nI (D - up)) k (lp_ (tr_fNf D S B pl (nI (mnd D lf up)) (nI (D - up))) k (tg0, 0)) := rfl
    rw [hl] at ih
    generalize lp_ (tr_fNf D S B pl (nI (mnd D lf up)) (nI (D - up))) k (tg0, 0) = q at *
    generalize lp_ (tr_fNf D S B pl (nI (mnd D lf up)) (nI (D - up))) P (tg0, 0) = q' at *
    by_cases hs : q.2 < S
    · by_cases hg : q.1 k = -1
      · have hrk : ci_ q.1 (-1) k < mv_sz w T := by
          rw [hi.1]
          have := ci_le (f := q.1) (x := -1) P (show k + 1 ≤ P by omega)
          rw [ci_s hg] at this
          exact this
        have ha := hi.2.1 k (by omega) hg
        have hcond : tr_way D (rw_at B pl.2.1 (nI k)) (nI (D - up)) = (nI (2 ^ D) + mv_sl w (80 * T + ci_ q.1 (-1) k)) >>> (nI up &&& 31) := by
          unfold tr_way
          rw [rwa_nI (by omega) (by omega), ha.2.1, pk_sub (by omega), show D - (D - up) = up by omega]
        by_cases hm : (nI (2 ^ D) + mv_sl w (80 * T + ci_ q.1 (-1) k)) >>> (nI up &&& 31) = nI (mnd D lf up)
        · have hq : tr_fNf D S B pl (nI (mnd D lf up)) (nI (D - up)) k q = (upd q.1 k (nI (mnd D lf up) * nI S + nI q.2), q.2 + 1) := by
            unfold tr_fNf
            rw [if_pos hs, if_pos hg, if_pos (hcond.trans hm)]
          rw [hq, pk_mul, nI_add] at ih
          have h4 : (4 * mnd D lf up + q.2) / 4 = mnd D lf up := by omega
          have h5 : (4 * mnd D lf up + q.2) % 4 = q.2 := by omega
          have hst := iv_step (c := 4 * mnd D lf up + q.2) hT hS (by omega) hpl hi (by omega) hg (by omega) ⟨⟨up, hu, h4⟩, by omega⟩ (he _ (Nat.le_refl _) hs) hu (by rw [h4]; exact hm)
          rw [h4, h5] at hst
          have hr2 : ci_ (upd q.1 k (nI (mnd D lf up * S + q.2))) (-1) (k + 1) = ci_ q.1 (-1) k := by
            rw [ci_ns, ci_congr k (fun i hi => up_n (by omega))]
            rw [pk_us]
            have : mnd D lf up * S ≤ 64 * 4 := Nat.mul_le_mul (by omega) hS
            exact nI_m1 (by omega)
          obtain ⟨F, r1, r2, r3, r4, r5⟩ := ih _ hst (fun s' h1 h2 => by
            have h1 : q.2 + 1 ≤ s' := h1
            show upd (mv_bl w) (256 * T + (4 * mnd D lf up + q.2)) _ (256 * T + (4 * mnd D lf up + s')) = -1
            rw [up_n (by omega)]
            exact he s' (by omega) h2)
          refine ⟨F, ?_, r2, ?_, fun c hc hne => (r4 c hc hne).trans ?_, r5⟩
          · rw [mv_fL_y hrk hs hm, r1]
            dsimp only
            rw [hr2, show 256 * T + (4 * mnd D lf up + q.2) = 256 * T + 4 * mnd D lf up + q.2 by omega]
          · have hz : mv_sz (mv_pull (mv_put w (256 * T + (4 * mnd D lf up + q.2)) (80 * T + ci_ q.1 (-1) k)) T (ci_ q.1 (-1) k)) T = mv_sz w T - 1 := upN_s
            rw [r3, hz]
            dsimp only
            omega
          · show upd (mv_bl w) (256 * T + (4 * mnd D lf up + q.2)) _ (256 * T + c) = _
            exact up_n (by omega)
        · have hq : tr_fNf D S B pl (nI (mnd D lf up)) (nI (D - up)) k q = q := by
            unfold tr_fNf
            rw [if_pos hs, if_pos hg, if_neg (fun z => hm (hcond.symm.trans z))]
          rw [hq, ci_s hg] at ih
          obtain ⟨F, r1, r2, r3, r4, r5⟩ := ih w hi he
          exact ⟨F, by rw [mv_fL_n hrk hs hm]; exact r1, r2, r3, r4, r5⟩
      · have hq : tr_fNf D S B pl (nI (mnd D lf up)) (nI (D - up)) k q = q := by
          unfold tr_fNf
          rw [if_pos hs, if_neg hg]
        rw [hq, ci_ns hg] at ih
        exact ih w hi he
    · have hq : tr_fNf D S B pl (nI (mnd D lf up)) (nI (D - up)) k q = q := by
        unfold tr_fNf
        rw [if_neg hs]
      rw [hq] at ih
      obtain ⟨F, r1, r2, r3, r4, r5⟩ := ih w hi he
      refine ⟨F, ?_, r2, r3, r4, r5⟩
      rw [mv_fL_f hs] at r1 ⊢
      exact r1
theorem fit_lock (hT : T < 2) (hD : D ≤ 5) (hS : S ≤ 4) (hPB : P ≤ B) (hB : B ≤ 64) (hpl : ∀ k, k < P → ¬ pl.1 k = 0) (hcnt : rw_cnt B pl.2.2.2 = P) (hlf : lf < 2 ^ D) (tg0 : Nat → Int32) (h0 : iv T D S P lf pl v0 G N tg0 v0) (hz : mv_sz v0 T = P)
    (hE : ∀ c, c < 256 → wy D S lf c → mv_bl v0 (256 * T + c) = -1) : ∀ k, k ≤ D + 1 →
    iv T D S P lf pl v0 G N (lp_ (tr_f1f D S B pl (nI lf)) k (tg0, nI P)).1 (lp_ (mv_fU D S T lf) k v0) ∧ (lp_ (tr_f1f D S B pl (nI lf)) k (tg0, nI P)).2 = nI (mv_sz (lp_ (mv_fU D S T lf) k v0) T) ∧
    (∀ c, c < 256 → (∃ up, k ≤ up ∧ up ≤ D ∧ c / 4 = mnd D lf up) → c % 4 < S → mv_bl (lp_ (mv_fU D S T lf) k v0) (256 * T + c) = -1) ∧
    (∀ up, up < k → mv_ct (lp_ (mv_fU D S T lf) k v0) (64 * T + mnd D lf up) = mv_ct v0 (64 * T + mnd D lf up) + 1) ∧ (∀ n, (∀ up, up < k → ¬ n = mnd D lf up) → mv_ct (lp_ (mv_fU D S T lf) k v0) (64 * T + n) = mv_ct v0 (64 * T + n)) := by
  have h32 := p2_le hD
  intro k
  induction k with
  | zero => intro _; exact ⟨h0, by show nI P = nI (mv_sz v0 T); rw [hz], fun c hc h1 h2 => hE c hc ⟨by obtain ⟨up, _, h⟩ := h1; exact ⟨up, h⟩, h2⟩, fun up h => by omega, fun _ _ => rfl⟩
  | succ k ih =>
    intro hk
    obtain ⟨i1, i2, i3, i4, i5⟩ := ih (by omega)
    have hnd := mnd_lt2 (up := k) hlf
    show iv T D S P lf pl v0 G N (tr_f1f D S B pl (nI lf) k (lp_ (tr_f1f D S B pl (nI lf)) k (tg0, nI P))).1 (mv_fU D S T lf k (lp_ (mv_fU D S T lf) k v0)) ∧ (tr_f1f D S B pl (nI lf) k (lp_ (tr_f1f D S B pl (nI lf)) k (tg0, nI P))).2 = nI (mv_sz (mv_fU D S T lf k (lp_ (mv_fU D S T lf) k v0)) T) ∧ (∀ c, c < 256 → _ → _ → mv_bl (mv_fU D S T lf k (lp_ (mv_fU D S T lf) k v0)) (256 * T + c) = -1) ∧ (∀ up, up < k + 1 → mv_ct (mv_fU D S T lf k (lp_ (mv_fU D S T lf) k v0)) (64 * T + mnd D lf up) = _) ∧ (∀ n, _ → mv_ct (mv_fU D S T lf k (lp_ (mv_fU D S T lf) k v0)) (64 * T + n) = _)
    generalize lp_ (mv_fU D S T lf) k v0 = w at *
    generalize lp_ (tr_f1f D S B pl (nI lf)) k (tg0, nI P) = q at *
    obtain ⟨F, r1, r2, r3, r4, r5⟩ := fN_lock (B := B) hT hD hS hPB hB hpl (show k ≤ D by omega) hlf q.1 P 0 (by omega) w i1 (fun s' _ h2 => i3 _ (by omega) ⟨k, Nat.le_refl _, by omega, by omega⟩ (by omega))
    have hF : F = mv_fL D S T k (mnd D lf k) (mv_sz w T) w 0 0 := r1
    have hw : tr_way D (nI lf) (nI (D - k)) = nI (mnd D lf k) := by
      rw [way_nI hD (by omega) hlf, show D - (D - k) = k by omega]
    have e1 : tr_fN D S B pl (tr_way D (nI lf) (nI (D - k))) (nI (D - k)) q.1 = lp_ (tr_fNf D S B pl (nI (mnd D lf k)) (nI (D - k))) P (q.1, 0) := by
      unfold tr_fN
      rw [hcnt, hw]
    have e2 : tr_f1f D S B pl (nI lf) k q = ((lp_ (tr_fNf D S B pl (nI (mnd D lf k)) (nI (D - k))) P (q.1, 0)).1, q.2 - nI (lp_ (tr_fNf D S B pl (nI (mnd D lf k)) (nI (D - k))) P (q.1, 0)).2) := by
      unfold tr_f1f
      rw [e1]
    have e3 : mv_fU D S T lf k w = mv_cnt F (64 * T + mnd D lf k) := by
      unfold mv_fU
      rw [hF]
    have r3 : (lp_ (tr_fNf D S B pl (nI (mnd D lf k)) (nI (D - k))) P (q.1, 0)).2 + mv_sz F T = 0 + mv_sz w T := r3
    rw [e2, e3]
    refine ⟨iv_cnt hT (by omega) r2, ?_, fun c hc h1 h2 => ?_, fun up hu => ?_, fun n hn => ?_⟩
    · show q.2 - nI _ = nI (mv_sz F T)
      rw [i2, pk_sub (by omega), show mv_sz w T - (lp_ (tr_fNf D S B pl (nI (mnd D lf k)) (nI (D - k))) P (q.1, 0)).2 = mv_sz F T by omega]
    · obtain ⟨up, u1, u2, u3⟩ := h1
      have hne : c / 4 ≠ mnd D lf k := fun z => by
        have := mnd_inj (D := D) (lf := lf) (a := up) (b := k) u2 (by omega) (u3.symm.trans z)
        omega
      exact (r4 c hc hne).trans (i3 c hc ⟨up, by omega, u2, u3⟩ h2)
    · show upd (mv_ct F) (64 * T + mnd D lf k) (mv_ct F (64 * T + mnd D lf k) + 1) (64 * T + mnd D lf up) = _
      by_cases e : up = k
      · subst e
        rw [pk_us, r5, i5 _ (fun u hu2 z => by
          have := mnd_inj (D := D) (lf := lf) (a := up) (b := u) (by omega) (by omega) z
          omega)]
      · rw [up_n (fun z => e (mnd_inj (D := D) (lf := lf) (by omega) (by omega) (by omega))), r5]
        exact i4 up (by omega)
    · show upd (mv_ct F) (64 * T + mnd D lf k) (mv_ct F (64 * T + mnd D lf k) + 1) (64 * T + n) = _
      have := hn k (by omega)
      rw [up_n (by omega), r5]
      exact i5 n (fun u hu => hn u (by omega))
theorem ci_all {f : Nat → Int32} {x : Int32} : ∀ n, (∀ i, i < n → f i = x) → ci_ f x n = n := by
  intro n
  induction n with
  | zero => intro _; rfl
  | succ n ih =>
    intro h
    rw [ci_s (h n (by omega)), ih (fun i hi => h i (by omega))]
theorem f0_all {tg : Nat → Int32} : ∀ n i, i < n → lp_ tr_f0f n tg i = -1 := by
  intro n
  induction n with
  | zero => intro i h; omega
  | succ n ih =>
    intro i h
    show upd (lp_ tr_f0f n tg) n (-1) i = -1
    by_cases e : i = n
    · exact up_e e
    · rw [up_n e]; exact ih i (by omega)
theorem iv_0 (hr : rp T pl v0) (hz : mv_sz v0 T = P) {tg : Nat → Int32} (htg : ∀ i, i < P → tg i = -1) (hE : ∀ c, c < 256 → wy D S lf c → mv_bl v0 (256 * T + c) = -1) (hp : pw T D S G v0) (ht : ∀ y, y ≠ -1 → tot T y v0 = N y) : iv T D S P lf pl v0 G N tg v0 := by
  refine ⟨by rw [ci_all P htg]; exact hz, fun k hk _ => ?_, fun k hk h => absurd (htg k hk) h, fun c hc h1 h2 => absurd (hE c hc h1) h2, fun _ _ _ => ⟨rfl, rfl, rfl⟩, ht, hp, fun _ _ _ => sm.rf, rfl⟩
  rw [ci_all k (fun i hi => htg i (by omega))]
  obtain ⟨a, b, c⟩ := hr.2 k (by omega)
  exact ⟨a.symm, b.symm, c.symm⟩
end FO
