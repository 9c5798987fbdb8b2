-- CoinTreeModel: what its methods compute, as they are written
def upN (g : Nat → Nat) (k x : Nat) : Nat → Nat := fun j => if j = k then x else g j
theorem up_nI {g : Nat → Nat} {k x : Nat} : upd (fun i => nI (g i)) k (nI x) = fun i => nI (upN g k x i) := by
  funext j
  show (if j = k then nI x else nI (g j)) = nI (if j = k then x else g j)
  split <;> rfl
def cp_ {α : Type} (n : Nat) (f g : Nat → α) : Nat → α := fun i => if i < n then g i else f i
theorem cp_0 {α : Type} {f g : Nat → α} : cp_ 0 f g = f := by
  funext i
  exact if_neg (Nat.not_lt_zero i)
theorem cp_ss {α : Type} {f g : Nat → α} {k j : Nat} : (if j = k then g k else cp_ k f g j) = cp_ (k + 1) f g j := by
  by_cases h : j = k
  · subst h
    rw [if_pos rfl]
    exact (if_pos (Nat.lt_succ_self j)).symm
  · rw [if_neg h]
    show (if j < k then g j else f j) = (if j < k + 1 then g j else f j)
    by_cases h2 : j < k
    · rw [if_pos h2, if_pos (by omega)]
    · rw [if_neg h2, if_neg (by omega)]
theorem cp_s {f g : Nat → Int32} {k : Nat} : upd (cp_ k f g) k (g k) = cp_ (k + 1) f g := funext fun _ => cp_ss
theorem cp_sL {f g : Nat → Int64} {k : Nat} : vp_updL (cp_ k f g) k (g k) = cp_ (k + 1) f g := funext fun _ => cp_ss
theorem cp_sN {f g : Nat → Nat} {k : Nat} : upN (cp_ k f g) k (g k) = cp_ (k + 1) f g := funext fun _ => cp_ss
def shf {α : Type} (b n : Nat) (f : Nat → α) : Nat → α := fun i => if b ≤ i ∧ i < b + n then f (i + 1) else f i
theorem shf_0 {α : Type} {b : Nat} {f : Nat → α} : shf b 0 f = f := by
  funext i
  exact if_neg (by omega)
theorem shf_nx {α : Type} {b n : Nat} {f : Nat → α} : shf b n f (b + n + 1) = f (b + n + 1) := if_neg (by omega)
theorem shf_ss {α : Type} {b n j : Nat} {f : Nat → α} : (if j = b + n then f (b + n + 1) else shf b n f j) = shf b (n + 1) f j := by
  by_cases h : j = b + n
  · subst h
    rw [if_pos rfl]
    exact (if_pos ⟨by omega, by omega⟩).symm
  · rw [if_neg h]
    show (if b ≤ j ∧ j < b + n then f (j + 1) else f j) = (if b ≤ j ∧ j < b + (n + 1) then f (j + 1) else f j)
    by_cases h2 : b ≤ j ∧ j < b + n
    · rw [if_pos h2, if_pos ⟨h2.1, by omega⟩]
    · rw [if_neg h2, if_neg (by omega)]
theorem shf_s {b n : Nat} {f : Nat → Int32} : upd (shf b n f) (b + n) (shf b n f (b + n + 1)) = shf b (n + 1) f := by
  rw [shf_nx]
  exact funext fun _ => shf_ss
theorem shf_sL {b n : Nat} {f : Nat → Int64} : vp_updL (shf b n f) (b + n) (shf b n f (b + n + 1)) = shf b (n + 1) f := by
  rw [shf_nx]
  exact funext fun _ => shf_ss
abbrev Mv : Type := (Nat → Int32) × (Nat → Int32) × (Nat → Int64) × (Nat → Int32) × (Nat → Int32) × (Nat → Int32) × (Nat → Int64) × (Nat → Nat) × (Nat → Int32)
def mv_bl (v : Mv) : Nat → Int32 := v.1
def mv_lf (v : Mv) : Nat → Int32 := v.2.1
def mv_vl (v : Mv) : Nat → Int64 := v.2.2.1
def mv_ct (v : Mv) : Nat → Int32 := v.2.2.2.1
def mv_sb (v : Mv) : Nat → Int32 := v.2.2.2.2.1
def mv_sl (v : Mv) : Nat → Int32 := v.2.2.2.2.2.1
def mv_sv (v : Mv) : Nat → Int64 := v.2.2.2.2.2.2.1
def mv_sz (v : Mv) : Nat → Nat := v.2.2.2.2.2.2.2.1
def mv_ml (v : Mv) : Nat → Int32 := v.2.2.2.2.2.2.2.2
def mv_mk (a b : Nat → Int32) (c : Nat → Int64) (d e f : Nat → Int32) (g : Nat → Int64) (h : Nat → Nat) (i : Nat → Int32) : Mv := (a, b, c, d, e, f, g, h, i)
def mL (L T : Nat) : Nat := if T = 0 then L else if 1 < L then L - 1 else 1
theorem mL_le {L T : Nat} (h1 : 1 ≤ L) (h5 : L ≤ 5) : 1 ≤ mL L T ∧ mL L T ≤ 5 := by
  unfold mL
  split
  · exact ⟨h1, h5⟩
  · split <;> omega
theorem mL_a {L T : Nat} (h : T = 0) : mL L T = L := if_pos h
theorem mL_b {L T : Nat} (h : ¬ T = 0) (h2 : 1 < L) : mL L T = L - 1 := (if_neg h).trans (if_pos h2)
theorem mL_c {L T : Nat} (h : ¬ T = 0) (h2 : ¬ 1 < L) : mL L T = 1 := (if_neg h).trans (if_neg h2)
def mnd (D lf up : Nat) : Nat := (2 ^ D + lf) / 2 ^ up
theorem p2_le {D : Nat} (h : D ≤ 5) : 2 ^ D ≤ 32 := Nat.le_trans (Nat.pow_le_pow_right (by decide) h) (by decide)
theorem mnd_lt {D lf up : Nat} (h : D ≤ 5) (hl : lf < 2 ^ D) : mnd D lf up < 64 := by
  have h1 := p2_le h
  exact Nat.lt_of_le_of_lt (Nat.div_le_self _ _) (by omega)
def mk_ok (L S C : Nat) : Prop := 1 ≤ L ∧ L ≤ 5 ∧ 1 ≤ S ∧ S ≤ 4 ∧ C ≤ 40
def mw_ (cI cJ : ClassId) (ad : Nat → Nat) (L S C : Nat) (key : Int64) (th most asked : Int32) (td : Nat) (tr : Nat → Int32) (v o : Mv) : va_W :=
  [(ad 0, .inr (4, [.int th, .int (nI L), .int (nI S), .int (nI C), .long key, .ref (ad 1), .ref (ad 2), .ref (ad 3), .ref (ad 4), .ref (ad 5), .ref (ad 6), .ref (ad 7), .ref (ad 8), .ref (ad 9), .int most, .int asked, .ref (ad 10), .int (nI td), .ref (ad 11), .ref (ad 12), .ref (ad 13), .ref (ad 14), .ref (ad 15), .ref (ad 16), .ref (ad 17), .ref (ad 18), .ref (ad 19)])),
   (ad 1, .inl (cI, 512, .inl (mv_bl v))), (ad 2, .inl (cI, 512, .inl (mv_lf v))), (ad 3, .inl (cJ, 512, .inr (.inl (mv_vl v)))), (ad 4, .inl (cI, 128, .inl (mv_ct v))), (ad 5, .inl (cI, 160, .inl (mv_sb v))), (ad 6, .inl (cI, 160, .inl (mv_sl v))), (ad 7, .inl (cJ, 160, .inr (.inl (mv_sv v)))), (ad 8, .inl (cI, 2, .inl (fun i => nI (mv_sz v i)))), (ad 9, .inl (cI, 16, .inl (mv_ml v))), (ad 10, .inl (cI, 1200, .inl tr)),
   (ad 11, .inl (cI, 512, .inl (mv_bl o))), (ad 12, .inl (cI, 512, .inl (mv_lf o))), (ad 13, .inl (cJ, 512, .inr (.inl (mv_vl o)))), (ad 14, .inl (cI, 128, .inl (mv_ct o))), (ad 15, .inl (cI, 160, .inl (mv_sb o))), (ad 16, .inl (cI, 160, .inl (mv_sl o))), (ad 17, .inl (cJ, 160, .inr (.inl (mv_sv o)))), (ad 18, .inl (cI, 2, .inl (fun i => nI (mv_sz o i)))), (ad 19, .inl (cI, 16, .inl (mv_ml o)))]
def mv_push (v : Mv) (T : Nat) (b l : Int32) (x : Int64) : Mv :=
  mv_mk (mv_bl v) (mv_lf v) (mv_vl v) (mv_ct v) (upd (mv_sb v) (80 * T + mv_sz v T) b) (upd (mv_sl v) (80 * T + mv_sz v T) l) (vp_updL (mv_sv v) (80 * T + mv_sz v T) x) (upN (mv_sz v) T (mv_sz v T + 1)) (mv_ml v)
def mv_pull (v : Mv) (T k : Nat) : Mv :=
  mv_mk (mv_bl v) (mv_lf v) (mv_vl v) (mv_ct v) (shf (80 * T + k) (mv_sz v T - 1 - k) (mv_sb v)) (shf (80 * T + k) (mv_sz v T - 1 - k) (mv_sl v)) (shf (80 * T + k) (mv_sz v T - 1 - k) (mv_sv v)) (upN (mv_sz v) T (mv_sz v T - 1)) (mv_ml v)
def mv_find (v : Mv) (T : Nat) (b : Int32) : Nat → Nat → Int32
  | 0, _ => -1
  | n + 1, j => if mv_sb v (80 * T + j) = b then nI (80 * T + j) else mv_find v T b n (j + 1)
theorem mv_find_z {v : Mv} {T c j : Nat} {b F : Int32} (hf : mv_find v T b (c - j) j = F) (h : c ≤ j) : (-1 : Int32) = F := by
  rw [← hf, Nat.sub_eq_zero_of_le h]; rfl
theorem mv_find_e {v : Mv} {T c j : Nat} {b : Int32} (h : j < c) : mv_find v T b (c - j) j = if mv_sb v (80 * T + j) = b then nI (80 * T + j) else mv_find v T b (c - (j + 1)) (j + 1) := by
  obtain ⟨d, hd⟩ : ∃ d, c - j = d + 1 := ⟨c - j - 1, by omega⟩
  rw [hd, show c - (j + 1) = d by omega]
  rfl
theorem mv_find_y {v : Mv} {T c j : Nat} {b F : Int32} (hf : mv_find v T b (c - j) j = F) (h : j < c) (e : mv_sb v (80 * T + j) = b) : nI (80 * T + j) = F := by
  rw [← hf, mv_find_e h, if_pos e]
theorem mv_find_n {v : Mv} {T c j : Nat} {b F : Int32} (hf : mv_find v T b (c - j) j = F) (h : j < c) (e : ¬ mv_sb v (80 * T + j) = b) : mv_find v T b (c - (j + 1)) (j + 1) = F := by
  rw [← hf, mv_find_e h, if_neg e]
def mv_at (v : Mv) (T : Nat) (b : Int32) : Int32 := mv_find v T b (mv_sz v T) 0
def mv_emp (v : Mv) (p : Nat) : Mv := mv_mk (upd (mv_bl v) p (-1)) (mv_lf v) (mv_vl v) (mv_ct v) (mv_sb v) (mv_sl v) (mv_sv v) (mv_sz v) (mv_ml v)
def mv_gf (T nd s : Nat) (v : Mv) : Mv := if mv_bl v (256 * T + 4 * nd + s) = -1 then v else mv_emp (mv_push v T (mv_bl v (256 * T + 4 * nd + s)) (mv_lf v (256 * T + 4 * nd + s)) (mv_vl v (256 * T + 4 * nd + s))) (256 * T + 4 * nd + s)
def mv_gN (S T nd : Nat) (v : Mv) : Mv := lp_ (mv_gf T nd) S v
def mv_gWf (D S T lf k : Nat) (v : Mv) : Mv := mv_gN S T (mnd D lf (D - k)) v
def mv_gW (D S T lf : Nat) (v : Mv) : Mv := lp_ (mv_gWf D S T lf) (D + 1) v
def mv_gather (L S T : Nat) (b : Int32) (lf : Nat) (v : Mv) : Mv :=
  if mv_at (mv_gW (mL L T) S T lf v) T b = -1 then mv_push (mv_gW (mL L T) S T lf v) T b 0 0 else mv_gW (mL L T) S T lf v
theorem upN_s {g : Nat → Nat} {k x : Nat} : upN g k x k = x := if_pos rfl
theorem upN_n {g : Nat → Nat} {k x j : Nat} (h : j ≠ k) : upN g k x j = g j := if_neg h
theorem mv_gf_sz {T nd s : Nat} {v : Mv} : mv_sz (mv_gf T nd s v) T ≤ mv_sz v T + 1 := by
  unfold mv_gf
  split
  · omega
  · exact Nat.le_of_eq upN_s
theorem mv_lp_sz {T nd : Nat} {v : Mv} (n : Nat) : mv_sz (lp_ (mv_gf T nd) n v) T ≤ mv_sz v T + n := by
  induction n with
  | zero => exact Nat.le_refl _
  | succ n ih =>
    have h := mv_gf_sz (T := T) (nd := nd) (s := n) (v := lp_ (mv_gf T nd) n v)
    show mv_sz (mv_gf T nd n (lp_ (mv_gf T nd) n v)) T ≤ _
    omega
theorem mv_gW_sz {D S T lf : Nat} {v : Mv} (n : Nat) : mv_sz (lp_ (mv_gWf D S T lf) n v) T ≤ mv_sz v T + n * S := by
  induction n with
  | zero => exact Nat.le_add_right _ _
  | succ n ih =>
    have h := mv_lp_sz (T := T) (nd := mnd D lf (D - n)) (v := lp_ (mv_gWf D S T lf) n v) S
    show mv_sz (lp_ (mv_gf T (mnd D lf (D - n))) S (lp_ (mv_gWf D S T lf) n v)) T ≤ _
    rw [Nat.succ_mul]
    omega
def mv_put (v : Mv) (p q : Nat) : Mv := mv_mk (upd (mv_bl v) p (mv_sb v q)) (upd (mv_lf v) p (mv_sl v q)) (vp_updL (mv_vl v) p (mv_sv v q)) (mv_ct v) (mv_sb v) (mv_sl v) (mv_sv v) (mv_sz v) (mv_ml v)
def mv_fL (D S T up nd : Nat) : Nat → Mv → Nat → Nat → Mv
  | 0, v, _, _ => v
  | f + 1, v, k, s => if s < S then (if (nI (2 ^ D) + mv_sl v (80 * T + k)) >>> (nI up &&& 31) = nI nd then mv_fL D S T up nd f (mv_pull (mv_put v (256 * T + 4 * nd + s) (80 * T + k)) T k) k (s + 1) else mv_fL D S T up nd f v (k + 1) s) else v
def mv_cnt (v : Mv) (i : Nat) : Mv := mv_mk (mv_bl v) (mv_lf v) (mv_vl v) (upd (mv_ct v) i (mv_ct v i + 1)) (mv_sb v) (mv_sl v) (mv_sv v) (mv_sz v) (mv_ml v)
def mv_fU (D S T lf up : Nat) (v : Mv) : Mv := mv_cnt (mv_fL D S T up (mnd D lf up) (mv_sz v T) v 0 0) (64 * T + mnd D lf up)
def mv_fill (L S T lf : Nat) (v : Mv) : Mv := lp_ (mv_fU (mL L T) S T lf) (mL L T + 1) v
section FL
variable {D S T up nd k s : Nat} {v : Mv}
theorem mv_fL_z (h : mv_sz v T ≤ k) : mv_fL D S T up nd (mv_sz v T - k) v k s = v := by
  rw [Nat.sub_eq_zero_of_le h]; rfl
theorem mv_fL_f (h : ¬ s < S) : mv_fL D S T up nd (mv_sz v T - k) v k s = v := by
  generalize mv_sz v T - k = f
  cases f with
  | zero => rfl
  | succ f => exact if_neg h
theorem mv_fL_y (h : k < mv_sz v T) (hs : s < S) (e : (nI (2 ^ D) + mv_sl v (80 * T + k)) >>> (nI up &&& 31) = nI nd) :
    mv_fL D S T up nd (mv_sz v T - k) v k s = mv_fL D S T up nd (mv_sz (mv_pull (mv_put v (256 * T + 4 * nd + s) (80 * T + k)) T k) T - k) (mv_pull (mv_put v (256 * T + 4 * nd + s) (80 * T + k)) T k) k (s + 1) := by
  have h2 : mv_sz (mv_pull (mv_put v (256 * T + 4 * nd + s) (80 * T + k)) T k) T = mv_sz v T - 1 := upN_s
  obtain ⟨d, hd⟩ : ∃ d, mv_sz v T - k = d + 1 := ⟨mv_sz v T - k - 1, by omega⟩
  rw [h2, show mv_sz v T - 1 - k = d by omega, hd]
  show (if s < S then (if _ then _ else _) else v) = _
  rw [if_pos hs, if_pos e]
theorem mv_fL_n (h : k < mv_sz v T) (hs : s < S) (e : ¬ (nI (2 ^ D) + mv_sl v (80 * T + k)) >>> (nI up &&& 31) = nI nd) :
    mv_fL D S T up nd (mv_sz v T - k) v k s = mv_fL D S T up nd (mv_sz v T - (k + 1)) v (k + 1) s := by
  obtain ⟨d, hd⟩ : ∃ d, mv_sz v T - k = d + 1 := ⟨mv_sz v T - k - 1, by omega⟩
  rw [show mv_sz v T - (k + 1) = d by omega, hd]
  show (if s < S then (if _ then _ else _) else v) = _
  rw [if_pos hs, if_neg e]
end FL
theorem mv_fL_sz {D S T up nd : Nat} : ∀ (f : Nat) (v : Mv) (k s : Nat), mv_sz (mv_fL D S T up nd f v k s) T ≤ mv_sz v T := by
  intro f
  induction f with
  | zero => intro v k s; exact Nat.le_refl _
  | succ f ih =>
    intro v k s
    show mv_sz (if s < S then (if _ then _ else _) else v) T ≤ _
    split
    · split
      · refine Nat.le_trans (ih _ _ _) ?_
        have h2 : mv_sz (mv_pull (mv_put v (256 * T + 4 * nd + s) (80 * T + k)) T k) T = mv_sz v T - 1 := upN_s
        omega
      · exact ih _ _ _
    · exact Nat.le_refl _
theorem mv_fU_sz {D S T lf : Nat} {v : Mv} (n : Nat) : mv_sz (lp_ (mv_fU D S T lf) n v) T ≤ mv_sz v T := by
  induction n with
  | zero => exact Nat.le_refl _
  | succ n ih =>
    have h := mv_fL_sz (D := D) (S := S) (T := T) (up := n) (nd := mnd D lf n) (mv_sz (lp_ (mv_fU D S T lf) n v) T) (lp_ (mv_fU D S T lf) n v) 0 0
    exact Nat.le_trans h ih
-- shifts
theorem sm_nI {b : Nat} (h : b < 32) : ((nI b &&& 31).toBitVec.smod 32).toNat = b := by
  have key : ∀ i : Fin 32, ((nI i.val &&& 31).toBitVec.smod 32).toNat = i.val := by decide +kernel
  exact key ⟨b, h⟩
theorem nm_shr {a b : Nat} (ha : a < 2 ^ 31) (hb : b < 32) : nI a >>> (nI b &&& 31) = nI (a / 2 ^ b) := pk_shrN ha _ b (sm_nI hb)
