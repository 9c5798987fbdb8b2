-- PURE: what the class's methods compute, as they are written (a mirror of the Java text; no machine here)
/-- k rounds of a loop that counts from 0 -/
def lp_ {α : Type} (f : Nat → α → α) : Nat → α → α
  | 0, x => x
  | k + 1, x => f k (lp_ f k x)
/-- k rounds of a loop that counts down from n - 1 -/
def ld_ {α : Type} (f : Nat → α → α) (n : Nat) : Nat → α → α
  | 0, x => x
  | k + 1, x => f (n - 1 - k) (ld_ f n k x)
-- a row: marks, leaves, values, size
abbrev Rw : Type := (Nat → Int32) × (Nat → Int32) × (Nat → Int64) × Int32
/-- Row.has -/
def rw_has (n : Nat) (i : Int32) : Bool := decide (¬ i < 0) && decide (i < nI n)
def rw_at (n : Nat) (f : Nat → Int32) (i : Int32) : Int32 := if rw_has n i = true then f i.toNatClampNeg else 0
def rw_atL (n : Nat) (f : Nat → Int64) (i : Int32) : Int64 := if rw_has n i = true then f i.toNatClampNeg else 0
def rw_up (n : Nat) (f : Nat → Int32) (i x : Int32) : Nat → Int32 := if rw_has n i = true then upd f i.toNatClampNeg x else f
def rw_upL (n : Nat) (f : Nat → Int64) (i : Int32) (x : Int64) : Nat → Int64 := if rw_has n i = true then vp_updL f i.toNatClampNeg x else f
def rw_put (n : Nat) (r : Rw) (i mk lf : Int32) (v : Int64) : Rw := (rw_up n r.1 i mk, rw_up n r.2.1 i lf, rw_upL n r.2.2.1 i v, r.2.2.2)
def rw_copy (n : Nat) (r : Rw) (i : Int32) (n2 : Nat) (r2 : Rw) (j : Int32) : Rw := rw_put n r i (rw_at n2 r2.1 j) (rw_at n2 r2.2.1 j) (rw_atL n2 r2.2.2.1 j)
def rw_size (r : Rw) (k : Int32) : Rw := (r.1, r.2.1, r.2.2.1, k)
def rw_app (n : Nat) (r : Rw) (n2 : Nat) (r2 : Rw) (j : Int32) : Rw := if rw_has n r.2.2.2 = true then rw_size (rw_copy n r r.2.2.2 n2 r2 j) (r.2.2.2 + 1) else r
def rw_new (n : Nat) (r : Rw) (mk : Int32) : Rw := if rw_has n r.2.2.2 = true then rw_size (rw_put n r r.2.2.2 mk 0 0) (r.2.2.2 + 1) else r
/-- Row.find, from place j on, k places -/
def rw_find (f : Nat → Int32) (mk : Int32) : Nat → Nat → Int32
  | 0, _ => -1
  | k + 1, j => if f j = mk then nI j else rw_find f mk k (j + 1)
def rw_cnt (n : Nat) (sz : Int32) : Nat := min sz.toNatClampNeg n
-- the trail: leaves, how many are kept (never 600 here: a law's script has at most 512 calls)
abbrev Tl : Type := (Nat → Int32) × Nat
def tl_add (t : Tl) (lf : Int32) : Tl := (upd t.1 t.2 lf, t.2 + 1)
-- a tree: nodes (a row), counts, stash (a row), trail, plan (a row), targets, wayLeaf, sought; L levels, S slots, C capacity, B blocks
abbrev Ts : Type := Rw × (Nat → Int32) × Rw × Tl × Rw × (Nat → Int32) × Int32 × Int32
def ts_nodes (t : Ts) : Rw := t.1
def ts_cnts (t : Ts) : Nat → Int32 := t.2.1
def ts_stash (t : Ts) : Rw := t.2.2.1
def ts_trail (t : Ts) : Tl := t.2.2.2.1
def ts_plan (t : Ts) : Rw := t.2.2.2.2.1
def ts_tgt (t : Ts) : Nat → Int32 := t.2.2.2.2.2.1
def ts_way (t : Ts) : Int32 := t.2.2.2.2.2.2.1
def ts_sought (t : Ts) : Int32 := t.2.2.2.2.2.2.2
def ts_mk (a : Rw) (b : Nat → Int32) (c : Rw) (d : Tl) (e : Rw) (f : Nat → Int32) (g h : Int32) : Ts := (a, b, c, d, e, f, g, h)
def tr_nN (L S : Nat) : Nat := 2 * 2 ^ L * S
/-- Tree.nodeOnWay -/
def tr_way (L : Nat) (lf lv : Int32) : Int32 := (nI (2 ^ L) + lf) >>> ((nI L - lv) &&& 31)
/-- Tree.gatherNode: what becomes of the plan -/
def tr_gNf (L S B : Nat) (nodes : Rw) (node : Int32) (j : Nat) (pl : Rw) : Rw := if rw_at (tr_nN L S) nodes.1 (node * nI S + nI j) = 0 then pl else rw_app B pl (tr_nN L S) nodes (node * nI S + nI j)
def tr_gN (L S B : Nat) (nodes : Rw) (node : Int32) (plan : Rw) : Rw := lp_ (tr_gNf L S B nodes node) S plan
def tr_gSf (C B : Nat) (stash : Rw) (k : Nat) (pl : Rw) : Rw := rw_app B pl C stash (nI k)
def tr_gS (C B : Nat) (stash plan : Rw) : Rw := lp_ (tr_gSf C B stash) stash.2.2.2.toNatClampNeg plan
def tr_gWf (L S B : Nat) (nodes : Rw) (lf : Int32) (k : Nat) (pl : Rw) : Rw := tr_gN L S B nodes (tr_way L lf (nI k)) pl
def tr_gW (L S B : Nat) (nodes : Rw) (lf : Int32) (plan : Rw) : Rw := lp_ (tr_gWf L S B nodes lf) (L + 1) plan
def tr_gP (L S C B : Nat) (t : Ts) (lf : Int32) : Rw := tr_gW L S B (ts_nodes t) lf (tr_gS C B (ts_stash t) (rw_size (ts_plan t) 0))
def tr_look (B : Nat) (pl : Rw) (mk : Int32) : Int32 := rw_find pl.1 mk (rw_cnt B pl.2.2.2) 0
/-- Tree.gather -/
def tr_gather (L S C B : Nat) (t : Ts) (blk lf : Int32) : Ts :=
  (fun pl : Rw => (fun so : Int32 => if so = -1 then ts_mk (ts_nodes t) (ts_cnts t) (ts_stash t) (ts_trail t) (rw_new B pl (blk + 1)) (ts_tgt t) lf pl.2.2.2 else ts_mk (ts_nodes t) (ts_cnts t) (ts_stash t) (ts_trail t) pl (ts_tgt t) lf so) (tr_look B pl (blk + 1))) (tr_gP L S C B t lf)
def tr_value (B : Nat) (t : Ts) : Int64 := rw_atL B (ts_plan t).2.2.1 (ts_sought t)
def tr_settle (B : Nat) (t : Ts) (lf : Int32) (v : Int64) : Ts := ts_mk (ts_nodes t) (ts_cnts t) (ts_stash t) (ts_trail t) (rw_put B (ts_plan t) (ts_sought t) (rw_at B (ts_plan t).1 (ts_sought t)) lf v) (ts_tgt t) (ts_way t) (ts_sought t)
/-- Tree.fillNode: targets and how many are filled, a round of the plan; it stops when the slots are full -/
def tr_fNf (L S B : Nat) (pl : Rw) (node lv : Int32) (k : Nat) (q : (Nat → Int32) × Nat) : (Nat → Int32) × Nat :=
  if q.2 < S then (if q.1 k = -1 then (if tr_way L (rw_at B pl.2.1 (nI k)) lv = node then (upd q.1 k (node * nI S + nI q.2), q.2 + 1) else q) else q) else q
def tr_fN (L S B : Nat) (pl : Rw) (node lv : Int32) (tg : Nat → Int32) : (Nat → Int32) × Nat := lp_ (tr_fNf L S B pl node lv) (rw_cnt B pl.2.2.2) (tg, 0)
def tr_f0f (k : Nat) (f : Nat → Int32) : Nat → Int32 := upd f k (-1)
def tr_f0 (B : Nat) (pl : Rw) (tg : Nat → Int32) : Nat → Int32 := lp_ tr_f0f (rw_cnt B pl.2.2.2) tg
/-- Tree.fits: targets, rest -/
def tr_f1f (L S B : Nat) (pl : Rw) (way : Int32) (k : Nat) (q : (Nat → Int32) × Int32) : (Nat → Int32) × Int32 :=
  ((tr_fN L S B pl (tr_way L way (nI (L - k))) (nI (L - k)) q.1).1, q.2 - nI (tr_fN L S B pl (tr_way L way (nI (L - k))) (nI (L - k)) q.1).2)
def tr_fit (L S B : Nat) (t : Ts) : (Nat → Int32) × Int32 := lp_ (tr_f1f L S B (ts_plan t) (ts_way t)) (L + 1) (tr_f0 B (ts_plan t) (ts_tgt t), (ts_plan t).2.2.2)
def tr_fits (L S B : Nat) (t : Ts) : Ts := ts_mk (ts_nodes t) (ts_cnts t) (ts_stash t) (ts_trail t) (ts_plan t) (tr_fit L S B t).1 (ts_way t) (ts_sought t)
/-- Tree.emptyNode: nodes and counts -/
def tr_eNf (L S : Nat) (node : Int32) (j : Nat) (ns : Rw) : Rw := rw_put (tr_nN L S) ns (node * nI S + nI j) 0 0 0
def tr_nd (L : Nat) (node : Int32) : Bool := decide (1 ≤ node) && decide (node < 2 * nI (2 ^ L))
def tr_eN (L S : Nat) (node : Int32) (q : Rw × (Nat → Int32)) : Rw × (Nat → Int32) :=
  (lp_ (tr_eNf L S node) S q.1, if tr_nd L node = true then upd q.2 node.toNatClampNeg (q.2 node.toNatClampNeg + 1) else q.2)
/-- Tree.carryOut -/
def tr_cEf (L S : Nat) (way : Int32) (k : Nat) (q : Rw × (Nat → Int32)) : Rw × (Nat → Int32) := tr_eN L S (tr_way L way (nI k)) q
def tr_cE (L S : Nat) (t : Ts) : Rw × (Nat → Int32) := lp_ (tr_cEf L S (ts_way t)) (L + 1) (ts_nodes t, ts_cnts t)
def tr_cSf (L S C B : Nat) (pl : Rw) (tg : Nat → Int32) (k : Nat) (q : Rw × Rw) : Rw × Rw :=
  if tg k = -1 then (q.1, rw_app C q.2 B pl (nI k)) else (rw_copy (tr_nN L S) q.1 (tg k) B pl (nI k), q.2)
def tr_cS (L S C B : Nat) (t : Ts) : Rw × Rw := lp_ (tr_cSf L S C B (ts_plan t) (ts_tgt t)) (rw_cnt B (ts_plan t).2.2.2) ((tr_cE L S t).1, rw_size (ts_stash t) 0)
def tr_carry (L S C B : Nat) (t : Ts) : Ts := ts_mk (tr_cS L S C B t).1 (tr_cE L S t).2 (tr_cS L S C B t).2 (tl_add (ts_trail t) (ts_way t)) (ts_plan t) (ts_tgt t) (ts_way t) (ts_sought t)
theorem ls_lt {α : Type} {l : List α} {i : Nat} {x : α} (h : l[i]? = some x) : i < l.length := (List.getElem?_eq_some_iff.mp h).1
theorem ls_same {α : Type} {l : List α} {i : Nat} {x : α} (h : l[i]? = some x) : l.set i x = l := by
  apply List.ext_getElem?
  intro j
  rw [List.getElem?_set]
  by_cases hij : i = j
  · subst hij
    rw [if_pos rfl, if_pos (ls_lt h), h]
  · rw [if_neg hij]
theorem ls_ne {α : Type} {l : List α} {i j : Nat} {x : α} (h : i ≠ j) : (l.set i x)[j]? = l[j]? := by rw [List.getElem?_set, if_neg h]
theorem ls_eq {α : Type} {l : List α} {i : Nat} {x y : α} (h : l[i]? = some y) : (l.set i x)[i]? = some x := by rw [List.getElem?_set, if_pos rfl, if_pos (ls_lt h)]
/-- a Row at place i0 of the world: its object, marks, leaves, values -/
def rw_in (ws : va_W) (i0 h a1 a2 a3 n : Nat) (cI cJ : ClassId) (r : Rw) : Prop :=
  ws[i0]? = some (h, .inr (0, [.ref a1, .ref a2, .ref a3, .int r.2.2.2])) ∧ ws[i0 + 1]? = some (a1, .inl (cI, n, .inl r.1)) ∧ ws[i0 + 2]? = some (a2, .inl (cI, n, .inl r.2.1)) ∧ ws[i0 + 3]? = some (a3, .inl (cJ, n, .inr (.inl r.2.2.1)))
def rw_set (ws : va_W) (i0 h a1 a2 a3 n : Nat) (cI cJ : ClassId) (r : Rw) : va_W :=
  (((ws.set i0 (h, .inr (0, [.ref a1, .ref a2, .ref a3, .int r.2.2.2]))).set (i0 + 1) (a1, .inl (cI, n, .inl r.1))).set (i0 + 2) (a2, .inl (cI, n, .inl r.2.1))).set (i0 + 3) (a3, .inl (cJ, n, .inr (.inl r.2.2.1)))
theorem rw_in_set {ws : va_W} {i0 h a1 a2 a3 n : Nat} {cI cJ : ClassId} {r : Rw} (r' : Rw) (q : rw_in ws i0 h a1 a2 a3 n cI cJ r) : rw_in (rw_set ws i0 h a1 a2 a3 n cI cJ r') i0 h a1 a2 a3 n cI cJ r' := by
  obtain ⟨q0, q1, q2, q3⟩ := q
  have l3 := ls_lt q3
  refine ⟨?_, ?_, ?_, ?_⟩ <;> simp [rw_set, List.getElem?_set] <;> omega
theorem rw_set_self {ws : va_W} {i0 h a1 a2 a3 n : Nat} {cI cJ : ClassId} {r : Rw} (q : rw_in ws i0 h a1 a2 a3 n cI cJ r) : rw_set ws i0 h a1 a2 a3 n cI cJ r = ws := by
  obtain ⟨q0, q1, q2, q3⟩ := q
  rw [rw_set, ls_same q0, ls_same q1, ls_same q2, ls_same q3]
theorem rw_set_set {ws : va_W} {i0 h a1 a2 a3 n : Nat} {cI cJ : ClassId} {r r' : Rw} : rw_set (rw_set ws i0 h a1 a2 a3 n cI cJ r) i0 h a1 a2 a3 n cI cJ r' = rw_set ws i0 h a1 a2 a3 n cI cJ r' := by
  apply List.ext_getElem?
  intro j
  simp only [rw_set, List.getElem?_set, List.length_set]
  repeat' split
  all_goals first | rfl | omega
theorem rw_in_other {ws : va_W} {i0 j0 h a1 a2 a3 n h' b1 b2 b3 n' : Nat} {cI cJ : ClassId} {r r' r2 : Rw} (hd : i0 + 4 ≤ j0 ∨ j0 + 4 ≤ i0) (q : rw_in ws j0 h' b1 b2 b3 n' cI cJ r2) : rw_in (rw_set ws i0 h a1 a2 a3 n cI cJ r') j0 h' b1 b2 b3 n' cI cJ r2 := by
  obtain ⟨q0, q1, q2, q3⟩ := q
  refine ⟨?_, ?_, ?_, ?_⟩
  all_goals
    simp only [rw_set]
    rw [ls_ne (by omega), ls_ne (by omega), ls_ne (by omega), ls_ne (by omega)]
    assumption
theorem b2i_t {b : Bool} (h : b = true) : (1 : Int32) = b2i b := by rw [h]; rfl
theorem b2i_f {b : Bool} (h : b = false) : (0 : Int32) = b2i b := by rw [h]; rfl
theorem rw_has_t {n : Nat} {i : Int32} (h1 : ¬ i < 0) (h2 : ¬ nI n ≤ i) : rw_has n i = true := by
  simp only [rw_has, Bool.and_eq_true, decide_eq_true_eq]
  exact ⟨h1, Int32.not_le.mp h2⟩
theorem rw_has_f1 {n : Nat} {i : Int32} (h : i < 0) : rw_has n i = false := by simp [rw_has, h]
theorem rw_has_f2 {n : Nat} {i : Int32} (h : nI n ≤ i) : rw_has n i = false := by
  have h2 : ¬ i < nI n := Int32.not_lt.mpr h
  simp [rw_has, h2]
theorem rw_vp {n : Nat} {i : Int32} (hn : n < 2 ^ 31) (h : rw_has n i = true) : vp_in i n := by
  simp only [rw_has, Bool.and_eq_true, decide_eq_true_eq] at h
  obtain ⟨h1, h2⟩ := h
  rw [vp_in_iff]
  rw [Int32.lt_iff_toInt_lt] at h1 h2
  rw [nI_toInt hn] at h2
  rw [Int32.toInt_zero] at h1
  omega
theorem rw_cnt_le (n : Nat) (sz : Int32) : rw_cnt n sz ≤ n := Nat.min_le_right _ _
theorem i32_clampT {x : Int32} : (x.toNatClampNeg : Int) = max x.toInt 0 := by
  have h : x.toNatClampNeg = x.toInt.toNat := rfl
  rw [h]
  omega
theorem rw_c1 {n j : Nat} {sz : Int32} (hn : n < 2 ^ 31) (hj : j ≤ rw_cnt n sz) (h : sz ≤ nI j) : rw_cnt n sz ≤ j := by
  have h1 := rw_cnt_le n sz
  rw [Int32.le_iff_toInt_le, nI_toInt (by omega)] at h
  have h2 := i32_clampT (x := sz)
  simp only [rw_cnt] at *
  omega
theorem rw_c2 {n j : Nat} {sz : Int32} (hn : n < 2 ^ 31) (hj : j ≤ rw_cnt n sz) (h : nI n ≤ nI j) : rw_cnt n sz ≤ j := by
  have h1 := rw_cnt_le n sz
  rw [nI_leI hn (by omega)] at h
  omega
theorem rw_c3 {n j : Nat} {sz : Int32} (hn : n < 2 ^ 31) (hj : j ≤ rw_cnt n sz) (h : ¬ sz ≤ nI j) (h' : ¬ nI n ≤ nI j) : j < rw_cnt n sz := by
  have h1 := rw_cnt_le n sz
  rw [Int32.le_iff_toInt_le, nI_toInt (by omega)] at h
  rw [nI_leI hn (by omega)] at h'
  have h2 := i32_clampT (x := sz)
  simp only [rw_cnt] at *
  omega
theorem rw_find_z {f : Nat → Int32} {mk F : Int32} {c j : Nat} (hf : rw_find f mk (c - j) j = F) (h : c ≤ j) : (-1 : Int32) = F := by
  rw [← hf, Nat.sub_eq_zero_of_le h]; rfl
theorem rw_find_y {f : Nat → Int32} {mk F : Int32} {c j : Nat} (hf : rw_find f mk (c - j) j = F) (h : j < c) (e : f j = mk) : nI j = F := by
  obtain ⟨d, hd⟩ : ∃ d, c - j = d + 1 := ⟨c - j - 1, by omega⟩
  rw [hd] at hf
  rw [← hf]
  show nI j = if f j = mk then nI j else _
  rw [if_pos e]
theorem rw_find_n {f : Nat → Int32} {mk F : Int32} {c j : Nat} (hf : rw_find f mk (c - j) j = F) (h : j < c) (e : ¬ f j = mk) : rw_find f mk (c - (j + 1)) (j + 1) = F := by
  obtain ⟨d, hd⟩ : ∃ d, c - j = d + 1 := ⟨c - j - 1, by omega⟩
  rw [hd] at hf
  rw [← hf, show c - (j + 1) = d by omega]
  show _ = if f j = mk then nI j else _
  rw [if_neg e]
section RS
variable {ws : va_W} {i0 h a1 a2 a3 n : Nat} {cI cJ : ClassId} {r : Rw}
theorem rw_set_0 (q : rw_in ws i0 h a1 a2 a3 n cI cJ r) (k : Int32) : ws.set i0 (h, .inr (0, [.ref a1, .ref a2, .ref a3, .int k])) = rw_set ws i0 h a1 a2 a3 n cI cJ (rw_size r k) := by
  obtain ⟨q0, q1, q2, q3⟩ := q
  show _ = (((ws.set i0 (h, .inr (0, [.ref a1, .ref a2, .ref a3, .int k]))).set (i0 + 1) (a1, .inl (cI, n, .inl r.1))).set (i0 + 2) (a2, .inl (cI, n, .inl r.2.1))).set (i0 + 3) (a3, .inl (cJ, n, .inr (.inl r.2.2.1)))
  rw [ls_same (i := i0 + 1) (by rw [ls_ne (by omega)]; exact q1), ls_same (i := i0 + 2) (by rw [ls_ne (by omega)]; exact q2), ls_same (i := i0 + 3) (by rw [ls_ne (by omega)]; exact q3)]
theorem rw_set_1 (q : rw_in ws i0 h a1 a2 a3 n cI cJ r) (f : Nat → Int32) : ws.set (i0 + 1) (a1, .inl (cI, n, .inl f)) = rw_set ws i0 h a1 a2 a3 n cI cJ (f, r.2) := by
  obtain ⟨q0, q1, q2, q3⟩ := q
  show _ = (((ws.set i0 (h, .inr (0, [.ref a1, .ref a2, .ref a3, .int r.2.2.2]))).set (i0 + 1) (a1, .inl (cI, n, .inl f))).set (i0 + 2) (a2, .inl (cI, n, .inl r.2.1))).set (i0 + 3) (a3, .inl (cJ, n, .inr (.inl r.2.2.1)))
  rw [ls_same (i := i0) q0, ls_same (i := i0 + 2) (by rw [ls_ne (by omega)]; exact q2), ls_same (i := i0 + 3) (by rw [ls_ne (by omega)]; exact q3)]
theorem rw_set_2 (q : rw_in ws i0 h a1 a2 a3 n cI cJ r) (f : Nat → Int32) : ws.set (i0 + 2) (a2, .inl (cI, n, .inl f)) = rw_set ws i0 h a1 a2 a3 n cI cJ (r.1, f, r.2.2) := by
  obtain ⟨q0, q1, q2, q3⟩ := q
  show _ = (((ws.set i0 (h, .inr (0, [.ref a1, .ref a2, .ref a3, .int r.2.2.2]))).set (i0 + 1) (a1, .inl (cI, n, .inl r.1))).set (i0 + 2) (a2, .inl (cI, n, .inl f))).set (i0 + 3) (a3, .inl (cJ, n, .inr (.inl r.2.2.1)))
  rw [ls_same (i := i0) q0, ls_same (i := i0 + 1) q1, ls_same (i := i0 + 3) (by rw [ls_ne (by omega)]; exact q3)]
theorem rw_set_3 (q : rw_in ws i0 h a1 a2 a3 n cI cJ r) (f : Nat → Int64) : ws.set (i0 + 3) (a3, .inl (cJ, n, .inr (.inl f))) = rw_set ws i0 h a1 a2 a3 n cI cJ (r.1, r.2.1, f, r.2.2.2) := by
  obtain ⟨q0, q1, q2, q3⟩ := q
  show _ = (((ws.set i0 (h, .inr (0, [.ref a1, .ref a2, .ref a3, .int r.2.2.2]))).set (i0 + 1) (a1, .inl (cI, n, .inl r.1))).set (i0 + 2) (a2, .inl (cI, n, .inl r.2.1))).set (i0 + 3) (a3, .inl (cJ, n, .inr (.inl f)))
  rw [ls_same (i := i0) q0, ls_same (i := i0 + 1) q1, ls_same (i := i0 + 2) q2]
end RS
theorem rw_put_t {n : Nat} {r : Rw} {i mk lf : Int32} {v : Int64} (h : rw_has n i = true) : rw_put n r i mk lf v = (upd r.1 i.toNatClampNeg mk, upd r.2.1 i.toNatClampNeg lf, vp_updL r.2.2.1 i.toNatClampNeg v, r.2.2.2) := by simp [rw_put, rw_up, rw_upL, h]
theorem rw_put_f {n : Nat} {r : Rw} {i mk lf : Int32} {v : Int64} (h : rw_has n i = false) : rw_put n r i mk lf v = r := by simp [rw_put, rw_up, rw_upL, h]
theorem rw_app_t {n n2 : Nat} {r r2 : Rw} {j : Int32} (h : rw_has n r.2.2.2 = true) : rw_app n r n2 r2 j = rw_size (rw_copy n r r.2.2.2 n2 r2 j) (r.2.2.2 + 1) := by rw [rw_app, if_pos h]
theorem rw_app_f {n n2 : Nat} {r r2 : Rw} {j : Int32} (h : rw_has n r.2.2.2 = false) : rw_app n r n2 r2 j = r := by rw [rw_app, if_neg (by rw [h]; decide)]
theorem rw_new_t {n : Nat} {r : Rw} {mk : Int32} (h : rw_has n r.2.2.2 = true) : rw_new n r mk = rw_size (rw_put n r r.2.2.2 mk 0 0) (r.2.2.2 + 1) := by rw [rw_new, if_pos h]
theorem rw_new_f {n : Nat} {r : Rw} {mk : Int32} (h : rw_has n r.2.2.2 = false) : rw_new n r mk = r := by rw [rw_new, if_neg (by rw [h]; decide)]
