-- CoinTreeModel: what is asked of it
def mo_tree (x : Int32) : Bool := decide (x = 0 ∨ x = 1)
def mo_node (L : Nat) (x nd : Int32) : Bool := mo_tree x && tr_nd (cs_L x L (mL L 1)) nd
theorem mo_tree_f {x : Int32} (h : mo_tree x = false) : x < 0 ∨ 1 < x := by
  have h2 : ¬ (x = 0 ∨ x = 1) := of_decide_eq_false h
  by_cases q : x < 0 ∨ 1 < x
  · exact q
  · exact absurd (tr_01 q) h2
theorem mo_tree_t {x : Int32} (h : mo_tree x = true) : ∃ T, T < 2 ∧ x = nI T := by
  rcases (of_decide_eq_true h : x = 0 ∨ x = 1) with q | q
  · exact ⟨0, by decide, q⟩
  · exact ⟨1, by decide, q⟩
theorem csL_T {L T : Nat} (hT : T < 2) : cs_L (nI T) L (mL L 1) = mL L T := by
  rcases (show T = 0 ∨ T = 1 by omega) with rfl | rfl
  · rw [mL_a rfl]; exact cs_L_0
  · exact cs_L_1
theorem mo_nd_t {D : Nat} {x : Int32} (h1 : ¬ x < 1) (h2 : ¬ nI (2 * 2 ^ D) ≤ x) : tr_nd D x = true := tr_nd_t h1 (by rw [show (2 : Int32) = nI 2 from rfl, pk_mul]; exact h2)
theorem mo_nd_f {D : Nat} {x : Int32} (h : nI (2 * 2 ^ D) ≤ x) : tr_nd D x = false := tr_nd_f2 (by rw [show (2 : Int32) = nI 2 from rfl, pk_mul]; exact h)
theorem mo_node_0 {L : Nat} {x nd : Int32} (h : mo_tree x = false) : mo_node L x nd = false := by unfold mo_node; rw [h]; rfl
theorem mo_node_1 {L T : Nat} {nd : Int32} (hT : T < 2) (h : tr_nd (mL L T) nd = false) : mo_node L (nI T) nd = false := by unfold mo_node; rw [csL_T hT, h, Bool.and_false]
theorem mo_tree_T {T : Nat} (hT : T < 2) : mo_tree (nI T) = true := by
  rcases (show T = 0 ∨ T = 1 by omega) with rfl | rfl <;> rfl
theorem mo_node_2 {L T : Nat} {nd : Int32} (hT : T < 2) (h : tr_nd (mL L T) nd = true) : mo_node L (nI T) nd = true := by unfold mo_node; rw [csL_T hT, h, mo_tree_T hT]; rfl
theorem mo_node_f {L : Nat} {x nd : Int32} (h : mo_node L x nd = false) : (x < 0 ∨ 1 < x) ∨ tr_nd (cs_L x L (mL L 1)) nd = false := by
  unfold mo_node at h
  cases h1 : mo_tree x with
  | false => exact Or.inl (mo_tree_f h1)
  | true => rw [h1] at h; exact Or.inr h
theorem mo_node_t {L S C : Nat} {x nd : Int32} (ok : mk_ok L S C) (h : mo_node L x nd = true) : ∃ T n, T < 2 ∧ x = nI T ∧ 1 ≤ n ∧ n < 2 * 2 ^ mL L T ∧ nd = nI n := by
  unfold mo_node at h
  rw [Bool.and_eq_true] at h
  obtain ⟨T, hT, rfl⟩ := mo_tree_t h.1
  rw [csL_T hT] at h
  obtain ⟨n, h1, h2, e⟩ := nd_in (mL_le ok.1 ok.2.1).2 h.2
  exact ⟨T, n, hT, rfl, h1, h2, e⟩
def aQi (D : va_G) (cl : List vw_C) (f : Mz → va_W) (ret : Int32 → Mz → Prop) (A : Nat → Prop) : Array Value → State → Outcome → State → Prop := va_Qi ret (fun u t => va_P D cl (f u) t.heap ∧ va_D A (f u)) A
theorem aQi_end {D : va_G} {cl : List vw_C} {a : Array Value} {s t : State} {H : Heap} {locs : List Loc} {A : Nat → Prop} {f : Mz → va_W} {ret : Int32 → Mz → Prop} {ws : va_W} {v : Int32} (u : Mz) (h : ret v u) (e : ws = f u) (hP : va_P D cl ws H) (hD : va_D A ws) (hS : va_S A s.heap H locs) (ht : t.heap = H) : aQi D cl f ret A a s (.returned (some (.int v))) t := by
  subst e
  exact ⟨⟨v, u, rfl, h, by rw [ht]; exact hP, hD⟩, hS.F ht⟩
def md_near (x lo hi : Int32) : Int32 := if x < lo then lo else if hi < x then hi else x
theorem md_1 {x lo hi : Int32} (h : ¬ lo ≤ x) : md_near x lo hi = lo := if_pos (Int32.not_le.mp h)
theorem md_1l {x lo hi : Int32} (h : x < lo) : md_near x lo hi = lo := if_pos h
theorem md_2 {x lo hi : Int32} (h1 : lo ≤ x) (h : ¬ x ≤ hi) : md_near x lo hi = hi := (if_neg (Int32.not_lt.mpr h1)).trans (if_pos (Int32.not_le.mp h))
theorem md_2l {x lo hi : Int32} (h1 : ¬ x < lo) (h : ¬ x ≤ hi) : md_near x lo hi = hi := (if_neg h1).trans (if_pos (Int32.not_le.mp h))
theorem md_3 {x lo hi : Int32} (h1 : lo ≤ x) (h : x ≤ hi) : md_near x lo hi = x := (if_neg (Int32.not_lt.mpr h1)).trans (if_neg (Int32.not_lt.mpr h))
theorem md_3l {x lo hi : Int32} (h1 : ¬ x < lo) (h : x ≤ hi) : md_near x lo hi = x := (if_neg h1).trans (if_neg (Int32.not_lt.mpr h))
/-- both ways to the nearest number -/
theorem near_both {x : Int32} {lo hi : Nat} (hl : lo ≤ hi) (hh : hi < 2 ^ 31) : ∃ k, lo ≤ k ∧ k ≤ hi ∧ ct_near x (nI lo) (nI hi) = nI k ∧ md_near x (nI lo) (nI hi) = nI k := by
  have e1 : (nI lo).toInt = lo := nI_toInt (by omega)
  have e2 : (nI hi).toInt = hi := nI_toInt hh
  unfold ct_near md_near
  by_cases h1 : x < nI lo
  · have h3 : x < nI hi := by
      rw [Int32.lt_iff_toInt_lt] at h1 ⊢
      omega
    refine ⟨lo, Nat.le_refl _, hl, ?_, if_pos h1⟩
    rw [if_pos h3, if_neg (Int32.not_lt.mpr (Int32.le_of_lt h1))]
  · rw [if_neg h1]
    by_cases h2 : nI hi < x
    · have h3 : ¬ x < nI hi := fun q => by
        rw [Int32.lt_iff_toInt_lt] at h2 q
        omega
      refine ⟨hi, hl, Nat.le_refl _, ?_, if_pos h2⟩
      rw [if_neg h3]
      by_cases h4 : nI lo < nI hi
      · rw [if_pos h4]
      · rw [if_neg h4]
        rw [nI_ltI (by omega) hh] at h4
        rw [show lo = hi by omega]
    · rw [if_neg h2]
      have hx0 : ¬ x < 0 := fun q => by
        rw [Int32.lt_iff_toInt_lt, show (0 : Int32).toInt = 0 from rfl] at q
        rw [Int32.lt_iff_toInt_lt] at h1
        omega
      obtain ⟨k, hk, rfl⟩ := nI_of hx0
      rw [nI_ltI hk (by omega)] at h1
      rw [nI_ltI hh hk] at h2
      refine ⟨k, by omega, by omega, ?_, rfl⟩
      by_cases h3 : k < hi
      · rw [if_pos ((nI_ltI hk hh).mpr h3)]
        by_cases h4 : lo < k
        · rw [if_pos ((nI_ltI (by omega) hk).mpr h4)]
        · rw [if_neg (fun q => h4 ((nI_ltI (by omega) hk).mp q)), show lo = k by omega]
      · rw [if_neg (fun q => h3 ((nI_ltI hk hh).mp q)), show hi = k by omega]
        by_cases h4 : lo < k
        · rw [if_pos ((nI_ltI (by omega) hk).mpr h4)]
        · rw [if_neg (fun q => h4 ((nI_ltI (by omega) hk).mp q)), show lo = k by omega]
def ado (x : Nat) (u : Nat → Nat) : Nat → Nat := fun k => if k = 0 then x else u k
theorem ado_self {u : Nat → Nat} : ado (u 0) u = u := by
  funext k
  unfold ado
  split
  · rename_i h; rw [h]
  · rfl
def mz_v (L : Nat) : Mv := mv_mk (cp_ 512 (fun _ => 0) (fun _ => -1)) (fun _ => 0) (fun _ => 0) (fun _ => 0) (fun _ => 0) (fun _ => 0) (fun _ => 0) (fun _ => 0) (cp_ 16 (fun _ => 0) (fun m => nI (m % 2 ^ mL L 1)))
def mz_o : Mv := mv_mk (fun _ => 0) (fun _ => 0) (fun _ => 0) (fun _ => 0) (fun _ => 0) (fun _ => 0) (fun _ => 0) (fun _ => 0) (fun _ => 0)
