def cs_t (tr : Int32) (z : Cs) : Ts := if tr = 0 then cs_t0 z else cs_t1 z
def cs_L (tr : Int32) (L M : Nat) : Nat := if tr = 0 then L else M
theorem cs_t_0 {z : Cs} : cs_t 0 z = cs_t0 z := if_pos rfl
theorem cs_t_1 {z : Cs} : cs_t 1 z = cs_t1 z := if_neg (by decide)
theorem cs_L_0 {L M : Nat} : cs_L 0 L M = L := if_pos rfl
theorem cs_L_1 {L M : Nat} : cs_L 1 L M = M := if_neg (by decide)
theorem tr_01 {x : Int32} (h : ¬ (x < 0 ∨ 1 < x)) : x = 0 ∨ x = 1 := by
  have h1 : ¬ x < 0 := fun q => h (Or.inl q)
  have h2 : ¬ 1 < x := fun q => h (Or.inr q)
  rw [Int32.lt_iff_toInt_lt] at h1 h2
  rw [show (0 : Int32).toInt = 0 from rfl] at h1
  rw [show (1 : Int32).toInt = 1 from rfl] at h2
  rcases (show x.toInt = 0 ∨ x.toInt = 1 by omega) with q | q
  · exact Or.inl (Int32.toInt_inj.mp q)
  · exact Or.inr (Int32.toInt_inj.mp q)
def ct_stash (C : Nat) (t : Ts) (k : Int32) : Int32 := if (ts_stash t).2.2.2 ≤ k then -1 else rw_at C (ts_stash t).1 k - 1
def ct_seal (key : Int64) (tr nd sl wd : Int32) (cnt : Int32) : Int64 := ct_mix (key + 1000003 * ((((tr * 64 + nd) * 4 + sl) * 4 + wd).toInt64) + (-7046029254386353131) * cnt.toInt64)
theorem nd_tf {L : Nat} {x : Int32} (h : b2i (tr_nd L x) = 0) : tr_nd L x = false := b2i_0.mp h
