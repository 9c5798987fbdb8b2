def ct_cnt (L M S C : Nat) (z : Cs) (k : Nat) : Int32 := match k with
  | 0 => nI (2 ^ L)
  | 1 => nI (2 ^ M)
  | 2 => nI S
  | 3 => nI C
  | 4 => (ts_stash (cs_t0 z)).2.2.2
  | 5 => (ts_stash (cs_t1 z)).2.2.2
  | 6 => cs_most z
  | 7 => cs_asked z
  | _ => nI (ts_trail (cs_t0 z)).2
theorem sw_out {x : Int32} (h : x < 0 ∨ 8 < x) : x.toInt < 0 ∨ 8 < x.toInt := by
  rcases h with h | h
  · exact Or.inl (by rw [Int32.lt_iff_toInt_lt] at h; exact h)
  · exact Or.inr (by rw [Int32.lt_iff_toInt_lt] at h; exact h)
theorem sw_in {x : Int32} (h : ¬ (x < 0 ∨ 8 < x)) : ∃ k : Nat, k < 9 ∧ x = nI k := by
  obtain ⟨k, hk, rfl⟩ := nI_of (x := x) (fun q => h (Or.inl q))
  refine ⟨k, Nat.lt_of_not_le fun q => h (Or.inr ?_), rfl⟩
  rw [show (8 : Int32) = nI 8 from rfl]
  exact nI_lt (by omega) hk
theorem wd_in {x : Int32} (h1 : ¬ x < 0) (h2 : x < 3) : ∃ k : Nat, k < 3 ∧ x = nI k := by
  obtain ⟨k, hk, rfl⟩ := nI_of h1
  rw [show (3 : Int32) = nI 3 from rfl, nI_ltI hk (by omega)] at h2
  exact ⟨k, h2, rfl⟩
