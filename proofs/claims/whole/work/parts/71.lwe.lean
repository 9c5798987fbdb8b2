theorem mL_M {L : Nat} (h1 : 1 ≤ L) (h5 : L ≤ 5) : (if (1 : Int32) < nI L - 1 then nI L - 1 else 1) = nI (mL L 1) := by
  rcases (show L = 1 ∨ L = 2 ∨ L = 3 ∨ L = 4 ∨ L = 5 by omega) with rfl | rfl | rfl | rfl | rfl <;> decide
set_option maxRecDepth 100000 in
/-- what a throw needs, at the law's entry -/
theorem law_xe {p : Program} {s : State} {m : MethodId} {meth : Method} {c : Code} {b n : Nat} {xs : Nat → Int32} (C0 : lw_At p s m meth c b n xs) {A : Nat → Prop} (hA : ∀ a : Nat, a < s.heap.size → ¬ A a) : xE A s s.heap := by
  obtain ⟨hx, hb, hr, hml, hown, hts, hX, hbl, hlocks, hgv⟩ := id C0
  have hfl := flat_of_before _ hgv
  refine ⟨?_, ?_, fun w hw => ?_, fun q hq => ?_⟩
  · exact vx_Zqof (hts _ (List.mem_of_getElem? (i := 211) (by decide +kernel))) (hts _ (List.mem_of_getElem? (i := 28) (by decide +kernel))) (hfl (.isRef (.static "java/lang/Throwable" "UNASSIGNED_STACK" "[Ljava/lang/StackTraceElement;")) (by decide +kernel)) hA
  · exact vx_Zqof (hts _ (List.mem_of_getElem? (i := 213) (by decide +kernel))) (hts _ (List.mem_of_getElem? (i := 28) (by decide +kernel))) (hfl (.isRef (.static "java/lang/Throwable" "SUPPRESSED_SENTINEL" "Ljava/util/List;")) (by decide +kernel)) hA
  · simp only [xB, List.mem_cons, List.not_mem_nil, or_false] at hw
    rcases hw with rfl | rfl | rfl | rfl | rfl | rfl
    · exact va_Nw.of rfl (hts _ (List.mem_of_getElem? (i := 188) (by decide +kernel)))
    · exact va_Nw.of rfl (hts _ (List.mem_of_getElem? (i := 190) (by decide +kernel)))
    · exact va_Nw.of rfl (hts _ (List.mem_of_getElem? (i := 192) (by decide +kernel)))
    · exact va_Nw.of rfl (hts _ (List.mem_of_getElem? (i := 186) (by decide +kernel)))
    · exact va_Nw.of rfl (hts _ (List.mem_of_getElem? (i := 258) (by decide +kernel)))
    · exact va_Nw.of rfl (hts _ (List.mem_of_getElem? (i := 351) (by decide +kernel)))
  · simp only [xS, List.mem_cons, List.not_mem_nil, or_false] at hq
    rcases hq with rfl | rfl | rfl | rfl | rfl | rfl | rfl | rfl | rfl | rfl
    · exact str_of (hts _ (List.mem_of_getElem? (i := 225) (by decide +kernel)))
    · exact str_of (hts _ (List.mem_of_getElem? (i := 265) (by decide +kernel)))
    · exact str_of (hts _ (List.mem_of_getElem? (i := 358) (by decide +kernel)))
    · exact str_of (hts _ (List.mem_of_getElem? (i := 401) (by decide +kernel)))
    · exact str_of (hts _ (List.mem_of_getElem? (i := 402) (by decide +kernel)))
    · exact str_of (hts _ (List.mem_of_getElem? (i := 415) (by decide +kernel)))
    · exact str_of (hts _ (List.mem_of_getElem? (i := 416) (by decide +kernel)))
    · exact str_of (hts _ (List.mem_of_getElem? (i := 417) (by decide +kernel)))
    · exact str_of (hts _ (List.mem_of_getElem? (i := 447) (by decide +kernel)))
    · exact str_of (hts _ (List.mem_of_getElem? (i := 456) (by decide +kernel)))
theorem law_nc {p : Program} {s : State} {m : MethodId} {meth : Method} {c : Code} {b n : Nat} {xs : Nat → Int32} (C0 : lw_At p s m meth c b n xs) : xNc s := by
  obtain ⟨hx, hb, hr, hml, hown, hts, hX, hbl, hlocks, hgv⟩ := id C0
  have hfl := flat_of_before _ hgv
  exact ⟨va_Nc.of (hfl (.not (.castable xIA xIO)) (by decide +kernel)), va_Nc.of (hfl (.not (.castable xUO xIO)) (by decide +kernel)), va_Nc.of (hfl (.not (.castable xUO xIA)) (by decide +kernel))⟩
theorem law_K {s : State} {args : Array Value} (hT : ∀ w ∈ bw, w.before args s = true) : ∃ (dC : Nat → ClassId) (dI : Nat → Nat → Nat) (cI cJ : ClassId), va_K (dC, dI) kCl [(cI, .int), (cJ, .long)] s := by
  obtain ⟨c0, iS0, hKn0⟩ := u_known (C := R_RW) (T := F_RW) (N := 4) (n := 4) hT i_RW (hT _ m_76)
  obtain ⟨c1, iS1, hKn1⟩ := u_known (C := R_TL) (T := F_TL) (N := 3) (n := 3) hT i_TL (hT _ m_58)
  obtain ⟨c2, iS2, hKn2⟩ := u_known (C := R_TR) (T := F_TR) (N := 12) (n := 12) hT i_TR (hT _ m_52)
  obtain ⟨c3, iS3, hKn3⟩ := u_known (C := R_CT) (T := F_CT) (N := 8) (n := 8) hT i_CT (hT _ m_35)
  obtain ⟨c4, iS4, hKn4⟩ := u_known (C := R_CM) (T := F_CM) (N := 27) (n := 27) hT i_CM (hT _ m_458)
  obtain ⟨cI, hI⟩ := arr_of (ty := .int) (fun _ h => by cases h) (hT _ m_74)
  obtain ⟨cJ, hJ⟩ := arr_of (ty := .long) (fun _ h => by cases h) (hT _ m_97)
  refine ⟨fun k => if k = 0 then c0 else if k = 1 then c1 else if k = 2 then c2 else if k = 3 then c3 else c4, fun k => if k = 0 then iS0 else if k = 1 then iS1 else if k = 2 then iS2 else if k = 3 then iS3 else iS4, cI, cJ, fun k q hq => ?_, fun k q hq => ?_⟩
  · match k, hq with
    | 0, hq => cases hq; exact hKn0
    | 1, hq => cases hq; exact hKn1
    | 2, hq => cases hq; exact hKn2
    | 3, hq => cases hq; exact hKn3
    | 4, hq => cases hq; exact hKn4
    | k + 5, hq => simp [kCl] at hq
  · match k, hq with
    | 0, hq => cases hq; exact hI
    | 1, hq => cases hq; exact hJ
    | k + 2, hq => simp at hq
