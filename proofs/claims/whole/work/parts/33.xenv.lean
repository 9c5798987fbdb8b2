-- what a throw of the class needs beside bw: words that the tables alone decide, two statics of Throwable, the texts
abbrev xIO : String := "java/lang/IndexOutOfBoundsException"
abbrev xIA : String := "java/lang/IllegalArgumentException"
abbrev xUO : String := "java/lang/UnsupportedOperationException"
abbrev xN : List String := ["java/lang/RuntimeException", "java/lang/Exception"]
def xB : List Cond := [.declares ⟨"java/lang/RuntimeException", "<init>", "(Ljava/lang/String;)V"⟩, .declares ⟨"java/lang/Exception", "<init>", "(Ljava/lang/String;)V"⟩, .declares ⟨"java/lang/Throwable", "<init>", "(Ljava/lang/String;)V"⟩, .castable xIO xIO, .castable xIA xIA, .castable xUO xUO]
def xS : List (Nat × String) := [(127, "no such block"), (134, "a coin is no leaf of its tree"), (163, "a tree would be full"), (171, "no such tree"), (69, "no such trace"), (81, "no such node"), (83, "no such slot"), (85, "no such word"), (106, "no such place"), (125, "no such what")]
def xE (A : Nat → Prop) (U : State) (H : Heap) : Prop := vx_Zq Bundle.tN "UNASSIGNED_STACK" Bundle.steD A U H ∧ vx_Zq Bundle.tN "SUPPRESSED_SENTINEL" Bundle.listD A U H ∧ (∀ w ∈ xB, va_Nw w U) ∧ (∀ q ∈ xS, ∃ sa, vk_R "CoinTree" q.1 q.2 sa U)
theorem xB_warm {s U : State} (hW : s.WarmedH U.vm) (h : ∀ w ∈ xB, va_Nw w s) : ∀ w ∈ xB, va_Nw w U := by
  intro w hw
  have h9 := h w hw
  simp only [xB, List.mem_cons, List.not_mem_nil, or_false] at hw
  rcases hw with rfl | rfl | rfl | rfl | rfl | rfl
  · exact va_Nw.warmD hW h9
  · exact va_Nw.warmD hW h9
  · exact va_Nw.warmD hW h9
  · exact va_Nw.warmC hW h9
  · exact va_Nw.warmC hW h9
  · exact va_Nw.warmC hW h9
theorem xE.warm {A : Nat → Prop} {s U : State} {H : Heap} (hW : s.WarmedH U.vm) (h : xE A s H) : xE A U H := ⟨vx_Zq.moved hW.alike h.1, vx_Zq.moved hW.alike h.2.1, xB_warm hW h.2.2.1, fun q hq => (h.2.2.2 q hq).imp fun _ h9 => vk_R.warm hW h9⟩
theorem xE.kept {A : Nat → Prop} {s : State} {H H1 : Heap} (h : xE A s H) (hq : ∀ a : Nat, a < H.size → ¬ A a → H1[a]? = H[a]?) : xE A s H1 := ⟨h.1.kept hq, h.2.1.kept hq, h.2.2⟩
theorem xE.narrow {A B : Nat → Prop} {s : State} {H : Heap} (h : xE A s H) (hAB : ∀ q, B q → A q) : xE B s H := ⟨h.1.narrow hAB, h.2.1.narrow hAB, h.2.2⟩
theorem xE.same {A : Nat → Prop} {u U : State} {H : Heap} (hv : U.vm = u.vm) (h : xE A u H) : xE A U H := by
  have hW : u.WarmedH U.vm := by rw [hv]; exact State.WarmedH.refl u
  exact h.warm hW
section XG
theorem xg_io1 : ∀ w ∈ (vx_atS "CoinTree" 71 xIO xN).filter goodWord, w ∈ lw_tbl := by decide +kernel
theorem xg_ia1 : ∀ w ∈ (vx_atS "CoinTree" 136 xIA xN).filter goodWord, w ∈ lw_tbl := by decide +kernel
theorem xg_uo1 : ∀ w ∈ (vx_atS "CoinTree" 165 xUO xN).filter goodWord, w ∈ lw_tbl := by decide +kernel
theorem xg_io2 : ∀ w ∈ (vx_atS "CoinTree" 71 xIO xN).filter (fun w => !goodWord w), w ∈ xB := by decide +kernel
theorem xg_ia2 : ∀ w ∈ (vx_atS "CoinTree" 136 xIA xN).filter (fun w => !goodWord w), w ∈ xB := by decide +kernel
theorem xg_uo2 : ∀ w ∈ (vx_atS "CoinTree" 165 xUO xN).filter (fun w => !goodWord w), w ∈ xB := by decide +kernel
theorem xg_io3 : ∀ w ∈ Cond.classLink "CoinTree" 67 xIO :: Cond.initialized xIO :: vx_atS "CoinTree" 71 xIO xN, vx_ot w = true := by decide +kernel
theorem xg_ia3 : ∀ w ∈ Cond.classLink "CoinTree" 132 xIA :: Cond.initialized xIA :: vx_atS "CoinTree" 136 xIA xN, vx_ot w = true := by decide +kernel
theorem xg_uo3 : ∀ w ∈ Cond.classLink "CoinTree" 161 xUO :: Cond.initialized xUO :: vx_atS "CoinTree" 165 xUO xN, vx_ot w = true := by decide +kernel
theorem xB_tabs : ∀ w ∈ xB, w.onTables = true := by decide +kernel
end XG
theorem xg_hat {args : Array Value} {s : State} {L : List Cond} (hT : ∀ w ∈ bw, w.before args s = true) (h1 : ∀ w ∈ L.filter goodWord, w ∈ lw_tbl) (h2 : ∀ w ∈ L.filter (fun w => !goodWord w), w ∈ xB) (h3 : ∀ w ∈ xB, va_Nw w s) : ∀ w ∈ L, w.before args s = true :=
  vx_hat (B := xB) (fun w hw => hT w (List.mem_filter.mpr ⟨h1 w hw, (List.mem_filter.mp hw).2⟩)) h2 (fun w hw => va_Nw.use (xB_tabs w hw) (h3 w hw))
