-- the law's world: the class's cells, the model's, the array of answers
def lw_w (cI cJ : ClassId) (x ml : Nat) (a0 a1 : Nat → Nat) (L S C : Nat) (key : Int64) (z : Cs) (ad : Nat → Nat) (u : Mz) (q : Nat) (f : Nat → Int64) : va_W := cw_ cI cJ x ml a0 a1 L (mL L 1) S C key z ++ (mzw cI cJ ad L S C key u ++ [(q, .inl (cJ, 1, .inr (.inl f)))])
abbrev lwC : List Nat := [0, 1, 2, 3, 4, 5, 6, 7, 8, 9, 10, 11, 12, 13, 14, 15, 16, 17, 18, 19, 20, 21, 22, 23, 24, 25, 26, 27, 28, 29, 30, 31, 32, 33, 34, 35, 56]
abbrev lwM : List Nat := [36, 37, 38, 39, 40, 41, 42, 43, 44, 45, 46, 47, 48, 49, 50, 51, 52, 53, 54, 55]
section LWW
variable {cI cJ : ClassId} {x ml q : Nat} {a0 a1 ad : Nat → Nat} {L S C : Nat} {key : Int64} {z : Cs} {u : Mz} {f : Nat → Int64} {D : va_G} {cl : List vw_C} {H : Heap} {A : Nat → Prop}
theorem lw_hC : lwC.map (fun i => (lw_w cI cJ x ml a0 a1 L S C key z ad u q f)[i]?) = (cw_ cI cJ x ml a0 a1 L (mL L 1) S C key z ++ [(q, .inl (cJ, 1, .inr (.inl f)))] : va_W).map some := rfl
theorem lw_hM : lwM.map (fun i => (lw_w cI cJ x ml a0 a1 L S C key z ad u q f)[i]?) = (mzw cI cJ ad L S C key u).map some := rfl
theorem lw_nC : va_nd lwC = true := by decide
theorem lw_nM : va_nd lwM = true := by decide
theorem lw_dC : ∀ i ∈ lwC, i ∉ lwM := by decide
theorem lw_dM : ∀ i ∈ lwM, i ∉ lwC := by decide
theorem lw_pC (h : va_P D cl (lw_w cI cJ x ml a0 a1 L S C key z ad u q f) H) : va_P D cl (cw_ cI cJ x ml a0 a1 L (mL L 1) S C key z ++ [(q, .inl (cJ, 1, .inr (.inl f)))]) H := h.sub lwC rfl
theorem lw_pM (h : va_P D cl (lw_w cI cJ x ml a0 a1 L S C key z ad u q f) H) : va_P D cl (mzw cI cJ ad L S C key u) H := h.sub lwM rfl
theorem lw_eC (h : va_D A (lw_w cI cJ x ml a0 a1 L S C key z ad u q f)) : va_D A (cw_ cI cJ x ml a0 a1 L (mL L 1) S C key z ++ [(q, .inl (cJ, 1, .inr (.inl f)))]) := h.sub lwC (by decide) rfl
theorem lw_eM (h : va_D A (lw_w cI cJ x ml a0 a1 L S C key z ad u q f)) : va_D A (mzw cI cJ ad L S C key u) := h.sub lwM (by decide) rfl
theorem lw_P1 (h : va_P D cl (mzw cI cJ ad L S C key u ++ (cw_ cI cJ x ml a0 a1 L (mL L 1) S C key z ++ [(q, .inl (cJ, 1, .inr (.inl f)))])) H) : va_P D cl (lw_w cI cJ x ml a0 a1 L S C key z ad u q f) H := h.sub [20, 21, 22, 23, 24, 25, 26, 27, 28, 29, 30, 31, 32, 33, 34, 35, 36, 37, 38, 39, 40, 41, 42, 43, 44, 45, 46, 47, 48, 49, 50, 51, 52, 53, 54, 55, 0, 1, 2, 3, 4, 5, 6, 7, 8, 9, 10, 11, 12, 13, 14, 15, 16, 17, 18, 19, 56] rfl
theorem lw_D1 (h : va_D A (mzw cI cJ ad L S C key u ++ (cw_ cI cJ x ml a0 a1 L (mL L 1) S C key z ++ [(q, .inl (cJ, 1, .inr (.inl f)))]))) : va_D A (lw_w cI cJ x ml a0 a1 L S C key z ad u q f) := h.sub [20, 21, 22, 23, 24, 25, 26, 27, 28, 29, 30, 31, 32, 33, 34, 35, 36, 37, 38, 39, 40, 41, 42, 43, 44, 45, 46, 47, 48, 49, 50, 51, 52, 53, 54, 55, 0, 1, 2, 3, 4, 5, 6, 7, 8, 9, 10, 11, 12, 13, 14, 15, 16, 17, 18, 19, 56] (by decide) rfl
theorem lw_P2 (h : va_P D cl ((cw_ cI cJ x ml a0 a1 L (mL L 1) S C key z ++ [(q, .inl (cJ, 1, .inr (.inl f)))]) ++ mzw cI cJ ad L S C key u) H) : va_P D cl (lw_w cI cJ x ml a0 a1 L S C key z ad u q f) H := h.sub [0, 1, 2, 3, 4, 5, 6, 7, 8, 9, 10, 11, 12, 13, 14, 15, 16, 17, 18, 19, 20, 21, 22, 23, 24, 25, 26, 27, 28, 29, 30, 31, 32, 33, 34, 35, 37, 38, 39, 40, 41, 42, 43, 44, 45, 46, 47, 48, 49, 50, 51, 52, 53, 54, 55, 56, 36] rfl
theorem lw_D2 (h : va_D A ((cw_ cI cJ x ml a0 a1 L (mL L 1) S C key z ++ [(q, .inl (cJ, 1, .inr (.inl f)))]) ++ mzw cI cJ ad L S C key u)) : va_D A (lw_w cI cJ x ml a0 a1 L S C key z ad u q f) := h.sub [0, 1, 2, 3, 4, 5, 6, 7, 8, 9, 10, 11, 12, 13, 14, 15, 16, 17, 18, 19, 20, 21, 22, 23, 24, 25, 26, 27, 28, 29, 30, 31, 32, 33, 34, 35, 37, 38, 39, 40, 41, 42, 43, 44, 45, 46, 47, 48, 49, 50, 51, 52, 53, 54, 55, 56, 36] (by decide) rfl
end LWW

/-- what a call leaves: the two answers agree -/
def AG (L S C td : Nat) (k9 : Int32) (f' : Nat → Int64) (rb : Int64) (z' : Cs) (u' : Mz) : Prop := u'.1 = k9 ∧ (k9 = 0 → f' 0 = rb) ∧ RI L S C z' u' ∧ u'.2.2.2.1 ≤ td + 1
section AGS
variable {L S C : Nat} {z : Cs} {th most asked : Int32} {td : Nat} {tr : Nat → Int32} {v o : Mv}
theorem ag_ask {b co mc k9 : Int32} {nw : Bool} {nv rm : Int64} {f : Nat → Int64} {u : Cs × (Nat → Int64)} {um : Mz} (ok : mk_ok L S C) (h : RI L S C z (th, most, asked, td, tr, v, o))
    (hc : (k9 = 0 ∧ ∃ r, ak_ret L (mL L 1) S C z b nw nv co mc r u.1 ∧ u.2 = vp_updL f 0 r) ∨ (∃ E, ak_thr L (mL L 1) S C z b nw nv co mc E u.1 ∧ u.2 = f ∧ (E = xIO ∧ k9 = 1 ∨ E = xIA ∧ k9 = 2 ∨ E = xUO ∧ k9 = 3))) (hm : ma_ret L S C most asked td tr v o b nw nv co mc rm um) : AG L S C td k9 u.2 rm u.1 um := by
  rcases hc with ⟨hk, r, hr, hf⟩ | ⟨E, hE, hf, hk⟩
  · obtain ⟨a1, a2, a3, a4⟩ := ask_ret_ok ok h hr hm
    refine ⟨by rw [a1, hk], fun _ => ?_, a3, a4⟩
    rw [hf, ← a2]
    exact if_pos rfl
  · obtain ⟨a1, a2, a3⟩ := ask_thr_ok ok h hE hm
    rcases hk with ⟨e1, e2⟩ | ⟨e1, e2⟩ | ⟨e1, e2⟩
    · refine ⟨?_, fun q => absurd (e2.symm.trans q) (by decide), a2, a3⟩
      rcases a1 with ⟨_, q⟩ | ⟨q, _⟩ | ⟨q, _⟩
      · rw [q, e2]
      · exact absurd (e1.symm.trans q) (by decide)
      · exact absurd (e1.symm.trans q) (by decide)
    · refine ⟨?_, fun q => absurd (e2.symm.trans q) (by decide), a2, a3⟩
      rcases a1 with ⟨q, _⟩ | ⟨_, q⟩ | ⟨q, _⟩
      · exact absurd (e1.symm.trans q) (by decide)
      · rw [q, e2]
      · exact absurd (e1.symm.trans q) (by decide)
    · refine ⟨?_, fun q => absurd (e2.symm.trans q) (by decide), a2, a3⟩
      rcases a1 with ⟨q, _⟩ | ⟨q, _⟩ | ⟨_, q⟩
      · exact absurd (e1.symm.trans q) (by decide)
      · exact absurd (e1.symm.trans q) (by decide)
      · rw [q, e2]
theorem ag_x {k9 th' : Int32} {cond : Prop} {val rb : Int64} {f : Nat → Int64} {u : Cs × (Nat → Int64)} {um : Mz} (h : RI L S C z (th, most, asked, td, tr, v, o)) (hc : (k9 = 0 ∧ ¬ cond ∧ u = (z, vp_updL f 0 val)) ∨ (k9 = 1 ∧ cond ∧ u = (z, f))) (hu : um = (th', most, asked, td, tr, v, o))
    (ho : (cond ∧ th' = 1) ∨ (¬ cond ∧ th' = 0 ∧ rb = val)) : AG L S C td k9 u.2 rb u.1 um := by
  subst hu
  rcases hc with ⟨h1, h2, h3⟩ | ⟨h1, h2, h3⟩
  · rcases ho with ⟨h4, -⟩ | ⟨-, h5, h6⟩
    · exact absurd h4 h2
    · rw [h3]
      exact ⟨h5.trans h1.symm, fun _ => (show vp_updL f 0 val 0 = rb from (if_pos rfl).trans h6.symm), h, Nat.le_succ _⟩
  · rcases ho with ⟨h4, h5⟩ | ⟨h4, -⟩
    · rw [h3]
      exact ⟨h5.trans h1.symm, fun q => absurd (h1.symm.trans q) (by decide), h, Nat.le_succ _⟩
    · exact absurd h2 h4
end AGS
theorem lw_inc (k : Nat) : nI (4 + 6 * k) + 6 = nI (4 + 6 * (k + 1)) := by
  rw [show (6 : Int32) = nI 6 from rfl, nI_add]
  exact congrArg nI (by omega)
/-! THE CLAIM OUT OF ONE WALK OF THE LAW'S BODY. Your part is whole_start (and what it stands on); all else here is the same for every law, but numbers. -/
def R_law : String := "CoinTreeLaw"
def lw_P (b : Addr) (xs : List Int32) (args : Array Value) (s : State) : Prop := args = #[.ref b] ∧ s.IntsAt b xs ∧ xs.length ≤ 3076 ∧ (Jvm.Cond.and given_1 narrow_1).before args s = true
def lw_Q (_ : Array Value) (s : State) (o : Outcome) (t : State) : Prop := o = .returned (some (.int 1)) ∧ Framed s o t [] 601024 7293000
def lw_Z (below : List Frame) (a : Array Value) (s : State) : State → Prop := fun t => ∃ o, t.status = .running ∧ Ended t below o ∧ lw_Q a s o t
/-- the law's own end, with 1 on the stack, nothing written that was there before, its room as the claim has it -/
theorem lw_ret {p : Program} {l : Launch} {e : Env} {s : State} {m : MethodId} {below : List Frame} {meth : Method} {c : Code} {b : Nat} (hx : p.tables.exec = Jvm.exec) (hb : c.code = code) (hr : meth.sig.returnType = ret) (hlocks : meth.locks = false) {pc : Nat} {H : Heap} {ls : Array Slot} (hdg : decode code pc = .ok (.ireturn, 1)) : W p l e room_1 s m #[Value.ref b] below meth c H [] 601024 7293000 (lw_Z below #[Value.ref b] s) (F0 m pc ls [.int 1]) := by
  intro T hT X
  obtain ⟨fs, hret, hrun, hended, hW, hframe⟩ := X.leave (v := some (.int 1)) (hlocks := hlocks) (fun h => by rw [hr] at h; cases h)
  have hmeth' : T.vm.method? m = some meth := X.method'
  refine ⟨T.setFrames fs, ?_, .returned (some (.int 1)), hrun, hended, rfl, ⟨_, rfl⟩, hW, hframe⟩
  jvm_step X.here [X.here.top, hx, hb, hdg, hmeth', hr, ret, narrow_b1]
  (try refine ⟨rfl, ?_⟩); (try refine ⟨rfl, ?_⟩)
  first | (intro acts; rw [hret _ acts rfl rfl rfl]) | rw [hret _ _ rfl rfl rfl]
  exact Steps.refl _
/-- what holds at the law's entry: the machine, the code, the tables' words (any of lw_tbl by 'hts w (by decide +kernel)'), the script of L ints xs at the cell b, what the Statement gives of the start (any of its parts by flat_of_before) -/
def lw_At (p : Program) (s : State) (m : MethodId) (meth : Method) (c : Code) (b L : Nat) (xs : Nat → Int32) : Prop :=
  p.tables.exec = Jvm.exec ∧ c.code = code ∧ meth.sig.returnType = ret ∧ c.maxLocals = 8 ∧ s.vm.findClass R_law = some m.cls ∧ (∀ w ∈ lw_tbl, w.before #[Value.ref b] s = true) ∧ va_X b L xs s s.heap ∧ b < s.heap.size ∧ meth.locks = false ∧ (Jvm.Cond.and given_1 narrow_1).before #[Value.ref b] s = true
