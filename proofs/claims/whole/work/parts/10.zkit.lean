-- my own rows: contracts whose heap stays as it is (z..), contracts over a world (m..)
section ZK
variable {p : Program} {l : Launch} {e : Env} {R : Room} {s : State} {m : MethodId} {args : Array Value} {below : List Frame} {meth : Method} {c : Code} {H : Heap} {locs : List Loc} {cells slots : Nat} {Q : State → Prop}
variable {pc : Nat} {ls : Array Slot} {rest st0 : List Value} {a : Array Value} {A0 : Nat → Prop} {H0 : Heap} {D : va_G} {cl : List vw_C} {tys : List (ClassId × FieldType)}
/-- the start of a method that leaves the heap as it is -/
def zP (D : va_G) (cl : List vw_C) (tys : List (ClassId × FieldType)) (av : List Value) (H : Heap) : Array Value → State → Prop := va_Pc av (fun U => U.heap = H ∧ va_K D cl tys U)
theorem zP_blind {av : List Value} : FrameBlind (zP D cl tys av H) := fun a U g mk q => by
  obtain ⟨q0, q1, qK⟩ := q
  exact ⟨q0, q1, va_K.moved (u := U) (U := U.calling g mk a) (Vm.Alike.refl U.vm) qK⟩
theorem zP_pre {av : List Value} (hK : va_K D cl tys s) : ∀ U : State, U.heap = H → s.WarmedH U.vm → zP D cl tys av H av.toArray U := fun _ hU hW => ⟨rfl, hU, va_K.moved hW.alike hK⟩
def zQi (H : Heap) (r : Int32) : Array Value → State → Outcome → State → Prop := va_Qi (fun x (_ : Unit) => x = r) (fun _ t => t.heap = H) (fun _ => False)
def zQl (H : Heap) (r : Int64) : Array Value → State → Outcome → State → Prop := va_Ql (fun x (_ : Unit) => x = r) (fun _ t => t.heap = H) (fun _ => False)
theorem zQi_end {v r : Int32} {t : State} (e : v = r) (hs : s.heap = H) (ht : t.heap = H) : zQi H r a s (.returned (some (.int v))) t := ⟨⟨v, (), rfl, e, ht⟩, by rw [hs, ht]; exact Nat.le_refl _, fun q _ _ => by rw [hs, ht]⟩
theorem zQl_end {v r : Int64} {t : State} (e : v = r) (hs : s.heap = H) (ht : t.heap = H) : zQl H r a s (.returned (some (.long v))) t := ⟨⟨v, (), rfl, e, ht⟩, by rw [hs, ht]; exact Nat.le_refl _, fun q _ _ => by rw [hs, ht]⟩
theorem zc_i {r : Int32} (hr : va_Run p l e R s m args below meth c H locs cells slots 0 0 (F0 m pc ls st0) rest (zQi H r a) (fun _ => False)) (hS : va_S A0 H0 H locs)
    (kk : ∀ locs1 : List Loc, va_S A0 H0 H locs1 → W p l e R s m args below meth c H locs1 cells slots Q (F0 m (pc + 3) ls (.int r :: rest))) : W p l e R s m args below meth c H locs cells slots Q (F0 m pc ls st0) := by
  refine va_calli hr hS (fun q _ h => h.elim) (fun q h => h.elim) (fun r1 u t H1 locs1 ht _ hp hb _ _ hS1 => ?_)
  subst hp
  have e1 : H1 = H := ht.symm.trans hb
  subst e1
  exact kk locs1 hS1
theorem zc_l {r : Int64} (hr : va_Run p l e R s m args below meth c H locs cells slots 0 0 (F0 m pc ls st0) rest (zQl H r a) (fun _ => False)) (hS : va_S A0 H0 H locs)
    (kk : ∀ locs1 : List Loc, va_S A0 H0 H locs1 → W p l e R s m args below meth c H locs1 cells slots Q (F0 m (pc + 3) ls (.long r :: rest))) : W p l e R s m args below meth c H locs cells slots Q (F0 m pc ls st0) := by
  refine va_calll hr hS (fun q _ h => h.elim) (fun q h => h.elim) (fun r1 u t H1 locs1 ht _ hp hb _ _ hS1 => ?_)
  subst hp
  have e1 : H1 = H := ht.symm.trans hb
  subst e1
  exact kk locs1 hS1
/-- the start of a method that writes in its world -/
def mP (D : va_G) (cl : List vw_C) (tys : List (ClassId × FieldType)) (av : List Value) (ws : va_W) (A : Nat → Prop) : Array Value → State → Prop := va_Pc av (fun U => va_P D cl ws U.heap ∧ va_K D cl tys U ∧ va_D A ws)
theorem mP_blind {av : List Value} {ws : va_W} {A : Nat → Prop} : FrameBlind (mP D cl tys av ws A) := fun a U g mk q => by
  obtain ⟨q0, q1, qK, qD⟩ := q
  exact ⟨q0, q1, va_K.moved (u := U) (U := U.calling g mk a) (Vm.Alike.refl U.vm) qK, qD⟩
theorem mP_pre {av : List Value} {ws : va_W} {A : Nat → Prop} (hK : va_K D cl tys s) (hP : va_P D cl ws H) (hD : va_D A ws) : ∀ U : State, U.heap = H → s.WarmedH U.vm → mP D cl tys av ws A av.toArray U := fun _ hU hW => ⟨rfl, by rw [hU]; exact hP, va_K.moved hW.alike hK, hD⟩
def mQv (D : va_G) (cl : List vw_C) (ws : va_W) (A : Nat → Prop) : Array Value → State → Outcome → State → Prop := va_Qv (fun (_ : Unit) => True) (fun _ t => va_P D cl ws t.heap ∧ va_D A ws) A
def mQi (D : va_G) (cl : List vw_C) (r : Int32) (ws : va_W) (A : Nat → Prop) : Array Value → State → Outcome → State → Prop := va_Qi (fun x (_ : Unit) => x = r) (fun _ t => va_P D cl ws t.heap ∧ va_D A ws) A
theorem mQv_end {ws ws' : va_W} {A : Nat → Prop} {t : State} (e : ws = ws') (hP : va_P D cl ws H) (hD : va_D A ws) (hS : va_S A s.heap H locs) (ht : t.heap = H) : mQv D cl ws' A a s (.returned none) t := by
  subst e
  exact ⟨⟨(), rfl, trivial, by rw [ht]; exact hP, hD⟩, hS.F ht⟩
theorem mQi_end {ws ws' : va_W} {A : Nat → Prop} {v r : Int32} {t : State} (ev : v = r) (e : ws = ws') (hP : va_P D cl ws H) (hD : va_D A ws) (hS : va_S A s.heap H locs) (ht : t.heap = H) : mQi D cl r ws' A a s (.returned (some (.int v))) t := by
  subst e
  exact ⟨⟨v, (), rfl, ev, by rw [ht]; exact hP, hD⟩, hS.F ht⟩
/-- behind a call that has the same world and the same A as its caller -/
theorem mc_v {ws : va_W} {A : Nat → Prop} (hr : va_Run p l e R s m args below meth c H locs cells slots 0 0 (F0 m pc ls st0) rest (mQv D cl ws A a) A) (hS : va_S A H0 H locs)
    (kk : ∀ (H1 : Heap) (locs1 : List Loc), va_P D cl ws H1 → va_D A ws → va_S A H0 H1 locs1 → W p l e R s m args below meth c H1 locs1 cells slots Q (F0 m (pc + 3) ls rest)) : W p l e R s m args below meth c H locs cells slots Q (F0 m pc ls st0) := by
  refine va_callv hr hS (fun q _ h => h) (fun q h => h) (fun u t H1 locs1 ht _ _ hb _ _ hS1 => ?_)
  exact kk H1 locs1 (by rw [← ht]; exact hb.1) hb.2 hS1
theorem mc_i {ws : va_W} {A : Nat → Prop} {r : Int32} (hr : va_Run p l e R s m args below meth c H locs cells slots 0 0 (F0 m pc ls st0) rest (mQi D cl r ws A a) A) (hS : va_S A H0 H locs)
    (kk : ∀ (H1 : Heap) (locs1 : List Loc), va_P D cl ws H1 → va_D A ws → va_S A H0 H1 locs1 → W p l e R s m args below meth c H1 locs1 cells slots Q (F0 m (pc + 3) ls (.int r :: rest))) : W p l e R s m args below meth c H locs cells slots Q (F0 m pc ls st0) := by
  refine va_calli hr hS (fun q _ h => h) (fun q h => h) (fun r1 u t H1 locs1 ht _ hp hb _ _ hS1 => ?_)
  subst hp
  exact kk H1 locs1 (by rw [← ht]; exact hb.1) hb.2 hS1
theorem W.mono {Q' : State → Prop} {g : JFrame} (h : ∀ t, Q t → Q' t) (k : W p l e R s m args below meth c H locs cells slots Q g) : W p l e R s m args below meth c H locs cells slots Q' g := fun T hT X => by
  obtain ⟨t, a, b⟩ := k T hT X
  exact ⟨t, a, h t b⟩
/-- all of a method's fixed things at once -/
def zAt (p : Program) (s : State) (m : MethodId) (args : Array Value) (meth : Method) (c : Code) (own : String) (cc : ByteArray) (nL : Nat) (ret : Option FieldType) : Prop :=
  p.tables.exec = Jvm.exec ∧ c.code = cc ∧ meth.sig.returnType = ret ∧ c.maxLocals = nL ∧ s.vm.findClass own = some m.cls ∧ (∀ w ∈ bw, w.before args s = true) ∧ meth.locks = false
/-- a contract out of a walk of the body -/
theorem Met.ofZ {y : MethodName} {rm : Room} {Pc : Array Value → State → Prop} {Qc : Array Value → State → Outcome → State → Prop} {mc ms : Nat} {free : Addr → Prop} {cc : ByteArray} {maxL : Nat} {ret : Option FieldType} {own : String} (hy : plainName y.cls = true) (ho : y.cls = own) (av : List Value) (hav : (lg_sl av).length ≤ maxL)
    (hav2 : ∀ (v : Array Value) (U : State), Pc v U → v = av.toArray)
    (body : ∀ (p : Program) (e : Env) (s : State) (m : MethodId) (below : List Frame) (meth : Method) (c : Code) (ls : Array Slot), zAt p s m av.toArray meth c own cc maxL ret → Pc av.toArray s → lv_has ls maxL (lv_args 0 av) →
      W p l e rm s m av.toArray below meth c s.heap [] 0 0 (MQ below Qc av.toArray s mc ms free) (F0 m 0 ls [])) : Met l y (Cond.code y cc maxL ret :: bw) rm Pc Qc mc ms free := by
  refine Met.ofW (cc := cc) (maxL := maxL) (ret := ret) hy rfl ?_
  intro p e s m args below meth c s₁ B hml hv
  have h0 := hav2 _ _ hv
  subst h0
  rw [lg_entry_eq]
  have hT := atoms_spec (ws := Cond.code y cc maxL ret :: bw) B.pre
  exact body p e s m below meth c _ ⟨B.exec, B.bytes, B.returns, hml, by rw [← ho]; exact findClass_of_methodNamed B.named, fun w h => hT w (.tail _ h), B.notSynchronized⟩ hv (lv_entry av hav)
end ZK
def b2i (b : Bool) : Int32 := if b = true then 1 else 0
theorem b2i_0 {b : Bool} : b2i b = 0 ↔ b = false := by cases b <;> decide
theorem b2i_n {b : Bool} : ¬ b2i b = 0 ↔ b = true := by cases b <;> decide
theorem b2i_nar {b : Bool} : narrow .boolean (.int (b2i b)) = .int (b2i b) := by cases b <;> rfl
theorem nar_0 : narrow .boolean (.int 0) = .int 0 := rfl
theorem nar_1 : narrow .boolean (.int 1) = .int 1 := rfl
