-- constructors
theorem va_ca {D : va_G} {cl : List vw_C} {tys : List (ClassId × FieldType)} {s : State} {c1 c2 : ClassId} (hK : va_K D cl tys s) {i j : Nat} (h1 : tys[i]? = some (c1, .int)) (h2 : tys[j]? = some (c2, .int)) : c1 = c2 := by
  have e1 : s.vm.findClass ("[" ++ FieldType.int.toString) = some c1 := (hK.2 i _ h1).2
  have e2 : s.vm.findClass ("[" ++ FieldType.int.toString) = some c2 := (hK.2 j _ h2).2
  exact Option.some.inj (e1.symm.trans e2)
theorem va_caL {D : va_G} {cl : List vw_C} {tys : List (ClassId × FieldType)} {s : State} {c1 c2 : ClassId} (hK : va_K D cl tys s) {i j : Nat} (h1 : tys[i]? = some (c1, .long)) (h2 : tys[j]? = some (c2, .long)) : c1 = c2 := by
  have e1 : s.vm.findClass ("[" ++ FieldType.long.toString) = some c1 := (hK.2 i _ h1).2
  have e2 : s.vm.findClass ("[" ++ FieldType.long.toString) = some c2 := (hK.2 j _ h2).2
  exact Option.some.inj (e1.symm.trans e2)
abbrev nestW : Cond := .methodLinkNest "CoinTree$Tree" 11 y_TL_init "CoinTree"
/-- the start of a constructor: the world, the heap's size -/
def iP (D : va_G) (cl : List vw_C) (tys : List (ClassId × FieldType)) (av : List Value) (ws : va_W) (sz : Nat) : Array Value → State → Prop := va_Pc av (fun U => U.heap.size = sz ∧ va_P D cl ws U.heap ∧ va_K D cl tys U ∧ va_D (fun _ => True) ws ∧ va_Nw nestW U)
theorem iP_blind {D : va_G} {cl : List vw_C} {tys : List (ClassId × FieldType)} {av : List Value} {ws : va_W} {sz : Nat} : FrameBlind (iP D cl tys av ws sz) := fun a U g mk q => by
  obtain ⟨q0, q1, q2, qK, qD, qN⟩ := q
  exact ⟨q0, q1, q2, va_K.moved (u := U) (U := U.calling g mk a) (Vm.Alike.refl U.vm) qK, qD, va_Nw.same rfl (u := U) (U := U.calling g mk a) rfl qN⟩
theorem iP_pre {D : va_G} {cl : List vw_C} {tys : List (ClassId × FieldType)} {av : List Value} {ws : va_W} {s : State} {H : Heap} {A : Nat → Prop} (hK : va_K D cl tys s) (hP : va_P D cl ws H) (hD : va_D A ws) (hN : va_Nw nestW s) : ∀ U : State, U.heap = H → s.WarmedH U.vm → iP D cl tys av ws H.size av.toArray U := fun _ hU hW => ⟨rfl, by rw [hU], by rw [hU]; exact hP, va_K.moved hW.alike hK, hD.weaken (fun _ _ _ _ => trivial), va_Nw.warmM hW hN⟩
/-- the end of a constructor: the world of some addresses u -/
def iQ (D : va_G) (cl : List vw_C) (f : (Nat → Nat) → va_W) (A : Nat → Prop) : Array Value → State → Outcome → State → Prop := va_Qv (fun (_ : Nat → Nat) => True) (fun u t => va_P D cl (f u) t.heap ∧ va_D A (f u)) A
theorem iQ_end {D : va_G} {cl : List vw_C} {f : (Nat → Nat) → va_W} {ws : va_W} {A : Nat → Prop} {a : Array Value} {s t : State} {H : Heap} {locs : List Loc} (u : Nat → Nat) (e : ws = f u) (hP : va_P D cl ws H) (hD : va_D A ws) (hS : va_S A s.heap H locs) (ht : t.heap = H) : iQ D cl f A a s (.returned none) t := by
  subst e
  exact ⟨⟨u, rfl, trivial, by rw [ht]; exact hP, hD⟩, hS.F ht⟩
theorem Met.ofI {l : Launch} {y : MethodName} {rm : Room} {Pc : Array Value → State → Prop} {Qc : Array Value → State → Outcome → State → Prop} {mc ms : Nat} {free : Addr → Prop} {cc : ByteArray} {maxL : Nat} {own : String} (hy : plainName y.cls = true) (ho : y.cls = own) (hn : y.name = "<init>") (av : List Value) (hav : (lg_sl av).length ≤ maxL)
    (hav2 : ∀ (v : Array Value) (U : State), Pc v U → v = av.toArray)
    (body : ∀ (p : Program) (e : Env) (s : State) (m : MethodId) (below : List Frame) (meth : Method) (c : Code) (ls : Array Slot), zAt p s m av.toArray meth c own cc maxL none → meth.name = "<init>" → Pc av.toArray s → lv_has ls maxL (lv_args 0 av) →
      W p l e rm s m av.toArray below meth c s.heap [] 0 0 (MQ below Qc av.toArray s mc ms free) (F0 m 0 ls [])) : Met l y (Cond.code y cc maxL none :: bw) rm Pc Qc mc ms free := by
  refine Met.ofW (cc := cc) (maxL := maxL) (ret := none) hy rfl ?_
  intro p e s m args below meth c s₁ B hml hv
  have h0 := hav2 _ _ hv
  subst h0
  rw [lg_entry_eq]
  have hT := atoms_spec (ws := Cond.code y cc maxL none :: bw) B.pre
  exact body p e s m below meth c _ ⟨B.exec, B.bytes, B.returns, hml, by rw [← ho]; exact findClass_of_methodNamed B.named, fun w h => hT w (.tail _ h), B.notSynchronized⟩ ((name_of_methodNamed B.named B.method).1.trans hn) hv (lv_entry av hav)
theorem max0_nI (n : Nat) (h : n < 2 ^ 31) : (if (0 : Int32) < nI n then nI n else 0) = nI n := by
  by_cases h0 : n = 0
  · subst h0; rfl
  · rw [if_pos]
    rw [← nI_0]
    exact nI_lt (by omega) h

def rw_z : Rw := (fun _ => 0, fun _ => 0, fun _ => 0, 0)
def ts_z : Ts := ts_mk rw_z (fun _ => 0) rw_z (fun _ => 0, 0) rw_z (fun _ => 0) 0 0
theorem tr_shl {L : Nat} (h : L ≤ 5) : (1 : Int32) <<< (nI L &&& 31) = nI (2 ^ L) := by
  rcases (show L = 0 ∨ L = 1 ∨ L = 2 ∨ L = 3 ∨ L = 4 ∨ L = 5 by omega) with rfl | rfl | rfl | rfl | rfl | rfl <;> decide +kernel
theorem tr_nNI (L S : Nat) : (2 : Int32) * nI (2 ^ L) * nI S = nI (tr_nN L S) := by rw [show (2 : Int32) = nI 2 from rfl, pk_mul, pk_mul]; rfl
theorem tr_2NI (L : Nat) : (2 : Int32) * nI (2 ^ L) = nI (2 * 2 ^ L) := by rw [show (2 : Int32) = nI 2 from rfl, pk_mul]
theorem tr_nN_le {L S C B : Nat} (h : tr_ok L S C B) : tr_nN L S ≤ 256 := by
  obtain ⟨-, h1, -, h2, -, -⟩ := h
  have h3 := tr_p2 h1
  exact Nat.mul_le_mul (show 2 * 2 ^ L ≤ 64 by omega) h2
