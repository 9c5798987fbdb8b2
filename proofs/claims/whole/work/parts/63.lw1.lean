-- the law's helpers: what they need beside bw, and how they are called
def xNc (U : State) : Prop := va_Nc xIA xIO U ∧ va_Nc xUO xIO U ∧ va_Nc xUO xIA U
theorem xNc.moved {u U : State} (h : u.vm.Alike U.vm) (q : xNc u) : xNc U := ⟨va_Nc.moved h q.1, va_Nc.moved h q.2.1, va_Nc.moved h q.2.2⟩
theorem ak_thr_E {L M S C : Nat} {z u : Cs} {b co mc : Int32} {nw : Bool} {nv : Int64} {E : String} (h : ak_thr L M S C z b nw nv co mc E u) : E = xIO ∨ E = xIA ∨ E = xUO := by
  rcases h with h | h | h
  · exact Or.inl h.1
  · exact Or.inr (Or.inl h.1)
  · exact Or.inr (Or.inr h.1)
section LK
variable {p : Program} {l : Launch} {e : Env} {R : Room} {s : State} {m : MethodId} {args : Array Value} {below : List Frame} {meth : Method} {c : Code} {H : Heap} {locs : List Loc} {cells slots mc ms : Nat} {Q : State → Prop}
variable {pc : Nat} {ls : Array Slot} {rest st0 : List Value} {a : Array Value} {A : Nat → Prop} {H0 : Heap} {D : va_G} {cl : List vw_C} {tys : List (ClassId × FieldType)}
theorem Met.ofL {y : MethodName} {rm : Room} {Pc : Array Value → State → Prop} {Qc : Array Value → State → Outcome → State → Prop} {free : Addr → Prop} {cc : ByteArray} {maxL : Nat} {ret : Option FieldType} {hh : List (Nat × Nat × Nat × Nat)} {own : String} (hy : plainName y.cls = true) (ho : y.cls = own) (av : List Value) (hav : (lg_sl av).length ≤ maxL)
    (hav2 : ∀ (v : Array Value) (U : State), Pc v U → v = av.toArray)
    (body : ∀ (p : Program) (e : Env) (s : State) (m : MethodId) (below : List Frame) (meth : Method) (c : Code) (ls : Array Slot), zAt p s m av.toArray meth c own cc maxL ret → c.exceptionTable.toList = tableOf hh → Pc av.toArray s → lv_has ls maxL (lv_args 0 av) →
      W p l e rm s m av.toArray below meth c s.heap [] 0 0 (vx_MQ below Qc (fun _ _ _ => False) av.toArray s mc ms free) (F0 m 0 ls [])) : vx_Met l y (Cond.codeWith y cc maxL ret hh :: bw) rm Pc Qc (fun _ _ _ => False) mc ms free := by
  refine vx_ofWH (cc := cc) (maxL := maxL) (ret := ret) (hh := hh) hy rfl ?_
  intro p e s m args below meth c s₁ B hml hv
  have h0 := hav2 _ _ hv
  subst h0
  rw [lg_entry_eq]
  have hT := atoms_spec (ws := Cond.codeWith y cc maxL ret hh :: bw) B.pre
  exact body p e s m below meth c _ ⟨B.exec, B.bytes, B.returns, hml, by rw [← ho]; exact findClass_of_methodNamed B.named, fun w h => hT w (.tail _ h), B.notSynchronized⟩ (vx_table (x := y) B (hT _ (.head _))) hv (lv_entry av hav)
def lP (D : va_G) (cl : List vw_C) (tys : List (ClassId × FieldType)) (av : List Value) (ws : va_W) (A : Nat → Prop) : Array Value → State → Prop := va_Pc av (fun U => va_P D cl ws U.heap ∧ va_K D cl tys U ∧ va_D A ws ∧ xE A U U.heap ∧ (∀ q, U.heap.size ≤ q → A q) ∧ xNc U)
theorem lP_blind {av : List Value} {ws : va_W} : FrameBlind (lP D cl tys av ws A) := fun a U g mk q => by
  obtain ⟨q0, q1, qK, qD, qE, qA, qN⟩ := q
  exact ⟨q0, q1, va_K.moved (u := U) (U := U.calling g mk a) (Vm.Alike.refl U.vm) qK, qD, xE.same (u := U) (U := U.calling g mk a) rfl qE, qA, xNc.moved (u := U) (U := U.calling g mk a) (Vm.Alike.refl U.vm) qN⟩
theorem lP_pre {av : List Value} {ws : va_W} (hK : va_K D cl tys s) (hP : va_P D cl ws H) (hD : va_D A ws) (xe : xE A s H) (hA : ∀ q, H.size ≤ q → A q) (hN : xNc s) : ∀ U : State, U.heap = H → s.WarmedH U.vm → lP D cl tys av ws A av.toArray U := fun _ hU hW => ⟨rfl, by rw [hU]; exact hP, va_K.moved hW.alike hK, hD, by rw [hU]; exact xe.warm hW, by rw [hU]; exact hA, xNc.moved hW.alike hN⟩
def lQi (D : va_G) (cl : List vw_C) (f : Cs × (Nat → Int64) → va_W) (ret : Int32 → Cs × (Nat → Int64) → Prop) (A : Nat → Prop) : Array Value → State → Outcome → State → Prop := va_Qi ret (fun u t => va_P D cl (f u) t.heap ∧ va_D A (f u)) A
theorem lQi_end {f : Cs × (Nat → Int64) → va_W} {ret : Int32 → Cs × (Nat → Int64) → Prop} {ws : va_W} {t : State} {v : Int32} (u : Cs × (Nat → Int64)) (h : ret v u) (e : ws = f u) (hP : va_P D cl ws H) (hD : va_D A ws) (hS : va_S A s.heap H locs) (ht : t.heap = H) : lQi D cl f ret A a s (.returned (some (.int v))) t := by
  subst e
  exact ⟨⟨v, u, rfl, h, by rw [ht]; exact hP, hD⟩, hS.F ht⟩
theorem vx_sure {Qa : State → Outcome → State → Prop} {free : Addr → Prop} {g : JFrame} (hr : vx_Run p l e R s m args below meth c H locs cells slots mc ms g rest Qa (fun _ _ _ => False) free) : va_Run p l e R s m args below meth c H locs cells slots mc ms g rest Qa free := by
  intro T hT X
  rcases hr T hT X with h | ⟨q, st₀, t, T', L, E, ce, h0, X', hL, e1, e2, hb, -⟩
  · exact h
  · exact hb.elim
/-- a call whose callee owns a part of the world; what it leaves hangs on u -/
theorem lj_i {S : Type} {post : Int32 → S → Prop} {f : S → va_W} {wc wr ws : va_W} (hr : va_Run p l e R s m args below meth c H locs cells slots mc ms (F0 m pc ls st0) rest (va_Qi post (fun u t => va_P D cl (f u) t.heap ∧ va_D (va_A wc H.size) (f u)) (va_A wc H.size) a) (va_A wc H.size)) (hS : va_S A H0 H locs) (hA : ∀ q, H0.size ≤ q → A q) (hP : va_P D cl ws H) (hD : va_D A ws) (isC isR : List Nat) (hC : isC.map (fun i => ws[i]?) = wc.map some) (hR : isR.map (fun i => ws[i]?) = wr.map some) (hn : va_nd isR = true) (hdis : ∀ i ∈ isR, i ∉ isC)
    (kk : ∀ (r : Int32) (u : S) (H1 : Heap) (locs1 : List Loc), post r u → va_P D cl (wr ++ f u) H1 → va_D A (wr ++ f u) → va_S A H0 H1 locs1 → W p l e R s m args below meth c H1 locs1 (cells + mc) (slots + ms) Q (F0 m (pc + 3) ls (.int r :: rest))) : W p l e R s m args below meth c H locs cells slots Q (F0 m pc ls st0) := by
  have hF := va_free (wc := wc) hD hS hA isC hC
  refine va_calli hr hS (fun q _ h => hF q h) hF (fun r u t H1 locs1 ht _ hp hb _ hk hS1 => ?_)
  obtain ⟨h1, h2⟩ := va_join (wr := wr) (w1 := f u) hP hD isC isR hC hR hn hdis hk hF (by rw [← ht]; exact hb.1) hb.2
  exact kk r u H1 locs1 hp h1 h2 hS1
theorem lj_l {S : Type} {post : Int64 → S → Prop} {f : S → va_W} {wc wr ws : va_W} (hr : va_Run p l e R s m args below meth c H locs cells slots mc ms (F0 m pc ls st0) rest (va_Ql post (fun u t => va_P D cl (f u) t.heap ∧ va_D (va_A wc H.size) (f u)) (va_A wc H.size) a) (va_A wc H.size)) (hS : va_S A H0 H locs) (hA : ∀ q, H0.size ≤ q → A q) (hP : va_P D cl ws H) (hD : va_D A ws) (isC isR : List Nat) (hC : isC.map (fun i => ws[i]?) = wc.map some) (hR : isR.map (fun i => ws[i]?) = wr.map some) (hn : va_nd isR = true) (hdis : ∀ i ∈ isR, i ∉ isC)
    (kk : ∀ (r : Int64) (u : S) (H1 : Heap) (locs1 : List Loc), post r u → va_P D cl (wr ++ f u) H1 → va_D A (wr ++ f u) → va_S A H0 H1 locs1 → W p l e R s m args below meth c H1 locs1 (cells + mc) (slots + ms) Q (F0 m (pc + 3) ls (.long r :: rest))) : W p l e R s m args below meth c H locs cells slots Q (F0 m pc ls st0) := by
  have hF := va_free (wc := wc) hD hS hA isC hC
  refine va_calll hr hS (fun q _ h => hF q h) hF (fun r u t H1 locs1 ht _ hp hb _ hk hS1 => ?_)
  obtain ⟨h1, h2⟩ := va_join (wr := wr) (w1 := f u) hP hD isC isR hC hR hn hdis hk hF (by rw [← ht]; exact hb.1) hb.2
  exact kk r u H1 locs1 hp h1 h2 hS1
/-- the script, for the law's cell -/
def sP (b n : Nat) (xs : Nat → Int32) (av : List Value) (H : Heap) : Array Value → State → Prop := va_Pc av (fun U => U.heap = H ∧ va_X b n xs U H ∧ b < H.size)
theorem sP_blind {b n : Nat} {xs : Nat → Int32} {av : List Value} : FrameBlind (sP b n xs av H) := fun a U g mk q => by
  obtain ⟨q0, q1, qX, qb⟩ := q
  exact ⟨q0, q1, va_X.moved (u := U) (U := U.calling g mk a) (Vm.Alike.refl U.vm) qX, qb⟩
theorem sP_pre {b n : Nat} {xs : Nat → Int32} {av : List Value} (hX : va_X b n xs s H0) (hbl : b < H0.size) (hbA : ¬ A b) (hS : va_S A H0 H locs) : ∀ U : State, U.heap = H → s.WarmedH U.vm → sP b n xs av H av.toArray U := fun _ hU hW => ⟨rfl, hU, va_X.moved hW.alike (hX.kept (hS.2.1 b hbl hbA)), Nat.lt_of_lt_of_le hbl hS.1⟩
end LK
def scell (n : Nat) (xs : Nat → Int32) (k : Nat) : Int32 := if k < n then xs k else 0
theorem lw_exit {n i : Nat} (hn : n ≤ 3076) (hi : i < 2 ^ 20) : (Int32.ofNat n - 6 < nI i ∧ n < i + 6) ∨ (¬ Int32.ofNat n - 6 < nI i ∧ i + 6 ≤ n) := by
  by_cases h6 : 6 ≤ n
  · have e : Int32.ofNat n - 6 = nI (n - 6) := by
      rw [show (6 : Int32) = nI 6 from rfl]
      exact pk_sub (a := n) (b := 6) h6
    rw [e, nI_ltI (by omega) (by omega)]
    omega
  · refine Or.inl ⟨?_, by omega⟩
    have hi0 : (0 : Int) ≤ (nI i).toInt := by rw [nI_toInt (by omega)]; omega
    rw [Int32.lt_iff_toInt_lt]
    rcases (show n = 0 ∨ n = 1 ∨ n = 2 ∨ n = 3 ∨ n = 4 ∨ n = 5 by omega) with rfl | rfl | rfl | rfl | rfl | rfl
    · rw [show (Int32.ofNat 0 - 6).toInt = -6 by decide]; omega
    · rw [show (Int32.ofNat 1 - 6).toInt = -5 by decide]; omega
    · rw [show (Int32.ofNat 2 - 6).toInt = -4 by decide]; omega
    · rw [show (Int32.ofNat 3 - 6).toInt = -3 by decide]; omega
    · rw [show (Int32.ofNat 4 - 6).toInt = -2 by decide]; omega
    · rw [show (Int32.ofNat 5 - 6).toInt = -1 by decide]; omega
theorem lw_and7 (x : Int32) : ∃ t : Nat, t < 8 ∧ x &&& 7 = nI t := by
  refine ⟨x.toBitVec.toNat % 8, Nat.mod_lt _ (by decide), ?_⟩
  apply Int32.toBitVec_inj.mp
  apply BitVec.eq_of_toNat_eq
  rw [Int32.toBitVec_and, BitVec.toNat_and]
  have h2 : (7 : Int32).toBitVec.toNat = 2 ^ 3 - 1 := by decide
  have h3 : (nI (x.toBitVec.toNat % 8)).toBitVec.toNat = x.toBitVec.toNat % 8 % 2 ^ 32 := rfl
  rw [h2, h3, Nat.and_two_pow_sub_one_eq_mod]
  omega
/-- the arrays' classes -/
theorem arr_of {args : Array Value} {s : State} {ty : FieldType} (hne : ∀ C, ty ≠ .object C) (h : (Cond.arrayClass ty).before args s = true) : ∃ cA : ClassId, ArrOfT s cA ty ∧ va_RA s cA ty := by
  obtain ⟨cA, kA, comp, h1, h2, h3⟩ := Cond.arrayClass_spec (h : (Cond.arrayClass ty).holds _ _ _ _ _ = true)
  refine ⟨cA, fun n z => ⟨fun k h => (by cases h), kA, h2, comp, h3⟩, ?_⟩
  cases ty with
  | object C => exact absurd rfl (hne C)
  | _ => exact h1
theorem str_of {args : Array Value} {s : State} {own tx : String} {k : Nat} (h : (Cond.stringRef own k tx).before args s = true) : ∃ sa, vk_R own k tx sa s := by
  have hcur : ∃ cur, s.vm.findClass own = some cur := by
    have h1 := h
    simp only [Cond.before, Cond.holds, Cond.value] at h1
    cases hc : s.vm.findClass own with
    | none => simp [hc] at h1
    | some cur => exact ⟨cur, rfl⟩
  obtain ⟨cur, hcur⟩ := hcur
  obtain ⟨-, -, -, sa, -, -, -, -, -, hev⟩ := Cond.stringRef_spec hcur h
  exact ⟨sa, vk_R.of h hev⟩
