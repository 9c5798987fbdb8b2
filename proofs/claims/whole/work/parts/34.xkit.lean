section XK
variable {p : Program} {l : Launch} {e : Env} {R : Room} {s : State} {m : MethodId} {args : Array Value} {below : List Frame} {meth : Method} {c : Code} {H : Heap} {locs : List Loc} {cells slots : Nat} {Q : State → Prop}
variable {ls : Array Slot} {rest st0 : List Value} {a : Array Value} {A0 : Nat → Prop} {H0 : Heap} {D : va_G} {cl : List vw_C} {tys : List (ClassId × FieldType)}
theorem Met.ofX {y : MethodName} {rm : Room} {Pc : Array Value → State → Prop} {Qc : Array Value → State → Outcome → State → Prop} {XC : String → State → State → Prop} {mc ms : Nat} {free : Addr → Prop} {cc : ByteArray} {maxL : Nat} {ret : Option FieldType} {own : String} (hy : plainName y.cls = true) (ho : y.cls = own) (av : List Value) (hav : (lg_sl av).length ≤ maxL)
    (hav2 : ∀ (v : Array Value) (U : State), Pc v U → v = av.toArray)
    (body : ∀ (p : Program) (e : Env) (s : State) (m : MethodId) (below : List Frame) (meth : Method) (c : Code) (ls : Array Slot), zAt p s m av.toArray meth c own cc maxL ret → (∀ x ∈ c.exceptionTable.toList, False) → Pc av.toArray s → lv_has ls maxL (lv_args 0 av) →
      W p l e rm s m av.toArray below meth c s.heap [] 0 0 (vx_MQ below Qc XC av.toArray s mc ms free) (F0 m 0 ls [])) : vx_Met l y (Cond.code y cc maxL ret :: bw) rm Pc Qc XC mc ms free := by
  refine vx_ofW (cc := cc) (maxL := maxL) (ret := ret) hy rfl ?_
  intro p e s m args below meth c s₁ B hml hex hv
  have h0 := hav2 _ _ hv
  subst h0
  rw [lg_entry_eq]
  have hT := atoms_spec (ws := Cond.code y cc maxL ret :: bw) B.pre
  exact body p e s m below meth c _ ⟨B.exec, B.bytes, B.returns, hml, by rw [← ho]; exact findClass_of_methodNamed B.named, fun w h => hT w (.tail _ h), B.notSynchronized⟩ hex hv (lv_entry av hav)
section XT
variable {Qc : Array Value → State → Outcome → State → Prop} {XC : String → State → State → Prop} {free : Addr → Prop} {cc : ByteArray} {pc is mc ms : Nat} {tx : String} {A : Nat → Prop}
theorem xt_io (hx : p.tables.exec = Jvm.exec) (hb : c.code = cc) (hl9 : l.stackTraces = false) (hown : s.vm.findClass "CoinTree" = some m.cls) (hT : ∀ w ∈ bw, w.before args s = true) (xe : xE A s s.heap) (hS : va_S A s.heap H locs) (hsize : ls.size = c.maxLocals) (hi : (is, tx) ∈ xS)
    (d0 : decode cc pc = .ok (.new 67, 3)) (d3 : decode cc (pc + 3) = .ok (.dup, 1)) (d4 : decode cc (pc + 4) = .ok (.ldc is, 2)) (d6 : decode cc (pc + 6) = .ok (.invokespecial 71, 3)) (d9 : decode cc (pc + 9) = .ok (.athrow, 1)) (hex : ∀ x ∈ c.exceptionTable.toList, False)
    (hRf : 5 < R.frames) (hRl : (rest.map fun v => v.category).sum + 82 ≤ R.locals) (hRc : cells + 1 ≤ R.cells) (hRs : slots + 6 ≤ R.slots) (hlocks : meth.locks = false) (hf : ∀ z ∈ locs, free z.base) (hc : cells + 1 ≤ mc) (hs : slots + 6 ≤ ms)
    (hxc : ∀ t : State, s.vm.Alike t.vm → H.size ≤ t.heap.size → (∀ q : Nat, q < H.size → t.heap[q]? = H[q]?) → XC xIO s t) : W p l e R s m args below meth c H locs cells slots (vx_MQ below Qc XC args s mc ms free) (F0 m pc ls rest) := by
  obtain ⟨sa, hsa⟩ := xe.2.2.2 _ hi
  exact vx_throwS (names := xN) hx hb hl9 hown (by decide) (by decide) (hT _ m_184) (hT _ m_31) hsa (xg_hat hT xg_io1 xg_io2 xe.2.2.1) xg_io3 xe.1 xe.2.1 hS hsize d0 d3 d4 d6 d9 (fun x h => (hex x h).elim) hRf hRl hRc hRs hlocks hxc hf hc hs
theorem xt_ia (hx : p.tables.exec = Jvm.exec) (hb : c.code = cc) (hl9 : l.stackTraces = false) (hown : s.vm.findClass "CoinTree" = some m.cls) (hT : ∀ w ∈ bw, w.before args s = true) (xe : xE A s s.heap) (hS : va_S A s.heap H locs) (hsize : ls.size = c.maxLocals) (hi : (is, tx) ∈ xS)
    (d0 : decode cc pc = .ok (.new 132, 3)) (d3 : decode cc (pc + 3) = .ok (.dup, 1)) (d4 : decode cc (pc + 4) = .ok (.ldc is, 2)) (d6 : decode cc (pc + 6) = .ok (.invokespecial 136, 3)) (d9 : decode cc (pc + 9) = .ok (.athrow, 1)) (hex : ∀ x ∈ c.exceptionTable.toList, False)
    (hRf : 5 < R.frames) (hRl : (rest.map fun v => v.category).sum + 82 ≤ R.locals) (hRc : cells + 1 ≤ R.cells) (hRs : slots + 6 ≤ R.slots) (hlocks : meth.locks = false) (hf : ∀ z ∈ locs, free z.base) (hc : cells + 1 ≤ mc) (hs : slots + 6 ≤ ms)
    (hxc : ∀ t : State, s.vm.Alike t.vm → H.size ≤ t.heap.size → (∀ q : Nat, q < H.size → t.heap[q]? = H[q]?) → XC xIA s t) : W p l e R s m args below meth c H locs cells slots (vx_MQ below Qc XC args s mc ms free) (F0 m pc ls rest) := by
  obtain ⟨sa, hsa⟩ := xe.2.2.2 _ hi
  exact vx_throwS (names := xN) hx hb hl9 hown (by decide) (by decide) (hT _ m_256) (hT _ m_32) hsa (xg_hat hT xg_ia1 xg_ia2 xe.2.2.1) xg_ia3 xe.1 xe.2.1 hS hsize d0 d3 d4 d6 d9 (fun x h => (hex x h).elim) hRf hRl hRc hRs hlocks hxc hf hc hs
theorem xt_uo (hx : p.tables.exec = Jvm.exec) (hb : c.code = cc) (hl9 : l.stackTraces = false) (hown : s.vm.findClass "CoinTree" = some m.cls) (hT : ∀ w ∈ bw, w.before args s = true) (xe : xE A s s.heap) (hS : va_S A s.heap H locs) (hsize : ls.size = c.maxLocals) (hi : (is, tx) ∈ xS)
    (d0 : decode cc pc = .ok (.new 161, 3)) (d3 : decode cc (pc + 3) = .ok (.dup, 1)) (d4 : decode cc (pc + 4) = .ok (.ldc is, 2)) (d6 : decode cc (pc + 6) = .ok (.invokespecial 165, 3)) (d9 : decode cc (pc + 9) = .ok (.athrow, 1)) (hex : ∀ x ∈ c.exceptionTable.toList, False)
    (hRf : 5 < R.frames) (hRl : (rest.map fun v => v.category).sum + 82 ≤ R.locals) (hRc : cells + 1 ≤ R.cells) (hRs : slots + 6 ≤ R.slots) (hlocks : meth.locks = false) (hf : ∀ z ∈ locs, free z.base) (hc : cells + 1 ≤ mc) (hs : slots + 6 ≤ ms)
    (hxc : ∀ t : State, s.vm.Alike t.vm → H.size ≤ t.heap.size → (∀ q : Nat, q < H.size → t.heap[q]? = H[q]?) → XC xUO s t) : W p l e R s m args below meth c H locs cells slots (vx_MQ below Qc XC args s mc ms free) (F0 m pc ls rest) := by
  obtain ⟨sa, hsa⟩ := xe.2.2.2 _ hi
  exact vx_throwS (names := xN) hx hb hl9 hown (by decide) (by decide) (hT _ m_349) (hT _ m_33) hsa (xg_hat hT xg_uo1 xg_uo2 xe.2.2.1) xg_uo3 xe.1 xe.2.1 hS hsize d0 d3 d4 d6 d9 (fun x h => (hex x h).elim) hRf hRl hRc hRs hlocks hxc hf hc hs
end XT
/-- the start of a method that leaves the heap or throws -/
def xP (D : va_G) (cl : List vw_C) (tys : List (ClassId × FieldType)) (av : List Value) (H : Heap) : Array Value → State → Prop := va_Pc av (fun U => U.heap = H ∧ va_K D cl tys U ∧ xE (fun _ => False) U H)
theorem xP_blind {av : List Value} : FrameBlind (xP D cl tys av H) := fun a U g mk q => by
  obtain ⟨q0, q1, qK, qE⟩ := q
  exact ⟨q0, q1, va_K.moved (u := U) (U := U.calling g mk a) (Vm.Alike.refl U.vm) qK, xE.same (u := U) (U := U.calling g mk a) rfl qE⟩
theorem xP_pre {av : List Value} (hK : va_K D cl tys s) (xe : xE (fun _ => False) s H) : ∀ U : State, U.heap = H → s.WarmedH U.vm → xP D cl tys av H av.toArray U := fun _ hU hW => ⟨rfl, hU, va_K.moved hW.alike hK, xe.warm hW⟩
def xQi (H : Heap) (cond : Prop) (r : Int32) : Array Value → State → Outcome → State → Prop := va_Qi (fun x (_ : Unit) => ¬ cond ∧ x = r) (fun _ t => t.heap = H) (fun _ => False)
def xQl (H : Heap) (cond : Prop) (r : Int64) : Array Value → State → Outcome → State → Prop := va_Ql (fun x (_ : Unit) => ¬ cond ∧ x = r) (fun _ t => t.heap = H) (fun _ => False)
def xQr (H : Heap) (cond : Prop) (r : Nat) : Array Value → State → Outcome → State → Prop := va_Qr (fun (_ : Unit) => ¬ cond) (fun _ x t => x = r ∧ t.heap = H) (fun _ => False)
def xX (cond : Prop) (E : String) : String → State → State → Prop := vx_X (fun (_ : Unit) => cond) (fun E' _ _ => E' = E) (fun _ => False)
theorem xX_end {cond : Prop} {E : String} {t : State} (h : cond) (h1 : s.heap.size ≤ t.heap.size) (h2 : ∀ q : Nat, q < s.heap.size → t.heap[q]? = s.heap[q]?) : xX cond E E s t := ⟨(), h, rfl, h1, fun q hq _ => h2 q hq⟩
theorem xQi_end {cond : Prop} {v r : Int32} {t : State} (hc : ¬ cond) (e : v = r) (hs : s.heap = H) (ht : t.heap = H) : xQi H cond r a s (.returned (some (.int v))) t := ⟨⟨v, (), rfl, ⟨hc, e⟩, ht⟩, by rw [hs, ht]; exact Nat.le_refl _, fun q _ _ => by rw [hs, ht]⟩
theorem xQl_end {cond : Prop} {v r : Int64} {t : State} (hc : ¬ cond) (e : v = r) (hs : s.heap = H) (ht : t.heap = H) : xQl H cond r a s (.returned (some (.long v))) t := ⟨⟨v, (), rfl, ⟨hc, e⟩, ht⟩, by rw [hs, ht]; exact Nat.le_refl _, fun q _ _ => by rw [hs, ht]⟩
theorem xQr_end {cond : Prop} {v r : Nat} {t : State} (hc : ¬ cond) (e : v = r) (hs : s.heap = H) (ht : t.heap = H) : xQr H cond r a s (.returned (some (.ref v))) t := ⟨⟨(), v, rfl, hc, e, ht⟩, by rw [hs, ht]; exact Nat.le_refl _, fun q _ _ => by rw [hs, ht]⟩
/-- a call that gives a reference or throws; what it throws isn't caught here -/
theorem xc_r {cond : Prop} {r mc ms pc : Nat} {E0 : String} (hr : vx_Run p l e R s m args below meth c H locs cells slots mc ms (F0 m pc ls st0) rest (xQr H cond r a) (xX cond E0) (fun _ => False)) (hS : va_S A0 H0 H locs)
    (kx : ∀ (ce : Cell) (q9 : Addr) (H1 : Heap) (locs1 : List Loc), cond → H.size ≤ H1.size → (∀ q : Nat, q < H.size → H1[q]? = H[q]?) → va_S A0 H0 H1 locs1 → H1[q9]? = some ce → ce.vm = .none → s.vm.findClass E0 = some ce.cls → vx_W p l e R s m args below meth c H1 locs1 (cells + mc) (slots + ms) Q (F0 m pc ls rest) q9)
    (kk : ∀ locs1 : List Loc, ¬ cond → va_S A0 H0 H locs1 → W p l e R s m args below meth c H locs1 (cells + mc) (slots + ms) Q (F0 m (pc + 3) ls (.ref r :: rest))) : W p l e R s m args below meth c H locs cells slots Q (F0 m pc ls st0) := by
  intro T hT X
  rcases hr T hT X with ⟨v, st₀, t, T', L, h0, X', hL, e1, e2, ⟨⟨u, ra, hv, hp, hb⟩, hF⟩, st⟩ | ⟨q, st₀, t, T', L, E, ce, h0, X', hL, e1, e2, ⟨u, hp, hb, hF⟩, hce, hcv, hcl, st⟩
  · cases hv
    obtain ⟨rfl, hb2⟩ := hb
    obtain ⟨k1, k2, k3⟩ := vx_keep (A1 := fun _ => False) (free := fun _ => False) h0 e1 hS (fun q _ h => False.elim h) (fun q h => False.elim h) hL hF
    have e3 : T'.heap = H := e1.trans hb2
    rw [e3] at k3
    obtain ⟨t2, a1, b1⟩ := kk (locs ++ L) hp k3 T' e3 X'
    exact ⟨t2, st t2 a1, b1⟩
  · obtain ⟨k1, k2, k3⟩ := vx_keep (A1 := fun _ => False) (free := fun _ => False) h0 e1 hS (fun q _ h => False.elim h) (fun q h => False.elim h) hL hF
    cases hb
    obtain ⟨t2, a1, b1⟩ := kx ce q T'.heap (locs ++ L) hp k1 (fun q hq => k2 q hq (fun h => h)) k3 (by rw [e1]; exact hce) hcv hcl T' rfl X'
    exact ⟨t2, st.trans a1, b1⟩
end XK
