section
-- ===== PART A: goes FIRST, ahead of the names: the tables' words, and 'selects' of the private methods out of them =====
/-- a private method of a class that the tables say can be made, by its rows of tables_1 -/
def lw_okq (q : MethodName × Nat) : Prop := (q.1.cls ≠ "java/lang/invoke/MethodHandle" ∧ q.1.cls ≠ "java/lang/invoke/VarHandle") ∧ Cond.instantiable q.1.cls q.2 ∈ tables_1 ∧ Cond.privateMethod q.1 ∈ tables_1 ∧ Cond.instanceMethod q.1 ∈ tables_1
theorem lw_p0 : lw_okq (⟨"CoinTree", "ask", "(IZJII)J"⟩, 8) := ⟨⟨by decide +kernel, by decide +kernel⟩, List.mem_of_getElem? (i := 14) (by decide +kernel), List.mem_of_getElem? (i := 160) (by decide +kernel), List.mem_of_getElem? (i := 161) (by decide +kernel)⟩
theorem lw_p1 : lw_okq (⟨"java/lang/Throwable", "fillInStackTrace", "(I)Ljava/lang/Throwable;"⟩, 6) := ⟨⟨by decide +kernel, by decide +kernel⟩, List.mem_of_getElem? (i := 202) (by decide +kernel), List.mem_of_getElem? (i := 200) (by decide +kernel), List.mem_of_getElem? (i := 201) (by decide +kernel)⟩
theorem lw_p2 : lw_okq (⟨"CoinTree$Row", "has", "(I)Z"⟩, 4) := ⟨⟨by decide +kernel, by decide +kernel⟩, List.mem_of_getElem? (i := 55) (by decide +kernel), List.mem_of_getElem? (i := 260) (by decide +kernel), List.mem_of_getElem? (i := 261) (by decide +kernel)⟩
theorem lw_p3 : lw_okq (⟨"CoinTree$Tree", "nodeOnWay", "(II)I"⟩, 12) := ⟨⟨by decide +kernel, by decide +kernel⟩, List.mem_of_getElem? (i := 31) (by decide +kernel), List.mem_of_getElem? (i := 284) (by decide +kernel), List.mem_of_getElem? (i := 285) (by decide +kernel)⟩
theorem lw_p4 : lw_okq (⟨"CoinTree$Tree", "gatherNode", "(I)V"⟩, 12) := ⟨⟨by decide +kernel, by decide +kernel⟩, List.mem_of_getElem? (i := 31) (by decide +kernel), List.mem_of_getElem? (i := 288) (by decide +kernel), List.mem_of_getElem? (i := 289) (by decide +kernel)⟩
theorem lw_p5 : lw_okq (⟨"CoinTree", "leafTold", "(JII)I"⟩, 8) := ⟨⟨by decide +kernel, by decide +kernel⟩, List.mem_of_getElem? (i := 14) (by decide +kernel), List.mem_of_getElem? (i := 316) (by decide +kernel), List.mem_of_getElem? (i := 317) (by decide +kernel)⟩
theorem lw_p6 : lw_okq (⟨"CoinTree$Tree", "fillNode", "(II)I"⟩, 12) := ⟨⟨by decide +kernel, by decide +kernel⟩, List.mem_of_getElem? (i := 31) (by decide +kernel), List.mem_of_getElem? (i := 324) (by decide +kernel), List.mem_of_getElem? (i := 325) (by decide +kernel)⟩
theorem lw_p7 : lw_okq (⟨"CoinTree$Tree", "emptyNode", "(I)V"⟩, 12) := ⟨⟨by decide +kernel, by decide +kernel⟩, List.mem_of_getElem? (i := 31) (by decide +kernel), List.mem_of_getElem? (i := 349) (by decide +kernel), List.mem_of_getElem? (i := 350) (by decide +kernel)⟩
theorem lw_p8 : lw_okq (⟨"CoinTree", "treeNumbered", "(I)LCoinTree$Tree;"⟩, 8) := ⟨⟨by decide +kernel, by decide +kernel⟩, List.mem_of_getElem? (i := 14) (by decide +kernel), List.mem_of_getElem? (i := 377) (by decide +kernel), List.mem_of_getElem? (i := 378) (by decide +kernel)⟩
theorem lw_p9 : lw_okq (⟨"CoinTreeModel", "leavesOf", "(I)I"⟩, 27) := ⟨⟨by decide +kernel, by decide +kernel⟩, List.mem_of_getElem? (i := 437) (by decide +kernel), List.mem_of_getElem? (i := 443) (by decide +kernel), List.mem_of_getElem? (i := 444) (by decide +kernel)⟩
theorem lw_p10 : lw_okq (⟨"CoinTreeModel", "levelsOf", "(I)I"⟩, 27) := ⟨⟨by decide +kernel, by decide +kernel⟩, List.mem_of_getElem? (i := 437) (by decide +kernel), List.mem_of_getElem? (i := 447) (by decide +kernel), List.mem_of_getElem? (i := 448) (by decide +kernel)⟩
theorem lw_p11 : lw_okq (⟨"CoinTreeModel", "ask", "(IZJII)J"⟩, 27) := ⟨⟨by decide +kernel, by decide +kernel⟩, List.mem_of_getElem? (i := 437) (by decide +kernel), List.mem_of_getElem? (i := 541) (by decide +kernel), List.mem_of_getElem? (i := 542) (by decide +kernel)⟩
theorem lw_p12 : lw_okq (⟨"CoinTreeModel", "keep", "()V"⟩, 27) := ⟨⟨by decide +kernel, by decide +kernel⟩, List.mem_of_getElem? (i := 437) (by decide +kernel), List.mem_of_getElem? (i := 545) (by decide +kernel), List.mem_of_getElem? (i := 546) (by decide +kernel)⟩
theorem lw_p13 : lw_okq (⟨"CoinTreeModel", "gather", "(III)I"⟩, 27) := ⟨⟨by decide +kernel, by decide +kernel⟩, List.mem_of_getElem? (i := 437) (by decide +kernel), List.mem_of_getElem? (i := 549) (by decide +kernel), List.mem_of_getElem? (i := 550) (by decide +kernel)⟩
theorem lw_p14 : lw_okq (⟨"CoinTreeModel", "push", "(IIIJ)V"⟩, 27) := ⟨⟨by decide +kernel, by decide +kernel⟩, List.mem_of_getElem? (i := 437) (by decide +kernel), List.mem_of_getElem? (i := 556) (by decide +kernel), List.mem_of_getElem? (i := 557) (by decide +kernel)⟩
theorem lw_p15 : lw_okq (⟨"CoinTreeModel", "find", "(II)I"⟩, 27) := ⟨⟨by decide +kernel, by decide +kernel⟩, List.mem_of_getElem? (i := 437) (by decide +kernel), List.mem_of_getElem? (i := 560) (by decide +kernel), List.mem_of_getElem? (i := 561) (by decide +kernel)⟩
def lw_privs_1 : List (MethodName × Nat) := [(⟨"CoinTree", "ask", "(IZJII)J"⟩, 8), (⟨"java/lang/Throwable", "fillInStackTrace", "(I)Ljava/lang/Throwable;"⟩, 6), (⟨"CoinTree$Row", "has", "(I)Z"⟩, 4), (⟨"CoinTree$Tree", "nodeOnWay", "(II)I"⟩, 12), (⟨"CoinTree$Tree", "gatherNode", "(I)V"⟩, 12), (⟨"CoinTree", "leafTold", "(JII)I"⟩, 8), (⟨"CoinTree$Tree", "fillNode", "(II)I"⟩, 12), (⟨"CoinTree$Tree", "emptyNode", "(I)V"⟩, 12), (⟨"CoinTree", "treeNumbered", "(I)LCoinTree$Tree;"⟩, 8), (⟨"CoinTreeModel", "leavesOf", "(I)I"⟩, 27), (⟨"CoinTreeModel", "levelsOf", "(I)I"⟩, 27), (⟨"CoinTreeModel", "ask", "(IZJII)J"⟩, 27), (⟨"CoinTreeModel", "keep", "()V"⟩, 27), (⟨"CoinTreeModel", "gather", "(III)I"⟩, 27), (⟨"CoinTreeModel", "push", "(IIIJ)V"⟩, 27), (⟨"CoinTreeModel", "find", "(II)I"⟩, 27)]
theorem lw_r1 : ∀ q ∈ lw_privs_1, lw_okq q := List.forall_mem_cons.mpr ⟨lw_p0, List.forall_mem_cons.mpr ⟨lw_p1, List.forall_mem_cons.mpr ⟨lw_p2, List.forall_mem_cons.mpr ⟨lw_p3, List.forall_mem_cons.mpr ⟨lw_p4, List.forall_mem_cons.mpr ⟨lw_p5, List.forall_mem_cons.mpr ⟨lw_p6, List.forall_mem_cons.mpr ⟨lw_p7, List.forall_mem_cons.mpr ⟨lw_p8, List.forall_mem_cons.mpr ⟨lw_p9, List.forall_mem_cons.mpr ⟨lw_p10, List.forall_mem_cons.mpr ⟨lw_p11, List.forall_mem_cons.mpr ⟨lw_p12, List.forall_mem_cons.mpr ⟨lw_p13, List.forall_mem_cons.mpr ⟨lw_p14, List.forall_mem_cons.mpr ⟨lw_p15, fun _ h => absurd h List.not_mem_nil⟩⟩⟩⟩⟩⟩⟩⟩⟩⟩⟩⟩⟩⟩⟩⟩
theorem lw_p16 : lw_okq (⟨"CoinTreeModel", "fill", "(II)Z"⟩, 27) := ⟨⟨by decide +kernel, by decide +kernel⟩, List.mem_of_getElem? (i := 437) (by decide +kernel), List.mem_of_getElem? (i := 567) (by decide +kernel), List.mem_of_getElem? (i := 568) (by decide +kernel)⟩
theorem lw_p17 : lw_okq (⟨"CoinTreeModel", "pull", "(II)V"⟩, 27) := ⟨⟨by decide +kernel, by decide +kernel⟩, List.mem_of_getElem? (i := 437) (by decide +kernel), List.mem_of_getElem? (i := 571) (by decide +kernel), List.mem_of_getElem? (i := 572) (by decide +kernel)⟩
theorem lw_p18 : lw_okq (⟨"CoinTreeModel", "takeBack", "()V"⟩, 27) := ⟨⟨by decide +kernel, by decide +kernel⟩, List.mem_of_getElem? (i := 437) (by decide +kernel), List.mem_of_getElem? (i := 575) (by decide +kernel), List.mem_of_getElem? (i := 576) (by decide +kernel)⟩
theorem lw_p19 : lw_okq (⟨"CoinTreeModel", "mark", "(II)V"⟩, 27) := ⟨⟨by decide +kernel, by decide +kernel⟩, List.mem_of_getElem? (i := 437) (by decide +kernel), List.mem_of_getElem? (i := 579) (by decide +kernel), List.mem_of_getElem? (i := 580) (by decide +kernel)⟩
theorem lw_p20 : lw_okq (⟨"CoinTreeModel", "isNode", "(II)Z"⟩, 27) := ⟨⟨by decide +kernel, by decide +kernel⟩, List.mem_of_getElem? (i := 437) (by decide +kernel), List.mem_of_getElem? (i := 598) (by decide +kernel), List.mem_of_getElem? (i := 599) (by decide +kernel)⟩
def lw_privs_2 : List (MethodName × Nat) := [(⟨"CoinTreeModel", "fill", "(II)Z"⟩, 27), (⟨"CoinTreeModel", "pull", "(II)V"⟩, 27), (⟨"CoinTreeModel", "takeBack", "()V"⟩, 27), (⟨"CoinTreeModel", "mark", "(II)V"⟩, 27), (⟨"CoinTreeModel", "isNode", "(II)Z"⟩, 27)]
theorem lw_r2 : ∀ q ∈ lw_privs_2, lw_okq q := List.forall_mem_cons.mpr ⟨lw_p16, List.forall_mem_cons.mpr ⟨lw_p17, List.forall_mem_cons.mpr ⟨lw_p18, List.forall_mem_cons.mpr ⟨lw_p19, List.forall_mem_cons.mpr ⟨lw_p20, fun _ h => absurd h List.not_mem_nil⟩⟩⟩⟩⟩
def lw_privs : List (MethodName × Nat) := lw_privs_1 ++ (lw_privs_2)
def lw_tbl : List Cond := k2_sels lw_privs ++ tables_1
theorem lw_privs_ok : ∀ q ∈ lw_privs, lw_okq q := by
  show ∀ q ∈ lw_privs_1 ++ (lw_privs_2), lw_okq q
  exact List.forall_mem_append.mpr ⟨lw_r1, lw_r2⟩

/-! ===== BEGIN words of one list among another's, by their places ===== -/
theorem goodIn_r {big : List Cond} (ws : List Cond) (ps : List Nat) (hp : ws = ps.filterMap (fun i => big[i]?)) (h : ws.all goodWord = true) : GoodIn big ws := by
  intro w hw
  have h1 := List.all_eq_true.mp h w hw
  rw [hp] at hw
  obtain ⟨i, -, hi⟩ := List.mem_filterMap.mp hw
  have hm : w ∈ big := by first | exact List.mem_of_getElem? hi | exact List.getElem?_mem hi
  exact ⟨hm, good_of_word h1⟩
theorem goodIn_app {big a b : List Cond} (ha : GoodIn big a) (hb : GoodIn big b) : GoodIn big (a ++ b) := fun w h => (List.mem_append.mp h).elim (ha w) (hb w)
theorem goodIn_ca {big a b : List Cond} {c : Cond} (ha : GoodIn big (c :: a)) (hb : GoodIn big b) : GoodIn big (c :: (a ++ b)) := fun w h => (List.mem_cons.mp h).elim (fun e => ha w (List.mem_cons.mpr (Or.inl e))) (fun h => (List.mem_append.mp h).elim (fun h => ha w (List.mem_cons.mpr (Or.inr h))) (hb w))
theorem goodIn_sub {big ws : List Cond} (hm : ∀ w ∈ ws, w ∈ big) (h : ws.all goodWord = true) : GoodIn big ws := fun w hw => ⟨hm w hw, good_of_word (List.all_eq_true.mp h w hw)⟩
/-! ===== END ===== -/

/-! ===== BEGIN exceptions that leave a method, and their catching by the caller (launches without stack traces) ===== -/
section VXA
/-! The laws vx_back, vx_callV, vx_callS, vx_callSW, vx_throw0, vx_throwS follow proofs of the library, with one case more: JvmDerived/Free/Laws.lean (Back.of_free), Shelf42/LK1.lean (callV, callS), Shelf/KitTraced.lean (throwNew0V, throwNewS). -/
/-- where a method has thrown q: the class by its name, the cell, what was written, the world -/
def vx_T (XC : String → State → State → Prop) (st : State) (q : Addr) (t : State) (mc ms : Nat) (free : Addr → Prop) : Prop :=
  ∃ (E : String) (ce : Cell) (L : List Loc), XC E st t ∧ t.heap[q]? = some ce ∧ ce.vm = .none ∧ st.vm.findClass E = some ce.cls ∧ st.WarmedH t.vm ∧ st.sameButNew ({ t with vm := st.vm } : State) L mc ms ∧ ∀ z ∈ L, free z.base
def vx_Q (Qc : Array Value → State → Outcome → State → Prop) (XC : String → State → State → Prop) (mc ms : Nat) (free : Addr → Prop) : Array Value → State → Outcome → State → Prop := fun a st o t =>
  (Qc a st o t ∧ ∃ L, FrameEnd st o t L mc ms ∧ ∀ q ∈ L, free q.base) ∨ ∃ q, o = .threw q ∧ vx_T XC st q t mc ms free
/-- a callee that returns or throws -/
def vx_Met (l : Launch) (y : MethodName) (ws : List Cond) (rm : Room) (Pc : Array Value → State → Prop) (Qc : Array Value → State → Outcome → State → Prop) (XC : String → State → State → Prop) (mc ms : Nat) (free : Addr → Prop) : Prop :=
  MetFree l y (headSpec ws rm) Pc (fun _ _ _ _ _ => True) (vx_Q Qc XC mc ms free)
def vx_Post (XC : String → State → State → Prop) (mc ms : Nat) (free : Addr → Prop) : Pt → Array Value → Addr → Pt → Prop := fun A a q B =>
  ∃ (g : JFrame) (mk : MethodId) (t : State) (L : List Loc) (E : String) (ce : Cell), B.U.heap = t.heap ∧ B.U.vm = t.vm ∧ XC E (A.U.calling g mk a) t ∧ t.heap[q]? = some ce ∧ ce.vm = .none ∧ A.U.vm.findClass E = some ce.cls ∧ B.locs = A.locs ++ L ∧ (∀ z ∈ L, free z.base) ∧ B.cells = A.cells + mc ∧ B.slots = A.slots + ms
def vx_Back (l : Launch) (R : Room) (p : Program) (e : Env) (below : List Frame) (s : State) (sargs : Array Value) (y : MethodName) (len W9 : Nat)
    (Pre : Pt → Array Value → Prop) (Post : Pt → Array Value → Option Value → Pt → Prop) (PostX : Pt → Array Value → Addr → Pt → Prop) : Prop :=
  ∀ (m : MethodId) (meth : Method) (c : Code) (A : Pt) (g : JFrame) (ig : Instr) (mk : MethodId) (a : Array Value),
    Stand p l e R s m sargs below meth c A.U A.locs A.cells A.slots → g.method = m → g.locals.size = c.maxLocals → decode c.code g.pc = .ok (ig, len) →
    2 * g.monitorRoom + (g.stack.map fun v => v.category).sum ≤ W9 → A.U.methodNamed? y = some mk → Pre A a →
    (∃ (v : Option Value) (B : Pt), Stand p l e R s m sargs below meth c B.U B.locs B.cells B.slots ∧ Post A a v B ∧
      Steps p.tables e below (doInvoke e (A.U.setTop g) [] mk a).1 (B.U.setTop { g with pc := g.pc + len, stack := v.toList ++ g.stack })) ∨
    (∃ (q : Addr) (B : Pt), Stand p l e R s m sargs below meth c B.U B.locs B.cells B.slots ∧ PostX A a q B ∧
      Steps p.tables e below (doInvoke e (A.U.setTop g) [] mk a).1 ((B.U.setTop g).pushFrame (.throwing q)))
section Payer
variable {l : Launch} {R : Room} {p : Program} {e : Env} {below : List Frame} {s : State} {sargs : Array Value} {y : MethodName} {len W9 : Nat}
theorem vx_back {ws : List Cond} {rm : Room} {Pc : Array Value → State → Prop} {Qc : Array Value → State → Outcome → State → Prop} {XC : String → State → State → Prop} {mc ms : Nat} {free : Addr → Prop} {bytes : ByteArray} {maxL : Nat} {ret : Option FieldType}
    (hM : vx_Met l y ws rm Pc Qc XC mc ms free) (hblind : FrameBlind Pc) (hrc : rm.cells = mc) (hrs : rm.slots = ms)
    (hframes : rm.frames + 1 ≤ R.frames) (hlocals : W9 + (maxL + 11) + rm.locals ≤ R.locals)
    (hws : ∀ w ∈ ws, ∀ a' U, s.WarmedH U.vm → w.before a' U = true) (hcode : Cond.code y bytes maxL ret ∈ ws) (hinit : ∀ a' U, s.WarmedH U.vm → (Cond.initialized y.cls).before a' U = true) :
    vx_Back l R p e below s sargs y len W9 (PreOf R mc ms Pc) (PostOf Qc mc ms free) (vx_Post XC mc ms free) := by
  intro m meth c A g ig mk a X hg hsize hdg hW hn hp
  have h1 : (headSpec ws rm).pre.before a A.U = true := atoms_intro fun w hw => hws w hw _ _ X.warmed
  have h2 : (Cond.code y bytes maxL ret).before a A.U = true := hws _ hcode _ _ X.warmed
  have h3 : (Cond.initialized y.cls).before a A.U = true := hinit _ _ X.warmed
  have h4 : A.cells + (headSpec ws rm).room.cells ≤ R.cells := by rw [show (headSpec ws rm).room.cells = mc from hrc]; exact hp.1
  have h5 : A.slots + (headSpec ws rm).room.slots ≤ R.slots := by rw [show (headSpec ws rm).room.slots = ms from hrs]; exact hp.2.1
  have hPc : Pc a (A.U.calling g mk a) := hblind _ _ _ _ hp.2.2
  obtain ⟨U, Ls, c0, s0⟩ := A
  dsimp only [Pt.U, Pt.locs, Pt.cells, Pt.slots] at h1 h2 h3 h4 h5 X hn hPc ⊢
  obtain ⟨methY, cY, hmY, hcY, -, hlY, -, -, -, -⟩ := Cond.code_spec hn h2
  obtain ⟨kY, hkY, -⟩ := className_of_methodNamed hn
  have hinitY : kY.init = .initialized := Cond.initialized_spec (findClass_of_methodNamed hn) hkY h3
  have h : At U g.method c below := by rw [hg]; exact X.here
  have hlocals9 : W9 + (maxL + 11) + (headSpec ws rm).room.locals ≤ R.locals := hlocals
  have happ : (headSpec ws rm).appliesLoose y e.platform (U.calling g mk a) = true :=
    Spec.appliesLoose_calling (g := g) h hdg hn hkY hinitY
      (X.room_calling (g := g) (R' := (headSpec ws rm).room) hsize hmY hcY hframes (by rw [hlY]; omega) h4 h5) h1
  obtain ⟨mid, hmid⟩ := h.above
  have hfr : (U.setTop g).frames = (.java g :: mid) ++ below := by rw [State.frames_setTop' g h.top, hmid]; rfl
  obtain ⟨o, s₂, hsteps, -, hend, hq⟩ := Steps.callFree hM p X.admits X.cas X.clock (acts := []) hfr happ hPc trivial
  have hq' : vx_Q Qc XC mc ms free a (U.calling g mk a) o s₂ := hq
  rw [State.frames_setTop' g h.top] at hend
  obtain ⟨g₀, hg0⟩ := Option.isSome_iff_exists.mp h.top
  obtain ⟨r, hr⟩ := State.topJava?_eq_some.mp hg0
  have hr' : (({ U with heap := s₂.heap, slotsUsed := s₂.slotsUsed } : State).setVm s₂.vm).frames = .java g₀ :: r := hr
  rcases hq' with ⟨hqc, L, hfe, hL⟩ | ⟨q, rfl, E, ce, L, hx, hce, hcv, hcl, hW₂, hsm, hL⟩
  · obtain ⟨⟨v, rfl⟩, hW₂, e2, q2, q3, q4, q5, q6⟩ := id hfe
    have e3 : s₂ = ({ (U.calling g mk a).setFrames s₂.frames with heap := s₂.heap, slotsUsed := s₂.slotsUsed } : State).setVm s₂.vm := by
      have : s₂ = ({ s₂ with vm := (U.calling g mk a).vm } : State).setVm s₂.vm := rfl
      rw [e2] at this
      exact this
    obtain ⟨c₂, i₂, len₂, hc₂, hd₂, hf₂⟩ := hend
    have hW' : U.WarmedH s₂.vm := hW₂
    have hcc : c₂ = c := by
      have h1 : s₂.code? g.method = U.code? g.method := by
        rw [State.code?_eq, State.code?_eq, hW'.alike.method?]
      exact Option.some.inj (hc₂.symm.trans (h1.trans h.code))
    subst hcc
    have hlen : len₂ = len := by rw [hdg] at hd₂; cases hd₂; rfl
    subst hlen
    have hs₂ : s₂ = (({ U with heap := s₂.heap, slotsUsed := s₂.slotsUsed } : State).setVm s₂.vm).setTop { g with pc := g.pc + len₂, stack := v.toList ++ g.stack } := by
      refine e3.trans ?_
      rw [hf₂, State.calling_eq h.top, State.setFrames_setFrames, State.setTop_of_frames _ hr', hr]
      rfl
    have hsame : U.sameButNew ({ U with heap := s₂.heap, slotsUsed := s₂.slotsUsed } : State) L mc ms := by
      refine ⟨?_, q2, q3, q4, q5, q6⟩
      obtain ⟨t, ht, -⟩ := State.frames_cons hr
      show ({ U with heap := s₂.heap, slotsUsed := s₂.slotsUsed } : State) = { U.setFrames U.frames with heap := s₂.heap, slotsUsed := s₂.slotsUsed }
      rw [State.setFrames_self ht]
    subst hg
    refine Or.inl ⟨v, ⟨(({ U with heap := s₂.heap, slotsUsed := s₂.slotsUsed } : State).setVm s₂.vm), Ls ++ L, c0 + mc, s0 + ms⟩,
      ⟨X.admits, X.cas, X.clock, X.frames, X.room, X.hears, X.method, X.code, (X.here.setHeapUsed s₂.heap s₂.slotsUsed).setVm hW'.alike, X.tail, State.WarmedH.trans X.warmed hW', X.limits, X.bytes, X.same.trans (hsame.setVm s.vm)⟩,
      ⟨g, mk, s₂, L, rfl, rfl, hqc, rfl, hL, rfl, rfl⟩, ?_⟩
    show Steps p.tables e below _ ((({ U with heap := s₂.heap, slotsUsed := s₂.slotsUsed } : State).setVm s₂.vm).setTop { g with pc := g.pc + len₂, stack := v.toList ++ g.stack })
    rw [← hs₂]
    exact hsteps
  · obtain ⟨e2, q2, q3, q4, q5, q6⟩ := id hsm
    have e3 : s₂ = ({ (U.calling g mk a).setFrames s₂.frames with heap := s₂.heap, slotsUsed := s₂.slotsUsed } : State).setVm s₂.vm := by
      have : s₂ = ({ s₂ with vm := (U.calling g mk a).vm } : State).setVm s₂.vm := rfl
      rw [e2] at this
      exact this
    have hf₂ : s₂.frames = .throwing q :: .java g :: U.frames.tail := hend
    have hW' : U.WarmedH s₂.vm := hW₂
    have hs₂ : s₂ = ((({ U with heap := s₂.heap, slotsUsed := s₂.slotsUsed } : State).setVm s₂.vm).setTop g).pushFrame (.throwing q) := by
      refine e3.trans ?_
      rw [hf₂, State.calling_eq h.top, State.setFrames_setFrames, State.pushFrame, State.frames_setTop _ hr', State.setTop_of_frames _ hr', State.setFrames_setFrames, hr]
      rfl
    have hsame : U.sameButNew ({ U with heap := s₂.heap, slotsUsed := s₂.slotsUsed } : State) L mc ms := by
      refine ⟨?_, q2, q3, q4, q5, q6⟩
      obtain ⟨t, ht, -⟩ := State.frames_cons hr
      show ({ U with heap := s₂.heap, slotsUsed := s₂.slotsUsed } : State) = { U.setFrames U.frames with heap := s₂.heap, slotsUsed := s₂.slotsUsed }
      rw [State.setFrames_self ht]
    subst hg
    refine Or.inr ⟨q, ⟨(({ U with heap := s₂.heap, slotsUsed := s₂.slotsUsed } : State).setVm s₂.vm), Ls ++ L, c0 + mc, s0 + ms⟩,
      ⟨X.admits, X.cas, X.clock, X.frames, X.room, X.hears, X.method, X.code, (X.here.setHeapUsed s₂.heap s₂.slotsUsed).setVm hW'.alike, X.tail, State.WarmedH.trans X.warmed hW', X.limits, X.bytes, X.same.trans (hsame.setVm s.vm)⟩,
      ⟨g, mk, s₂, L, E, ce, rfl, rfl, hx, hce, hcv, hcl, rfl, hL, rfl, rfl⟩, ?_⟩
    show Steps p.tables e below _ (((({ U with heap := s₂.heap, slotsUsed := s₂.slotsUsed } : State).setVm s₂.vm).setTop g).pushFrame (.throwing q))
    rw [← hs₂]
    exact hsteps
end Payer
section Calls
variable {p : Program} {l : Launch} {e : Env} {R : Room} {s : State} {m : MethodId} {args : Array Value} {below : List Frame} {meth : Method} {c : Code} {T : State} {locs : List Loc} {cells slots : Nat}
theorem vx_callV (X : Stand p l e R s m args below meth c T locs cells slots) (hexec : p.tables.exec = Jvm.exec) {own C : String} {index : Nat} {y : MethodName} {bytes : ByteArray} {maxL : Nat} {ret : Option FieldType}
    (hown : s.vm.findClass own = some m.cls) (hlink : (Cond.methodLink own index y).before args s = true) (hinst : (Cond.instanceMethod y).before args s = true) (hsel : (Cond.selects C y y).before args s = true)
    (hcode : (Cond.code y bytes maxL ret).before args s = true) (hy : y.cls ≠ "java/lang/invoke/MethodHandle" ∧ y.cls ≠ "java/lang/invoke/VarHandle")
    {W9 : Nat} {Pre : Pt → Array Value → Prop} {Post : Pt → Array Value → Option Value → Pt → Prop} {PostX : Pt → Array Value → Addr → Pt → Prop} (hK : vx_Back l R p e below s args y 3 W9 Pre Post PostX)
    {b : Addr} {cellB : Cell} (hcell : T.heap[b]? = some cellB) (hobj : cellB.vm.isStatics = false) (hcls : s.vm.findClass C = some cellB.cls)
    {g : JFrame} (hg : g.method = m) (hsize : g.locals.size = c.maxLocals) {argsL rest : List Value} (hlen : ∀ sig, parseMethodDescriptor y.desc = some sig → argsL.length = sig.parameters.length)
    (hstack : g.stack = argsL.reverse ++ .ref b :: rest) (hW : 2 * g.monitorRoom + (rest.map fun v => v.category).sum ≤ W9) (hdg : decode c.code g.pc = .ok (.invokevirtual index, 3))
    (hpre : ∀ vm₁, s.WarmedH vm₁ → Pre ⟨T.setVm vm₁, locs, cells, slots⟩ (Value.ref b :: argsL).toArray) :
    (∃ (v : Option Value) (vm₁ : Vm) (B : Pt), s.WarmedH vm₁ ∧ Stand p l e R s m args below meth c B.U B.locs B.cells B.slots ∧ Post ⟨T.setVm vm₁, locs, cells, slots⟩ (Value.ref b :: argsL).toArray v B ∧
      ∀ target, Steps p.tables e below (B.U.setTop { g with pc := g.pc + 3, stack := v.toList ++ rest }) target → Steps p.tables e below (T.setTop g) target) ∨
    (∃ (q : Addr) (vm₁ : Vm) (B : Pt), s.WarmedH vm₁ ∧ Stand p l e R s m args below meth c B.U B.locs B.cells B.slots ∧ PostX ⟨T.setVm vm₁, locs, cells, slots⟩ (Value.ref b :: argsL).toArray q B ∧
      Steps p.tables e below (T.setTop g) ((B.U.setTop { g with stack := rest }).pushFrame (.throwing q))) := by
  obtain ⟨mk, methM, hnamed, hmethM, hstM, habM⟩ := Cond.instanceMethod_spec hinst
  obtain ⟨methM', cM, hmethM', -, -, -, -, -, -, hsigM⟩ := Cond.code_spec hnamed hcode
  cases hmethM.symm.trans hmethM'
  obtain ⟨c2, r2, m2, q1, q2, q3, q4, kP, hkP, hkPi⟩ := Cond.selects_spec hsel
  cases hcls.symm.trans q1
  cases (State.methodFound?_of_named hnamed hy).symm.trans q2
  cases hnamed.symm.trans q3
  have hselP : selectMethod e.platform s.vm cellB.cls mk = .method mk := by rw [Launch.admits_selectMethod X.admits]; exact q4
  obtain ⟨vm₁, X₁, hstep₁⟩ := X.invokevirtual hexec hown hlink hnamed hmethM hstM hkP hkPi hy (a := b) (cell := cellB) hcell
    (fun z h => by rw [h] at hobj; cases hobj) hselP hmethM habM hkP hkPi (g := g) hg (argsL := argsL) (rest := rest) (hlen _ hsigM) hstack hdg
  rcases hK m meth c ⟨T.setVm vm₁, locs, cells, slots⟩ { g with stack := rest } (.invokevirtual index) mk (Value.ref b :: argsL).toArray X₁ hg hsize hdg hW (X₁.named hnamed) (hpre vm₁ X₁.warmed) with ⟨v, B, X', hpost, hsteps⟩ | ⟨q, B, X', hpost, hsteps⟩
  · exact Or.inl ⟨v, vm₁, B, X₁.warmed, X', hpost, fun target h => hstep₁ _ fun acts => by rw [doInvoke_state]; exact hsteps.trans h⟩
  · exact Or.inr ⟨q, vm₁, B, X₁.warmed, X', hpost, hstep₁ _ fun acts => by rw [doInvoke_state]; exact hsteps⟩
theorem vx_callS (X : Stand p l e R s m args below meth c T locs cells slots) (hexec : p.tables.exec = Jvm.exec) {own : String} {index : Nat} {y : MethodName} {bytes : ByteArray} {maxL : Nat} {ret : Option FieldType}
    (hown : s.vm.findClass own = some m.cls) (hlink : (Cond.methodLink own index y).before args s = true) (hstat : (Cond.static y).before args s = true) (hinit : (Cond.initialized y.cls).before args s = true)
    (hcode : (Cond.code y bytes maxL ret).before args s = true) (hy : y.cls ≠ "java/lang/invoke/MethodHandle" ∧ y.cls ≠ "java/lang/invoke/VarHandle")
    {W9 : Nat} {Pre : Pt → Array Value → Prop} {Post : Pt → Array Value → Option Value → Pt → Prop} {PostX : Pt → Array Value → Addr → Pt → Prop} (hK : vx_Back l R p e below s args y 3 W9 Pre Post PostX)
    {g : JFrame} (hg : g.method = m) (hsize : g.locals.size = c.maxLocals) {argsL rest : List Value} (hlen : ∀ sig, parseMethodDescriptor y.desc = some sig → argsL.length = sig.parameters.length)
    (hstack : g.stack = argsL.reverse ++ rest) (hW : 2 * g.monitorRoom + (rest.map fun v => v.category).sum ≤ W9) (hdg : decode c.code g.pc = .ok (.invokestatic index, 3))
    (hpre : ∀ vm₁, s.WarmedH vm₁ → Pre ⟨T.setVm vm₁, locs, cells, slots⟩ argsL.toArray) :
    (∃ (v : Option Value) (vm₁ : Vm) (B : Pt), s.WarmedH vm₁ ∧ Stand p l e R s m args below meth c B.U B.locs B.cells B.slots ∧ Post ⟨T.setVm vm₁, locs, cells, slots⟩ argsL.toArray v B ∧
      ∀ target, Steps p.tables e below (B.U.setTop { g with pc := g.pc + 3, stack := v.toList ++ rest }) target → Steps p.tables e below (T.setTop g) target) ∨
    (∃ (q : Addr) (vm₁ : Vm) (B : Pt), s.WarmedH vm₁ ∧ Stand p l e R s m args below meth c B.U B.locs B.cells B.slots ∧ PostX ⟨T.setVm vm₁, locs, cells, slots⟩ argsL.toArray q B ∧
      Steps p.tables e below (T.setTop g) ((B.U.setTop { g with stack := rest }).pushFrame (.throwing q))) := by
  obtain ⟨mk, hnamed⟩ := Cond.code_named hcode
  obtain ⟨methM, cM, hmethM, -, -, -, -, -, -, hsigM⟩ := Cond.code_spec hnamed hcode
  have hstatic : methM.isStatic = true := Cond.static_spec hnamed hmethM hstat
  obtain ⟨kP, hkP, -⟩ := className_of_methodNamed hnamed
  have hinitP : kP.init = .initialized := Cond.initialized_spec (findClass_of_methodNamed hnamed) hkP hinit
  obtain ⟨vm₁, X₁, hstep₁⟩ := X.invokestatic hexec hown hlink hnamed hmethM hstatic hkP hinitP hy (g := g) hg (argsL := argsL) (rest := rest) (hlen _ hsigM) hstack hdg
  rcases hK m meth c ⟨T.setVm vm₁, locs, cells, slots⟩ { g with stack := rest } (.invokestatic index) mk argsL.toArray X₁ hg hsize hdg hW (X₁.named hnamed) (hpre vm₁ X₁.warmed) with ⟨v, B, X', hpost, hsteps⟩ | ⟨q, B, X', hpost, hsteps⟩
  · exact Or.inl ⟨v, vm₁, B, X₁.warmed, X', hpost, fun target h => hstep₁ _ fun acts => by rw [doInvoke_state]; exact hsteps.trans h⟩
  · exact Or.inr ⟨q, vm₁, B, X₁.warmed, X', hpost, hstep₁ _ fun acts => by rw [doInvoke_state]; exact hsteps⟩
end Calls
theorem vx_cls {s : State} {T : State} {vm₁ : Vm} {E : String} {k : ClassId} (hW : s.WarmedH vm₁) (h : (T.setVm vm₁).vm.findClass E = some k) : s.vm.findClass E = some k := by
  have h1 : vm₁.findClass E = some k := h
  rw [hW.alike.findClass] at h1
  exact h1
/-- the method's frame g, with q thrown over it -/
def vx_W (p : Program) (l : Launch) (e : Env) (R : Room) (s : State) (m : MethodId) (args : Array Value) (below : List Frame) (meth : Method) (c : Code) (H : Heap) (locs : List Loc) (cells slots : Nat) (Q : State → Prop) (g : JFrame) (q : Addr) : Prop :=
  ∀ T : State, T.heap = H → Stand p l e R s m args below meth c T locs cells slots → ∃ t, Steps p.tables e below ((T.setTop g).pushFrame (.throwing q)) t ∧ Q t
def vx_Run (p : Program) (l : Launch) (e : Env) (R : Room) (s : State) (m : MethodId) (args : Array Value) (below : List Frame) (meth : Method) (c : Code) (H : Heap) (locs : List Loc) (cells slots mc ms : Nat) (g : JFrame) (rest : List Value) (Qa : State → Outcome → State → Prop) (XC : String → State → State → Prop) (free : Addr → Prop) : Prop :=
  ∀ T : State, T.heap = H → Stand p l e R s m args below meth c T locs cells slots →
    (∃ (v : Option Value) (st₀ t T' : State) (L : List Loc), st₀.heap = H ∧ Stand p l e R s m args below meth c T' (locs ++ L) (cells + mc) (slots + ms) ∧ (∀ q ∈ L, free q.base) ∧ T'.heap = t.heap ∧ T'.vm = t.vm ∧ Qa st₀ (.returned v) t ∧
      Goes p e below T g T' { g with pc := g.pc + 3, stack := v.toList ++ rest }) ∨
    (∃ (q : Addr) (st₀ t T' : State) (L : List Loc) (E : String) (ce : Cell), st₀.heap = H ∧ Stand p l e R s m args below meth c T' (locs ++ L) (cells + mc) (slots + ms) ∧ (∀ z ∈ L, free z.base) ∧ T'.heap = t.heap ∧ T'.vm = t.vm ∧ XC E st₀ t ∧ t.heap[q]? = some ce ∧ ce.vm = .none ∧ s.vm.findClass E = some ce.cls ∧
      Steps p.tables e below (T.setTop g) ((T'.setTop { g with stack := rest }).pushFrame (.throwing q)))
def vx_X {S : Type} (px : S → Prop) (B : String → S → State → Prop) (A : Nat → Prop) : String → State → State → Prop := fun E st t => ∃ u : S, px u ∧ B E u t ∧ va_F A st t
section Runs
variable {p : Program} {l : Launch} {e : Env} {R : Room} {s : State} {m : MethodId} {args : Array Value} {below : List Frame} {meth : Method} {c : Code} {H : Heap} {locs : List Loc} {cells slots : Nat}
variable {y : MethodName} {bytes cc : ByteArray} {maxL nL mc ms n index : Nat} {ret : Option FieldType} {ws : List Cond} {rm : Room} {Pc : Array Value → State → Prop} {Qc : Array Value → State → Outcome → State → Prop} {XC : String → State → State → Prop} {free : Addr → Prop} {Ts : List Cond} {own C : String} {b : Addr} {As rest : List Value} {g : JFrame}
theorem vx_callBack (cb : CallB R s args own index y bytes maxL ret ws rm mc ms n) (hM : vx_Met l y ws rm Pc Qc XC mc ms free) (hbl : FrameBlind Pc) : vx_Back l R p e below s args y 3 8 (PreOf R mc ms Pc) (PostOf Qc mc ms free) (vx_Post XC mc ms free) := by
  obtain ⟨hrc, hrs, hfr, hlo, hws, hcw, -, hini, -⟩ := cb
  exact vx_back (bytes := bytes) (maxL := maxL) (ret := ret) hM hbl hrc hrs hfr hlo hws hcw (fun a' U hW => word_at hW (Or.inl (by first | rfl | simp [Cond.onTables, Cond.keeps, Cond.steady])) hini)
theorem vx_runV (S : CallFix p m c cc nL s args Ts own) (hM : vx_Met l y ws rm Pc Qc XC mc ms free) (cw : CallW R s args own C index y bytes maxL ret ws rm mc ms n) (hp : PreV s H C b Pc As)
    (hg : g.method = m) (hn : As.length = n) (hsize : g.locals.size = nL) (hstack : g.stack = As.reverse ++ .ref b :: rest) (hW : 2 * g.monitorRoom + (rest.map fun v => v.category).sum ≤ 8) (hdg : decode cc g.pc = .ok (.invokevirtual index, 3)) (hf : cells + mc ≤ R.cells ∧ slots + ms ≤ R.slots) :
    vx_Run p l e R s m args below meth c H locs cells slots mc ms g rest (Qc (Value.ref b :: As).toArray) XC free := by
  have hK : vx_Back l R p e below s args y 3 8 (PreOf R mc ms Pc) (PostOf Qc mc ms free) (vx_Post XC mc ms free) := vx_callBack cw.1 hM hp.1
  obtain ⟨⟨-, -, -, -, -, -, hcode, -, hy, hlen, hl⟩, hin, hse⟩ := cw
  obtain ⟨hx, hb, hml, ho, -⟩ := S
  obtain ⟨-, ⟨cellB, hcB, hoB, hclB⟩, hPc⟩ := hp
  intro T hT X
  rcases vx_callV X hx (C := C) (bytes := bytes) (maxL := maxL) (ret := ret) ho hl hin hse hcode hy hK (by rw [hT]; exact hcB) hoB hclB hg (hsize.trans hml.symm) (argsL := As) (rest := rest) (fun sig h => hn.trans (hlen sig h)) hstack hW (by rw [hb]; exact hdg)
    (fun vm₁ hW₁ => ⟨hf.1, hf.2, hPc (T.setVm vm₁) hT hW₁⟩) with ⟨v, vm₁, ⟨U', l2, c2, s2⟩, hW₁, X', ⟨g', mk, t, L, e1, e2, hq, h1, hL, h2, h3⟩, st⟩ | ⟨q, vm₁, ⟨U', l2, c2, s2⟩, hW₁, X', ⟨g', mk, t, L, E, ce, e1, e2, hq, hce, hcv, hcl, h1, hL, h2, h3⟩, st⟩
  · dsimp only [Pt.U, Pt.locs, Pt.cells, Pt.slots] at X' e1 e2 h1 h2 h3 st
    subst h1; subst h2; subst h3
    exact Or.inl ⟨v, (T.setVm vm₁).calling g' mk (Value.ref b :: As).toArray, t, U', L, hT, X', hL, e1, e2, hq, st⟩
  · dsimp only [Pt.U, Pt.locs, Pt.cells, Pt.slots] at X' e1 e2 h1 h2 h3 st hcl
    subst h1; subst h2; subst h3
    exact Or.inr ⟨q, (T.setVm vm₁).calling g' mk (Value.ref b :: As).toArray, t, U', L, E, ce, hT, X', hL, e1, e2, hq, hce, hcv, vx_cls hW₁ hcl, st⟩
theorem vx_runS (S : CallFix p m c cc nL s args Ts own) (hM : vx_Met l y ws rm Pc Qc XC mc ms free) (cw : CallB R s args own index y bytes maxL ret ws rm mc ms n ∧ (Cond.static y).before args s = true) (hp : PreS s H Pc As)
    (hg : g.method = m) (hn : As.length = n) (hsize : g.locals.size = nL) (hstack : g.stack = As.reverse ++ rest) (hW : 2 * g.monitorRoom + (rest.map fun v => v.category).sum ≤ 8) (hdg : decode cc g.pc = .ok (.invokestatic index, 3)) (hf : cells + mc ≤ R.cells ∧ slots + ms ≤ R.slots) :
    vx_Run p l e R s m args below meth c H locs cells slots mc ms g rest (Qc As.toArray) XC free := by
  have hK : vx_Back l R p e below s args y 3 8 (PreOf R mc ms Pc) (PostOf Qc mc ms free) (vx_Post XC mc ms free) := vx_callBack cw.1 hM hp.1
  obtain ⟨⟨-, -, -, -, -, -, hcode, hini, hy, hlen, hl⟩, hstt⟩ := cw
  obtain ⟨hx, hb, hml, ho, -⟩ := S
  intro T hT X
  rcases vx_callS X hx (bytes := bytes) (maxL := maxL) (ret := ret) ho hl hstt hini hcode hy hK hg (hsize.trans hml.symm) (argsL := As) (rest := rest) (fun sig h => hn.trans (hlen sig h)) hstack hW (by rw [hb]; exact hdg)
    (fun vm₁ hW₁ => ⟨hf.1, hf.2, hp.2 (T.setVm vm₁) hT hW₁⟩) with ⟨v, vm₁, ⟨U', l2, c2, s2⟩, hW₁, X', ⟨g', mk, t, L, e1, e2, hq, h1, hL, h2, h3⟩, st⟩ | ⟨q, vm₁, ⟨U', l2, c2, s2⟩, hW₁, X', ⟨g', mk, t, L, E, ce, e1, e2, hq, hce, hcv, hcl, h1, hL, h2, h3⟩, st⟩
  · dsimp only [Pt.U, Pt.locs, Pt.cells, Pt.slots] at X' e1 e2 h1 h2 h3 st
    subst h1; subst h2; subst h3
    exact Or.inl ⟨v, (T.setVm vm₁).calling g' mk As.toArray, t, U', L, hT, X', hL, e1, e2, hq, st⟩
  · dsimp only [Pt.U, Pt.locs, Pt.cells, Pt.slots] at X' e1 e2 h1 h2 h3 st hcl
    subst h1; subst h2; subst h3
    exact Or.inr ⟨q, (T.setVm vm₁).calling g' mk As.toArray, t, U', L, E, ce, hT, X', hL, e1, e2, hq, hce, hcv, vx_cls hW₁ hcl, st⟩
end Runs
section Rows
variable {p : Program} {l : Launch} {e : Env} {R : Room} {s : State} {m : MethodId} {args : Array Value} {below : List Frame} {meth : Method} {c : Code} {H : Heap} {locs : List Loc} {cells slots : Nat} {Q : State → Prop}
variable {mc ms : Nat} {free : Addr → Prop} {A0 A1 : Nat → Prop} {H0 : Heap} {a : Array Value} {pc : Nat} {ls : Array Slot} {st0 rest : List Value}
theorem vx_keep {st₀ t T' : State} {L : List Loc} (h0 : st₀.heap = H) (e1 : T'.heap = t.heap) (hS : va_S A0 H0 H locs) (hA : ∀ q, q < H.size → A1 q → A0 q) (hf : ∀ q, free q → A0 q) (hL : ∀ q ∈ L, free q.base) (hF : va_F A1 st₀ t) :
    H.size ≤ T'.heap.size ∧ (∀ q : Nat, q < H.size → ¬ A1 q → T'.heap[q]? = H[q]?) ∧ va_S A0 H0 T'.heap (locs ++ L) := by
  obtain ⟨hz, hk⟩ := hF
  rw [h0] at hz hk
  exact ⟨by rw [e1]; exact hz, fun q h1 h2 => by rw [e1]; exact hk q h1 h2,
    ⟨Nat.le_trans hS.1 (by rw [e1]; exact hz), fun q h1 h2 => by rw [e1, hk q (Nat.lt_of_lt_of_le h1 hS.1) (fun z => h2 (hA q (Nat.lt_of_lt_of_le h1 hS.1) z))]; exact hS.2.1 q h1 h2, fun q hq => by
      rcases List.mem_append.mp hq with h | h
      · exact hS.2.2 q h
      · exact hf _ (hL q h)⟩⟩
theorem vx_calli {S SX : Type} {post : Int32 → S → Prop} {px : SX → Prop} {B : S → State → Prop} {BX : String → SX → State → Prop} {AX : Nat → Prop} (hr : vx_Run p l e R s m args below meth c H locs cells slots mc ms (F0 m pc ls st0) rest (va_Qi post B A1 a) (vx_X px BX AX) free) (hS : va_S A0 H0 H locs) (hA : ∀ q, q < H.size → A1 q → A0 q) (hf : ∀ q, free q → A0 q) (hAX : ∀ q, q < H.size → AX q → A0 q)
    (kx : ∀ (E : String) (ce : Cell) (q9 : Addr) (u : SX) (t : State) (H1 : Heap) (locs1 : List Loc), t.heap = H1 → s.vm.Alike t.vm → px u → BX E u t → H.size ≤ H1.size → (∀ q : Nat, q < H.size → ¬ AX q → H1[q]? = H[q]?) → va_S A0 H0 H1 locs1 → H1[q9]? = some ce → ce.vm = .none → s.vm.findClass E = some ce.cls → vx_W p l e R s m args below meth c H1 locs1 (cells + mc) (slots + ms) Q (F0 m pc ls rest) q9)
    (kk : ∀ (r : Int32) (u : S) (t : State) (H1 : Heap) (locs1 : List Loc), t.heap = H1 → s.vm.Alike t.vm → post r u → B u t → H.size ≤ H1.size → (∀ q : Nat, q < H.size → ¬ A1 q → H1[q]? = H[q]?) → va_S A0 H0 H1 locs1 → W p l e R s m args below meth c H1 locs1 (cells + mc) (slots + ms) Q (F0 m (pc + 3) ls (.int r :: rest))) : W p l e R s m args below meth c H locs cells slots Q (F0 m pc ls st0) := by
  intro T hT X
  rcases hr T hT X with ⟨v, st₀, t, T', L, h0, X', hL, e1, e2, ⟨⟨r, u, hv, hp, hb⟩, hF⟩, st⟩ | ⟨q, st₀, t, T', L, E, ce, h0, X', hL, e1, e2, ⟨u, hp, hb, hF⟩, hce, hcv, hcl, st⟩
  · cases hv
    obtain ⟨k1, k2, k3⟩ := vx_keep h0 e1 hS hA hf hL hF
    obtain ⟨t2, a1, b1⟩ := kk r u t T'.heap (locs ++ L) e1.symm (by rw [← e2]; exact X'.warmed.alike) hp hb k1 k2 k3 T' rfl X'
    exact ⟨t2, st t2 a1, b1⟩
  · obtain ⟨k1, k2, k3⟩ := vx_keep h0 e1 hS hAX hf hL hF
    obtain ⟨t2, a1, b1⟩ := kx E ce q u t T'.heap (locs ++ L) e1.symm (by rw [← e2]; exact X'.warmed.alike) hp hb k1 k2 k3 (by rw [e1]; exact hce) hcv hcl T' rfl X'
    exact ⟨t2, st.trans a1, b1⟩
theorem vx_calll {S SX : Type} {post : Int64 → S → Prop} {px : SX → Prop} {B : S → State → Prop} {BX : String → SX → State → Prop} {AX : Nat → Prop} (hr : vx_Run p l e R s m args below meth c H locs cells slots mc ms (F0 m pc ls st0) rest (va_Ql post B A1 a) (vx_X px BX AX) free) (hS : va_S A0 H0 H locs) (hA : ∀ q, q < H.size → A1 q → A0 q) (hf : ∀ q, free q → A0 q) (hAX : ∀ q, q < H.size → AX q → A0 q)
    (kx : ∀ (E : String) (ce : Cell) (q9 : Addr) (u : SX) (t : State) (H1 : Heap) (locs1 : List Loc), t.heap = H1 → s.vm.Alike t.vm → px u → BX E u t → H.size ≤ H1.size → (∀ q : Nat, q < H.size → ¬ AX q → H1[q]? = H[q]?) → va_S A0 H0 H1 locs1 → H1[q9]? = some ce → ce.vm = .none → s.vm.findClass E = some ce.cls → vx_W p l e R s m args below meth c H1 locs1 (cells + mc) (slots + ms) Q (F0 m pc ls rest) q9)
    (kk : ∀ (r : Int64) (u : S) (t : State) (H1 : Heap) (locs1 : List Loc), t.heap = H1 → s.vm.Alike t.vm → post r u → B u t → H.size ≤ H1.size → (∀ q : Nat, q < H.size → ¬ A1 q → H1[q]? = H[q]?) → va_S A0 H0 H1 locs1 → W p l e R s m args below meth c H1 locs1 (cells + mc) (slots + ms) Q (F0 m (pc + 3) ls (.long r :: rest))) : W p l e R s m args below meth c H locs cells slots Q (F0 m pc ls st0) := by
  intro T hT X
  rcases hr T hT X with ⟨v, st₀, t, T', L, h0, X', hL, e1, e2, ⟨⟨r, u, hv, hp, hb⟩, hF⟩, st⟩ | ⟨q, st₀, t, T', L, E, ce, h0, X', hL, e1, e2, ⟨u, hp, hb, hF⟩, hce, hcv, hcl, st⟩
  · cases hv
    obtain ⟨k1, k2, k3⟩ := vx_keep h0 e1 hS hA hf hL hF
    obtain ⟨t2, a1, b1⟩ := kk r u t T'.heap (locs ++ L) e1.symm (by rw [← e2]; exact X'.warmed.alike) hp hb k1 k2 k3 T' rfl X'
    exact ⟨t2, st t2 a1, b1⟩
  · obtain ⟨k1, k2, k3⟩ := vx_keep h0 e1 hS hAX hf hL hF
    obtain ⟨t2, a1, b1⟩ := kx E ce q u t T'.heap (locs ++ L) e1.symm (by rw [← e2]; exact X'.warmed.alike) hp hb k1 k2 k3 (by rw [e1]; exact hce) hcv hcl T' rfl X'
    exact ⟨t2, st.trans a1, b1⟩
theorem vx_callf {S SX : Type} {post : UInt32 → S → Prop} {px : SX → Prop} {B : S → State → Prop} {BX : String → SX → State → Prop} {AX : Nat → Prop} (hr : vx_Run p l e R s m args below meth c H locs cells slots mc ms (F0 m pc ls st0) rest (va_Qf post B A1 a) (vx_X px BX AX) free) (hS : va_S A0 H0 H locs) (hA : ∀ q, q < H.size → A1 q → A0 q) (hf : ∀ q, free q → A0 q) (hAX : ∀ q, q < H.size → AX q → A0 q)
    (kx : ∀ (E : String) (ce : Cell) (q9 : Addr) (u : SX) (t : State) (H1 : Heap) (locs1 : List Loc), t.heap = H1 → s.vm.Alike t.vm → px u → BX E u t → H.size ≤ H1.size → (∀ q : Nat, q < H.size → ¬ AX q → H1[q]? = H[q]?) → va_S A0 H0 H1 locs1 → H1[q9]? = some ce → ce.vm = .none → s.vm.findClass E = some ce.cls → vx_W p l e R s m args below meth c H1 locs1 (cells + mc) (slots + ms) Q (F0 m pc ls rest) q9)
    (kk : ∀ (r : UInt32) (u : S) (t : State) (H1 : Heap) (locs1 : List Loc), t.heap = H1 → s.vm.Alike t.vm → post r u → B u t → H.size ≤ H1.size → (∀ q : Nat, q < H.size → ¬ A1 q → H1[q]? = H[q]?) → va_S A0 H0 H1 locs1 → W p l e R s m args below meth c H1 locs1 (cells + mc) (slots + ms) Q (F0 m (pc + 3) ls (.float r :: rest))) : W p l e R s m args below meth c H locs cells slots Q (F0 m pc ls st0) := by
  intro T hT X
  rcases hr T hT X with ⟨v, st₀, t, T', L, h0, X', hL, e1, e2, ⟨⟨r, u, hv, hp, hb⟩, hF⟩, st⟩ | ⟨q, st₀, t, T', L, E, ce, h0, X', hL, e1, e2, ⟨u, hp, hb, hF⟩, hce, hcv, hcl, st⟩
  · cases hv
    obtain ⟨k1, k2, k3⟩ := vx_keep h0 e1 hS hA hf hL hF
    obtain ⟨t2, a1, b1⟩ := kk r u t T'.heap (locs ++ L) e1.symm (by rw [← e2]; exact X'.warmed.alike) hp hb k1 k2 k3 T' rfl X'
    exact ⟨t2, st t2 a1, b1⟩
  · obtain ⟨k1, k2, k3⟩ := vx_keep h0 e1 hS hAX hf hL hF
    obtain ⟨t2, a1, b1⟩ := kx E ce q u t T'.heap (locs ++ L) e1.symm (by rw [← e2]; exact X'.warmed.alike) hp hb k1 k2 k3 (by rw [e1]; exact hce) hcv hcl T' rfl X'
    exact ⟨t2, st.trans a1, b1⟩
theorem vx_calld {S SX : Type} {post : UInt64 → S → Prop} {px : SX → Prop} {B : S → State → Prop} {BX : String → SX → State → Prop} {AX : Nat → Prop} (hr : vx_Run p l e R s m args below meth c H locs cells slots mc ms (F0 m pc ls st0) rest (va_Qd post B A1 a) (vx_X px BX AX) free) (hS : va_S A0 H0 H locs) (hA : ∀ q, q < H.size → A1 q → A0 q) (hf : ∀ q, free q → A0 q) (hAX : ∀ q, q < H.size → AX q → A0 q)
    (kx : ∀ (E : String) (ce : Cell) (q9 : Addr) (u : SX) (t : State) (H1 : Heap) (locs1 : List Loc), t.heap = H1 → s.vm.Alike t.vm → px u → BX E u t → H.size ≤ H1.size → (∀ q : Nat, q < H.size → ¬ AX q → H1[q]? = H[q]?) → va_S A0 H0 H1 locs1 → H1[q9]? = some ce → ce.vm = .none → s.vm.findClass E = some ce.cls → vx_W p l e R s m args below meth c H1 locs1 (cells + mc) (slots + ms) Q (F0 m pc ls rest) q9)
    (kk : ∀ (r : UInt64) (u : S) (t : State) (H1 : Heap) (locs1 : List Loc), t.heap = H1 → s.vm.Alike t.vm → post r u → B u t → H.size ≤ H1.size → (∀ q : Nat, q < H.size → ¬ A1 q → H1[q]? = H[q]?) → va_S A0 H0 H1 locs1 → W p l e R s m args below meth c H1 locs1 (cells + mc) (slots + ms) Q (F0 m (pc + 3) ls (.double r :: rest))) : W p l e R s m args below meth c H locs cells slots Q (F0 m pc ls st0) := by
  intro T hT X
  rcases hr T hT X with ⟨v, st₀, t, T', L, h0, X', hL, e1, e2, ⟨⟨r, u, hv, hp, hb⟩, hF⟩, st⟩ | ⟨q, st₀, t, T', L, E, ce, h0, X', hL, e1, e2, ⟨u, hp, hb, hF⟩, hce, hcv, hcl, st⟩
  · cases hv
    obtain ⟨k1, k2, k3⟩ := vx_keep h0 e1 hS hA hf hL hF
    obtain ⟨t2, a1, b1⟩ := kk r u t T'.heap (locs ++ L) e1.symm (by rw [← e2]; exact X'.warmed.alike) hp hb k1 k2 k3 T' rfl X'
    exact ⟨t2, st t2 a1, b1⟩
  · obtain ⟨k1, k2, k3⟩ := vx_keep h0 e1 hS hAX hf hL hF
    obtain ⟨t2, a1, b1⟩ := kx E ce q u t T'.heap (locs ++ L) e1.symm (by rw [← e2]; exact X'.warmed.alike) hp hb k1 k2 k3 (by rw [e1]; exact hce) hcv hcl T' rfl X'
    exact ⟨t2, st.trans a1, b1⟩
theorem vx_callv {S SX : Type} {post : S → Prop} {px : SX → Prop} {B : S → State → Prop} {BX : String → SX → State → Prop} {AX : Nat → Prop} (hr : vx_Run p l e R s m args below meth c H locs cells slots mc ms (F0 m pc ls st0) rest (va_Qv post B A1 a) (vx_X px BX AX) free) (hS : va_S A0 H0 H locs) (hA : ∀ q, q < H.size → A1 q → A0 q) (hf : ∀ q, free q → A0 q) (hAX : ∀ q, q < H.size → AX q → A0 q)
    (kx : ∀ (E : String) (ce : Cell) (q9 : Addr) (u : SX) (t : State) (H1 : Heap) (locs1 : List Loc), t.heap = H1 → s.vm.Alike t.vm → px u → BX E u t → H.size ≤ H1.size → (∀ q : Nat, q < H.size → ¬ AX q → H1[q]? = H[q]?) → va_S A0 H0 H1 locs1 → H1[q9]? = some ce → ce.vm = .none → s.vm.findClass E = some ce.cls → vx_W p l e R s m args below meth c H1 locs1 (cells + mc) (slots + ms) Q (F0 m pc ls rest) q9)
    (kk : ∀ (u : S) (t : State) (H1 : Heap) (locs1 : List Loc), t.heap = H1 → s.vm.Alike t.vm → post u → B u t → H.size ≤ H1.size → (∀ q : Nat, q < H.size → ¬ A1 q → H1[q]? = H[q]?) → va_S A0 H0 H1 locs1 → W p l e R s m args below meth c H1 locs1 (cells + mc) (slots + ms) Q (F0 m (pc + 3) ls (rest))) : W p l e R s m args below meth c H locs cells slots Q (F0 m pc ls st0) := by
  intro T hT X
  rcases hr T hT X with ⟨v, st₀, t, T', L, h0, X', hL, e1, e2, ⟨⟨u, hv, hp, hb⟩, hF⟩, st⟩ | ⟨q, st₀, t, T', L, E, ce, h0, X', hL, e1, e2, ⟨u, hp, hb, hF⟩, hce, hcv, hcl, st⟩
  · cases hv
    obtain ⟨k1, k2, k3⟩ := vx_keep h0 e1 hS hA hf hL hF
    obtain ⟨t2, a1, b1⟩ := kk u t T'.heap (locs ++ L) e1.symm (by rw [← e2]; exact X'.warmed.alike) hp hb k1 k2 k3 T' rfl X'
    exact ⟨t2, st t2 a1, b1⟩
  · obtain ⟨k1, k2, k3⟩ := vx_keep h0 e1 hS hAX hf hL hF
    obtain ⟨t2, a1, b1⟩ := kx E ce q u t T'.heap (locs ++ L) e1.symm (by rw [← e2]; exact X'.warmed.alike) hp hb k1 k2 k3 (by rw [e1]; exact hce) hcv hcl T' rfl X'
    exact ⟨t2, st.trans a1, b1⟩
/-- caught by the row x of this method's table; the rows ahead don't take it -/
theorem vx_catch {own name : String} {E : String} {ce : Cell} {q : Addr} (hown : s.vm.findClass own = some m.cls) (pre : List ExceptionTableEntry) (x : ExceptionTableEntry) (suf : List ExceptionTableEntry) (hsplit : c.exceptionTable.toList = pre ++ x :: suf)
    (hpass : ∀ z ∈ pre, covers z pc = false ∨ (z.catchType ≠ 0 ∧ ∃ nm : String, (Cond.classLink own z.catchType nm).before args s = true ∧ va_Nc E nm s)) (hx : covers x pc = true) (h0 : x.catchType ≠ 0)
    (hlink : (Cond.classLink own x.catchType name).before args s = true) (hcast : (Cond.castable E name).before args s = true) (hcell : H[q]? = some ce) (hv : ce.vm = .none) (hcl : s.vm.findClass E = some ce.cls)
    (kk : W p l e R s m args below meth c H locs cells slots Q (F0 m x.handlerPc ls [.ref q])) : vx_W p l e R s m args below meth c H locs cells slots Q (F0 m pc ls rest) q := by
  intro T hT X
  have hpl : e.platform.magicAccessors = ({} : Platform).magicAccessors := by rw [X.admits.platform]
  obtain ⟨c3, c4, hc3, hc4, hasg⟩ := Cond.castable_spec hcast
  cases Option.some.inj (hc3.symm.trans hcl)
  obtain ⟨c5, hc5, hcl5⟩ := Cond.classLink_spec hown hlink e.platform hpl
  cases Option.some.inj (hc4.symm.trans hc5)
  obtain ⟨vm', X', st⟩ := X.thenCaughtThrough q (g := F0 m pc ls rest) rfl (Steps.refl _) (by rw [hT]; exact hcell) (by rw [hv]; rfl) (by obtain ⟨k9, h9, -⟩ := Vm.findClass_spec hcl; exact ⟨k9, h9⟩) pre x suf hsplit
    (fun z hz => by
      rcases hpass z hz with h | ⟨hz0, nm, hl1, hn1⟩
      · exact Or.inl h
      · obtain ⟨c6, hc6, hcl6⟩ := Cond.classLink_spec hown hl1 e.platform hpl
        obtain ⟨a8, b8, h1, h2, h3⟩ := hn1
        cases Option.some.inj (h1.symm.trans hcl)
        cases Option.some.inj (h2.symm.trans hc6)
        exact Or.inr ⟨hz0, _, hcl6, h3⟩) hx (Or.inr ⟨h0, c4, hcl5, hasg⟩)
  obtain ⟨t, a1, b1⟩ := kk (T.setVm vm') hT X'
  exact ⟨t, st.trans a1, b1⟩
end Rows
section Ends
variable {p : Program} {l : Launch} {e : Env} {R : Room} {s : State} {m : MethodId} {args : Array Value} {below : List Frame} {meth : Method} {c : Code} {H : Heap} {locs : List Loc} {cells slots : Nat} {Q : State → Prop}
variable {mc ms : Nat} {free : Addr → Prop} {A0 A1 : Nat → Prop} {H0 : Heap} {a : Array Value} {ls : Array Slot} {st0 rest : List Value}
variable {Qc : Array Value → State → Outcome → State → Prop} {XC : String → State → State → Prop}
/-- what a body that may throw owes at its end -/
def vx_MQ (below : List Frame) (Qc : Array Value → State → Outcome → State → Prop) (XC : String → State → State → Prop) (a : Array Value) (s : State) (mc ms : Nat) (free : Addr → Prop) : State → Prop := fun t =>
  ∃ o, t.status = .running ∧ Ended t below o ∧ vx_Q Qc XC mc ms free a s o t
theorem vx_ret {g : JFrame} {mc ms : Nat} (k : W p l e R s m args below meth c H locs cells slots (MQ below Qc args s mc ms free) g) : W p l e R s m args below meth c H locs cells slots (vx_MQ below Qc XC args s mc ms free) g := by
  intro T hT X
  obtain ⟨t, a1, o, b1, b2, b3, b4⟩ := k T hT X
  exact ⟨t, a1, o, b1, b2, Or.inl ⟨b3, b4⟩⟩
/-- not caught here: it goes on to the caller -/
theorem vx_widen {g : JFrame} {q : Addr} {k n : Nat} (h1 : cells ≤ k) (h2 : slots ≤ n) (kk : vx_W p l e R s m args below meth c H locs k n Q g q) : vx_W p l e R s m args below meth c H locs cells slots Q g q := fun T hT X => kk T hT (stand_widen X h1 h2)
theorem vx_out {pc : Nat} {E : String} {ce : Cell} {q : Addr} {mc ms : Nat} (hout : ∀ x ∈ c.exceptionTable.toList, covers x pc = false) (hlocks : meth.locks = false) (hcell : H[q]? = some ce) (hv : ce.vm = .none) (hcl : s.vm.findClass E = some ce.cls)
    (hx : ∀ t : State, t.heap = H → s.vm.Alike t.vm → XC E s t) (hf : ∀ z ∈ locs, free z.base) (hc : cells ≤ mc) (hs : slots ≤ ms) :
    vx_W p l e R s m args below meth c H locs cells slots (vx_MQ below Qc XC args s mc ms free) (F0 m pc ls rest) q := by
  intro T hT X
  obtain ⟨st1, hrun, hend, hW, hsm⟩ := X.leaveThrown q (g := F0 m pc ls rest) rfl rfl rfl hout hlocks
  have hcell9 : (T.setFrames (.throwing q :: below)).heap[q]? = some ce := by
    show T.heap[q]? = some ce
    rw [hT]; exact hcell
  exact ⟨_, st1, .threw q, hrun, hend, Or.inr ⟨q, rfl, E, ce, locs, hx _ hT hW.alike, hcell9, hv, hcl, hW, hsm.mono hc hs, hf⟩⟩
theorem vx_frame {U : State} {k n : Nat} (h : s.sameButNew ({ U with vm := s.vm } : State) locs k n) : s.heap.size ≤ U.heap.size ∧ ∀ q : Nat, q < s.heap.size → (∀ z ∈ locs, z.base ≠ q) → U.heap[q]? = s.heap[q]? := by
  obtain ⟨-, h2, -, -, -, h6⟩ := h
  refine ⟨h2, fun q hq hz => ?_⟩
  obtain ⟨c9, e1, e2, e3, e4⟩ := h6 q _ (Array.getElem?_eq_getElem hq)
  have hs : c9.slots = (s.heap[q]).slots := Array.ext_getElem? fun i => e4 i fun hm => hz _ hm rfl
  have h9 : c9 = s.heap[q] := by
    rw [hs] at e2
    exact e2
  have e5 : U.heap[q]? = some c9 := e1
  rw [e5, h9, Array.getElem?_eq_getElem hq]
/-- the words of a throw but the four that speak of the heap -/
def vx_no (w : Cond) : Bool := decide (w ≠ .isRef (.static Bundle.tN "UNASSIGNED_STACK" Bundle.steD)) && decide (w ≠ .isRef (.static Bundle.tN "SUPPRESSED_SENTINEL" Bundle.listD)) && decide (w ≠ .laysStatic Bundle.tN "UNASSIGNED_STACK" Bundle.steD) && decide (w ≠ .laysStatic Bundle.tN "SUPPRESSED_SENTINEL" Bundle.listD)
def vx_at0 (own : String) (ic : Nat) (X : String) (names : List String) : List Cond := (Bundle.ownAtoms0 own ic X names).filter vx_no
def vx_atS (own : String) (ic : Nat) (X : String) (names : List String) : List Cond := (Bundle.ownAtoms own ic X names).filter vx_no
/-- a word that the tables alone decide, or a good one -/
def vx_ot (w : Cond) : Bool := w.onTables || goodWord w
theorem vx_ot_at {args a' : Array Value} {s U : State} {w : Cond} (hW : s.WarmedH U.vm) (hvm : s.vm = U.vm) (hg : vx_ot w = true) (h : w.before args s = true) : w.before a' U = true := by
  simp only [vx_ot, Bool.or_eq_true] at hg
  rcases hg with hg | hg
  · exact va_tabs hg hvm h
  · exact word_at hW (good_of_word hg) h
/-- a list's words: the good ones out of the method's own list, the others by premises of their own -/
theorem vx_hat {args : Array Value} {s : State} {L B : List Cond} (h1 : ∀ w ∈ L.filter goodWord, w.before args s = true) (h2 : ∀ w ∈ L.filter (fun w => !goodWord w), w ∈ B) (h3 : ∀ w ∈ B, w.before args s = true) : ∀ w ∈ L, w.before args s = true := by
  intro w hw
  by_cases g : goodWord w = true
  · exact h1 w (List.mem_filter.mpr ⟨hw, g⟩)
  · refine h3 w (h2 w (List.mem_filter.mpr ⟨hw, ?_⟩))
    show (!goodWord w) = true
    cases hgw : goodWord w
    · rfl
    · exact absurd hgw g
theorem vx_c {args : Array Value} {s : State} {w : Cond} {B : List Cond} (h : w.before args s = true) (t : ∀ w ∈ B, w.before args s = true) : ∀ w' ∈ w :: B, w'.before args s = true := fun w' h' => (List.mem_cons.mp h').elim (fun e => by rw [e]; exact h) (t w')
theorem vx_n {args : Array Value} {s : State} : ∀ w ∈ ([] : List Cond), w.before args s = true := fun _ h => nomatch h
theorem vx_own {args : Array Value} {s : State} {L : List Cond} (h1 : ∀ w ∈ L.filter vx_no, w.before args s = true)
    (hU : (Cond.isRef (.static Bundle.tN "UNASSIGNED_STACK" Bundle.steD)).before args s = true) (hN : (Cond.isRef (.static Bundle.tN "SUPPRESSED_SENTINEL" Bundle.listD)).before args s = true)
    (lU : (Cond.laysStatic Bundle.tN "UNASSIGNED_STACK" Bundle.steD).before args s = true) (lN : (Cond.laysStatic Bundle.tN "SUPPRESSED_SENTINEL" Bundle.listD).before args s = true) : ∀ w ∈ L, w.before args s = true := by
  intro w hw
  by_cases e1 : w = .isRef (.static Bundle.tN "UNASSIGNED_STACK" Bundle.steD)
  · rw [e1]; exact hU
  · by_cases e2 : w = .isRef (.static Bundle.tN "SUPPRESSED_SENTINEL" Bundle.listD)
    · rw [e2]; exact hN
    · by_cases e3 : w = .laysStatic Bundle.tN "UNASSIGNED_STACK" Bundle.steD
      · rw [e3]; exact lU
      · by_cases e4 : w = .laysStatic Bundle.tN "SUPPRESSED_SENTINEL" Bundle.listD
        · rw [e4]; exact lN
        · exact h1 w (List.mem_filter.mpr ⟨hw, by unfold vx_no; rw [decide_eq_true e1, decide_eq_true e2, decide_eq_true e3, decide_eq_true e4]; rfl⟩)
/-- where a static field lies, its class's statics cell in H -/
def vx_L (C n d : String) (A : Nat → Prop) (U : State) (H : Heap) : Prop := ∃ (c : ClassId) (k : Class) (i : Nat) (f : Field) (a : Nat) (cell : Cell), U.vm.findClass C = some c ∧ U.fieldFound? C n d = some (c, k, i, f) ∧ f.isStatic = true ∧ k.statics = some a ∧ H[a]? = some cell ∧ cell.vm.isStatics = true ∧ cell.cls = c ∧ f.slot < cell.slots.size ∧ k.staticTypes[f.slot]? = some f.type ∧ ¬ A a
theorem vx_L.moved {C n d : String} {A : Nat → Prop} {u U : State} {H : Heap} (hvm : u.vm.Alike U.vm) (h : vx_L C n d A u H) : vx_L C n d A U H := by
  obtain ⟨c, k, i, f, a, cell, h1, h2, h3, h4, h5, h6, h7, h8, h9, h10⟩ := h
  obtain ⟨k', hi', he⟩ := State.fieldFound?_setVm hvm h2
  exact ⟨c, k', i, f, a, cell, by rw [hvm.findClass]; exact h1, hi', h3, by rw [he]; exact h4, h5, h6, h7, h8, by rw [he]; exact h9, h10⟩
theorem vx_L.kept {C n d : String} {A : Nat → Prop} {U : State} {H H1 : Heap} (h : vx_L C n d A U H) (hq : ∀ a : Nat, a < H.size → ¬ A a → H1[a]? = H[a]?) : vx_L C n d A U H1 := by
  obtain ⟨c, k, i, f, a, cell, h1, h2, h3, h4, h5, h6, h7, h8, h9, h10⟩ := h
  exact ⟨c, k, i, f, a, cell, h1, h2, h3, h4, by rw [hq a (Array.getElem?_eq_some_iff.mp h5).1 h10]; exact h5, h6, h7, h8, h9, h10⟩
theorem vx_L.narrow {C n d : String} {A B : Nat → Prop} {U : State} {H : Heap} (h : vx_L C n d A U H) (hAB : ∀ q, B q → A q) : vx_L C n d B U H := by
  obtain ⟨c, k, i, f, a, cell, h1, h2, h3, h4, h5, h6, h7, h8, h9, h10⟩ := h
  exact ⟨c, k, i, f, a, cell, h1, h2, h3, h4, h5, h6, h7, h8, h9, fun z => h10 (hAB _ z)⟩
theorem vx_L.word {C n d : String} {A : Nat → Prop} {s : State} {args : Array Value} (h : vx_L C n d A s s.heap) : (Cond.laysStatic C n d).before args s = true := by
  obtain ⟨c, k, i, f, a, cell, h1, h2, h3, h4, h5, h6, h7, h8, h9, -⟩ := h
  show (Cond.laysStatic C n d).holds args s none s [] = true
  exact Cond.laysStatic_of h1 h2 h3 h4 h5 h6 h7 h8 h9
/-- .. and what it holds: null or some reference -/
def vx_Zq (C n d : String) (A : Nat → Prop) (U : State) (H : Heap) : Prop := va_Zq C n d A U H ∧ vx_L C n d A U H
theorem vx_Zq.moved {C n d : String} {A : Nat → Prop} {u U : State} {H : Heap} (hvm : u.vm.Alike U.vm) (h : vx_Zq C n d A u H) : vx_Zq C n d A U H := ⟨va_Zq.moved hvm h.1, vx_L.moved hvm h.2⟩
theorem vx_Zq.kept {C n d : String} {A : Nat → Prop} {U : State} {H H1 : Heap} (h : vx_Zq C n d A U H) (hq : ∀ a : Nat, a < H.size → ¬ A a → H1[a]? = H[a]?) : vx_Zq C n d A U H1 := ⟨va_Zq.kept h.1 hq, vx_L.kept h.2 hq⟩
theorem vx_Zq.narrow {C n d : String} {A B : Nat → Prop} {U : State} {H : Heap} (h : vx_Zq C n d A U H) (hAB : ∀ q, B q → A q) : vx_Zq C n d B U H := ⟨va_Zq.narrow h.1 hAB, vx_L.narrow h.2 hAB⟩
theorem vx_Zqof {args : Array Value} {s : State} {C n d : String} {A : Nat → Prop} (hl : (Cond.laysStatic C n d).before args s = true) (hini : (Cond.initialized C).before args s = true) (h : (Cond.isRef (.static C n d)).before args s = true) (hA : ∀ a : Nat, a < s.heap.size → ¬ A a) : vx_Zq C n d A s s.heap := by
  refine ⟨va_Zqof hl hini h hA, ?_⟩
  obtain ⟨c, k, i, f, a, cell, h1, h2, h3, h4, h5, h6, h7, h8, h9⟩ := Cond.laysStatic_spec hl
  exact ⟨c, k, i, f, a, cell, h1, h2, h3, h4, h5, h6, h7, h8, h9, hA a (Array.getElem?_eq_some_iff.mp h5).1⟩
theorem vx_isRef {C n d : String} {v : Value} {A : Nat → Prop} {s : State} {args : Array Value} (h : va_Z C n d v A s s.heap) (hv : v.isRef = true) : (Cond.isRef (.static C n d)).before args s = true := by
  obtain ⟨cf, kf, fi, f, a, cell, h1, h2, h3, h4, h5, h6, h7, -⟩ := h
  have he : (Term.static C n d).eval args s none [] s = some v := by
    simp [Term.eval, State.fieldNamed?, h1, h2, h4, h5, h6, h7]
  simp only [Cond.before, Cond.holds, Cond.value, he]
  cases v <;> simp_all [Value.isRef]
theorem vx_isRefq {C n d : String} {A : Nat → Prop} {s : State} {args : Array Value} (h : va_Zq C n d A s s.heap) : (Cond.isRef (.static C n d)).before args s = true := by
  rcases h with h | ⟨t, h⟩
  · exact vx_isRef h rfl
  · exact vx_isRef h rfl
/-- the same frame, seen from here: as if the method were called anew in this heap -/
theorem vx_rebase {T : State} (X : Stand p l e R s m args below meth c T locs cells slots) {R' : Room} (hf : R'.frames ≤ R.frames) (hl : R'.locals ≤ R.locals) (hc : cells + R'.cells ≤ R.cells) (hs : slots + R'.slots ≤ R.slots) :
    Stand p l e R' ((T.setVm s.vm).setFrames (.invoking m args :: below)) m args below meth c T [] 0 0 := by
  have htop : (T.setVm s.vm).topJava?.isSome := X.here.top
  have hF : ((T.setVm s.vm).setFrames (.invoking m args :: below)).frames = .invoking m args :: below := State.frames_setFrames _ (State.cur_lt_of_top htop)
  obtain ⟨g₀, hg0⟩ := Option.isSome_iff_exists.mp htop
  obtain ⟨r, hr⟩ := State.topJava?_eq_some.mp hg0
  have hl9 : e.platform.stackLimits (T.setVm s.vm).me = e.platform.stackLimits s.me := X.limits
  have hb9 : (T.setVm s.vm).me.stackBytes = s.me.stackBytes := X.bytes
  refine ⟨X.admits, X.cas, X.clock, hF, ?_, X.hears, X.method, X.code, X.here, X.tail, X.warmed, ?_, ?_, ?_⟩
  · have h := X.room
    have hU : ((T.setVm s.vm).setFrames (.invoking m args :: below)).localsInUse = s.localsInUse := by
      rw [State.localsInUse_invoking hF (meth := meth) (c := c) X.method X.code, State.localsInUse_invoking X.frames X.method X.code]
    simp only [State.hasRoom, Bool.and_eq_true, decide_eq_true_eq] at h ⊢
    obtain ⟨⟨⟨⟨h1, h2, h3, h4, h5, h6⟩, h7⟩, h8⟩, h9⟩ := h
    rw [X.frames, List.length_cons] at h2 h3
    have q1 := X.heapSize
    have q2 := X.used
    simp only [hF, hU, List.length_cons, State.stackLimits_setFrames, State.stackBytes_setFrames, hl9, hb9]
    refine ⟨⟨⟨⟨by omega, by omega, by omega, by omega, by omega, h6⟩, ?_⟩, ?_⟩, X.book⟩
    · show T.heap.size + R'.cells ≤ e.platform.maxCells
      omega
    · show T.slotsUsed + R'.slots ≤ e.platform.maxSlots
      omega
  · rw [State.stackLimits_setFrames]; rfl
  · rw [State.stackBytes_setFrames]; rfl
  · refine ⟨?_, Nat.le_refl _, Nat.le_refl _, ?_, ?_, fun a c9 h9 => ⟨c9, h9, rfl, rfl, fun _ _ => rfl⟩⟩
    · obtain ⟨t, ht, -⟩ := State.frames_cons hr
      show T.setVm s.vm = { ((T.setVm s.vm).setFrames (.invoking m args :: below)).setFrames (T.setVm s.vm).frames with heap := T.heap, slotsUsed := T.slotsUsed }
      rw [State.setFrames_setFrames, State.setFrames_self ht]
      rfl
    · show T.slotsUsed = T.slotsUsed + ((T.heap.toList.drop T.heap.size).map (·.slots.size)).sum
      rw [List.drop_eq_nil_of_le (Nat.le_of_eq Array.length_toList)]
      rfl
    · show ((T.heap.toList.drop T.heap.size).map (·.slots.size)).sum ≤ 0
      rw [List.drop_eq_nil_of_le (Nat.le_of_eq Array.length_toList)]
      exact Nat.le_refl _
/-- 'throw new E()': new; dup; invokespecial; athrow -/
theorem vx_throw0 {cc : ByteArray} {pc : Nat} (hexec : p.tables.exec = Jvm.exec) (hb : c.code = cc) (hl : l.stackTraces = false) {own cls : String} {names : List String} {ik ic mc ms : Nat} {A : Nat → Prop}
    (hown : s.vm.findClass own = some m.cls) (hcls : Bundle.fit cls = true) (hnames : ∀ n ∈ names, Bundle.fit n = true)
    (hk : (Cond.classLink own ik cls).before args s = true) (hini : (Cond.initialized cls).before args s = true) (hat : ∀ w ∈ vx_at0 own ic cls names, w.before args s = true)
    (hgood : ∀ w ∈ Cond.classLink own ik cls :: Cond.initialized cls :: vx_at0 own ic cls names, vx_ot w = true)
    (hU : vx_Zq Bundle.tN "UNASSIGNED_STACK" Bundle.steD A s s.heap) (hN : vx_Zq Bundle.tN "SUPPRESSED_SENTINEL" Bundle.listD A s s.heap) (hS : va_S A s.heap H locs) (hsize : ls.size = c.maxLocals)
    (d0 : decode cc pc = .ok (.new ik, 3)) (d3 : decode cc (pc + 3) = .ok (.dup, 1)) (d4 : decode cc (pc + 4) = .ok (.invokespecial ic, 3)) (d7 : decode cc (pc + 7) = .ok (.athrow, 1))
    (hout : ∀ x ∈ c.exceptionTable.toList, covers x (pc + 7) = false)
    (hRframes : names.length + 3 < R.frames) (hRlocals : (rest.map fun v => v.category).sum + (13 * (names.length + 1) + 42) ≤ R.locals) (hRcells : cells + 1 ≤ R.cells) (hRslots : slots + 6 ≤ R.slots) (hlocks : meth.locks = false)
    (hx : ∀ t : State, s.vm.Alike t.vm → H.size ≤ t.heap.size → (∀ q : Nat, q < H.size → t.heap[q]? = H[q]?) → XC cls s t)
    (hf : ∀ z ∈ locs, free z.base) (hc : cells + 1 ≤ mc) (hs : slots + 6 ≤ ms) :
    W p l e R s m args below meth c H locs cells slots (vx_MQ below Qc XC args s mc ms free) (F0 m pc ls rest) := by
  intro T hT X
  have htr : e.platform.stackTraces = false := (show e.platform.stackTraces = l.stackTraces by rw [X.admits.platform]).trans hl
  have Y := vx_rebase X (R' := { frames := R.frames, locals := R.locals, cells := 1, slots := 6 }) (Nat.le_refl _) (Nat.le_refl _) hRcells hRslots
  obtain ⟨s', hA⟩ : ∃ z, z = (T.setVm s.vm).setFrames (.invoking m args :: below) := ⟨_, rfl⟩
  rw [← hA] at Y
  have hvm : s'.vm = s.vm := by rw [hA]; rfl
  have hhp : s'.heap = H := by rw [hA]; exact hT
  have hW0 : s.WarmedH s'.vm := by rw [hvm]; exact State.WarmedH.refl s
  have hat' : ∀ w ∈ vx_at0 own ic cls names, w.before args s' = true := fun w hw => vx_ot_at hW0 hvm.symm (hgood w (List.mem_cons_of_mem _ (List.mem_cons_of_mem _ hw))) (hat w hw)
  have hk' : (Cond.classLink own ik cls).before args s' = true := vx_ot_at hW0 hvm.symm (hgood _ List.mem_cons_self) hk
  have hini' : (Cond.initialized cls).before args s' = true := vx_ot_at hW0 hvm.symm (hgood _ (List.mem_cons_of_mem _ List.mem_cons_self)) hini
  have hU' : vx_Zq Bundle.tN "UNASSIGNED_STACK" Bundle.steD A s' s'.heap := by rw [hhp]; exact vx_Zq.moved hW0.alike (hU.kept hS.2.1)
  have hN' : vx_Zq Bundle.tN "SUPPRESSED_SENTINEL" Bundle.listD A s' s'.heap := by rw [hhp]; exact vx_Zq.moved hW0.alike (hN.kept hS.2.1)
  have h : ∀ w ∈ Bundle.ownAtoms0 own ic cls names, w.before args s' = true := vx_own hat' (vx_isRefq hU'.1) (vx_isRefq hN'.1) hU'.2.word hN'.2.word
  have hown' : s'.vm.findClass own = some m.cls := by rw [hvm]; exact hown
  have hins : (Cond.instantiable cls 6).before args s' = true := h _ (by simp [Bundle.ownAtoms0])
  obtain ⟨vm₁, cX, kX, hfX, hkX, -, -, X₁, st1⟩ := Y.newCold hexec (own := own) (C := cls) (index := ik) (n := 6) hown' hk' hins hini'
    (g := F0 m pc ls rest) rfl (by rw [hb]; exact d0) (Nat.le_refl _) (Nat.le_refl _)
  generalize hT1 : (T.setVm vm₁).pushCell { cls := cX, slots := kX.instanceTypes.map defaultValue, vm := .none } = T1 at X₁ st1
  have hcat : (Value.ref T.heap.size).category = 1 := rfl
  have hcellA : T1.heap[T.heap.size]? = some (freshCell cX kX) := by rw [← hT1]; exact State.heap_pushCell_size _ _
  have d3' : decode c.code (pc + 3) = .ok (.dup, 1) := by rw [hb]; exact d3
  obtain ⟨U, hsteps, hrun, hend, hW, hsame, ce, hce, hO⟩ := X₁.ctorThrow0 hexec htr (own := own) (cls := cls) (names := names) (ic := ic) hown' hcls hnames h (fun x hx => nomatch hx) hfX hkX hcellA (by rw [hhp, hT]; exact Nat.le_refl _)
    (g := { method := m, pc := pc + 4, locals := ls, stack := .ref T.heap.size :: .ref T.heap.size :: rest, locked := none }) rfl hsize rfl rfl (rest := rest) rfl
    (by rw [hb]; exact d4) (by rw [hb]; exact d7) hout hRframes (by simp only [List.map_cons, List.sum_cons, hcat]; omega) hlocks
  obtain ⟨f1, f2⟩ := vx_frame hsame
  rw [hhp] at f1 f2
  have hWs : s.WarmedH U.vm := State.WarmedH.trans hW0 hW
  have hcl : s.vm.findClass cls = some ce.cls := by
    have h9 := hO.cls
    rw [hvm] at h9
    exact h9
  have hall : s.sameButNew ({ U with vm := s.vm } : State) locs mc ms := by
    subst hA
    obtain ⟨e1, e2⟩ := hsame
    rw [State.setFrames_setFrames] at e1
    have h2 : (T.setVm s.vm).sameButNew ({ U with vm := s.vm } : State) [] (0 + 1) (0 + 6) := ⟨e1, e2⟩
    have h3 := X.same.trans h2
    rw [List.append_nil] at h3
    exact h3.mono hc hs
  refine ⟨U, ?_, .threw T.heap.size, hrun, hend, Or.inr ⟨T.heap.size, rfl, cls, ce, locs, hx U hWs.alike f1 (fun q hq => f2 q hq (fun z hz => nomatch hz)), hce, hO.vm, hcl, hWs, hall, hf⟩⟩
  refine st1 _ ?_
  show Steps p.tables e below (T1.setTop { method := m, pc := pc + 3, locals := ls, stack := .ref T.heap.size :: rest, locked := none }) _
  jvm_step X₁.here [X₁.here.top, hexec, d3', Value.category]
  exact hsteps
/-- 'throw new E("text")': new; dup; ldc; invokespecial; athrow -/
theorem vx_throwS {cc : ByteArray} {pc : Nat} (hexec : p.tables.exec = Jvm.exec) (hb : c.code = cc) (hl : l.stackTraces = false) {own cls text : String} {names : List String} {ik is ic mc ms sa : Nat} {A : Nat → Prop}
    (hown : s.vm.findClass own = some m.cls) (hcls : Bundle.fit cls = true) (hnames : ∀ n ∈ names, Bundle.fit n = true)
    (hk : (Cond.classLink own ik cls).before args s = true) (hini : (Cond.initialized cls).before args s = true) (hstr : vk_R own is text sa s) (hat : ∀ w ∈ vx_atS own ic cls names, w.before args s = true)
    (hgood : ∀ w ∈ Cond.classLink own ik cls :: Cond.initialized cls :: vx_atS own ic cls names, vx_ot w = true)
    (hU : vx_Zq Bundle.tN "UNASSIGNED_STACK" Bundle.steD A s s.heap) (hN : vx_Zq Bundle.tN "SUPPRESSED_SENTINEL" Bundle.listD A s s.heap) (hS : va_S A s.heap H locs) (hsize : ls.size = c.maxLocals)
    (d0 : decode cc pc = .ok (.new ik, 3)) (d3 : decode cc (pc + 3) = .ok (.dup, 1)) (d4 : decode cc (pc + 4) = .ok (.ldc is, 2)) (d6 : decode cc (pc + 6) = .ok (.invokespecial ic, 3)) (d9 : decode cc (pc + 9) = .ok (.athrow, 1))
    (hout : ∀ x ∈ c.exceptionTable.toList, covers x (pc + 9) = false)
    (hRframes : names.length + 3 < R.frames) (hRlocals : (rest.map fun v => v.category).sum + (13 * (names.length + 1) + 43) ≤ R.locals) (hRcells : cells + 1 ≤ R.cells) (hRslots : slots + 6 ≤ R.slots) (hlocks : meth.locks = false)
    (hx : ∀ t : State, s.vm.Alike t.vm → H.size ≤ t.heap.size → (∀ q : Nat, q < H.size → t.heap[q]? = H[q]?) → XC cls s t)
    (hf : ∀ z ∈ locs, free z.base) (hc : cells + 1 ≤ mc) (hs : slots + 6 ≤ ms) :
    W p l e R s m args below meth c H locs cells slots (vx_MQ below Qc XC args s mc ms free) (F0 m pc ls rest) := by
  intro T hT X
  have htr : e.platform.stackTraces = false := (show e.platform.stackTraces = l.stackTraces by rw [X.admits.platform]).trans hl
  have Y := vx_rebase X (R' := { frames := R.frames, locals := R.locals, cells := 1, slots := 6 }) (Nat.le_refl _) (Nat.le_refl _) hRcells hRslots
  obtain ⟨s', hA⟩ : ∃ z, z = (T.setVm s.vm).setFrames (.invoking m args :: below) := ⟨_, rfl⟩
  rw [← hA] at Y
  have hvm : s'.vm = s.vm := by rw [hA]; rfl
  have hhp : s'.heap = H := by rw [hA]; exact hT
  have hW0 : s.WarmedH s'.vm := by rw [hvm]; exact State.WarmedH.refl s
  have hat' : ∀ w ∈ vx_atS own ic cls names, w.before args s' = true := fun w hw => vx_ot_at hW0 hvm.symm (hgood w (List.mem_cons_of_mem _ (List.mem_cons_of_mem _ hw))) (hat w hw)
  have hk' : (Cond.classLink own ik cls).before args s' = true := vx_ot_at hW0 hvm.symm (hgood _ List.mem_cons_self) hk
  have hini' : (Cond.initialized cls).before args s' = true := vx_ot_at hW0 hvm.symm (hgood _ (List.mem_cons_of_mem _ List.mem_cons_self)) hini
  have hU' : vx_Zq Bundle.tN "UNASSIGNED_STACK" Bundle.steD A s' s'.heap := by rw [hhp]; exact vx_Zq.moved hW0.alike (hU.kept hS.2.1)
  have hN' : vx_Zq Bundle.tN "SUPPRESSED_SENTINEL" Bundle.listD A s' s'.heap := by rw [hhp]; exact vx_Zq.moved hW0.alike (hN.kept hS.2.1)
  have h : ∀ w ∈ Bundle.ownAtoms own ic cls names, w.before args s' = true := vx_own hat' (vx_isRefq hU'.1) (vx_isRefq hN'.1) hU'.2.word hN'.2.word
  have hown' : s'.vm.findClass own = some m.cls := by rw [hvm]; exact hown
  have hins : (Cond.instantiable cls 6).before args s' = true := h _ (by simp [Bundle.ownAtoms])
  obtain ⟨vm₁, cX, kX, hfX, hkX, -, -, X₁, st1⟩ := Y.newCold hexec (own := own) (C := cls) (index := ik) (n := 6) hown' hk' hins hini'
    (g := F0 m pc ls rest) rfl (by rw [hb]; exact d0) (Nat.le_refl _) (Nat.le_refl _)
  generalize hT1 : (T.setVm vm₁).pushCell { cls := cX, slots := kX.instanceTypes.map defaultValue, vm := .none } = T1 at X₁ st1
  have hcat : (Value.ref T.heap.size).category = 1 := rfl
  have hcellA : T1.heap[T.heap.size]? = some (freshCell cX kX) := by rw [← hT1]; exact State.heap_pushCell_size _ _
  have d3' : decode c.code (pc + 3) = .ok (.dup, 1) := by rw [hb]; exact d3
  have d4' : decode c.code (pc + 4) = .ok (.ldc is, 2) := by rw [hb]; exact d4
  have hstr' : vk_R own is text sa s' := vk_R.warm hW0 hstr
  obtain ⟨U, hsteps, hrun, hend, hW, hsame, ce, hce, hO⟩ := X₁.ctorThrowS hexec htr (own := own) (cls := cls) (names := names) (ic := ic) hown' hcls hnames h (fun x hx => nomatch hx) hfX hkX hcellA (by rw [hhp, hT]; exact Nat.le_refl _) (msg := .ref sa) rfl
    (g := { method := m, pc := pc + 6, locals := ls, stack := .ref sa :: .ref T.heap.size :: .ref T.heap.size :: rest, locked := none }) rfl hsize rfl rfl (rest := rest) rfl
    (by rw [hb]; exact d6) (by rw [hb]; exact d9) hout hRframes (by simp only [List.map_cons, List.sum_cons, hcat]; omega) hlocks
  obtain ⟨f1, f2⟩ := vx_frame hsame
  rw [hhp] at f1 f2
  have hWs : s.WarmedH U.vm := State.WarmedH.trans hW0 hW
  have hcl : s.vm.findClass cls = some ce.cls := by
    have h9 := hO.cls
    rw [hvm] at h9
    exact h9
  have hall : s.sameButNew ({ U with vm := s.vm } : State) locs mc ms := by
    subst hA
    obtain ⟨e1, e2⟩ := hsame
    rw [State.setFrames_setFrames] at e1
    have h2 : (T.setVm s.vm).sameButNew ({ U with vm := s.vm } : State) [] (0 + 1) (0 + 6) := ⟨e1, e2⟩
    have h3 := X.same.trans h2
    rw [List.append_nil] at h3
    exact h3.mono hc hs
  refine ⟨U, ?_, .threw T.heap.size, hrun, hend, Or.inr ⟨T.heap.size, rfl, cls, ce, locs, hx U hWs.alike f1 (fun q hq => f2 q hq (fun z hz => nomatch hz)), hce, hO.vm, hcl, hWs, hall, hf⟩⟩
  refine st1 _ ?_
  show Steps p.tables e below (T1.setTop { method := m, pc := pc + 3, locals := ls, stack := .ref T.heap.size :: rest, locked := none }) _
  jvm_step X₁.here [X₁.here.top, hexec, d3', Value.category]
  exact X₁.ldcString hexec (own := own) (text := text) (index := is) (a := sa) hown' hstr'.1 hstr'.2
    (g := { method := m, pc := pc + 4, locals := ls, stack := .ref T.heap.size :: .ref T.heap.size :: rest, locked := none }) rfl d4' _ hsteps
/-- 'throw new E("text")', the text by a wide index -/
theorem vx_throwSW {cc : ByteArray} {pc : Nat} (hexec : p.tables.exec = Jvm.exec) (hb : c.code = cc) (hl : l.stackTraces = false) {own cls text : String} {names : List String} {ik is ic mc ms sa : Nat} {A : Nat → Prop}
    (hown : s.vm.findClass own = some m.cls) (hcls : Bundle.fit cls = true) (hnames : ∀ n ∈ names, Bundle.fit n = true)
    (hk : (Cond.classLink own ik cls).before args s = true) (hini : (Cond.initialized cls).before args s = true) (hstr : vk_R own is text sa s) (hat : ∀ w ∈ vx_atS own ic cls names, w.before args s = true)
    (hgood : ∀ w ∈ Cond.classLink own ik cls :: Cond.initialized cls :: vx_atS own ic cls names, vx_ot w = true)
    (hU : vx_Zq Bundle.tN "UNASSIGNED_STACK" Bundle.steD A s s.heap) (hN : vx_Zq Bundle.tN "SUPPRESSED_SENTINEL" Bundle.listD A s s.heap) (hS : va_S A s.heap H locs) (hsize : ls.size = c.maxLocals)
    (d0 : decode cc pc = .ok (.new ik, 3)) (d3 : decode cc (pc + 3) = .ok (.dup, 1)) (d4 : decode cc (pc + 4) = .ok (.ldc_w is, 3)) (d7 : decode cc (pc + 7) = .ok (.invokespecial ic, 3)) (d10 : decode cc (pc + 10) = .ok (.athrow, 1))
    (hout : ∀ x ∈ c.exceptionTable.toList, covers x (pc + 10) = false)
    (hRframes : names.length + 3 < R.frames) (hRlocals : (rest.map fun v => v.category).sum + (13 * (names.length + 1) + 43) ≤ R.locals) (hRcells : cells + 1 ≤ R.cells) (hRslots : slots + 6 ≤ R.slots) (hlocks : meth.locks = false)
    (hx : ∀ t : State, s.vm.Alike t.vm → H.size ≤ t.heap.size → (∀ q : Nat, q < H.size → t.heap[q]? = H[q]?) → XC cls s t)
    (hf : ∀ z ∈ locs, free z.base) (hc : cells + 1 ≤ mc) (hs : slots + 6 ≤ ms) :
    W p l e R s m args below meth c H locs cells slots (vx_MQ below Qc XC args s mc ms free) (F0 m pc ls rest) := by
  intro T hT X
  have htr : e.platform.stackTraces = false := (show e.platform.stackTraces = l.stackTraces by rw [X.admits.platform]).trans hl
  have Y := vx_rebase X (R' := { frames := R.frames, locals := R.locals, cells := 1, slots := 6 }) (Nat.le_refl _) (Nat.le_refl _) hRcells hRslots
  obtain ⟨s', hA⟩ : ∃ z, z = (T.setVm s.vm).setFrames (.invoking m args :: below) := ⟨_, rfl⟩
  rw [← hA] at Y
  have hvm : s'.vm = s.vm := by rw [hA]; rfl
  have hhp : s'.heap = H := by rw [hA]; exact hT
  have hW0 : s.WarmedH s'.vm := by rw [hvm]; exact State.WarmedH.refl s
  have hat' : ∀ w ∈ vx_atS own ic cls names, w.before args s' = true := fun w hw => vx_ot_at hW0 hvm.symm (hgood w (List.mem_cons_of_mem _ (List.mem_cons_of_mem _ hw))) (hat w hw)
  have hk' : (Cond.classLink own ik cls).before args s' = true := vx_ot_at hW0 hvm.symm (hgood _ List.mem_cons_self) hk
  have hini' : (Cond.initialized cls).before args s' = true := vx_ot_at hW0 hvm.symm (hgood _ (List.mem_cons_of_mem _ List.mem_cons_self)) hini
  have hU' : vx_Zq Bundle.tN "UNASSIGNED_STACK" Bundle.steD A s' s'.heap := by rw [hhp]; exact vx_Zq.moved hW0.alike (hU.kept hS.2.1)
  have hN' : vx_Zq Bundle.tN "SUPPRESSED_SENTINEL" Bundle.listD A s' s'.heap := by rw [hhp]; exact vx_Zq.moved hW0.alike (hN.kept hS.2.1)
  have h : ∀ w ∈ Bundle.ownAtoms own ic cls names, w.before args s' = true := vx_own hat' (vx_isRefq hU'.1) (vx_isRefq hN'.1) hU'.2.word hN'.2.word
  have hown' : s'.vm.findClass own = some m.cls := by rw [hvm]; exact hown
  have hins : (Cond.instantiable cls 6).before args s' = true := h _ (by simp [Bundle.ownAtoms])
  obtain ⟨vm₁, cX, kX, hfX, hkX, -, -, X₁, st1⟩ := Y.newCold hexec (own := own) (C := cls) (index := ik) (n := 6) hown' hk' hins hini'
    (g := F0 m pc ls rest) rfl (by rw [hb]; exact d0) (Nat.le_refl _) (Nat.le_refl _)
  generalize hT1 : (T.setVm vm₁).pushCell { cls := cX, slots := kX.instanceTypes.map defaultValue, vm := .none } = T1 at X₁ st1
  have hcat : (Value.ref T.heap.size).category = 1 := rfl
  have hcellA : T1.heap[T.heap.size]? = some (freshCell cX kX) := by rw [← hT1]; exact State.heap_pushCell_size _ _
  have d3' : decode c.code (pc + 3) = .ok (.dup, 1) := by rw [hb]; exact d3
  have d4' : decode c.code (pc + 4) = .ok (.ldc_w is, 3) := by rw [hb]; exact d4
  have hstr' : vk_R own is text sa s' := vk_R.warm hW0 hstr
  obtain ⟨U, hsteps, hrun, hend, hW, hsame, ce, hce, hO⟩ := X₁.ctorThrowS hexec htr (own := own) (cls := cls) (names := names) (ic := ic) hown' hcls hnames h (fun x hx => nomatch hx) hfX hkX hcellA (by rw [hhp, hT]; exact Nat.le_refl _) (msg := .ref sa) rfl
    (g := { method := m, pc := pc + 7, locals := ls, stack := .ref sa :: .ref T.heap.size :: .ref T.heap.size :: rest, locked := none }) rfl hsize rfl rfl (rest := rest) rfl
    (by rw [hb]; exact d7) (by rw [hb]; exact d10) hout hRframes (by simp only [List.map_cons, List.sum_cons, hcat]; omega) hlocks
  obtain ⟨f1, f2⟩ := vx_frame hsame
  rw [hhp] at f1 f2
  have hWs : s.WarmedH U.vm := State.WarmedH.trans hW0 hW
  have hcl : s.vm.findClass cls = some ce.cls := by
    have h9 := hO.cls
    rw [hvm] at h9
    exact h9
  have hall : s.sameButNew ({ U with vm := s.vm } : State) locs mc ms := by
    subst hA
    obtain ⟨e1, e2⟩ := hsame
    rw [State.setFrames_setFrames] at e1
    have h2 : (T.setVm s.vm).sameButNew ({ U with vm := s.vm } : State) [] (0 + 1) (0 + 6) := ⟨e1, e2⟩
    have h3 := X.same.trans h2
    rw [List.append_nil] at h3
    exact h3.mono hc hs
  refine ⟨U, ?_, .threw T.heap.size, hrun, hend, Or.inr ⟨T.heap.size, rfl, cls, ce, locs, hx U hWs.alike f1 (fun q hq => f2 q hq (fun z hz => nomatch hz)), hce, hO.vm, hcl, hWs, hall, hf⟩⟩
  refine st1 _ ?_
  show Steps p.tables e below (T1.setTop { method := m, pc := pc + 3, locals := ls, stack := .ref T.heap.size :: rest, locked := none }) _
  jvm_step X₁.here [X₁.here.top, hexec, d3', Value.category]
  exact X₁.ldcStringW hexec (own := own) (text := text) (index := is) (a := sa) hown' hstr'.1 hstr'.2
    (g := { method := m, pc := pc + 4, locals := ls, stack := .ref T.heap.size :: .ref T.heap.size :: rest, locked := none }) rfl d4' _ hsteps
end Ends
section Bodies
variable {l : Launch}
theorem vx_ofW {y : MethodName} {ws ws' : List Cond} {rm : Room} {Pc : Array Value → State → Prop} {Qc : Array Value → State → Outcome → State → Prop} {XC : String → State → State → Prop} {mc ms : Nat} {free : Addr → Prop} {cc : ByteArray} {maxL : Nat} {ret : Option FieldType}
    (hy : plainName y.cls = true) (hw : ws = Cond.code y cc maxL ret :: ws')
    (body : ∀ p e s m args below meth c s₁, BodyLoose p l y (headSpec ws rm) cc maxL ret e s m args below meth c s₁ → c.maxLocals = maxL → (∀ x ∈ c.exceptionTable.toList, False) → Pc args s →
      W p l e (headSpec ws rm).room s m args below meth c s.heap [] 0 0 (vx_MQ below Qc XC args s mc ms free) (entryFrame m args maxL)) : vx_Met l y ws rm Pc Qc XC mc ms free := by
  refine MetFree.of_bodyS (code := cc) (maxLocals := maxL) (ret := ret) hy ?_ ?_
  · intro args s m h hn
    obtain ⟨meth, c, h1, h2, h3, h4, h5, h6, -, -⟩ := Cond.code_spec hn (atoms_spec (ws := ws) h _ (by rw [hw]; exact List.mem_cons_self))
    exact ⟨meth, c, h1, h2, h3, h4, h5, h6⟩
  · intro p e s m args below meth c s₁ B hml hP _
    have hh0 : s₁.heap = s.heap := by rw [B.state]; rfl
    have ht : ∀ x ∈ c.exceptionTable.toList, False := by
      obtain ⟨meth9, c9, h1, h2, -, -, -, -, h7, -⟩ := Cond.code_spec B.named (atoms_spec (ws := ws) B.pre _ (by rw [hw]; exact List.mem_cons_self))
      cases Option.some.inj (h1.symm.trans B.method)
      cases Option.some.inj (h2.symm.trans (Stand.of_body B).code)
      intro x hx
      rw [Array.isEmpty_iff.mp h7] at hx
      cases hx
    obtain ⟨t, a1, o, b1, b2, b3⟩ := body p e s m args below meth c s₁ B hml ht hP s₁ hh0 (Stand.of_body B)
    exact ⟨t, o, a1, b1, b2, b3⟩
/-- the table of a body with handlers -/
theorem vx_table {p : Program} {x y : MethodName} {S : Spec} {cc bytes : ByteArray} {maxL maxL' : Nat} {ret ret' : Option FieldType} {e : Env} {s s₁ : State} {m : MethodId} {args : Array Value} {below : List Frame} {meth : Method} {c : Code} {hh : List (Nat × Nat × Nat × Nat)}
    (B : BodyLoose p l y S cc maxL ret e s m args below meth c s₁) (h : (Cond.codeWith y bytes maxL' ret' hh).before args s = true) : c.exceptionTable.toList = tableOf hh := by
  obtain ⟨m9, meth9, c9, hn9, h1, h2, -, -, h6, -⟩ := Cond.codeWith_spec h
  cases Option.some.inj (hn9.symm.trans B.named)
  cases Option.some.inj (h1.symm.trans B.method)
  cases Option.some.inj (h2.symm.trans (Stand.of_body B).code)
  rw [← h6, table_eq]
end Bodies
end VXA
/-! ===== END ===== -/
/-! ===== BEGIN a static call of a method with an exception table ===== -/
section VXS
variable {p : Program} {l : Launch} {e : Env} {R : Room} {s : State} {m : MethodId} {args : Array Value} {below : List Frame} {meth : Method} {c : Code} {T : State} {H : Heap} {locs : List Loc} {cells slots : Nat}
abbrev vx_CSW (R : Room) (s : State) (args : Array Value) (own : String) (index : Nat) (y : MethodName) (bytes : ByteArray) (maxL : Nat) (ret : Option FieldType) (hh : List (Nat × Nat × Nat × Nat)) (ws : List Cond) (rm : Room) (mc ms n : Nat) : Prop :=
  (rm.cells = mc ∧ rm.slots = ms ∧ rm.frames + 1 ≤ R.frames ∧ 8 + (maxL + 11) + rm.locals ≤ R.locals ∧ (∀ w ∈ ws, ∀ (a' : Array Value) (U : State), s.WarmedH U.vm → w.before a' U = true) ∧ Cond.codeWith y bytes maxL ret hh ∈ ws) ∧
  (Cond.codeWith y bytes maxL ret hh).before args s = true ∧ (Cond.initialized y.cls).before args s = true ∧ (y.cls ≠ "java/lang/invoke/MethodHandle" ∧ y.cls ≠ "java/lang/invoke/VarHandle") ∧
  (∀ sig, parseMethodDescriptor y.desc = some sig → n = sig.parameters.length) ∧ (Cond.methodLink own index y).before args s = true ∧ (Cond.static y).before args s = true
theorem vx_cwSW {own : String} {index maxL mc ms : Nat} {y : MethodName} {bytes : ByteArray} {ret : Option FieldType} {hh : List (Nat × Nat × Nat × Nat)} {Ts ws ws' : List Cond} {rm : Room} (n : Nat) (ht : ∀ w ∈ Ts, w.before args s = true) (hT : GoodIn Ts (va_wsS own index y ws)) (hw : ws = Cond.codeWith y bytes maxL ret hh :: ws') (hrc : rm.cells = mc) (hrs : rm.slots = ms)
    (hd : y.cls ≠ "java/lang/invoke/MethodHandle" ∧ y.cls ≠ "java/lang/invoke/VarHandle" ∧ (parseMethodDescriptor y.desc).map (fun d => d.parameters.length) = some n) (hR : rm.frames + 1 ≤ R.frames ∧ 8 + (maxL + 11) + rm.locals ≤ R.locals) :
    vx_CSW R s args own index y bytes maxL ret hh ws rm mc ms n := by
  have ok : ∀ w ∈ va_wsS own index y ws, w.before args s = true := fun w h => ht w (hT w h).1
  have hG : GoodIn Ts ws := fun w h => hT w (by unfold va_wsS; exact List.mem_append_right _ h)
  have hc : Cond.codeWith y bytes maxL ret hh ∈ ws := by rw [hw]; exact List.mem_cons_self
  refine ⟨⟨hrc, hrs, hR.1, hR.2, pay_in ht hG, hc⟩, ht _ (hG _ hc).1, ok _ (by simp [va_wsS]), ⟨hd.1, hd.2.1⟩, fun sig h => ?_, ok _ (by simp [va_wsS]), ok _ (by simp [va_wsS])⟩
  have h2 := hd.2.2
  rw [h] at h2
  exact (Option.some.inj h2).symm
theorem vx_callSW (X : Stand p l e R s m args below meth c T locs cells slots) (hexec : p.tables.exec = Jvm.exec) {own : String} {index : Nat} {y : MethodName} {bytes : ByteArray} {maxL : Nat} {ret : Option FieldType} {hh : List (Nat × Nat × Nat × Nat)}
    (hown : s.vm.findClass own = some m.cls) (hlink : (Cond.methodLink own index y).before args s = true) (hstat : (Cond.static y).before args s = true) (hinit : (Cond.initialized y.cls).before args s = true)
    (hcode : (Cond.codeWith y bytes maxL ret hh).before args s = true) (hy : y.cls ≠ "java/lang/invoke/MethodHandle" ∧ y.cls ≠ "java/lang/invoke/VarHandle")
    {W9 : Nat} {Pre : Pt → Array Value → Prop} {Post : Pt → Array Value → Option Value → Pt → Prop} (hK : Back l R p e below s args y 3 W9 Pre Post)
    {g : JFrame} (hg : g.method = m) (hsize : g.locals.size = c.maxLocals) {argsL rest : List Value} (hlen : ∀ sig, parseMethodDescriptor y.desc = some sig → argsL.length = sig.parameters.length)
    (hstack : g.stack = argsL.reverse ++ rest) (hW : 2 * g.monitorRoom + (rest.map fun v => v.category).sum ≤ W9) (hdg : decode c.code g.pc = .ok (.invokestatic index, 3))
    (hpre : ∀ vm₁, s.WarmedH vm₁ → Pre ⟨T.setVm vm₁, locs, cells, slots⟩ argsL.toArray) :
    ∃ (v : Option Value) (vm₁ : Vm) (B : Pt), s.WarmedH vm₁ ∧ Stand p l e R s m args below meth c B.U B.locs B.cells B.slots ∧ Post ⟨T.setVm vm₁, locs, cells, slots⟩ argsL.toArray v B ∧
      ∀ target, Steps p.tables e below (B.U.setTop { g with pc := g.pc + 3, stack := v.toList ++ rest }) target → Steps p.tables e below (T.setTop g) target := by
  obtain ⟨mk, methM, cM, hnamed, hmethM, -, -, -, -, -, -, hsigM⟩ := Cond.codeWith_spec hcode
  have hstatic : methM.isStatic = true := Cond.static_spec hnamed hmethM hstat
  obtain ⟨kP, hkP, -⟩ := className_of_methodNamed hnamed
  have hinitP : kP.init = .initialized := Cond.initialized_spec (findClass_of_methodNamed hnamed) hkP hinit
  obtain ⟨vm₁, X₁, hstep₁⟩ := X.invokestatic hexec hown hlink hnamed hmethM hstatic hkP hinitP hy (g := g) hg (argsL := argsL) (rest := rest) (hlen _ hsigM) hstack hdg
  obtain ⟨v, B, X', hpost, hsteps⟩ := hK m meth c ⟨T.setVm vm₁, locs, cells, slots⟩ { g with stack := rest } (.invokestatic index) mk argsL.toArray X₁ hg hsize hdg hW (X₁.named hnamed) (hpre vm₁ X₁.warmed)
  exact ⟨v, vm₁, B, X₁.warmed, X', hpost, fun target h => hstep₁ _ fun acts => by rw [doInvoke_state]; exact hsteps.trans h⟩
theorem vx_runSW {y : MethodName} {bytes cc : ByteArray} {maxL nL mc ms n index : Nat} {ret : Option FieldType} {hh : List (Nat × Nat × Nat × Nat)} {ws : List Cond} {rm : Room} {Pc : Array Value → State → Prop} {Qc : Array Value → State → Outcome → State → Prop} {free : Addr → Prop} {Ts : List Cond} {own : String} {As rest : List Value} {g : JFrame}
    (S : CallFix p m c cc nL s args Ts own) (hM : Met l y ws rm Pc Qc mc ms free) (cw : vx_CSW R s args own index y bytes maxL ret hh ws rm mc ms n) (hp : PreS s H Pc As)
    (hg : g.method = m) (hn : As.length = n) (hsize : g.locals.size = nL) (hstack : g.stack = As.reverse ++ rest) (hW : 2 * g.monitorRoom + (rest.map fun v => v.category).sum ≤ 8) (hdg : decode cc g.pc = .ok (.invokestatic index, 3)) (hf : cells + mc ≤ R.cells ∧ slots + ms ≤ R.slots) :
    va_Run p l e R s m args below meth c H locs cells slots mc ms g rest (Qc As.toArray) (free) := by
  obtain ⟨⟨hrc, hrs, hfr, hlo, hws, hcw⟩, hcode, hini, hy, hlen, hl, hstt⟩ := cw
  have hK : Back l R p e below s args y 3 8 (PreOf R mc ms Pc) (PostOf Qc mc ms free) := va_backW (hh := hh) (bytes := bytes) (maxL := maxL) (ret := ret) hM hp.1 hrc hrs hfr hlo hws hcw (fun a' U hW => word_at hW (Or.inl (by first | rfl | simp [Cond.onTables, Cond.keeps, Cond.steady])) hini)
  obtain ⟨hx, hb, hml, ho, -⟩ := S
  intro T hT X
  obtain ⟨v, vm₁, ⟨U', l2, c2, s2⟩, hW₁, X', ⟨g', mk, t, L, e1, e2, hq, h1, hL, h2, h3⟩, st⟩ := vx_callSW X hx (hh := hh) (bytes := bytes) (maxL := maxL) (ret := ret) ho hl hstt hini hcode hy hK hg (hsize.trans hml.symm) (argsL := As) (rest := rest) (fun sig h => hn.trans (hlen sig h)) hstack hW (by rw [hb]; exact hdg)
    (fun vm₁ hW₁ => ⟨hf.1, hf.2, hp.2 (T.setVm vm₁) hT hW₁⟩)
  dsimp only [Pt.U, Pt.locs, Pt.cells, Pt.slots] at X' e1 e2 h1 h2 h3 st
  subst h1; subst h2; subst h3
  exact ⟨v, (T.setVm vm₁).calling g' mk As.toArray, t, U', L, hT, X', hL, e1, e2, hq, st⟩
/-- not caught here, past rows that name other classes: it goes on to the caller -/
theorem vx_outP {p : Program} {l : Launch} {e : Env} {R : Room} {s : State} {m : MethodId} {args : Array Value} {below : List Frame} {meth : Method} {c : Code} {H : Heap} {locs : List Loc} {cells slots : Nat} {free : Addr → Prop} {ls : Array Slot} {rest : List Value} {Qc : Array Value → State → Outcome → State → Prop} {XC : String → State → State → Prop}
    {pc : Nat} {own E : String} {ce : Cell} {q : Addr} {mc ms : Nat} (hown : s.vm.findClass own = some m.cls) (hlocks : meth.locks = false)
    (hpass : ∀ z ∈ c.exceptionTable.toList, covers z pc = false ∨ (z.catchType ≠ 0 ∧ ∃ nm : String, (Cond.classLink own z.catchType nm).before args s = true ∧ va_Nc E nm s)) (hcell : H[q]? = some ce) (hv : ce.vm = .none) (hcl : s.vm.findClass E = some ce.cls)
    (hx : ∀ t : State, t.heap = H → s.vm.Alike t.vm → XC E s t) (hf : ∀ z ∈ locs, free z.base) (hc : cells ≤ mc) (hs : slots ≤ ms) :
    vx_W p l e R s m args below meth c H locs cells slots (vx_MQ below Qc XC args s mc ms free) (F0 m pc ls rest) q := by
  intro T hT X
  have hpl : e.platform.magicAccessors = ({} : Platform).magicAccessors := by rw [X.admits.platform]
  obtain ⟨vm', hW', X', st⟩ := X.outThrough hlocks q (g := F0 m pc ls rest) rfl rfl rfl (cell := ce) (by rw [hT]; exact hcell) (by rw [hv]; rfl)
    (by obtain ⟨k9, h9, -⟩ := Vm.findClass_spec hcl; exact ⟨k9, h9⟩) (fun z hz => by
      rcases hpass z hz with h | ⟨hz0, nm, hl1, hn1⟩
      · exact Or.inl h
      · obtain ⟨c6, hc6, hcl6⟩ := Cond.classLink_spec hown hl1 e.platform hpl
        obtain ⟨a8, b8, h1, h2, h3⟩ := hn1
        cases Option.some.inj (h1.symm.trans hcl)
        cases Option.some.inj (h2.symm.trans hc6)
        exact Or.inr ⟨hz0, _, hcl6, h3⟩)
  obtain ⟨g₀, hfr⟩ := X'.frames_eq
  have hcell9 : ((T.setVm vm').setFrames (.throwing q :: below)).heap[q]? = some ce := by
    show T.heap[q]? = some ce
    rw [hT]; exact hcell
  have hend : Ended ((T.setVm vm').setFrames (.throwing q :: below)) below (.threw q) := State.frames_setFrames _ (State.cur_lt_of_frames hfr)
  refine ⟨(T.setVm vm').setFrames (.throwing q :: below), ?_, .threw q, X'.here.running, hend, Or.inr ⟨q, rfl, E, ce, locs, hx _ hT (X'.ends _).1.alike, hcell9, hv, hcl, (X'.ends _).1, (X'.ends _).2.mono hc hs, hf⟩⟩
  rw [X.pushThrowing_eq]
  exact st
/-- a thing of a world lies in the heap -/
theorem vx_lt {D : va_G} {cl : List vw_C} {ws : va_W} {H1 : Heap} (h : va_P D cl ws H1) {k : Nat} {q : Nat × va_E} (hk : ws[k]? = some q) : q.1 < H1.size := (h k q hk).lt
end VXS
/-! ===== END ===== -/
/-! ===== BEGIN methods with a table of their own: called by a name, returning or throwing ===== -/
section VXH
/-! vx_backW, vx_callVX, vx_callSX, vx_callVW, vx_runVW, vx_runVX, vx_runSX, vx_ofWH follow the same proofs as their sisters above (Free/Laws.lean, Shelf42/LK1.lean); vx_outP calls Shelf42/NT130.lean (outThrough). -/
section
variable {l : Launch} {R : Room} {p : Program} {e : Env} {below : List Frame} {s : State} {sargs : Array Value} {y : MethodName} {len W9 : Nat}
theorem vx_backW {ws : List Cond} {rm : Room} {Pc : Array Value → State → Prop} {Qc : Array Value → State → Outcome → State → Prop} {XC : String → State → State → Prop} {mc ms : Nat} {free : Addr → Prop} {bytes : ByteArray} {maxL : Nat} {ret : Option FieldType} {hh : List (Nat × Nat × Nat × Nat)}
    (hM : vx_Met l y ws rm Pc Qc XC mc ms free) (hblind : FrameBlind Pc) (hrc : rm.cells = mc) (hrs : rm.slots = ms)
    (hframes : rm.frames + 1 ≤ R.frames) (hlocals : W9 + (maxL + 11) + rm.locals ≤ R.locals)
    (hws : ∀ w ∈ ws, ∀ a' U, s.WarmedH U.vm → w.before a' U = true) (hcode : Cond.codeWith y bytes maxL ret hh ∈ ws) (hinit : ∀ a' U, s.WarmedH U.vm → (Cond.initialized y.cls).before a' U = true) :
    vx_Back l R p e below s sargs y len W9 (PreOf R mc ms Pc) (PostOf Qc mc ms free) (vx_Post XC mc ms free) := by
  intro m meth c A g ig mk a X hg hsize hdg hW hn hp
  have h1 : (headSpec ws rm).pre.before a A.U = true := atoms_intro fun w hw => hws w hw _ _ X.warmed
  have h2 : (Cond.codeWith y bytes maxL ret hh).before a A.U = true := hws _ hcode _ _ X.warmed
  have h3 : (Cond.initialized y.cls).before a A.U = true := hinit _ _ X.warmed
  have h4 : A.cells + (headSpec ws rm).room.cells ≤ R.cells := by rw [show (headSpec ws rm).room.cells = mc from hrc]; exact hp.1
  have h5 : A.slots + (headSpec ws rm).room.slots ≤ R.slots := by rw [show (headSpec ws rm).room.slots = ms from hrs]; exact hp.2.1
  have hPc : Pc a (A.U.calling g mk a) := hblind _ _ _ _ hp.2.2
  obtain ⟨U, Ls, c0, s0⟩ := A
  dsimp only [Pt.U, Pt.locs, Pt.cells, Pt.slots] at h1 h2 h3 h4 h5 X hn hPc ⊢
  obtain ⟨m9, methY, cY, hn9, hmY, hcY, -, hlY, -⟩ := Cond.codeWith_spec h2
  cases Option.some.inj (hn9.symm.trans hn)
  obtain ⟨kY, hkY, -⟩ := className_of_methodNamed hn
  have hinitY : kY.init = .initialized := Cond.initialized_spec (findClass_of_methodNamed hn) hkY h3
  have h : At U g.method c below := by rw [hg]; exact X.here
  have hlocals9 : W9 + (maxL + 11) + (headSpec ws rm).room.locals ≤ R.locals := hlocals
  have happ : (headSpec ws rm).appliesLoose y e.platform (U.calling g mk a) = true :=
    Spec.appliesLoose_calling (g := g) h hdg hn hkY hinitY
      (X.room_calling (g := g) (R' := (headSpec ws rm).room) hsize hmY hcY hframes (by rw [hlY]; omega) h4 h5) h1
  obtain ⟨mid, hmid⟩ := h.above
  have hfr : (U.setTop g).frames = (.java g :: mid) ++ below := by rw [State.frames_setTop' g h.top, hmid]; rfl
  obtain ⟨o, s₂, hsteps, -, hend, hq⟩ := Steps.callFree hM p X.admits X.cas X.clock (acts := []) hfr happ hPc trivial
  have hq' : vx_Q Qc XC mc ms free a (U.calling g mk a) o s₂ := hq
  rw [State.frames_setTop' g h.top] at hend
  obtain ⟨g₀, hg0⟩ := Option.isSome_iff_exists.mp h.top
  obtain ⟨r, hr⟩ := State.topJava?_eq_some.mp hg0
  have hr' : (({ U with heap := s₂.heap, slotsUsed := s₂.slotsUsed } : State).setVm s₂.vm).frames = .java g₀ :: r := hr
  rcases hq' with ⟨hqc, L, hfe, hL⟩ | ⟨q, rfl, E, ce, L, hx, hce, hcv, hcl, hW₂, hsm, hL⟩
  · obtain ⟨⟨v, rfl⟩, hW₂, e2, q2, q3, q4, q5, q6⟩ := id hfe
    have e3 : s₂ = ({ (U.calling g mk a).setFrames s₂.frames with heap := s₂.heap, slotsUsed := s₂.slotsUsed } : State).setVm s₂.vm := by
      have : s₂ = ({ s₂ with vm := (U.calling g mk a).vm } : State).setVm s₂.vm := rfl
      rw [e2] at this
      exact this
    obtain ⟨c₂, i₂, len₂, hc₂, hd₂, hf₂⟩ := hend
    have hW' : U.WarmedH s₂.vm := hW₂
    have hcc : c₂ = c := by
      have h1 : s₂.code? g.method = U.code? g.method := by
        rw [State.code?_eq, State.code?_eq, hW'.alike.method?]
      exact Option.some.inj (hc₂.symm.trans (h1.trans h.code))
    subst hcc
    have hlen : len₂ = len := by rw [hdg] at hd₂; cases hd₂; rfl
    subst hlen
    have hs₂ : s₂ = (({ U with heap := s₂.heap, slotsUsed := s₂.slotsUsed } : State).setVm s₂.vm).setTop { g with pc := g.pc + len₂, stack := v.toList ++ g.stack } := by
      refine e3.trans ?_
      rw [hf₂, State.calling_eq h.top, State.setFrames_setFrames, State.setTop_of_frames _ hr', hr]
      rfl
    have hsame : U.sameButNew ({ U with heap := s₂.heap, slotsUsed := s₂.slotsUsed } : State) L mc ms := by
      refine ⟨?_, q2, q3, q4, q5, q6⟩
      obtain ⟨t, ht, -⟩ := State.frames_cons hr
      show ({ U with heap := s₂.heap, slotsUsed := s₂.slotsUsed } : State) = { U.setFrames U.frames with heap := s₂.heap, slotsUsed := s₂.slotsUsed }
      rw [State.setFrames_self ht]
    subst hg
    refine Or.inl ⟨v, ⟨(({ U with heap := s₂.heap, slotsUsed := s₂.slotsUsed } : State).setVm s₂.vm), Ls ++ L, c0 + mc, s0 + ms⟩,
      ⟨X.admits, X.cas, X.clock, X.frames, X.room, X.hears, X.method, X.code, (X.here.setHeapUsed s₂.heap s₂.slotsUsed).setVm hW'.alike, X.tail, State.WarmedH.trans X.warmed hW', X.limits, X.bytes, X.same.trans (hsame.setVm s.vm)⟩,
      ⟨g, mk, s₂, L, rfl, rfl, hqc, rfl, hL, rfl, rfl⟩, ?_⟩
    show Steps p.tables e below _ ((({ U with heap := s₂.heap, slotsUsed := s₂.slotsUsed } : State).setVm s₂.vm).setTop { g with pc := g.pc + len₂, stack := v.toList ++ g.stack })
    rw [← hs₂]
    exact hsteps
  · obtain ⟨e2, q2, q3, q4, q5, q6⟩ := id hsm
    have e3 : s₂ = ({ (U.calling g mk a).setFrames s₂.frames with heap := s₂.heap, slotsUsed := s₂.slotsUsed } : State).setVm s₂.vm := by
      have : s₂ = ({ s₂ with vm := (U.calling g mk a).vm } : State).setVm s₂.vm := rfl
      rw [e2] at this
      exact this
    have hf₂ : s₂.frames = .throwing q :: .java g :: U.frames.tail := hend
    have hW' : U.WarmedH s₂.vm := hW₂
    have hs₂ : s₂ = ((({ U with heap := s₂.heap, slotsUsed := s₂.slotsUsed } : State).setVm s₂.vm).setTop g).pushFrame (.throwing q) := by
      refine e3.trans ?_
      rw [hf₂, State.calling_eq h.top, State.setFrames_setFrames, State.pushFrame, State.frames_setTop _ hr', State.setTop_of_frames _ hr', State.setFrames_setFrames, hr]
      rfl
    have hsame : U.sameButNew ({ U with heap := s₂.heap, slotsUsed := s₂.slotsUsed } : State) L mc ms := by
      refine ⟨?_, q2, q3, q4, q5, q6⟩
      obtain ⟨t, ht, -⟩ := State.frames_cons hr
      show ({ U with heap := s₂.heap, slotsUsed := s₂.slotsUsed } : State) = { U.setFrames U.frames with heap := s₂.heap, slotsUsed := s₂.slotsUsed }
      rw [State.setFrames_self ht]
    subst hg
    refine Or.inr ⟨q, ⟨(({ U with heap := s₂.heap, slotsUsed := s₂.slotsUsed } : State).setVm s₂.vm), Ls ++ L, c0 + mc, s0 + ms⟩,
      ⟨X.admits, X.cas, X.clock, X.frames, X.room, X.hears, X.method, X.code, (X.here.setHeapUsed s₂.heap s₂.slotsUsed).setVm hW'.alike, X.tail, State.WarmedH.trans X.warmed hW', X.limits, X.bytes, X.same.trans (hsame.setVm s.vm)⟩,
      ⟨g, mk, s₂, L, E, ce, rfl, rfl, hx, hce, hcv, hcl, rfl, hL, rfl, rfl⟩, ?_⟩
    show Steps p.tables e below _ (((({ U with heap := s₂.heap, slotsUsed := s₂.slotsUsed } : State).setVm s₂.vm).setTop g).pushFrame (.throwing q))
    rw [← hs₂]
    exact hsteps
end
variable {p : Program} {l : Launch} {e : Env} {R : Room} {s : State} {m : MethodId} {args : Array Value} {below : List Frame} {meth : Method} {c : Code} {T : State} {H : Heap} {locs : List Loc} {cells slots : Nat}
theorem vx_callVX (X : Stand p l e R s m args below meth c T locs cells slots) (hexec : p.tables.exec = Jvm.exec) {own C : String} {index : Nat} {y : MethodName} {bytes : ByteArray} {maxL : Nat} {ret : Option FieldType} {hh : List (Nat × Nat × Nat × Nat)}
    (hown : s.vm.findClass own = some m.cls) (hlink : (Cond.methodLink own index y).before args s = true) (hinst : (Cond.instanceMethod y).before args s = true) (hsel : (Cond.selects C y y).before args s = true)
    (hcode : (Cond.codeWith y bytes maxL ret hh).before args s = true) (hy : y.cls ≠ "java/lang/invoke/MethodHandle" ∧ y.cls ≠ "java/lang/invoke/VarHandle")
    {W9 : Nat} {Pre : Pt → Array Value → Prop} {Post : Pt → Array Value → Option Value → Pt → Prop} {PostX : Pt → Array Value → Addr → Pt → Prop} (hK : vx_Back l R p e below s args y 3 W9 Pre Post PostX)
    {b : Addr} {cellB : Cell} (hcell : T.heap[b]? = some cellB) (hobj : cellB.vm.isStatics = false) (hcls : s.vm.findClass C = some cellB.cls)
    {g : JFrame} (hg : g.method = m) (hsize : g.locals.size = c.maxLocals) {argsL rest : List Value} (hlen : ∀ sig, parseMethodDescriptor y.desc = some sig → argsL.length = sig.parameters.length)
    (hstack : g.stack = argsL.reverse ++ .ref b :: rest) (hW : 2 * g.monitorRoom + (rest.map fun v => v.category).sum ≤ W9) (hdg : decode c.code g.pc = .ok (.invokevirtual index, 3))
    (hpre : ∀ vm₁, s.WarmedH vm₁ → Pre ⟨T.setVm vm₁, locs, cells, slots⟩ (Value.ref b :: argsL).toArray) :
    (∃ (v : Option Value) (vm₁ : Vm) (B : Pt), s.WarmedH vm₁ ∧ Stand p l e R s m args below meth c B.U B.locs B.cells B.slots ∧ Post ⟨T.setVm vm₁, locs, cells, slots⟩ (Value.ref b :: argsL).toArray v B ∧
      ∀ target, Steps p.tables e below (B.U.setTop { g with pc := g.pc + 3, stack := v.toList ++ rest }) target → Steps p.tables e below (T.setTop g) target) ∨
    (∃ (q : Addr) (vm₁ : Vm) (B : Pt), s.WarmedH vm₁ ∧ Stand p l e R s m args below meth c B.U B.locs B.cells B.slots ∧ PostX ⟨T.setVm vm₁, locs, cells, slots⟩ (Value.ref b :: argsL).toArray q B ∧
      Steps p.tables e below (T.setTop g) ((B.U.setTop { g with stack := rest }).pushFrame (.throwing q))) := by
  obtain ⟨mk, methM, hnamed, hmethM, hstM, habM⟩ := Cond.instanceMethod_spec hinst
  obtain ⟨m8, methM', cM, hn8, hmethM', -, -, -, -, -, -, hsigM⟩ := Cond.codeWith_spec hcode
  cases Option.some.inj (hn8.symm.trans hnamed)
  cases hmethM.symm.trans hmethM'
  obtain ⟨c2, r2, m2, q1, q2, q3, q4, kP, hkP, hkPi⟩ := Cond.selects_spec hsel
  cases hcls.symm.trans q1
  cases (State.methodFound?_of_named hnamed hy).symm.trans q2
  cases hnamed.symm.trans q3
  have hselP : selectMethod e.platform s.vm cellB.cls mk = .method mk := by rw [Launch.admits_selectMethod X.admits]; exact q4
  obtain ⟨vm₁, X₁, hstep₁⟩ := X.invokevirtual hexec hown hlink hnamed hmethM hstM hkP hkPi hy (a := b) (cell := cellB) hcell
    (fun z h => by rw [h] at hobj; cases hobj) hselP hmethM habM hkP hkPi (g := g) hg (argsL := argsL) (rest := rest) (hlen _ hsigM) hstack hdg
  rcases hK m meth c ⟨T.setVm vm₁, locs, cells, slots⟩ { g with stack := rest } (.invokevirtual index) mk (Value.ref b :: argsL).toArray X₁ hg hsize hdg hW (X₁.named hnamed) (hpre vm₁ X₁.warmed) with ⟨v, B, X', hpost, hsteps⟩ | ⟨q, B, X', hpost, hsteps⟩
  · exact Or.inl ⟨v, vm₁, B, X₁.warmed, X', hpost, fun target h => hstep₁ _ fun acts => by rw [doInvoke_state]; exact hsteps.trans h⟩
  · exact Or.inr ⟨q, vm₁, B, X₁.warmed, X', hpost, hstep₁ _ fun acts => by rw [doInvoke_state]; exact hsteps⟩
theorem vx_callSX (X : Stand p l e R s m args below meth c T locs cells slots) (hexec : p.tables.exec = Jvm.exec) {own : String} {index : Nat} {y : MethodName} {bytes : ByteArray} {maxL : Nat} {ret : Option FieldType} {hh : List (Nat × Nat × Nat × Nat)}
    (hown : s.vm.findClass own = some m.cls) (hlink : (Cond.methodLink own index y).before args s = true) (hstat : (Cond.static y).before args s = true) (hinit : (Cond.initialized y.cls).before args s = true)
    (hcode : (Cond.codeWith y bytes maxL ret hh).before args s = true) (hy : y.cls ≠ "java/lang/invoke/MethodHandle" ∧ y.cls ≠ "java/lang/invoke/VarHandle")
    {W9 : Nat} {Pre : Pt → Array Value → Prop} {Post : Pt → Array Value → Option Value → Pt → Prop} {PostX : Pt → Array Value → Addr → Pt → Prop} (hK : vx_Back l R p e below s args y 3 W9 Pre Post PostX)
    {g : JFrame} (hg : g.method = m) (hsize : g.locals.size = c.maxLocals) {argsL rest : List Value} (hlen : ∀ sig, parseMethodDescriptor y.desc = some sig → argsL.length = sig.parameters.length)
    (hstack : g.stack = argsL.reverse ++ rest) (hW : 2 * g.monitorRoom + (rest.map fun v => v.category).sum ≤ W9) (hdg : decode c.code g.pc = .ok (.invokestatic index, 3))
    (hpre : ∀ vm₁, s.WarmedH vm₁ → Pre ⟨T.setVm vm₁, locs, cells, slots⟩ argsL.toArray) :
    (∃ (v : Option Value) (vm₁ : Vm) (B : Pt), s.WarmedH vm₁ ∧ Stand p l e R s m args below meth c B.U B.locs B.cells B.slots ∧ Post ⟨T.setVm vm₁, locs, cells, slots⟩ argsL.toArray v B ∧
      ∀ target, Steps p.tables e below (B.U.setTop { g with pc := g.pc + 3, stack := v.toList ++ rest }) target → Steps p.tables e below (T.setTop g) target) ∨
    (∃ (q : Addr) (vm₁ : Vm) (B : Pt), s.WarmedH vm₁ ∧ Stand p l e R s m args below meth c B.U B.locs B.cells B.slots ∧ PostX ⟨T.setVm vm₁, locs, cells, slots⟩ argsL.toArray q B ∧
      Steps p.tables e below (T.setTop g) ((B.U.setTop { g with stack := rest }).pushFrame (.throwing q))) := by
  obtain ⟨mk, methM, cM, hnamed, hmethM, -, -, -, -, -, -, hsigM⟩ := Cond.codeWith_spec hcode
  have hstatic : methM.isStatic = true := Cond.static_spec hnamed hmethM hstat
  obtain ⟨kP, hkP, -⟩ := className_of_methodNamed hnamed
  have hinitP : kP.init = .initialized := Cond.initialized_spec (findClass_of_methodNamed hnamed) hkP hinit
  obtain ⟨vm₁, X₁, hstep₁⟩ := X.invokestatic hexec hown hlink hnamed hmethM hstatic hkP hinitP hy (g := g) hg (argsL := argsL) (rest := rest) (hlen _ hsigM) hstack hdg
  rcases hK m meth c ⟨T.setVm vm₁, locs, cells, slots⟩ { g with stack := rest } (.invokestatic index) mk argsL.toArray X₁ hg hsize hdg hW (X₁.named hnamed) (hpre vm₁ X₁.warmed) with ⟨v, B, X', hpost, hsteps⟩ | ⟨q, B, X', hpost, hsteps⟩
  · exact Or.inl ⟨v, vm₁, B, X₁.warmed, X', hpost, fun target h => hstep₁ _ fun acts => by rw [doInvoke_state]; exact hsteps.trans h⟩
  · exact Or.inr ⟨q, vm₁, B, X₁.warmed, X', hpost, hstep₁ _ fun acts => by rw [doInvoke_state]; exact hsteps⟩
theorem vx_callVW (X : Stand p l e R s m args below meth c T locs cells slots) (hexec : p.tables.exec = Jvm.exec) {own C : String} {index : Nat} {y : MethodName} {bytes : ByteArray} {maxL : Nat} {ret : Option FieldType} {hh : List (Nat × Nat × Nat × Nat)}
    (hown : s.vm.findClass own = some m.cls) (hlink : (Cond.methodLink own index y).before args s = true) (hinst : (Cond.instanceMethod y).before args s = true) (hsel : (Cond.selects C y y).before args s = true)
    (hcode : (Cond.codeWith y bytes maxL ret hh).before args s = true) (hy : y.cls ≠ "java/lang/invoke/MethodHandle" ∧ y.cls ≠ "java/lang/invoke/VarHandle")
    {W9 : Nat} {Pre : Pt → Array Value → Prop} {Post : Pt → Array Value → Option Value → Pt → Prop} (hK : Back l R p e below s args y 3 W9 Pre Post)
    {b : Addr} {cellB : Cell} (hcell : T.heap[b]? = some cellB) (hobj : cellB.vm.isStatics = false) (hcls : s.vm.findClass C = some cellB.cls)
    {g : JFrame} (hg : g.method = m) (hsize : g.locals.size = c.maxLocals) {argsL rest : List Value} (hlen : ∀ sig, parseMethodDescriptor y.desc = some sig → argsL.length = sig.parameters.length)
    (hstack : g.stack = argsL.reverse ++ .ref b :: rest) (hW : 2 * g.monitorRoom + (rest.map fun v => v.category).sum ≤ W9) (hdg : decode c.code g.pc = .ok (.invokevirtual index, 3))
    (hpre : ∀ vm₁, s.WarmedH vm₁ → Pre ⟨T.setVm vm₁, locs, cells, slots⟩ (Value.ref b :: argsL).toArray) :
    ∃ (v : Option Value) (vm₁ : Vm) (B : Pt), s.WarmedH vm₁ ∧ Stand p l e R s m args below meth c B.U B.locs B.cells B.slots ∧ Post ⟨T.setVm vm₁, locs, cells, slots⟩ (Value.ref b :: argsL).toArray v B ∧
      ∀ target, Steps p.tables e below (B.U.setTop { g with pc := g.pc + 3, stack := v.toList ++ rest }) target → Steps p.tables e below (T.setTop g) target := by
  obtain ⟨mk, methM, hnamed, hmethM, hstM, habM⟩ := Cond.instanceMethod_spec hinst
  obtain ⟨m8, methM', cM, hn8, hmethM', -, -, -, -, -, -, hsigM⟩ := Cond.codeWith_spec hcode
  cases Option.some.inj (hn8.symm.trans hnamed)
  cases hmethM.symm.trans hmethM'
  obtain ⟨c2, r2, m2, q1, q2, q3, q4, kP, hkP, hkPi⟩ := Cond.selects_spec hsel
  cases hcls.symm.trans q1
  cases (State.methodFound?_of_named hnamed hy).symm.trans q2
  cases hnamed.symm.trans q3
  have hselP : selectMethod e.platform s.vm cellB.cls mk = .method mk := by rw [Launch.admits_selectMethod X.admits]; exact q4
  obtain ⟨vm₁, X₁, hstep₁⟩ := X.invokevirtual hexec hown hlink hnamed hmethM hstM hkP hkPi hy (a := b) (cell := cellB) hcell
    (fun z h => by rw [h] at hobj; cases hobj) hselP hmethM habM hkP hkPi (g := g) hg (argsL := argsL) (rest := rest) (hlen _ hsigM) hstack hdg
  obtain ⟨v, B, X', hpost, hsteps⟩ := hK m meth c ⟨T.setVm vm₁, locs, cells, slots⟩ { g with stack := rest } (.invokevirtual index) mk (Value.ref b :: argsL).toArray X₁ hg hsize hdg hW (X₁.named hnamed) (hpre vm₁ X₁.warmed)
  exact ⟨v, vm₁, B, X₁.warmed, X', hpost, fun target h => hstep₁ _ fun acts => by rw [doInvoke_state]; exact hsteps.trans h⟩
abbrev vx_CVW (R : Room) (s : State) (args : Array Value) (own C : String) (index : Nat) (y : MethodName) (bytes : ByteArray) (maxL : Nat) (ret : Option FieldType) (hh : List (Nat × Nat × Nat × Nat)) (ws : List Cond) (rm : Room) (mc ms n : Nat) : Prop :=
  (rm.cells = mc ∧ rm.slots = ms ∧ rm.frames + 1 ≤ R.frames ∧ 8 + (maxL + 11) + rm.locals ≤ R.locals ∧ (∀ w ∈ ws, ∀ (a' : Array Value) (U : State), s.WarmedH U.vm → w.before a' U = true) ∧ Cond.codeWith y bytes maxL ret hh ∈ ws) ∧
  (Cond.codeWith y bytes maxL ret hh).before args s = true ∧ (Cond.initialized y.cls).before args s = true ∧ (y.cls ≠ "java/lang/invoke/MethodHandle" ∧ y.cls ≠ "java/lang/invoke/VarHandle") ∧
  (∀ sig, parseMethodDescriptor y.desc = some sig → n = sig.parameters.length) ∧ (Cond.methodLink own index y).before args s = true ∧ (Cond.instanceMethod y).before args s = true ∧ (Cond.selects C y y).before args s = true
theorem vx_cwVW {own C : String} {index maxL mc ms : Nat} {y : MethodName} {bytes : ByteArray} {ret : Option FieldType} {hh : List (Nat × Nat × Nat × Nat)} {Ts ws ws' : List Cond} {rm : Room} (n : Nat) (ht : ∀ w ∈ Ts, w.before args s = true) (hT : GoodIn Ts (wsV own index C y ws)) (hw : ws = Cond.codeWith y bytes maxL ret hh :: ws') (hrc : rm.cells = mc) (hrs : rm.slots = ms)
    (hd : y.cls = C ∧ y.cls ≠ "java/lang/invoke/MethodHandle" ∧ y.cls ≠ "java/lang/invoke/VarHandle" ∧ (parseMethodDescriptor y.desc).map (fun d => d.parameters.length) = some n) (hR : rm.frames + 1 ≤ R.frames ∧ 8 + (maxL + 11) + rm.locals ≤ R.locals) :
    vx_CVW R s args own C index y bytes maxL ret hh ws rm mc ms n := by
  obtain ⟨hC, hd⟩ := hd
  subst hC
  have ok : ∀ w ∈ wsV own index y.cls y ws, w.before args s = true := fun w h => ht w (hT w h).1
  have hG : GoodIn Ts ws := fun w h => hT w (by unfold wsV; exact List.mem_append_right _ h)
  have hc : Cond.codeWith y bytes maxL ret hh ∈ ws := by rw [hw]; exact List.mem_cons_self
  refine ⟨⟨hrc, hrs, hR.1, hR.2, pay_in ht hG, hc⟩, ht _ (hG _ hc).1, ok _ (by simp [wsV]), ⟨hd.1, hd.2.1⟩, fun sig h => ?_, ok _ (by simp [wsV]), ok _ (by simp [wsV]), ok _ (by simp [wsV])⟩
  have h2 := hd.2.2
  rw [h] at h2
  exact (Option.some.inj h2).symm
theorem vx_runVW {y : MethodName} {bytes cc : ByteArray} {maxL nL mc ms n index : Nat} {ret : Option FieldType} {hh : List (Nat × Nat × Nat × Nat)} {ws : List Cond} {rm : Room} {Pc : Array Value → State → Prop} {Qc : Array Value → State → Outcome → State → Prop} {free : Addr → Prop} {Ts : List Cond} {own C : String} {b : Addr} {As rest : List Value} {g : JFrame}
    (S : CallFix p m c cc nL s args Ts own) (hM : Met l y ws rm Pc Qc mc ms free) (cw : vx_CVW R s args own C index y bytes maxL ret hh ws rm mc ms n) (hp : PreV s H C b Pc As)
    (hg : g.method = m) (hn : As.length = n) (hsize : g.locals.size = nL) (hstack : g.stack = As.reverse ++ .ref b :: rest) (hW : 2 * g.monitorRoom + (rest.map fun v => v.category).sum ≤ 8) (hdg : decode cc g.pc = .ok (.invokevirtual index, 3)) (hf : cells + mc ≤ R.cells ∧ slots + ms ≤ R.slots) :
    va_Run p l e R s m args below meth c H locs cells slots mc ms g rest (Qc (Value.ref b :: As).toArray) free := by
  obtain ⟨⟨hrc, hrs, hfr, hlo, hws, hcw⟩, hcode, hini, hy, hlen, hl, hin, hse⟩ := cw
  have hK : Back l R p e below s args y 3 8 (PreOf R mc ms Pc) (PostOf Qc mc ms free) := va_backW (hh := hh) (bytes := bytes) (maxL := maxL) (ret := ret) hM hp.1 hrc hrs hfr hlo hws hcw (fun a' U hW => word_at hW (Or.inl (by first | rfl | simp [Cond.onTables, Cond.keeps, Cond.steady])) hini)
  obtain ⟨hx, hb, hml, ho, -⟩ := S
  obtain ⟨-, ⟨cellB, hcB, hoB, hclB⟩, hPc⟩ := hp
  intro T hT X
  obtain ⟨v, vm₁, ⟨U', l2, c2, s2⟩, hW₁, X', ⟨g', mk, t, L, e1, e2, hq, h1, hL, h2, h3⟩, st⟩ := vx_callVW X hx (C := C) (hh := hh) (bytes := bytes) (maxL := maxL) (ret := ret) ho hl hin hse hcode hy hK (by rw [hT]; exact hcB) hoB hclB hg (hsize.trans hml.symm) (argsL := As) (rest := rest) (fun sig h => hn.trans (hlen sig h)) hstack hW (by rw [hb]; exact hdg)
    (fun vm₁ hW₁ => ⟨hf.1, hf.2, hPc (T.setVm vm₁) hT hW₁⟩)
  dsimp only [Pt.U, Pt.locs, Pt.cells, Pt.slots] at X' e1 e2 h1 h2 h3 st
  subst h1; subst h2; subst h3
  exact ⟨v, (T.setVm vm₁).calling g' mk (Value.ref b :: As).toArray, t, U', L, hT, X', hL, e1, e2, hq, st⟩
section
variable {y : MethodName} {bytes cc : ByteArray} {maxL nL mc ms n index : Nat} {ret : Option FieldType} {ws : List Cond} {rm : Room} {Pc : Array Value → State → Prop} {Qc : Array Value → State → Outcome → State → Prop} {XC : String → State → State → Prop} {free : Addr → Prop} {Ts : List Cond} {own C : String} {b : Addr} {As rest : List Value} {g : JFrame}
theorem vx_runVX {hh : List (Nat × Nat × Nat × Nat)} (S : CallFix p m c cc nL s args Ts own) (hM : vx_Met l y ws rm Pc Qc XC mc ms free) (cw : vx_CVW R s args own C index y bytes maxL ret hh ws rm mc ms n) (hp : PreV s H C b Pc As)
    (hg : g.method = m) (hn : As.length = n) (hsize : g.locals.size = nL) (hstack : g.stack = As.reverse ++ .ref b :: rest) (hW : 2 * g.monitorRoom + (rest.map fun v => v.category).sum ≤ 8) (hdg : decode cc g.pc = .ok (.invokevirtual index, 3)) (hf : cells + mc ≤ R.cells ∧ slots + ms ≤ R.slots) :
    vx_Run p l e R s m args below meth c H locs cells slots mc ms g rest (Qc (Value.ref b :: As).toArray) XC free := by
  obtain ⟨⟨hrc, hrs, hfr, hlo, hws, hcw⟩, hcode, hini, hy, hlen, hl, hin, hse⟩ := cw
  have hK : vx_Back l R p e below s args y 3 8 (PreOf R mc ms Pc) (PostOf Qc mc ms free) (vx_Post XC mc ms free) := vx_backW (hh := hh) (bytes := bytes) (maxL := maxL) (ret := ret) hM hp.1 hrc hrs hfr hlo hws hcw (fun a' U hW => word_at hW (Or.inl (by first | rfl | simp [Cond.onTables, Cond.keeps, Cond.steady])) hini)
  obtain ⟨hx, hb, hml, ho, -⟩ := S
  obtain ⟨-, ⟨cellB, hcB, hoB, hclB⟩, hPc⟩ := hp
  intro T hT X
  rcases vx_callVX X hx (C := C) (hh := hh) (bytes := bytes) (maxL := maxL) (ret := ret) ho hl hin hse hcode hy hK (by rw [hT]; exact hcB) hoB hclB hg (hsize.trans hml.symm) (argsL := As) (rest := rest) (fun sig h => hn.trans (hlen sig h)) hstack hW (by rw [hb]; exact hdg)
    (fun vm₁ hW₁ => ⟨hf.1, hf.2, hPc (T.setVm vm₁) hT hW₁⟩) with ⟨v, vm₁, ⟨U', l2, c2, s2⟩, hW₁, X', ⟨g', mk, t, L, e1, e2, hq, h1, hL, h2, h3⟩, st⟩ | ⟨q, vm₁, ⟨U', l2, c2, s2⟩, hW₁, X', ⟨g', mk, t, L, E, ce, e1, e2, hq, hce, hcv, hcl, h1, hL, h2, h3⟩, st⟩
  · dsimp only [Pt.U, Pt.locs, Pt.cells, Pt.slots] at X' e1 e2 h1 h2 h3 st
    subst h1; subst h2; subst h3
    exact Or.inl ⟨v, (T.setVm vm₁).calling g' mk (Value.ref b :: As).toArray, t, U', L, hT, X', hL, e1, e2, hq, st⟩
  · dsimp only [Pt.U, Pt.locs, Pt.cells, Pt.slots] at X' e1 e2 h1 h2 h3 st hcl
    subst h1; subst h2; subst h3
    exact Or.inr ⟨q, (T.setVm vm₁).calling g' mk (Value.ref b :: As).toArray, t, U', L, E, ce, hT, X', hL, e1, e2, hq, hce, hcv, vx_cls hW₁ hcl, st⟩
theorem vx_runSX {hh : List (Nat × Nat × Nat × Nat)} (S : CallFix p m c cc nL s args Ts own) (hM : vx_Met l y ws rm Pc Qc XC mc ms free) (cw : vx_CSW R s args own index y bytes maxL ret hh ws rm mc ms n) (hp : PreS s H Pc As)
    (hg : g.method = m) (hn : As.length = n) (hsize : g.locals.size = nL) (hstack : g.stack = As.reverse ++ rest) (hW : 2 * g.monitorRoom + (rest.map fun v => v.category).sum ≤ 8) (hdg : decode cc g.pc = .ok (.invokestatic index, 3)) (hf : cells + mc ≤ R.cells ∧ slots + ms ≤ R.slots) :
    vx_Run p l e R s m args below meth c H locs cells slots mc ms g rest (Qc As.toArray) XC free := by
  obtain ⟨⟨hrc, hrs, hfr, hlo, hws, hcw⟩, hcode, hini, hy, hlen, hl, hstt⟩ := cw
  have hK : vx_Back l R p e below s args y 3 8 (PreOf R mc ms Pc) (PostOf Qc mc ms free) (vx_Post XC mc ms free) := vx_backW (hh := hh) (bytes := bytes) (maxL := maxL) (ret := ret) hM hp.1 hrc hrs hfr hlo hws hcw (fun a' U hW => word_at hW (Or.inl (by first | rfl | simp [Cond.onTables, Cond.keeps, Cond.steady])) hini)
  obtain ⟨hx, hb, hml, ho, -⟩ := S
  intro T hT X
  rcases vx_callSX X hx (hh := hh) (bytes := bytes) (maxL := maxL) (ret := ret) ho hl hstt hini hcode hy hK hg (hsize.trans hml.symm) (argsL := As) (rest := rest) (fun sig h => hn.trans (hlen sig h)) hstack hW (by rw [hb]; exact hdg)
    (fun vm₁ hW₁ => ⟨hf.1, hf.2, hp.2 (T.setVm vm₁) hT hW₁⟩) with ⟨v, vm₁, ⟨U', l2, c2, s2⟩, hW₁, X', ⟨g', mk, t, L, e1, e2, hq, h1, hL, h2, h3⟩, st⟩ | ⟨q, vm₁, ⟨U', l2, c2, s2⟩, hW₁, X', ⟨g', mk, t, L, E, ce, e1, e2, hq, hce, hcv, hcl, h1, hL, h2, h3⟩, st⟩
  · dsimp only [Pt.U, Pt.locs, Pt.cells, Pt.slots] at X' e1 e2 h1 h2 h3 st
    subst h1; subst h2; subst h3
    exact Or.inl ⟨v, (T.setVm vm₁).calling g' mk As.toArray, t, U', L, hT, X', hL, e1, e2, hq, st⟩
  · dsimp only [Pt.U, Pt.locs, Pt.cells, Pt.slots] at X' e1 e2 h1 h2 h3 st hcl
    subst h1; subst h2; subst h3
    exact Or.inr ⟨q, (T.setVm vm₁).calling g' mk As.toArray, t, U', L, E, ce, hT, X', hL, e1, e2, hq, hce, hcv, vx_cls hW₁ hcl, st⟩
end
end VXH
theorem vx_ofWH {l : Launch} {y : MethodName} {ws ws' : List Cond} {rm : Room} {Pc : Array Value → State → Prop} {Qc : Array Value → State → Outcome → State → Prop} {XC : String → State → State → Prop} {mc ms : Nat} {free : Addr → Prop} {cc : ByteArray} {maxL : Nat} {ret : Option FieldType} {hh : List (Nat × Nat × Nat × Nat)}
    (hy : plainName y.cls = true) (hw : ws = Cond.codeWith y cc maxL ret hh :: ws')
    (body : ∀ p e s m args below meth c s₁, BodyLoose p l y (headSpec ws rm) cc maxL ret e s m args below meth c s₁ → c.maxLocals = maxL → Pc args s →
      W p l e (headSpec ws rm).room s m args below meth c s.heap [] 0 0 (vx_MQ below Qc XC args s mc ms free) (entryFrame m args maxL)) : vx_Met l y ws rm Pc Qc XC mc ms free := by
  refine MetFree.of_bodyS (code := cc) (maxLocals := maxL) (ret := ret) hy ?_ ?_
  · intro args s m h hn
    obtain ⟨m9, meth, c, hn9, h1, h2, h3, h4, -, h5, h6, -⟩ := Cond.codeWith_spec (atoms_spec (ws := ws) h _ (by rw [hw]; exact List.mem_cons_self))
    cases hn.symm.trans hn9
    exact ⟨meth, c, h1, h2, h3, h4, h5, h6⟩
  · intro p e s m args below meth c s₁ B hml hP _
    have hh0 : s₁.heap = s.heap := by rw [B.state]; rfl
    obtain ⟨t, a1, o, b1, b2, b3⟩ := body p e s m args below meth c s₁ B hml hP s₁ hh0 (Stand.of_body B)
    exact ⟨t, o, a1, b1, b2, b3⟩
/-! ===== END ===== -/
end
section
abbrev R_RW : String := "CoinTree$Row"
def F_RW : u_T := fun k => match k with
  | 0 => ("CoinTree$Row", "marks", "[I", true)
  | 1 => ("CoinTree$Row", "leaves", "[I", true)
  | 2 => ("CoinTree$Row", "values", "[J", true)
  | _ => ("CoinTree$Row", "size", "I", false)
def t_RW : Nat → FieldType := fun k => match k with
  | 0 => .array .int
  | 1 => .array .int
  | 2 => .array .long
  | _ => .int
theorem n_RW : ∀ a, a < 4 → ∀ b, b < 4 → a ≠ b → (F_RW a).2.1 ≠ (F_RW b).2.1 := by decide +kernel
theorem t_RW_ok : ∀ k, k < 4 → parseFieldDescriptor (F_RW k).2.2.1 = some (t_RW k) := by decide +kernel
abbrev R_TL : String := "CoinTree$Trail"
def F_TL : u_T := fun k => match k with
  | 0 => ("CoinTree$Trail", "leaves", "[I", true)
  | 1 => ("CoinTree$Trail", "next", "I", false)
  | _ => ("CoinTree$Trail", "kept", "I", false)
def t_TL : Nat → FieldType := fun k => match k with
  | 0 => .array .int
  | 1 => .int
  | _ => .int
theorem n_TL : ∀ a, a < 3 → ∀ b, b < 3 → a ≠ b → (F_TL a).2.1 ≠ (F_TL b).2.1 := by decide +kernel
theorem t_TL_ok : ∀ k, k < 3 → parseFieldDescriptor (F_TL k).2.2.1 = some (t_TL k) := by decide +kernel
abbrev R_TR : String := "CoinTree$Tree"
def F_TR : u_T := fun k => match k with
  | 0 => ("CoinTree$Tree", "levels", "I", true)
  | 1 => ("CoinTree$Tree", "leaves", "I", true)
  | 2 => ("CoinTree$Tree", "slots", "I", true)
  | 3 => ("CoinTree$Tree", "capacity", "I", true)
  | 4 => ("CoinTree$Tree", "nodeSlots", "LCoinTree$Row;", true)
  | 5 => ("CoinTree$Tree", "nodeCounts", "[I", true)
  | 6 => ("CoinTree$Tree", "stash", "LCoinTree$Row;", true)
  | 7 => ("CoinTree$Tree", "trail", "LCoinTree$Trail;", true)
  | 8 => ("CoinTree$Tree", "plan", "LCoinTree$Row;", true)
  | 9 => ("CoinTree$Tree", "planTargets", "[I", true)
  | 10 => ("CoinTree$Tree", "wayLeaf", "I", false)
  | _ => ("CoinTree$Tree", "sought", "I", false)
def t_TR : Nat → FieldType := fun k => match k with
  | 0 => .int
  | 1 => .int
  | 2 => .int
  | 3 => .int
  | 4 => .object "CoinTree$Row"
  | 5 => .array .int
  | 6 => .object "CoinTree$Row"
  | 7 => .object "CoinTree$Trail"
  | 8 => .object "CoinTree$Row"
  | 9 => .array .int
  | 10 => .int
  | _ => .int
theorem n_TR : ∀ a, a < 12 → ∀ b, b < 12 → a ≠ b → (F_TR a).2.1 ≠ (F_TR b).2.1 := by decide +kernel
theorem t_TR_ok : ∀ k, k < 12 → parseFieldDescriptor (F_TR k).2.2.1 = some (t_TR k) := by decide +kernel
abbrev R_CT : String := "CoinTree"
def F_CT : u_T := fun k => match k with
  | 0 => ("CoinTree", "slots", "I", true)
  | 1 => ("CoinTree", "capacity", "I", true)
  | 2 => ("CoinTree", "key", "J", true)
  | 3 => ("CoinTree", "blockTree", "LCoinTree$Tree;", true)
  | 4 => ("CoinTree", "mapTree", "LCoinTree$Tree;", true)
  | 5 => ("CoinTree", "mapLeaves", "[I", true)
  | 6 => ("CoinTree", "timesAsked", "I", false)
  | _ => ("CoinTree", "mostStashed", "I", false)
def t_CT : Nat → FieldType := fun k => match k with
  | 0 => .int
  | 1 => .int
  | 2 => .long
  | 3 => .object "CoinTree$Tree"
  | 4 => .object "CoinTree$Tree"
  | 5 => .array .int
  | 6 => .int
  | _ => .int
theorem n_CT : ∀ a, a < 8 → ∀ b, b < 8 → a ≠ b → (F_CT a).2.1 ≠ (F_CT b).2.1 := by decide +kernel
theorem t_CT_ok : ∀ k, k < 8 → parseFieldDescriptor (F_CT k).2.2.1 = some (t_CT k) := by decide +kernel
abbrev R_CM : String := "CoinTreeModel"
def F_CM : u_T := fun k => match k with
  | 0 => ("CoinTreeModel", "thrown", "I", false)
  | 1 => ("CoinTreeModel", "levels", "I", true)
  | 2 => ("CoinTreeModel", "slots", "I", true)
  | 3 => ("CoinTreeModel", "capacity", "I", true)
  | 4 => ("CoinTreeModel", "key", "J", true)
  | 5 => ("CoinTreeModel", "blocks", "[I", true)
  | 6 => ("CoinTreeModel", "leaves", "[I", true)
  | 7 => ("CoinTreeModel", "values", "[J", true)
  | 8 => ("CoinTreeModel", "counts", "[I", true)
  | 9 => ("CoinTreeModel", "stashBlocks", "[I", true)
  | 10 => ("CoinTreeModel", "stashLeaves", "[I", true)
  | 11 => ("CoinTreeModel", "stashValues", "[J", true)
  | 12 => ("CoinTreeModel", "stashed", "[I", true)
  | 13 => ("CoinTreeModel", "mapLeaves", "[I", true)
  | 14 => ("CoinTreeModel", "most", "I", false)
  | 15 => ("CoinTreeModel", "asked", "I", false)
  | 16 => ("CoinTreeModel", "traces", "[I", true)
  | 17 => ("CoinTreeModel", "traced", "I", false)
  | 18 => ("CoinTreeModel", "oldBlocks", "[I", true)
  | 19 => ("CoinTreeModel", "oldLeaves", "[I", true)
  | 20 => ("CoinTreeModel", "oldValues", "[J", true)
  | 21 => ("CoinTreeModel", "oldCounts", "[I", true)
  | 22 => ("CoinTreeModel", "oldStashBlocks", "[I", true)
  | 23 => ("CoinTreeModel", "oldStashLeaves", "[I", true)
  | 24 => ("CoinTreeModel", "oldStashValues", "[J", true)
  | 25 => ("CoinTreeModel", "oldStashed", "[I", true)
  | _ => ("CoinTreeModel", "oldMapLeaves", "[I", true)
def t_CM : Nat → FieldType := fun k => match k with
  | 0 => .int
  | 1 => .int
  | 2 => .int
  | 3 => .int
  | 4 => .long
  | 5 => .array .int
  | 6 => .array .int
  | 7 => .array .long
  | 8 => .array .int
  | 9 => .array .int
  | 10 => .array .int
  | 11 => .array .long
  | 12 => .array .int
  | 13 => .array .int
  | 14 => .int
  | 15 => .int
  | 16 => .array .int
  | 17 => .int
  | 18 => .array .int
  | 19 => .array .int
  | 20 => .array .long
  | 21 => .array .int
  | 22 => .array .int
  | 23 => .array .int
  | 24 => .array .long
  | 25 => .array .int
  | _ => .array .int
theorem n_CM : ∀ a, a < 27 → ∀ b, b < 27 → a ≠ b → (F_CM a).2.1 ≠ (F_CM b).2.1 := by decide +kernel
theorem t_CM_ok : ∀ k, k < 27 → parseFieldDescriptor (F_CM k).2.2.1 = some (t_CM k) := by decide +kernel
abbrev R_LW : String := "CoinTreeLaw"
abbrev kCl : List vw_C := [(R_RW, F_RW, 4), (R_TL, F_TL, 3), (R_TR, F_TR, 12), (R_CT, F_CT, 8), (R_CM, F_CM, 27)]
abbrev b_CT_init : ByteArray := prog_1_method_1_code
def y_CT_init : MethodName := ⟨"CoinTree", "<init>", "(IIIJ)V"⟩
theorem p_CT_init : y_CT_init.cls = R_CT ∧ y_CT_init.cls ≠ "java/lang/invoke/MethodHandle" ∧ y_CT_init.cls ≠ "java/lang/invoke/VarHandle" ∧ (parseMethodDescriptor y_CT_init.desc).map (fun d => d.parameters.length) = some 4 := by decide +kernel
abbrev b_CT_nearest : ByteArray := prog_1_method_13_code
def y_CT_nearest : MethodName := ⟨"CoinTree", "nearest", "(III)I"⟩
theorem p_CT_nearest : y_CT_nearest.cls = R_CT ∧ y_CT_nearest.cls ≠ "java/lang/invoke/MethodHandle" ∧ y_CT_nearest.cls ≠ "java/lang/invoke/VarHandle" ∧ (parseMethodDescriptor y_CT_nearest.desc).map (fun d => d.parameters.length) = some 3 := by decide +kernel
abbrev b_TR_init : ByteArray := prog_4_method_1_code
def y_TR_init : MethodName := ⟨"CoinTree$Tree", "<init>", "(IIII)V"⟩
theorem p_TR_init : y_TR_init.cls = R_TR ∧ y_TR_init.cls ≠ "java/lang/invoke/MethodHandle" ∧ y_TR_init.cls ≠ "java/lang/invoke/VarHandle" ∧ (parseMethodDescriptor y_TR_init.desc).map (fun d => d.parameters.length) = some 4 := by decide +kernel
abbrev b_TL_init : ByteArray := prog_3_method_1_code
def y_TL_init : MethodName := ⟨"CoinTree$Trail", "<init>", "()V"⟩
theorem p_TL_init : y_TL_init.cls = R_TL ∧ y_TL_init.cls ≠ "java/lang/invoke/MethodHandle" ∧ y_TL_init.cls ≠ "java/lang/invoke/VarHandle" ∧ (parseMethodDescriptor y_TL_init.desc).map (fun d => d.parameters.length) = some 0 := by decide +kernel
abbrev b_RW_init : ByteArray := prog_2_method_1_code
def y_RW_init : MethodName := ⟨"CoinTree$Row", "<init>", "(I)V"⟩
theorem p_RW_init : y_RW_init.cls = R_RW ∧ y_RW_init.cls ≠ "java/lang/invoke/MethodHandle" ∧ y_RW_init.cls ≠ "java/lang/invoke/VarHandle" ∧ (parseMethodDescriptor y_RW_init.desc).map (fun d => d.parameters.length) = some 1 := by decide +kernel
abbrev b_TR_leafModulo : ByteArray := prog_4_method_4_code
def y_TR_leafModulo : MethodName := ⟨"CoinTree$Tree", "leafModulo", "(I)I"⟩
theorem p_TR_leafModulo : y_TR_leafModulo.cls = R_TR ∧ y_TR_leafModulo.cls ≠ "java/lang/invoke/MethodHandle" ∧ y_TR_leafModulo.cls ≠ "java/lang/invoke/VarHandle" ∧ (parseMethodDescriptor y_TR_leafModulo.desc).map (fun d => d.parameters.length) = some 1 := by decide +kernel
abbrev b_LW_cell : ByteArray := method_2_code
def y_LW_cell : MethodName := ⟨"CoinTreeLaw", "cell", "([II)I"⟩
theorem p_LW_cell : y_LW_cell.cls = R_LW ∧ y_LW_cell.cls ≠ "java/lang/invoke/MethodHandle" ∧ y_LW_cell.cls ≠ "java/lang/invoke/VarHandle" ∧ (parseMethodDescriptor y_LW_cell.desc).map (fun d => d.parameters.length) = some 2 := by decide +kernel
abbrev b_LW_read : ByteArray := method_3_code
def y_LW_read : MethodName := ⟨"CoinTreeLaw", "read", "(LCoinTree;III[J)I"⟩
theorem p_LW_read : y_LW_read.cls = R_LW ∧ y_LW_read.cls ≠ "java/lang/invoke/MethodHandle" ∧ y_LW_read.cls ≠ "java/lang/invoke/VarHandle" ∧ (parseMethodDescriptor y_LW_read.desc).map (fun d => d.parameters.length) = some 5 := by decide +kernel
abbrev b_CT_read : ByteArray := prog_1_method_2_code
def y_CT_read : MethodName := ⟨"CoinTree", "read", "(III)J"⟩
theorem p_CT_read : y_CT_read.cls = R_CT ∧ y_CT_read.cls ≠ "java/lang/invoke/MethodHandle" ∧ y_CT_read.cls ≠ "java/lang/invoke/VarHandle" ∧ (parseMethodDescriptor y_CT_read.desc).map (fun d => d.parameters.length) = some 3 := by decide +kernel
abbrev b_CT_ask : ByteArray := prog_1_method_9_code
def y_CT_ask : MethodName := ⟨"CoinTree", "ask", "(IZJII)J"⟩
theorem p_CT_ask : y_CT_ask.cls = R_CT ∧ y_CT_ask.cls ≠ "java/lang/invoke/MethodHandle" ∧ y_CT_ask.cls ≠ "java/lang/invoke/VarHandle" ∧ (parseMethodDescriptor y_CT_ask.desc).map (fun d => d.parameters.length) = some 5 := by decide +kernel
abbrev b_TR_hasLeaf : ByteArray := prog_4_method_2_code
def y_TR_hasLeaf : MethodName := ⟨"CoinTree$Tree", "hasLeaf", "(I)Z"⟩
theorem p_TR_hasLeaf : y_TR_hasLeaf.cls = R_TR ∧ y_TR_hasLeaf.cls ≠ "java/lang/invoke/MethodHandle" ∧ y_TR_hasLeaf.cls ≠ "java/lang/invoke/VarHandle" ∧ (parseMethodDescriptor y_TR_hasLeaf.desc).map (fun d => d.parameters.length) = some 1 := by decide +kernel
abbrev b_TR_gather : ByteArray := prog_4_method_7_code
def y_TR_gather : MethodName := ⟨"CoinTree$Tree", "gather", "(II)V"⟩
theorem p_TR_gather : y_TR_gather.cls = R_TR ∧ y_TR_gather.cls ≠ "java/lang/invoke/MethodHandle" ∧ y_TR_gather.cls ≠ "java/lang/invoke/VarHandle" ∧ (parseMethodDescriptor y_TR_gather.desc).map (fun d => d.parameters.length) = some 2 := by decide +kernel
abbrev b_RW_append : ByteArray := prog_2_method_8_code
def y_RW_append : MethodName := ⟨"CoinTree$Row", "append", "(LCoinTree$Row;I)V"⟩
theorem p_RW_append : y_RW_append.cls = R_RW ∧ y_RW_append.cls ≠ "java/lang/invoke/MethodHandle" ∧ y_RW_append.cls ≠ "java/lang/invoke/VarHandle" ∧ (parseMethodDescriptor y_RW_append.desc).map (fun d => d.parameters.length) = some 2 := by decide +kernel
abbrev b_RW_has : ByteArray := prog_2_method_2_code
def y_RW_has : MethodName := ⟨"CoinTree$Row", "has", "(I)Z"⟩
theorem p_RW_has : y_RW_has.cls = R_RW ∧ y_RW_has.cls ≠ "java/lang/invoke/MethodHandle" ∧ y_RW_has.cls ≠ "java/lang/invoke/VarHandle" ∧ (parseMethodDescriptor y_RW_has.desc).map (fun d => d.parameters.length) = some 1 := by decide +kernel
abbrev b_RW_copy : ByteArray := prog_2_method_7_code
def y_RW_copy : MethodName := ⟨"CoinTree$Row", "copy", "(ILCoinTree$Row;I)V"⟩
theorem p_RW_copy : y_RW_copy.cls = R_RW ∧ y_RW_copy.cls ≠ "java/lang/invoke/MethodHandle" ∧ y_RW_copy.cls ≠ "java/lang/invoke/VarHandle" ∧ (parseMethodDescriptor y_RW_copy.desc).map (fun d => d.parameters.length) = some 3 := by decide +kernel
abbrev b_RW_markAt : ByteArray := prog_2_method_3_code
def y_RW_markAt : MethodName := ⟨"CoinTree$Row", "markAt", "(I)I"⟩
theorem p_RW_markAt : y_RW_markAt.cls = R_RW ∧ y_RW_markAt.cls ≠ "java/lang/invoke/MethodHandle" ∧ y_RW_markAt.cls ≠ "java/lang/invoke/VarHandle" ∧ (parseMethodDescriptor y_RW_markAt.desc).map (fun d => d.parameters.length) = some 1 := by decide +kernel
abbrev b_RW_leafAt : ByteArray := prog_2_method_4_code
def y_RW_leafAt : MethodName := ⟨"CoinTree$Row", "leafAt", "(I)I"⟩
theorem p_RW_leafAt : y_RW_leafAt.cls = R_RW ∧ y_RW_leafAt.cls ≠ "java/lang/invoke/MethodHandle" ∧ y_RW_leafAt.cls ≠ "java/lang/invoke/VarHandle" ∧ (parseMethodDescriptor y_RW_leafAt.desc).map (fun d => d.parameters.length) = some 1 := by decide +kernel
abbrev b_RW_valueAt : ByteArray := prog_2_method_5_code
def y_RW_valueAt : MethodName := ⟨"CoinTree$Row", "valueAt", "(I)J"⟩
theorem p_RW_valueAt : y_RW_valueAt.cls = R_RW ∧ y_RW_valueAt.cls ≠ "java/lang/invoke/MethodHandle" ∧ y_RW_valueAt.cls ≠ "java/lang/invoke/VarHandle" ∧ (parseMethodDescriptor y_RW_valueAt.desc).map (fun d => d.parameters.length) = some 1 := by decide +kernel
abbrev b_RW_put : ByteArray := prog_2_method_6_code
def y_RW_put : MethodName := ⟨"CoinTree$Row", "put", "(IIIJ)V"⟩
theorem p_RW_put : y_RW_put.cls = R_RW ∧ y_RW_put.cls ≠ "java/lang/invoke/MethodHandle" ∧ y_RW_put.cls ≠ "java/lang/invoke/VarHandle" ∧ (parseMethodDescriptor y_RW_put.desc).map (fun d => d.parameters.length) = some 4 := by decide +kernel
abbrev b_TR_nodeOnWay : ByteArray := prog_4_method_15_code
def y_TR_nodeOnWay : MethodName := ⟨"CoinTree$Tree", "nodeOnWay", "(II)I"⟩
theorem p_TR_nodeOnWay : y_TR_nodeOnWay.cls = R_TR ∧ y_TR_nodeOnWay.cls ≠ "java/lang/invoke/MethodHandle" ∧ y_TR_nodeOnWay.cls ≠ "java/lang/invoke/VarHandle" ∧ (parseMethodDescriptor y_TR_nodeOnWay.desc).map (fun d => d.parameters.length) = some 2 := by decide +kernel
abbrev b_TR_gatherNode : ByteArray := prog_4_method_8_code
def y_TR_gatherNode : MethodName := ⟨"CoinTree$Tree", "gatherNode", "(I)V"⟩
theorem p_TR_gatherNode : y_TR_gatherNode.cls = R_TR ∧ y_TR_gatherNode.cls ≠ "java/lang/invoke/MethodHandle" ∧ y_TR_gatherNode.cls ≠ "java/lang/invoke/VarHandle" ∧ (parseMethodDescriptor y_TR_gatherNode.desc).map (fun d => d.parameters.length) = some 1 := by decide +kernel
abbrev b_RW_find : ByteArray := prog_2_method_10_code
def y_RW_find : MethodName := ⟨"CoinTree$Row", "find", "(I)I"⟩
theorem p_RW_find : y_RW_find.cls = R_RW ∧ y_RW_find.cls ≠ "java/lang/invoke/MethodHandle" ∧ y_RW_find.cls ≠ "java/lang/invoke/VarHandle" ∧ (parseMethodDescriptor y_RW_find.desc).map (fun d => d.parameters.length) = some 1 := by decide +kernel
abbrev b_RW_appendNew : ByteArray := prog_2_method_9_code
def y_RW_appendNew : MethodName := ⟨"CoinTree$Row", "appendNew", "(I)V"⟩
theorem p_RW_appendNew : y_RW_appendNew.cls = R_RW ∧ y_RW_appendNew.cls ≠ "java/lang/invoke/MethodHandle" ∧ y_RW_appendNew.cls ≠ "java/lang/invoke/VarHandle" ∧ (parseMethodDescriptor y_RW_appendNew.desc).map (fun d => d.parameters.length) = some 1 := by decide +kernel
abbrev b_TR_soughtValue : ByteArray := prog_4_method_9_code
def y_TR_soughtValue : MethodName := ⟨"CoinTree$Tree", "soughtValue", "()J"⟩
theorem p_TR_soughtValue : y_TR_soughtValue.cls = R_TR ∧ y_TR_soughtValue.cls ≠ "java/lang/invoke/MethodHandle" ∧ y_TR_soughtValue.cls ≠ "java/lang/invoke/VarHandle" ∧ (parseMethodDescriptor y_TR_soughtValue.desc).map (fun d => d.parameters.length) = some 0 := by decide +kernel
abbrev b_CT_withNumber : ByteArray := prog_1_method_12_code
def y_CT_withNumber : MethodName := ⟨"CoinTree", "withNumber", "(JII)J"⟩
theorem p_CT_withNumber : y_CT_withNumber.cls = R_CT ∧ y_CT_withNumber.cls ≠ "java/lang/invoke/MethodHandle" ∧ y_CT_withNumber.cls ≠ "java/lang/invoke/VarHandle" ∧ (parseMethodDescriptor y_CT_withNumber.desc).map (fun d => d.parameters.length) = some 3 := by decide +kernel
abbrev b_TR_settle : ByteArray := prog_4_method_10_code
def y_TR_settle : MethodName := ⟨"CoinTree$Tree", "settle", "(IJ)V"⟩
theorem p_TR_settle : y_TR_settle.cls = R_TR ∧ y_TR_settle.cls ≠ "java/lang/invoke/MethodHandle" ∧ y_TR_settle.cls ≠ "java/lang/invoke/VarHandle" ∧ (parseMethodDescriptor y_TR_settle.desc).map (fun d => d.parameters.length) = some 2 := by decide +kernel
abbrev b_CT_leafTold : ByteArray := prog_1_method_10_code
def y_CT_leafTold : MethodName := ⟨"CoinTree", "leafTold", "(JII)I"⟩
theorem p_CT_leafTold : y_CT_leafTold.cls = R_CT ∧ y_CT_leafTold.cls ≠ "java/lang/invoke/MethodHandle" ∧ y_CT_leafTold.cls ≠ "java/lang/invoke/VarHandle" ∧ (parseMethodDescriptor y_CT_leafTold.desc).map (fun d => d.parameters.length) = some 3 := by decide +kernel
abbrev b_TR_fits : ByteArray := prog_4_method_11_code
def y_TR_fits : MethodName := ⟨"CoinTree$Tree", "fits", "()Z"⟩
theorem p_TR_fits : y_TR_fits.cls = R_TR ∧ y_TR_fits.cls ≠ "java/lang/invoke/MethodHandle" ∧ y_TR_fits.cls ≠ "java/lang/invoke/VarHandle" ∧ (parseMethodDescriptor y_TR_fits.desc).map (fun d => d.parameters.length) = some 0 := by decide +kernel
abbrev b_TR_fillNode : ByteArray := prog_4_method_12_code
def y_TR_fillNode : MethodName := ⟨"CoinTree$Tree", "fillNode", "(II)I"⟩
theorem p_TR_fillNode : y_TR_fillNode.cls = R_TR ∧ y_TR_fillNode.cls ≠ "java/lang/invoke/MethodHandle" ∧ y_TR_fillNode.cls ≠ "java/lang/invoke/VarHandle" ∧ (parseMethodDescriptor y_TR_fillNode.desc).map (fun d => d.parameters.length) = some 2 := by decide +kernel
abbrev b_TR_carryOut : ByteArray := prog_4_method_13_code
def y_TR_carryOut : MethodName := ⟨"CoinTree$Tree", "carryOut", "()V"⟩
theorem p_TR_carryOut : y_TR_carryOut.cls = R_TR ∧ y_TR_carryOut.cls ≠ "java/lang/invoke/MethodHandle" ∧ y_TR_carryOut.cls ≠ "java/lang/invoke/VarHandle" ∧ (parseMethodDescriptor y_TR_carryOut.desc).map (fun d => d.parameters.length) = some 0 := by decide +kernel
abbrev b_TR_emptyNode : ByteArray := prog_4_method_14_code
def y_TR_emptyNode : MethodName := ⟨"CoinTree$Tree", "emptyNode", "(I)V"⟩
theorem p_TR_emptyNode : y_TR_emptyNode.cls = R_TR ∧ y_TR_emptyNode.cls ≠ "java/lang/invoke/MethodHandle" ∧ y_TR_emptyNode.cls ≠ "java/lang/invoke/VarHandle" ∧ (parseMethodDescriptor y_TR_emptyNode.desc).map (fun d => d.parameters.length) = some 1 := by decide +kernel
abbrev b_TR_hasNode : ByteArray := prog_4_method_3_code
def y_TR_hasNode : MethodName := ⟨"CoinTree$Tree", "hasNode", "(I)Z"⟩
theorem p_TR_hasNode : y_TR_hasNode.cls = R_TR ∧ y_TR_hasNode.cls ≠ "java/lang/invoke/MethodHandle" ∧ y_TR_hasNode.cls ≠ "java/lang/invoke/VarHandle" ∧ (parseMethodDescriptor y_TR_hasNode.desc).map (fun d => d.parameters.length) = some 1 := by decide +kernel
abbrev b_TL_add : ByteArray := prog_3_method_2_code
def y_TL_add : MethodName := ⟨"CoinTree$Trail", "add", "(I)V"⟩
theorem p_TL_add : y_TL_add.cls = R_TL ∧ y_TL_add.cls ≠ "java/lang/invoke/MethodHandle" ∧ y_TL_add.cls ≠ "java/lang/invoke/VarHandle" ∧ (parseMethodDescriptor y_TL_add.desc).map (fun d => d.parameters.length) = some 1 := by decide +kernel
abbrev b_LW_write : ByteArray := method_4_code
def y_LW_write : MethodName := ⟨"CoinTreeLaw", "write", "(LCoinTree;IJII[J)I"⟩
theorem p_LW_write : y_LW_write.cls = R_LW ∧ y_LW_write.cls ≠ "java/lang/invoke/MethodHandle" ∧ y_LW_write.cls ≠ "java/lang/invoke/VarHandle" ∧ (parseMethodDescriptor y_LW_write.desc).map (fun d => d.parameters.length) = some 6 := by decide +kernel
abbrev b_CT_write : ByteArray := prog_1_method_3_code
def y_CT_write : MethodName := ⟨"CoinTree", "write", "(IJII)J"⟩
theorem p_CT_write : y_CT_write.cls = R_CT ∧ y_CT_write.cls ≠ "java/lang/invoke/MethodHandle" ∧ y_CT_write.cls ≠ "java/lang/invoke/VarHandle" ∧ (parseMethodDescriptor y_CT_write.desc).map (fun d => d.parameters.length) = some 4 := by decide +kernel
abbrev b_LW_trace : ByteArray := method_5_code
def y_LW_trace : MethodName := ⟨"CoinTreeLaw", "trace", "(LCoinTree;II[J)I"⟩
theorem p_LW_trace : y_LW_trace.cls = R_LW ∧ y_LW_trace.cls ≠ "java/lang/invoke/MethodHandle" ∧ y_LW_trace.cls ≠ "java/lang/invoke/VarHandle" ∧ (parseMethodDescriptor y_LW_trace.desc).map (fun d => d.parameters.length) = some 4 := by decide +kernel
abbrev b_CT_trace : ByteArray := prog_1_method_4_code
def y_CT_trace : MethodName := ⟨"CoinTree", "trace", "(II)I"⟩
theorem p_CT_trace : y_CT_trace.cls = R_CT ∧ y_CT_trace.cls ≠ "java/lang/invoke/MethodHandle" ∧ y_CT_trace.cls ≠ "java/lang/invoke/VarHandle" ∧ (parseMethodDescriptor y_CT_trace.desc).map (fun d => d.parameters.length) = some 2 := by decide +kernel
abbrev b_CT_treeNumbered : ByteArray := prog_1_method_11_code
def y_CT_treeNumbered : MethodName := ⟨"CoinTree", "treeNumbered", "(I)LCoinTree$Tree;"⟩
theorem p_CT_treeNumbered : y_CT_treeNumbered.cls = R_CT ∧ y_CT_treeNumbered.cls ≠ "java/lang/invoke/MethodHandle" ∧ y_CT_treeNumbered.cls ≠ "java/lang/invoke/VarHandle" ∧ (parseMethodDescriptor y_CT_treeNumbered.desc).map (fun d => d.parameters.length) = some 1 := by decide +kernel
abbrev b_TL_leafAt : ByteArray := prog_3_method_3_code
def y_TL_leafAt : MethodName := ⟨"CoinTree$Trail", "leafAt", "(I)I"⟩
theorem p_TL_leafAt : y_TL_leafAt.cls = R_TL ∧ y_TL_leafAt.cls ≠ "java/lang/invoke/MethodHandle" ∧ y_TL_leafAt.cls ≠ "java/lang/invoke/VarHandle" ∧ (parseMethodDescriptor y_TL_leafAt.desc).map (fun d => d.parameters.length) = some 1 := by decide +kernel
abbrev b_LW_stored : ByteArray := method_6_code
def y_LW_stored : MethodName := ⟨"CoinTreeLaw", "stored", "(LCoinTree;IIII[J)I"⟩
theorem p_LW_stored : y_LW_stored.cls = R_LW ∧ y_LW_stored.cls ≠ "java/lang/invoke/MethodHandle" ∧ y_LW_stored.cls ≠ "java/lang/invoke/VarHandle" ∧ (parseMethodDescriptor y_LW_stored.desc).map (fun d => d.parameters.length) = some 6 := by decide +kernel
abbrev b_CT_stored : ByteArray := prog_1_method_5_code
def y_CT_stored : MethodName := ⟨"CoinTree", "stored", "(IIII)J"⟩
theorem p_CT_stored : y_CT_stored.cls = R_CT ∧ y_CT_stored.cls ≠ "java/lang/invoke/MethodHandle" ∧ y_CT_stored.cls ≠ "java/lang/invoke/VarHandle" ∧ (parseMethodDescriptor y_CT_stored.desc).map (fun d => d.parameters.length) = some 4 := by decide +kernel
abbrev b_TR_wordAt : ByteArray := prog_4_method_6_code
def y_TR_wordAt : MethodName := ⟨"CoinTree$Tree", "wordAt", "(III)J"⟩
theorem p_TR_wordAt : y_TR_wordAt.cls = R_TR ∧ y_TR_wordAt.cls ≠ "java/lang/invoke/MethodHandle" ∧ y_TR_wordAt.cls ≠ "java/lang/invoke/VarHandle" ∧ (parseMethodDescriptor y_TR_wordAt.desc).map (fun d => d.parameters.length) = some 3 := by decide +kernel
abbrev b_TR_timesWritten : ByteArray := prog_4_method_5_code
def y_TR_timesWritten : MethodName := ⟨"CoinTree$Tree", "timesWritten", "(I)I"⟩
theorem p_TR_timesWritten : y_TR_timesWritten.cls = R_TR ∧ y_TR_timesWritten.cls ≠ "java/lang/invoke/MethodHandle" ∧ y_TR_timesWritten.cls ≠ "java/lang/invoke/VarHandle" ∧ (parseMethodDescriptor y_TR_timesWritten.desc).map (fun d => d.parameters.length) = some 1 := by decide +kernel
abbrev b_CT_mix : ByteArray := prog_1_method_14_code
def y_CT_mix : MethodName := ⟨"CoinTree", "mix", "(J)J"⟩
theorem p_CT_mix : y_CT_mix.cls = R_CT ∧ y_CT_mix.cls ≠ "java/lang/invoke/MethodHandle" ∧ y_CT_mix.cls ≠ "java/lang/invoke/VarHandle" ∧ (parseMethodDescriptor y_CT_mix.desc).map (fun d => d.parameters.length) = some 1 := by decide +kernel
abbrev b_LW_written : ByteArray := method_7_code
def y_LW_written : MethodName := ⟨"CoinTreeLaw", "written", "(LCoinTree;II[J)I"⟩
theorem p_LW_written : y_LW_written.cls = R_LW ∧ y_LW_written.cls ≠ "java/lang/invoke/MethodHandle" ∧ y_LW_written.cls ≠ "java/lang/invoke/VarHandle" ∧ (parseMethodDescriptor y_LW_written.desc).map (fun d => d.parameters.length) = some 4 := by decide +kernel
abbrev b_CT_written : ByteArray := prog_1_method_6_code
def y_CT_written : MethodName := ⟨"CoinTree", "written", "(II)I"⟩
theorem p_CT_written : y_CT_written.cls = R_CT ∧ y_CT_written.cls ≠ "java/lang/invoke/MethodHandle" ∧ y_CT_written.cls ≠ "java/lang/invoke/VarHandle" ∧ (parseMethodDescriptor y_CT_written.desc).map (fun d => d.parameters.length) = some 2 := by decide +kernel
abbrev b_LW_stash : ByteArray := method_8_code
def y_LW_stash : MethodName := ⟨"CoinTreeLaw", "stash", "(LCoinTree;II[J)I"⟩
theorem p_LW_stash : y_LW_stash.cls = R_LW ∧ y_LW_stash.cls ≠ "java/lang/invoke/MethodHandle" ∧ y_LW_stash.cls ≠ "java/lang/invoke/VarHandle" ∧ (parseMethodDescriptor y_LW_stash.desc).map (fun d => d.parameters.length) = some 4 := by decide +kernel
abbrev b_CT_stash : ByteArray := prog_1_method_7_code
def y_CT_stash : MethodName := ⟨"CoinTree", "stash", "(II)I"⟩
theorem p_CT_stash : y_CT_stash.cls = R_CT ∧ y_CT_stash.cls ≠ "java/lang/invoke/MethodHandle" ∧ y_CT_stash.cls ≠ "java/lang/invoke/VarHandle" ∧ (parseMethodDescriptor y_CT_stash.desc).map (fun d => d.parameters.length) = some 2 := by decide +kernel
abbrev b_LW_count : ByteArray := method_9_code
def y_LW_count : MethodName := ⟨"CoinTreeLaw", "count", "(LCoinTree;I[J)I"⟩
theorem p_LW_count : y_LW_count.cls = R_LW ∧ y_LW_count.cls ≠ "java/lang/invoke/MethodHandle" ∧ y_LW_count.cls ≠ "java/lang/invoke/VarHandle" ∧ (parseMethodDescriptor y_LW_count.desc).map (fun d => d.parameters.length) = some 3 := by decide +kernel
abbrev b_CT_count : ByteArray := prog_1_method_8_code
def y_CT_count : MethodName := ⟨"CoinTree", "count", "(I)I"⟩
theorem p_CT_count : y_CT_count.cls = R_CT ∧ y_CT_count.cls ≠ "java/lang/invoke/MethodHandle" ∧ y_CT_count.cls ≠ "java/lang/invoke/VarHandle" ∧ (parseMethodDescriptor y_CT_count.desc).map (fun d => d.parameters.length) = some 1 := by decide +kernel
abbrev b_CM_init : ByteArray := prog_6_method_1_code
def y_CM_init : MethodName := ⟨"CoinTreeModel", "<init>", "(IIIJ)V"⟩
theorem p_CM_init : y_CM_init.cls = R_CM ∧ y_CM_init.cls ≠ "java/lang/invoke/MethodHandle" ∧ y_CM_init.cls ≠ "java/lang/invoke/VarHandle" ∧ (parseMethodDescriptor y_CM_init.desc).map (fun d => d.parameters.length) = some 4 := by decide +kernel
abbrev b_CM_leavesOf : ByteArray := prog_6_method_4_code
def y_CM_leavesOf : MethodName := ⟨"CoinTreeModel", "leavesOf", "(I)I"⟩
theorem p_CM_leavesOf : y_CM_leavesOf.cls = R_CM ∧ y_CM_leavesOf.cls ≠ "java/lang/invoke/MethodHandle" ∧ y_CM_leavesOf.cls ≠ "java/lang/invoke/VarHandle" ∧ (parseMethodDescriptor y_CM_leavesOf.desc).map (fun d => d.parameters.length) = some 1 := by decide +kernel
abbrev b_CM_levelsOf : ByteArray := prog_6_method_3_code
def y_CM_levelsOf : MethodName := ⟨"CoinTreeModel", "levelsOf", "(I)I"⟩
theorem p_CM_levelsOf : y_CM_levelsOf.cls = R_CM ∧ y_CM_levelsOf.cls ≠ "java/lang/invoke/MethodHandle" ∧ y_CM_levelsOf.cls ≠ "java/lang/invoke/VarHandle" ∧ (parseMethodDescriptor y_CM_levelsOf.desc).map (fun d => d.parameters.length) = some 1 := by decide +kernel
abbrev b_CM_thrown : ByteArray := prog_6_method_2_code
def y_CM_thrown : MethodName := ⟨"CoinTreeModel", "thrown", "()I"⟩
theorem p_CM_thrown : y_CM_thrown.cls = R_CM ∧ y_CM_thrown.cls ≠ "java/lang/invoke/MethodHandle" ∧ y_CM_thrown.cls ≠ "java/lang/invoke/VarHandle" ∧ (parseMethodDescriptor y_CM_thrown.desc).map (fun d => d.parameters.length) = some 0 := by decide +kernel
abbrev b_CM_read : ByteArray := prog_6_method_15_code
def y_CM_read : MethodName := ⟨"CoinTreeModel", "read", "(III)J"⟩
theorem p_CM_read : y_CM_read.cls = R_CM ∧ y_CM_read.cls ≠ "java/lang/invoke/MethodHandle" ∧ y_CM_read.cls ≠ "java/lang/invoke/VarHandle" ∧ (parseMethodDescriptor y_CM_read.desc).map (fun d => d.parameters.length) = some 3 := by decide +kernel
abbrev b_CM_ask : ByteArray := prog_6_method_13_code
def y_CM_ask : MethodName := ⟨"CoinTreeModel", "ask", "(IZJII)J"⟩
theorem p_CM_ask : y_CM_ask.cls = R_CM ∧ y_CM_ask.cls ≠ "java/lang/invoke/MethodHandle" ∧ y_CM_ask.cls ≠ "java/lang/invoke/VarHandle" ∧ (parseMethodDescriptor y_CM_ask.desc).map (fun d => d.parameters.length) = some 5 := by decide +kernel
abbrev b_CM_keep : ByteArray := prog_6_method_11_code
def y_CM_keep : MethodName := ⟨"CoinTreeModel", "keep", "()V"⟩
theorem p_CM_keep : y_CM_keep.cls = R_CM ∧ y_CM_keep.cls ≠ "java/lang/invoke/MethodHandle" ∧ y_CM_keep.cls ≠ "java/lang/invoke/VarHandle" ∧ (parseMethodDescriptor y_CM_keep.desc).map (fun d => d.parameters.length) = some 0 := by decide +kernel
abbrev b_CM_gather : ByteArray := prog_6_method_9_code
def y_CM_gather : MethodName := ⟨"CoinTreeModel", "gather", "(III)I"⟩
theorem p_CM_gather : y_CM_gather.cls = R_CM ∧ y_CM_gather.cls ≠ "java/lang/invoke/MethodHandle" ∧ y_CM_gather.cls ≠ "java/lang/invoke/VarHandle" ∧ (parseMethodDescriptor y_CM_gather.desc).map (fun d => d.parameters.length) = some 3 := by decide +kernel
abbrev b_CM_place : ByteArray := prog_6_method_5_code
def y_CM_place : MethodName := ⟨"CoinTreeModel", "place", "(III)I"⟩
theorem p_CM_place : y_CM_place.cls = R_CM ∧ y_CM_place.cls ≠ "java/lang/invoke/MethodHandle" ∧ y_CM_place.cls ≠ "java/lang/invoke/VarHandle" ∧ (parseMethodDescriptor y_CM_place.desc).map (fun d => d.parameters.length) = some 3 := by decide +kernel
abbrev b_CM_push : ByteArray := prog_6_method_6_code
def y_CM_push : MethodName := ⟨"CoinTreeModel", "push", "(IIIJ)V"⟩
theorem p_CM_push : y_CM_push.cls = R_CM ∧ y_CM_push.cls ≠ "java/lang/invoke/MethodHandle" ∧ y_CM_push.cls ≠ "java/lang/invoke/VarHandle" ∧ (parseMethodDescriptor y_CM_push.desc).map (fun d => d.parameters.length) = some 4 := by decide +kernel
abbrev b_CM_find : ByteArray := prog_6_method_8_code
def y_CM_find : MethodName := ⟨"CoinTreeModel", "find", "(II)I"⟩
theorem p_CM_find : y_CM_find.cls = R_CM ∧ y_CM_find.cls ≠ "java/lang/invoke/MethodHandle" ∧ y_CM_find.cls ≠ "java/lang/invoke/VarHandle" ∧ (parseMethodDescriptor y_CM_find.desc).map (fun d => d.parameters.length) = some 2 := by decide +kernel
abbrev b_CM_fill : ByteArray := prog_6_method_10_code
def y_CM_fill : MethodName := ⟨"CoinTreeModel", "fill", "(II)Z"⟩
theorem p_CM_fill : y_CM_fill.cls = R_CM ∧ y_CM_fill.cls ≠ "java/lang/invoke/MethodHandle" ∧ y_CM_fill.cls ≠ "java/lang/invoke/VarHandle" ∧ (parseMethodDescriptor y_CM_fill.desc).map (fun d => d.parameters.length) = some 2 := by decide +kernel
abbrev b_CM_pull : ByteArray := prog_6_method_7_code
def y_CM_pull : MethodName := ⟨"CoinTreeModel", "pull", "(II)V"⟩
theorem p_CM_pull : y_CM_pull.cls = R_CM ∧ y_CM_pull.cls ≠ "java/lang/invoke/MethodHandle" ∧ y_CM_pull.cls ≠ "java/lang/invoke/VarHandle" ∧ (parseMethodDescriptor y_CM_pull.desc).map (fun d => d.parameters.length) = some 2 := by decide +kernel
abbrev b_CM_takeBack : ByteArray := prog_6_method_12_code
def y_CM_takeBack : MethodName := ⟨"CoinTreeModel", "takeBack", "()V"⟩
theorem p_CM_takeBack : y_CM_takeBack.cls = R_CM ∧ y_CM_takeBack.cls ≠ "java/lang/invoke/MethodHandle" ∧ y_CM_takeBack.cls ≠ "java/lang/invoke/VarHandle" ∧ (parseMethodDescriptor y_CM_takeBack.desc).map (fun d => d.parameters.length) = some 0 := by decide +kernel
abbrev b_CM_mark : ByteArray := prog_6_method_14_code
def y_CM_mark : MethodName := ⟨"CoinTreeModel", "mark", "(II)V"⟩
theorem p_CM_mark : y_CM_mark.cls = R_CM ∧ y_CM_mark.cls ≠ "java/lang/invoke/MethodHandle" ∧ y_CM_mark.cls ≠ "java/lang/invoke/VarHandle" ∧ (parseMethodDescriptor y_CM_mark.desc).map (fun d => d.parameters.length) = some 2 := by decide +kernel
abbrev b_CM_write : ByteArray := prog_6_method_16_code
def y_CM_write : MethodName := ⟨"CoinTreeModel", "write", "(IJII)J"⟩
theorem p_CM_write : y_CM_write.cls = R_CM ∧ y_CM_write.cls ≠ "java/lang/invoke/MethodHandle" ∧ y_CM_write.cls ≠ "java/lang/invoke/VarHandle" ∧ (parseMethodDescriptor y_CM_write.desc).map (fun d => d.parameters.length) = some 4 := by decide +kernel
abbrev b_CM_trace : ByteArray := prog_6_method_19_code
def y_CM_trace : MethodName := ⟨"CoinTreeModel", "trace", "(II)I"⟩
theorem p_CM_trace : y_CM_trace.cls = R_CM ∧ y_CM_trace.cls ≠ "java/lang/invoke/MethodHandle" ∧ y_CM_trace.cls ≠ "java/lang/invoke/VarHandle" ∧ (parseMethodDescriptor y_CM_trace.desc).map (fun d => d.parameters.length) = some 2 := by decide +kernel
abbrev b_CM_isTree : ByteArray := prog_6_method_17_code
def y_CM_isTree : MethodName := ⟨"CoinTreeModel", "isTree", "(I)Z"⟩
theorem p_CM_isTree : y_CM_isTree.cls = R_CM ∧ y_CM_isTree.cls ≠ "java/lang/invoke/MethodHandle" ∧ y_CM_isTree.cls ≠ "java/lang/invoke/VarHandle" ∧ (parseMethodDescriptor y_CM_isTree.desc).map (fun d => d.parameters.length) = some 1 := by decide +kernel
abbrev b_CM_stored : ByteArray := prog_6_method_21_code
def y_CM_stored : MethodName := ⟨"CoinTreeModel", "stored", "(IIII)J"⟩
theorem p_CM_stored : y_CM_stored.cls = R_CM ∧ y_CM_stored.cls ≠ "java/lang/invoke/MethodHandle" ∧ y_CM_stored.cls ≠ "java/lang/invoke/VarHandle" ∧ (parseMethodDescriptor y_CM_stored.desc).map (fun d => d.parameters.length) = some 4 := by decide +kernel
abbrev b_CM_isNode : ByteArray := prog_6_method_18_code
def y_CM_isNode : MethodName := ⟨"CoinTreeModel", "isNode", "(II)Z"⟩
theorem p_CM_isNode : y_CM_isNode.cls = R_CM ∧ y_CM_isNode.cls ≠ "java/lang/invoke/MethodHandle" ∧ y_CM_isNode.cls ≠ "java/lang/invoke/VarHandle" ∧ (parseMethodDescriptor y_CM_isNode.desc).map (fun d => d.parameters.length) = some 2 := by decide +kernel
abbrev b_CM_mix : ByteArray := prog_6_method_20_code
def y_CM_mix : MethodName := ⟨"CoinTreeModel", "mix", "(J)J"⟩
theorem p_CM_mix : y_CM_mix.cls = R_CM ∧ y_CM_mix.cls ≠ "java/lang/invoke/MethodHandle" ∧ y_CM_mix.cls ≠ "java/lang/invoke/VarHandle" ∧ (parseMethodDescriptor y_CM_mix.desc).map (fun d => d.parameters.length) = some 1 := by decide +kernel
abbrev b_CM_written : ByteArray := prog_6_method_22_code
def y_CM_written : MethodName := ⟨"CoinTreeModel", "written", "(II)I"⟩
theorem p_CM_written : y_CM_written.cls = R_CM ∧ y_CM_written.cls ≠ "java/lang/invoke/MethodHandle" ∧ y_CM_written.cls ≠ "java/lang/invoke/VarHandle" ∧ (parseMethodDescriptor y_CM_written.desc).map (fun d => d.parameters.length) = some 2 := by decide +kernel
abbrev b_CM_stash : ByteArray := prog_6_method_23_code
def y_CM_stash : MethodName := ⟨"CoinTreeModel", "stash", "(II)I"⟩
theorem p_CM_stash : y_CM_stash.cls = R_CM ∧ y_CM_stash.cls ≠ "java/lang/invoke/MethodHandle" ∧ y_CM_stash.cls ≠ "java/lang/invoke/VarHandle" ∧ (parseMethodDescriptor y_CM_stash.desc).map (fun d => d.parameters.length) = some 2 := by decide +kernel
abbrev b_CM_count : ByteArray := prog_6_method_24_code
def y_CM_count : MethodName := ⟨"CoinTreeModel", "count", "(I)I"⟩
theorem p_CM_count : y_CM_count.cls = R_CM ∧ y_CM_count.cls ≠ "java/lang/invoke/MethodHandle" ∧ y_CM_count.cls ≠ "java/lang/invoke/VarHandle" ∧ (parseMethodDescriptor y_CM_count.desc).map (fun d => d.parameters.length) = some 1 := by decide +kernel
abbrev b_LW_law : ByteArray := code
def y_LW_law : MethodName := ⟨"CoinTreeLaw", "law", "([I)Z"⟩
theorem p_LW_law : y_LW_law.cls = R_LW ∧ y_LW_law.cls ≠ "java/lang/invoke/MethodHandle" ∧ y_LW_law.cls ≠ "java/lang/invoke/VarHandle" ∧ (parseMethodDescriptor y_LW_law.desc).map (fun d => d.parameters.length) = some 1 := by decide +kernel
/-- the words that the tables decide -/
def bw : List Cond := lw_tbl.filter goodWord
theorem bw_m {w : Cond} (i : Nat) (h : lw_tbl[i]? = some w) (g : goodWord w = true) : w ∈ bw := List.mem_filter.mpr ⟨List.mem_of_getElem? h, g⟩
theorem bw_good : ∀ w ∈ bw, ((w.onTables && w.keeps) = true ∨ ∃ ty, w = .arrayClass ty) := fun w h => good_of_word (List.mem_filter.mp h).2
theorem gi_0 {k : Cond} (h : k ∈ bw) : GoodIn bw (k :: bw) := fun w hw => (List.mem_cons.mp hw).elim (fun e => by rw [e]; exact ⟨h, bw_good _ h⟩) (fun h => ⟨h, bw_good w h⟩)
theorem gi_a {a b : List Cond} (ha : ∀ w ∈ a, w ∈ bw) (hb : GoodIn bw b) : GoodIn bw (a ++ b) := fun w hw => (List.mem_append.mp hw).elim (fun h => ⟨ha w h, bw_good _ (ha w h)⟩) (hb w)
theorem gi_V {own C : String} {idx : Nat} {y : MethodName} {k : Cond} (h0 : k ∈ bw) (h1 : Cond.methodLink own idx y ∈ bw) (h2 : Cond.instanceMethod y ∈ bw) (h3 : Cond.selects C y y ∈ bw) (h4 : Cond.initialized C ∈ bw) : GoodIn bw (wsV own idx C y (k :: bw)) :=
  gi_a (fun w hw => by simp only [List.mem_cons, List.not_mem_nil, or_false] at hw; rcases hw with rfl | rfl | rfl | rfl <;> assumption) (gi_0 h0)
theorem gi_S {own : String} {idx : Nat} {y : MethodName} {k : Cond} (h0 : k ∈ bw) (h1 : Cond.methodLink own idx y ∈ bw) (h2 : Cond.static y ∈ bw) (h4 : Cond.initialized own ∈ bw) : GoodIn bw (wsS own idx y (k :: bw)) :=
  gi_a (fun w hw => by simp only [List.mem_cons, List.not_mem_nil, or_false] at hw; rcases hw with rfl | rfl | rfl <;> assumption) (gi_0 h0)
end
section
theorem m_0 : (.selects "CoinTree" y_CT_ask y_CT_ask : Cond) ∈ bw := bw_m 0 (by decide +kernel) (by decide +kernel)
theorem m_1 : (.selects "java/lang/Throwable" ⟨"java/lang/Throwable", "fillInStackTrace", "(I)Ljava/lang/Throwable;"⟩ ⟨"java/lang/Throwable", "fillInStackTrace", "(I)Ljava/lang/Throwable;"⟩ : Cond) ∈ bw := bw_m 1 (by decide +kernel) (by decide +kernel)
theorem m_2 : (.selects "CoinTree$Row" y_RW_has y_RW_has : Cond) ∈ bw := bw_m 2 (by decide +kernel) (by decide +kernel)
theorem m_3 : (.selects "CoinTree$Tree" y_TR_nodeOnWay y_TR_nodeOnWay : Cond) ∈ bw := bw_m 3 (by decide +kernel) (by decide +kernel)
theorem m_4 : (.selects "CoinTree$Tree" y_TR_gatherNode y_TR_gatherNode : Cond) ∈ bw := bw_m 4 (by decide +kernel) (by decide +kernel)
theorem m_5 : (.selects "CoinTree" y_CT_leafTold y_CT_leafTold : Cond) ∈ bw := bw_m 5 (by decide +kernel) (by decide +kernel)
theorem m_6 : (.selects "CoinTree$Tree" y_TR_fillNode y_TR_fillNode : Cond) ∈ bw := bw_m 6 (by decide +kernel) (by decide +kernel)
theorem m_7 : (.selects "CoinTree$Tree" y_TR_emptyNode y_TR_emptyNode : Cond) ∈ bw := bw_m 7 (by decide +kernel) (by decide +kernel)
theorem m_8 : (.selects "CoinTree" y_CT_treeNumbered y_CT_treeNumbered : Cond) ∈ bw := bw_m 8 (by decide +kernel) (by decide +kernel)
theorem m_9 : (.selects "CoinTreeModel" y_CM_leavesOf y_CM_leavesOf : Cond) ∈ bw := bw_m 9 (by decide +kernel) (by decide +kernel)
theorem m_10 : (.selects "CoinTreeModel" y_CM_levelsOf y_CM_levelsOf : Cond) ∈ bw := bw_m 10 (by decide +kernel) (by decide +kernel)
theorem m_11 : (.selects "CoinTreeModel" y_CM_ask y_CM_ask : Cond) ∈ bw := bw_m 11 (by decide +kernel) (by decide +kernel)
theorem m_12 : (.selects "CoinTreeModel" y_CM_keep y_CM_keep : Cond) ∈ bw := bw_m 12 (by decide +kernel) (by decide +kernel)
theorem m_13 : (.selects "CoinTreeModel" y_CM_gather y_CM_gather : Cond) ∈ bw := bw_m 13 (by decide +kernel) (by decide +kernel)
theorem m_14 : (.selects "CoinTreeModel" y_CM_push y_CM_push : Cond) ∈ bw := bw_m 14 (by decide +kernel) (by decide +kernel)
theorem m_15 : (.selects "CoinTreeModel" y_CM_find y_CM_find : Cond) ∈ bw := bw_m 15 (by decide +kernel) (by decide +kernel)
theorem m_16 : (.selects "CoinTreeModel" y_CM_fill y_CM_fill : Cond) ∈ bw := bw_m 16 (by decide +kernel) (by decide +kernel)
theorem m_17 : (.selects "CoinTreeModel" y_CM_pull y_CM_pull : Cond) ∈ bw := bw_m 17 (by decide +kernel) (by decide +kernel)
theorem m_18 : (.selects "CoinTreeModel" y_CM_takeBack y_CM_takeBack : Cond) ∈ bw := bw_m 18 (by decide +kernel) (by decide +kernel)
theorem m_19 : (.selects "CoinTreeModel" y_CM_mark y_CM_mark : Cond) ∈ bw := bw_m 19 (by decide +kernel) (by decide +kernel)
theorem m_20 : (.selects "CoinTreeModel" y_CM_isNode y_CM_isNode : Cond) ∈ bw := bw_m 20 (by decide +kernel) (by decide +kernel)
theorem m_21 : (.initialized "CoinTreeLaw" : Cond) ∈ bw := bw_m 21 (by decide +kernel) (by decide +kernel)
theorem m_22 : (.initialized "CoinTree" : Cond) ∈ bw := bw_m 22 (by decide +kernel) (by decide +kernel)
theorem m_23 : (.initialized "java/lang/Math" : Cond) ∈ bw := bw_m 23 (by decide +kernel) (by decide +kernel)
theorem m_24 : (.initialized "CoinTree$Tree" : Cond) ∈ bw := bw_m 24 (by decide +kernel) (by decide +kernel)
theorem m_25 : (.initialized "CoinTree$Trail" : Cond) ∈ bw := bw_m 25 (by decide +kernel) (by decide +kernel)
theorem m_26 : (.initialized "CoinTree$Row" : Cond) ∈ bw := bw_m 26 (by decide +kernel) (by decide +kernel)
theorem m_27 : (.initialized "CoinTreeModel" : Cond) ∈ bw := bw_m 27 (by decide +kernel) (by decide +kernel)
theorem m_28 : (.initialized "java/lang/Throwable" : Cond) ∈ bw := bw_m 28 (by decide +kernel) (by decide +kernel)
theorem m_29 : (.initialized "java/lang/Exception" : Cond) ∈ bw := bw_m 29 (by decide +kernel) (by decide +kernel)
theorem m_30 : (.initialized "java/lang/RuntimeException" : Cond) ∈ bw := bw_m 30 (by decide +kernel) (by decide +kernel)
theorem m_31 : (.initialized "java/lang/IndexOutOfBoundsException" : Cond) ∈ bw := bw_m 31 (by decide +kernel) (by decide +kernel)
theorem m_32 : (.initialized "java/lang/IllegalArgumentException" : Cond) ∈ bw := bw_m 32 (by decide +kernel) (by decide +kernel)
theorem m_33 : (.initialized "java/lang/UnsupportedOperationException" : Cond) ∈ bw := bw_m 33 (by decide +kernel) (by decide +kernel)
theorem m_34 : (.classLink "CoinTreeLaw" 8 "CoinTree" : Cond) ∈ bw := bw_m 34 (by decide +kernel) (by decide +kernel)
theorem m_35 : (.instantiable "CoinTree" 8 : Cond) ∈ bw := bw_m 35 (by decide +kernel) (by decide +kernel)
theorem m_36 : (.methodLink "CoinTreeLaw" 47 y_CT_init : Cond) ∈ bw := bw_m 36 (by decide +kernel) (by decide +kernel)
theorem m_37 : (.instanceMethod y_CT_init : Cond) ∈ bw := bw_m 37 (by decide +kernel) (by decide +kernel)
abbrev k_CT_init : Cond := .code y_CT_init b_CT_init 8 none
theorem m_38 : (k_CT_init : Cond) ∈ bw := bw_m 38 (by decide +kernel) (by decide +kernel)
theorem m_39 : (.methodLink "CoinTree" 1 objectInit : Cond) ∈ bw := bw_m 39 (by decide +kernel) (by decide +kernel)
theorem m_40 : (.instanceMethod objectInit : Cond) ∈ bw := bw_m 40 (by decide +kernel) (by decide +kernel)
theorem m_41 : (.code objectInit ⟨#[0xb1]⟩ 1 none : Cond) ∈ bw := bw_m 41 (by decide +kernel) (by decide +kernel)
theorem m_42 : (.methodLink "CoinTree" 13 y_CT_nearest : Cond) ∈ bw := bw_m 42 (by decide +kernel) (by decide +kernel)
theorem m_43 : (.static y_CT_nearest : Cond) ∈ bw := bw_m 43 (by decide +kernel) (by decide +kernel)
abbrev k_CT_nearest : Cond := .code y_CT_nearest b_CT_nearest 3 (some .int)
theorem m_44 : (k_CT_nearest : Cond) ∈ bw := bw_m 44 (by decide +kernel) (by decide +kernel)
theorem m_45 : (.methodLink "CoinTree" 175 Lib.Math.min.name : Cond) ∈ bw := bw_m 45 (by decide +kernel) (by decide +kernel)
theorem m_46 : (.static Lib.Math.min.name : Cond) ∈ bw := bw_m 46 (by decide +kernel) (by decide +kernel)
theorem m_47 : (.code Lib.Math.min.name Lib.Math.min.code 2 (some .int) : Cond) ∈ bw := bw_m 47 (by decide +kernel) (by decide +kernel)
theorem m_48 : (.methodLink "CoinTree" 37 Lib.Math.max.name : Cond) ∈ bw := bw_m 48 (by decide +kernel) (by decide +kernel)
theorem m_49 : (.static Lib.Math.max.name : Cond) ∈ bw := bw_m 49 (by decide +kernel) (by decide +kernel)
theorem m_50 : (.code Lib.Math.max.name Lib.Math.max.code 2 (some .int) : Cond) ∈ bw := bw_m 50 (by decide +kernel) (by decide +kernel)
theorem m_51 : (.classLink "CoinTree" 28 "CoinTree$Tree" : Cond) ∈ bw := bw_m 51 (by decide +kernel) (by decide +kernel)
theorem m_52 : (.instantiable "CoinTree$Tree" 12 : Cond) ∈ bw := bw_m 52 (by decide +kernel) (by decide +kernel)
theorem m_53 : (.methodLink "CoinTree" 30 y_TR_init : Cond) ∈ bw := bw_m 53 (by decide +kernel) (by decide +kernel)
theorem m_54 : (.instanceMethod y_TR_init : Cond) ∈ bw := bw_m 54 (by decide +kernel) (by decide +kernel)
abbrev k_TR_init : Cond := .code y_TR_init b_TR_init 5 none
theorem m_55 : (k_TR_init : Cond) ∈ bw := bw_m 55 (by decide +kernel) (by decide +kernel)
theorem m_56 : (.methodLink "CoinTree$Tree" 3 objectInit : Cond) ∈ bw := bw_m 56 (by decide +kernel) (by decide +kernel)
theorem m_57 : (.classLink "CoinTree$Tree" 9 "CoinTree$Trail" : Cond) ∈ bw := bw_m 57 (by decide +kernel) (by decide +kernel)
theorem m_58 : (.instantiable "CoinTree$Trail" 3 : Cond) ∈ bw := bw_m 58 (by decide +kernel) (by decide +kernel)
theorem m_60 : (.instanceMethod y_TL_init : Cond) ∈ bw := bw_m 60 (by decide +kernel) (by decide +kernel)
abbrev k_TL_init : Cond := .code y_TL_init b_TL_init 1 none
theorem m_61 : (k_TL_init : Cond) ∈ bw := bw_m 61 (by decide +kernel) (by decide +kernel)
theorem m_62 : (.methodLink "CoinTree$Trail" 3 objectInit : Cond) ∈ bw := bw_m 62 (by decide +kernel) (by decide +kernel)
theorem m_63 : (.fieldLink "CoinTree$Trail" 9 "CoinTree$Trail" "leaves" "[I" : Cond) ∈ bw := bw_m 63 (by decide +kernel) (by decide +kernel)
theorem m_64 : (.fieldLink "CoinTree$Trail" 15 "CoinTree$Trail" "next" "I" : Cond) ∈ bw := bw_m 64 (by decide +kernel) (by decide +kernel)
theorem m_65 : (.fieldLink "CoinTree$Trail" 19 "CoinTree$Trail" "kept" "I" : Cond) ∈ bw := bw_m 65 (by decide +kernel) (by decide +kernel)
theorem m_66 : (.fieldLink "CoinTree" 62 "CoinTree$Trail" "kept" "I" : Cond) ∈ bw := bw_m 66 (by decide +kernel) (by decide +kernel)
theorem m_67 : (.laysFinal "CoinTree$Trail" "CoinTree$Trail" "leaves" "[I" : Cond) ∈ bw := bw_m 67 (by decide +kernel) (by decide +kernel)
theorem m_69 : (.lays "CoinTree$Trail" "CoinTree$Trail" "next" "I" : Cond) ∈ bw := bw_m 69 (by decide +kernel) (by decide +kernel)
theorem m_71 : (.lays "CoinTree$Trail" "CoinTree$Trail" "kept" "I" : Cond) ∈ bw := bw_m 71 (by decide +kernel) (by decide +kernel)
theorem m_74 : (.arrayClass .int : Cond) ∈ bw := bw_m 74 (by decide +kernel) (by decide +kernel)
theorem m_75 : (.classLink "CoinTree$Tree" 31 "CoinTree$Row" : Cond) ∈ bw := bw_m 75 (by decide +kernel) (by decide +kernel)
theorem m_76 : (.instantiable "CoinTree$Row" 4 : Cond) ∈ bw := bw_m 76 (by decide +kernel) (by decide +kernel)
theorem m_77 : (.methodLink "CoinTree$Tree" 33 y_RW_init : Cond) ∈ bw := bw_m 77 (by decide +kernel) (by decide +kernel)
theorem m_78 : (.instanceMethod y_RW_init : Cond) ∈ bw := bw_m 78 (by decide +kernel) (by decide +kernel)
abbrev k_RW_init : Cond := .code y_RW_init b_RW_init 3 none
theorem m_79 : (k_RW_init : Cond) ∈ bw := bw_m 79 (by decide +kernel) (by decide +kernel)
theorem m_80 : (.methodLink "CoinTree$Row" 3 objectInit : Cond) ∈ bw := bw_m 80 (by decide +kernel) (by decide +kernel)
theorem m_81 : (.methodLink "CoinTree$Row" 9 Lib.Math.max.name : Cond) ∈ bw := bw_m 81 (by decide +kernel) (by decide +kernel)
theorem m_82 : (.fieldLink "CoinTree$Row" 15 "CoinTree$Row" "marks" "[I" : Cond) ∈ bw := bw_m 82 (by decide +kernel) (by decide +kernel)
theorem m_83 : (.fieldLink "CoinTree$Row" 21 "CoinTree$Row" "leaves" "[I" : Cond) ∈ bw := bw_m 83 (by decide +kernel) (by decide +kernel)
theorem m_84 : (.fieldLink "CoinTree$Row" 24 "CoinTree$Row" "values" "[J" : Cond) ∈ bw := bw_m 84 (by decide +kernel) (by decide +kernel)
theorem m_85 : (.fieldLink "CoinTree$Tree" 71 "CoinTree$Row" "size" "I" : Cond) ∈ bw := bw_m 85 (by decide +kernel) (by decide +kernel)
theorem m_86 : (.fieldLink "CoinTree" 108 "CoinTree$Row" "size" "I" : Cond) ∈ bw := bw_m 86 (by decide +kernel) (by decide +kernel)
theorem m_87 : (.fieldLink "CoinTree$Row" 47 "CoinTree$Row" "size" "I" : Cond) ∈ bw := bw_m 87 (by decide +kernel) (by decide +kernel)
theorem m_88 : (.laysFinal "CoinTree$Row" "CoinTree$Row" "marks" "[I" : Cond) ∈ bw := bw_m 88 (by decide +kernel) (by decide +kernel)
theorem m_90 : (.laysFinal "CoinTree$Row" "CoinTree$Row" "leaves" "[I" : Cond) ∈ bw := bw_m 90 (by decide +kernel) (by decide +kernel)
theorem m_92 : (.laysFinal "CoinTree$Row" "CoinTree$Row" "values" "[J" : Cond) ∈ bw := bw_m 92 (by decide +kernel) (by decide +kernel)
theorem m_94 : (.lays "CoinTree$Row" "CoinTree$Row" "size" "I" : Cond) ∈ bw := bw_m 94 (by decide +kernel) (by decide +kernel)
theorem m_97 : (.arrayClass .long : Cond) ∈ bw := bw_m 97 (by decide +kernel) (by decide +kernel)
theorem m_98 : (.fieldLink "CoinTree$Tree" 18 "CoinTree$Tree" "levels" "I" : Cond) ∈ bw := bw_m 98 (by decide +kernel) (by decide +kernel)
theorem m_99 : (.fieldLink "CoinTree$Tree" 22 "CoinTree$Tree" "leaves" "I" : Cond) ∈ bw := bw_m 99 (by decide +kernel) (by decide +kernel)
theorem m_100 : (.fieldLink "CoinTree" 116 "CoinTree$Tree" "leaves" "I" : Cond) ∈ bw := bw_m 100 (by decide +kernel) (by decide +kernel)
theorem m_101 : (.fieldLink "CoinTree$Tree" 25 "CoinTree$Tree" "slots" "I" : Cond) ∈ bw := bw_m 101 (by decide +kernel) (by decide +kernel)
theorem m_102 : (.fieldLink "CoinTree$Tree" 28 "CoinTree$Tree" "capacity" "I" : Cond) ∈ bw := bw_m 102 (by decide +kernel) (by decide +kernel)
theorem m_103 : (.fieldLink "CoinTree$Tree" 36 "CoinTree$Tree" "nodeSlots" "LCoinTree$Row;" : Cond) ∈ bw := bw_m 103 (by decide +kernel) (by decide +kernel)
theorem m_104 : (.fieldLink "CoinTree$Tree" 40 "CoinTree$Tree" "nodeCounts" "[I" : Cond) ∈ bw := bw_m 104 (by decide +kernel) (by decide +kernel)
theorem m_105 : (.fieldLink "CoinTree$Tree" 44 "CoinTree$Tree" "stash" "LCoinTree$Row;" : Cond) ∈ bw := bw_m 105 (by decide +kernel) (by decide +kernel)
theorem m_106 : (.fieldLink "CoinTree" 102 "CoinTree$Tree" "stash" "LCoinTree$Row;" : Cond) ∈ bw := bw_m 106 (by decide +kernel) (by decide +kernel)
theorem m_107 : (.fieldLink "CoinTree$Tree" 12 "CoinTree$Tree" "trail" "LCoinTree$Trail;" : Cond) ∈ bw := bw_m 107 (by decide +kernel) (by decide +kernel)
theorem m_108 : (.fieldLink "CoinTree" 58 "CoinTree$Tree" "trail" "LCoinTree$Trail;" : Cond) ∈ bw := bw_m 108 (by decide +kernel) (by decide +kernel)
theorem m_109 : (.fieldLink "CoinTree$Tree" 47 "CoinTree$Tree" "plan" "LCoinTree$Row;" : Cond) ∈ bw := bw_m 109 (by decide +kernel) (by decide +kernel)
theorem m_110 : (.fieldLink "CoinTree$Tree" 50 "CoinTree$Tree" "planTargets" "[I" : Cond) ∈ bw := bw_m 110 (by decide +kernel) (by decide +kernel)
theorem m_111 : (.fieldLink "CoinTree$Tree" 68 "CoinTree$Tree" "wayLeaf" "I" : Cond) ∈ bw := bw_m 111 (by decide +kernel) (by decide +kernel)
theorem m_112 : (.fieldLink "CoinTree$Tree" 88 "CoinTree$Tree" "sought" "I" : Cond) ∈ bw := bw_m 112 (by decide +kernel) (by decide +kernel)
theorem m_113 : (.laysFinal "CoinTree$Tree" "CoinTree$Tree" "levels" "I" : Cond) ∈ bw := bw_m 113 (by decide +kernel) (by decide +kernel)
theorem m_115 : (.laysFinal "CoinTree$Tree" "CoinTree$Tree" "leaves" "I" : Cond) ∈ bw := bw_m 115 (by decide +kernel) (by decide +kernel)
theorem m_117 : (.laysFinal "CoinTree$Tree" "CoinTree$Tree" "slots" "I" : Cond) ∈ bw := bw_m 117 (by decide +kernel) (by decide +kernel)
theorem m_119 : (.laysFinal "CoinTree$Tree" "CoinTree$Tree" "capacity" "I" : Cond) ∈ bw := bw_m 119 (by decide +kernel) (by decide +kernel)
theorem m_121 : (.laysFinal "CoinTree$Tree" "CoinTree$Tree" "nodeSlots" "LCoinTree$Row;" : Cond) ∈ bw := bw_m 121 (by decide +kernel) (by decide +kernel)
theorem m_123 : (.laysFinal "CoinTree$Tree" "CoinTree$Tree" "nodeCounts" "[I" : Cond) ∈ bw := bw_m 123 (by decide +kernel) (by decide +kernel)
theorem m_125 : (.laysFinal "CoinTree$Tree" "CoinTree$Tree" "stash" "LCoinTree$Row;" : Cond) ∈ bw := bw_m 125 (by decide +kernel) (by decide +kernel)
theorem m_127 : (.laysFinal "CoinTree$Tree" "CoinTree$Tree" "trail" "LCoinTree$Trail;" : Cond) ∈ bw := bw_m 127 (by decide +kernel) (by decide +kernel)
theorem m_129 : (.laysFinal "CoinTree$Tree" "CoinTree$Tree" "plan" "LCoinTree$Row;" : Cond) ∈ bw := bw_m 129 (by decide +kernel) (by decide +kernel)
theorem m_131 : (.laysFinal "CoinTree$Tree" "CoinTree$Tree" "planTargets" "[I" : Cond) ∈ bw := bw_m 131 (by decide +kernel) (by decide +kernel)
theorem m_133 : (.lays "CoinTree$Tree" "CoinTree$Tree" "wayLeaf" "I" : Cond) ∈ bw := bw_m 133 (by decide +kernel) (by decide +kernel)
theorem m_135 : (.lays "CoinTree$Tree" "CoinTree$Tree" "sought" "I" : Cond) ∈ bw := bw_m 135 (by decide +kernel) (by decide +kernel)
theorem m_138 : (.methodLink "CoinTree" 46 y_TR_leafModulo : Cond) ∈ bw := bw_m 138 (by decide +kernel) (by decide +kernel)
theorem m_139 : (.instanceMethod y_TR_leafModulo : Cond) ∈ bw := bw_m 139 (by decide +kernel) (by decide +kernel)
theorem m_140 : (.selects "CoinTree$Tree" y_TR_leafModulo y_TR_leafModulo : Cond) ∈ bw := bw_m 140 (by decide +kernel) (by decide +kernel)
abbrev k_TR_leafModulo : Cond := .code y_TR_leafModulo b_TR_leafModulo 2 (some .int)
theorem m_141 : (k_TR_leafModulo : Cond) ∈ bw := bw_m 141 (by decide +kernel) (by decide +kernel)
theorem m_142 : (.fieldLink "CoinTree" 17 "CoinTree" "slots" "I" : Cond) ∈ bw := bw_m 142 (by decide +kernel) (by decide +kernel)
theorem m_143 : (.fieldLink "CoinTree" 21 "CoinTree" "capacity" "I" : Cond) ∈ bw := bw_m 143 (by decide +kernel) (by decide +kernel)
theorem m_144 : (.fieldLink "CoinTree" 24 "CoinTree" "key" "J" : Cond) ∈ bw := bw_m 144 (by decide +kernel) (by decide +kernel)
theorem m_145 : (.fieldLink "CoinTree" 33 "CoinTree" "blockTree" "LCoinTree$Tree;" : Cond) ∈ bw := bw_m 145 (by decide +kernel) (by decide +kernel)
theorem m_146 : (.fieldLink "CoinTree" 43 "CoinTree" "mapTree" "LCoinTree$Tree;" : Cond) ∈ bw := bw_m 146 (by decide +kernel) (by decide +kernel)
theorem m_147 : (.fieldLink "CoinTree" 9 "CoinTree" "mapLeaves" "[I" : Cond) ∈ bw := bw_m 147 (by decide +kernel) (by decide +kernel)
theorem m_148 : (.fieldLink "CoinTree" 122 "CoinTree" "timesAsked" "I" : Cond) ∈ bw := bw_m 148 (by decide +kernel) (by decide +kernel)
theorem m_149 : (.fieldLink "CoinTree" 119 "CoinTree" "mostStashed" "I" : Cond) ∈ bw := bw_m 149 (by decide +kernel) (by decide +kernel)
theorem m_150 : (.laysFinal "CoinTree" "CoinTree" "slots" "I" : Cond) ∈ bw := bw_m 150 (by decide +kernel) (by decide +kernel)
theorem m_152 : (.laysFinal "CoinTree" "CoinTree" "capacity" "I" : Cond) ∈ bw := bw_m 152 (by decide +kernel) (by decide +kernel)
theorem m_154 : (.laysFinal "CoinTree" "CoinTree" "key" "J" : Cond) ∈ bw := bw_m 154 (by decide +kernel) (by decide +kernel)
theorem m_156 : (.laysFinal "CoinTree" "CoinTree" "blockTree" "LCoinTree$Tree;" : Cond) ∈ bw := bw_m 156 (by decide +kernel) (by decide +kernel)
theorem m_158 : (.laysFinal "CoinTree" "CoinTree" "mapTree" "LCoinTree$Tree;" : Cond) ∈ bw := bw_m 158 (by decide +kernel) (by decide +kernel)
theorem m_160 : (.laysFinal "CoinTree" "CoinTree" "mapLeaves" "[I" : Cond) ∈ bw := bw_m 160 (by decide +kernel) (by decide +kernel)
theorem m_162 : (.lays "CoinTree" "CoinTree" "timesAsked" "I" : Cond) ∈ bw := bw_m 162 (by decide +kernel) (by decide +kernel)
theorem m_164 : (.lays "CoinTree" "CoinTree" "mostStashed" "I" : Cond) ∈ bw := bw_m 164 (by decide +kernel) (by decide +kernel)
theorem m_167 : (.methodLink "CoinTreeLaw" 41 y_LW_cell : Cond) ∈ bw := bw_m 167 (by decide +kernel) (by decide +kernel)
theorem m_168 : (.static y_LW_cell : Cond) ∈ bw := bw_m 168 (by decide +kernel) (by decide +kernel)
abbrev k_LW_cell : Cond := .code y_LW_cell b_LW_cell 2 (some .int)
theorem m_169 : (k_LW_cell : Cond) ∈ bw := bw_m 169 (by decide +kernel) (by decide +kernel)
theorem m_170 : (.methodLink "CoinTreeLaw" 53 y_LW_read : Cond) ∈ bw := bw_m 170 (by decide +kernel) (by decide +kernel)
theorem m_171 : (.static y_LW_read : Cond) ∈ bw := bw_m 171 (by decide +kernel) (by decide +kernel)
abbrev k_LW_read : Cond := .codeWith y_LW_read b_LW_read 6 (some .int) [(0, 11, 14, 13), (0, 11, 18, 15), (0, 11, 22, 17)]
theorem m_172 : (k_LW_read : Cond) ∈ bw := bw_m 172 (by decide +kernel) (by decide +kernel)
theorem m_173 : (.classLink "CoinTreeLaw" 13 "java/lang/IndexOutOfBoundsException" : Cond) ∈ bw := bw_m 173 (by decide +kernel) (by decide +kernel)
theorem m_174 : (.classLink "CoinTreeLaw" 15 "java/lang/IllegalArgumentException" : Cond) ∈ bw := bw_m 174 (by decide +kernel) (by decide +kernel)
theorem m_175 : (.classLink "CoinTreeLaw" 17 "java/lang/UnsupportedOperationException" : Cond) ∈ bw := bw_m 175 (by decide +kernel) (by decide +kernel)
theorem m_176 : (.methodLink "CoinTreeLaw" 7 y_CT_read : Cond) ∈ bw := bw_m 176 (by decide +kernel) (by decide +kernel)
theorem m_177 : (.instanceMethod y_CT_read : Cond) ∈ bw := bw_m 177 (by decide +kernel) (by decide +kernel)
theorem m_178 : (.selects "CoinTree" y_CT_read y_CT_read : Cond) ∈ bw := bw_m 178 (by decide +kernel) (by decide +kernel)
abbrev k_CT_read : Cond := .code y_CT_read b_CT_read 4 (some .long)
theorem m_179 : (k_CT_read : Cond) ∈ bw := bw_m 179 (by decide +kernel) (by decide +kernel)
theorem m_180 : (.methodLink "CoinTree" 50 y_CT_ask : Cond) ∈ bw := bw_m 180 (by decide +kernel) (by decide +kernel)
theorem m_182 : (.instanceMethod y_CT_ask : Cond) ∈ bw := bw_m 182 (by decide +kernel) (by decide +kernel)
abbrev k_CT_ask : Cond := .code y_CT_ask b_CT_ask 13 (some .long)
theorem m_183 : (k_CT_ask : Cond) ∈ bw := bw_m 183 (by decide +kernel) (by decide +kernel)
theorem m_184 : (.classLink "CoinTree" 67 "java/lang/IndexOutOfBoundsException" : Cond) ∈ bw := bw_m 184 (by decide +kernel) (by decide +kernel)
theorem m_185 : (.instantiable "java/lang/IndexOutOfBoundsException" 6 : Cond) ∈ bw := bw_m 185 (by decide +kernel) (by decide +kernel)
theorem m_193 : (.selects "java/lang/IndexOutOfBoundsException" ⟨"java/lang/Throwable", "fillInStackTrace", "(I)Ljava/lang/Throwable;"⟩ ⟨"java/lang/Throwable", "fillInStackTrace", "(I)Ljava/lang/Throwable;"⟩ : Cond) ∈ bw := bw_m 193 (by decide +kernel) (by decide +kernel)
theorem m_194 : (.selects "java/lang/IndexOutOfBoundsException" ⟨"java/lang/Throwable", "fillInStackTrace", "()Ljava/lang/Throwable;"⟩ ⟨"java/lang/Throwable", "fillInStackTrace", "()Ljava/lang/Throwable;"⟩ : Cond) ∈ bw := bw_m 194 (by decide +kernel) (by decide +kernel)
theorem m_195 : (.lays "java/lang/IndexOutOfBoundsException" "java/lang/Throwable" "cause" "Ljava/lang/Throwable;" : Cond) ∈ bw := bw_m 195 (by decide +kernel) (by decide +kernel)
theorem m_196 : (.lays "java/lang/Throwable" "java/lang/Throwable" "cause" "Ljava/lang/Throwable;" : Cond) ∈ bw := bw_m 196 (by decide +kernel) (by decide +kernel)
theorem m_197 : (.lays "java/lang/IndexOutOfBoundsException" "java/lang/Throwable" "stackTrace" "[Ljava/lang/StackTraceElement;" : Cond) ∈ bw := bw_m 197 (by decide +kernel) (by decide +kernel)
theorem m_198 : (.lays "java/lang/Throwable" "java/lang/Throwable" "stackTrace" "[Ljava/lang/StackTraceElement;" : Cond) ∈ bw := bw_m 198 (by decide +kernel) (by decide +kernel)
theorem m_199 : (.lays "java/lang/IndexOutOfBoundsException" "java/lang/Throwable" "suppressedExceptions" "Ljava/util/List;" : Cond) ∈ bw := bw_m 199 (by decide +kernel) (by decide +kernel)
theorem m_200 : (.lays "java/lang/Throwable" "java/lang/Throwable" "suppressedExceptions" "Ljava/util/List;" : Cond) ∈ bw := bw_m 200 (by decide +kernel) (by decide +kernel)
theorem m_201 : (.lays "java/lang/IndexOutOfBoundsException" "java/lang/Throwable" "detailMessage" "Ljava/lang/String;" : Cond) ∈ bw := bw_m 201 (by decide +kernel) (by decide +kernel)
theorem m_202 : (.lays "java/lang/Throwable" "java/lang/Throwable" "detailMessage" "Ljava/lang/String;" : Cond) ∈ bw := bw_m 202 (by decide +kernel) (by decide +kernel)
theorem m_203 : (.lays "java/lang/IndexOutOfBoundsException" "java/lang/Throwable" "backtrace" "Ljava/lang/Object;" : Cond) ∈ bw := bw_m 203 (by decide +kernel) (by decide +kernel)
theorem m_204 : (.lays "java/lang/Throwable" "java/lang/Throwable" "backtrace" "Ljava/lang/Object;" : Cond) ∈ bw := bw_m 204 (by decide +kernel) (by decide +kernel)
theorem m_205 : (.fieldLink "java/lang/Throwable" 198 "java/lang/Throwable" "backtrace" "Ljava/lang/Object;" : Cond) ∈ bw := bw_m 205 (by decide +kernel) (by decide +kernel)
theorem m_207 : (.instanceMethod ⟨"java/lang/Throwable", "<init>", "()V"⟩ : Cond) ∈ bw := bw_m 207 (by decide +kernel) (by decide +kernel)
theorem m_209 : (.methodLink "java/lang/Throwable" 1 objectInit : Cond) ∈ bw := bw_m 209 (by decide +kernel) (by decide +kernel)
theorem m_210 : (.fieldLink "java/lang/Throwable" 13 "java/lang/Throwable" "UNASSIGNED_STACK" "[Ljava/lang/StackTraceElement;" : Cond) ∈ bw := bw_m 210 (by decide +kernel) (by decide +kernel)
theorem m_212 : (.fieldLink "java/lang/Throwable" 20 "java/lang/Throwable" "SUPPRESSED_SENTINEL" "Ljava/util/List;" : Cond) ∈ bw := bw_m 212 (by decide +kernel) (by decide +kernel)
theorem m_214 : (.methodLink "java/lang/Throwable" 27 ⟨"java/lang/Throwable", "fillInStackTrace", "()Ljava/lang/Throwable;"⟩ : Cond) ∈ bw := bw_m 214 (by decide +kernel) (by decide +kernel)
theorem m_215 : (.instanceMethod ⟨"java/lang/Throwable", "fillInStackTrace", "()Ljava/lang/Throwable;"⟩ : Cond) ∈ bw := bw_m 215 (by decide +kernel) (by decide +kernel)
theorem m_217 : (.selects "java/lang/IllegalArgumentException" ⟨"java/lang/Throwable", "fillInStackTrace", "()Ljava/lang/Throwable;"⟩ ⟨"java/lang/Throwable", "fillInStackTrace", "()Ljava/lang/Throwable;"⟩ : Cond) ∈ bw := bw_m 217 (by decide +kernel) (by decide +kernel)
theorem m_218 : (.selects "java/lang/UnsupportedOperationException" ⟨"java/lang/Throwable", "fillInStackTrace", "()Ljava/lang/Throwable;"⟩ ⟨"java/lang/Throwable", "fillInStackTrace", "()Ljava/lang/Throwable;"⟩ : Cond) ∈ bw := bw_m 218 (by decide +kernel) (by decide +kernel)
theorem m_220 : (.methodLink "java/lang/Throwable" 202 ⟨"java/lang/Throwable", "fillInStackTrace", "(I)Ljava/lang/Throwable;"⟩ : Cond) ∈ bw := bw_m 220 (by decide +kernel) (by decide +kernel)
theorem m_222 : (.instanceMethod ⟨"java/lang/Throwable", "fillInStackTrace", "(I)Ljava/lang/Throwable;"⟩ : Cond) ∈ bw := bw_m 222 (by decide +kernel) (by decide +kernel)
theorem m_223 : (.instantiable "java/lang/Throwable" 6 : Cond) ∈ bw := bw_m 223 (by decide +kernel) (by decide +kernel)
theorem m_226 : (.methodLink "CoinTree" 71 ⟨"java/lang/IndexOutOfBoundsException", "<init>", "(Ljava/lang/String;)V"⟩ : Cond) ∈ bw := bw_m 226 (by decide +kernel) (by decide +kernel)
theorem m_227 : (.instanceMethod ⟨"java/lang/IndexOutOfBoundsException", "<init>", "(Ljava/lang/String;)V"⟩ : Cond) ∈ bw := bw_m 227 (by decide +kernel) (by decide +kernel)
theorem m_229 : (.methodLink "java/lang/IndexOutOfBoundsException" 7 ⟨"java/lang/RuntimeException", "<init>", "(Ljava/lang/String;)V"⟩ : Cond) ∈ bw := bw_m 229 (by decide +kernel) (by decide +kernel)
theorem m_230 : (.instanceMethod ⟨"java/lang/RuntimeException", "<init>", "(Ljava/lang/String;)V"⟩ : Cond) ∈ bw := bw_m 230 (by decide +kernel) (by decide +kernel)
theorem m_232 : (.methodLink "java/lang/RuntimeException" 7 ⟨"java/lang/Exception", "<init>", "(Ljava/lang/String;)V"⟩ : Cond) ∈ bw := bw_m 232 (by decide +kernel) (by decide +kernel)
theorem m_233 : (.instanceMethod ⟨"java/lang/Exception", "<init>", "(Ljava/lang/String;)V"⟩ : Cond) ∈ bw := bw_m 233 (by decide +kernel) (by decide +kernel)
theorem m_235 : (.methodLink "java/lang/Exception" 7 ⟨"java/lang/Throwable", "<init>", "(Ljava/lang/String;)V"⟩ : Cond) ∈ bw := bw_m 235 (by decide +kernel) (by decide +kernel)
theorem m_236 : (.instanceMethod ⟨"java/lang/Throwable", "<init>", "(Ljava/lang/String;)V"⟩ : Cond) ∈ bw := bw_m 236 (by decide +kernel) (by decide +kernel)
theorem m_239 : (.fieldLink "java/lang/Throwable" 31 "java/lang/Throwable" "detailMessage" "Ljava/lang/String;" : Cond) ∈ bw := bw_m 239 (by decide +kernel) (by decide +kernel)
theorem m_240 : (.fieldLink "java/lang/Throwable" 7 "java/lang/Throwable" "cause" "Ljava/lang/Throwable;" : Cond) ∈ bw := bw_m 240 (by decide +kernel) (by decide +kernel)
theorem m_241 : (.fieldLink "java/lang/Throwable" 17 "java/lang/Throwable" "stackTrace" "[Ljava/lang/StackTraceElement;" : Cond) ∈ bw := bw_m 241 (by decide +kernel) (by decide +kernel)
theorem m_242 : (.fieldLink "java/lang/Throwable" 24 "java/lang/Throwable" "suppressedExceptions" "Ljava/util/List;" : Cond) ∈ bw := bw_m 242 (by decide +kernel) (by decide +kernel)
theorem m_247 : (.lays "java/lang/IndexOutOfBoundsException" "java/lang/Throwable" "depth" "I" : Cond) ∈ bw := bw_m 247 (by decide +kernel) (by decide +kernel)
theorem m_251 : (.arrayClass .byte : Cond) ∈ bw := bw_m 251 (by decide +kernel) (by decide +kernel)
theorem m_252 : (.methodLink "CoinTree" 129 y_TR_hasLeaf : Cond) ∈ bw := bw_m 252 (by decide +kernel) (by decide +kernel)
theorem m_253 : (.instanceMethod y_TR_hasLeaf : Cond) ∈ bw := bw_m 253 (by decide +kernel) (by decide +kernel)
theorem m_254 : (.selects "CoinTree$Tree" y_TR_hasLeaf y_TR_hasLeaf : Cond) ∈ bw := bw_m 254 (by decide +kernel) (by decide +kernel)
abbrev k_TR_hasLeaf : Cond := .code y_TR_hasLeaf b_TR_hasLeaf 2 (some .boolean)
theorem m_255 : (k_TR_hasLeaf : Cond) ∈ bw := bw_m 255 (by decide +kernel) (by decide +kernel)
theorem m_256 : (.classLink "CoinTree" 132 "java/lang/IllegalArgumentException" : Cond) ∈ bw := bw_m 256 (by decide +kernel) (by decide +kernel)
theorem m_257 : (.instantiable "java/lang/IllegalArgumentException" 6 : Cond) ∈ bw := bw_m 257 (by decide +kernel) (by decide +kernel)
theorem m_259 : (.selects "java/lang/IllegalArgumentException" ⟨"java/lang/Throwable", "fillInStackTrace", "(I)Ljava/lang/Throwable;"⟩ ⟨"java/lang/Throwable", "fillInStackTrace", "(I)Ljava/lang/Throwable;"⟩ : Cond) ∈ bw := bw_m 259 (by decide +kernel) (by decide +kernel)
theorem m_260 : (.lays "java/lang/IllegalArgumentException" "java/lang/Throwable" "cause" "Ljava/lang/Throwable;" : Cond) ∈ bw := bw_m 260 (by decide +kernel) (by decide +kernel)
theorem m_261 : (.lays "java/lang/IllegalArgumentException" "java/lang/Throwable" "stackTrace" "[Ljava/lang/StackTraceElement;" : Cond) ∈ bw := bw_m 261 (by decide +kernel) (by decide +kernel)
theorem m_262 : (.lays "java/lang/IllegalArgumentException" "java/lang/Throwable" "suppressedExceptions" "Ljava/util/List;" : Cond) ∈ bw := bw_m 262 (by decide +kernel) (by decide +kernel)
theorem m_263 : (.lays "java/lang/IllegalArgumentException" "java/lang/Throwable" "detailMessage" "Ljava/lang/String;" : Cond) ∈ bw := bw_m 263 (by decide +kernel) (by decide +kernel)
theorem m_264 : (.lays "java/lang/IllegalArgumentException" "java/lang/Throwable" "backtrace" "Ljava/lang/Object;" : Cond) ∈ bw := bw_m 264 (by decide +kernel) (by decide +kernel)
theorem m_266 : (.methodLink "CoinTree" 136 ⟨"java/lang/IllegalArgumentException", "<init>", "(Ljava/lang/String;)V"⟩ : Cond) ∈ bw := bw_m 266 (by decide +kernel) (by decide +kernel)
theorem m_267 : (.instanceMethod ⟨"java/lang/IllegalArgumentException", "<init>", "(Ljava/lang/String;)V"⟩ : Cond) ∈ bw := bw_m 267 (by decide +kernel) (by decide +kernel)
theorem m_269 : (.methodLink "java/lang/IllegalArgumentException" 7 ⟨"java/lang/RuntimeException", "<init>", "(Ljava/lang/String;)V"⟩ : Cond) ∈ bw := bw_m 269 (by decide +kernel) (by decide +kernel)
theorem m_270 : (.lays "java/lang/IllegalArgumentException" "java/lang/Throwable" "depth" "I" : Cond) ∈ bw := bw_m 270 (by decide +kernel) (by decide +kernel)
theorem m_272 : (.methodLink "CoinTree" 137 y_TR_gather : Cond) ∈ bw := bw_m 272 (by decide +kernel) (by decide +kernel)
theorem m_273 : (.instanceMethod y_TR_gather : Cond) ∈ bw := bw_m 273 (by decide +kernel) (by decide +kernel)
theorem m_274 : (.selects "CoinTree$Tree" y_TR_gather y_TR_gather : Cond) ∈ bw := bw_m 274 (by decide +kernel) (by decide +kernel)
abbrev k_TR_gather : Cond := .code y_TR_gather b_TR_gather 4 none
theorem m_275 : (k_TR_gather : Cond) ∈ bw := bw_m 275 (by decide +kernel) (by decide +kernel)
theorem m_276 : (.methodLink "CoinTree$Tree" 74 y_RW_append : Cond) ∈ bw := bw_m 276 (by decide +kernel) (by decide +kernel)
theorem m_277 : (.instanceMethod y_RW_append : Cond) ∈ bw := bw_m 277 (by decide +kernel) (by decide +kernel)
theorem m_278 : (.selects "CoinTree$Row" y_RW_append y_RW_append : Cond) ∈ bw := bw_m 278 (by decide +kernel) (by decide +kernel)
abbrev k_RW_append : Cond := .code y_RW_append b_RW_append 3 none
theorem m_279 : (k_RW_append : Cond) ∈ bw := bw_m 279 (by decide +kernel) (by decide +kernel)
theorem m_280 : (.methodLink "CoinTree$Row" 28 y_RW_has : Cond) ∈ bw := bw_m 280 (by decide +kernel) (by decide +kernel)
theorem m_282 : (.instanceMethod y_RW_has : Cond) ∈ bw := bw_m 282 (by decide +kernel) (by decide +kernel)
abbrev k_RW_has : Cond := .code y_RW_has b_RW_has 2 (some .boolean)
theorem m_283 : (k_RW_has : Cond) ∈ bw := bw_m 283 (by decide +kernel) (by decide +kernel)
theorem m_284 : (.methodLink "CoinTree$Row" 51 y_RW_copy : Cond) ∈ bw := bw_m 284 (by decide +kernel) (by decide +kernel)
theorem m_285 : (.instanceMethod y_RW_copy : Cond) ∈ bw := bw_m 285 (by decide +kernel) (by decide +kernel)
theorem m_286 : (.selects "CoinTree$Row" y_RW_copy y_RW_copy : Cond) ∈ bw := bw_m 286 (by decide +kernel) (by decide +kernel)
abbrev k_RW_copy : Cond := .code y_RW_copy b_RW_copy 4 none
theorem m_287 : (k_RW_copy : Cond) ∈ bw := bw_m 287 (by decide +kernel) (by decide +kernel)
theorem m_288 : (.methodLink "CoinTree$Row" 32 y_RW_markAt : Cond) ∈ bw := bw_m 288 (by decide +kernel) (by decide +kernel)
theorem m_289 : (.instanceMethod y_RW_markAt : Cond) ∈ bw := bw_m 289 (by decide +kernel) (by decide +kernel)
theorem m_290 : (.selects "CoinTree$Row" y_RW_markAt y_RW_markAt : Cond) ∈ bw := bw_m 290 (by decide +kernel) (by decide +kernel)
abbrev k_RW_markAt : Cond := .code y_RW_markAt b_RW_markAt 2 (some .int)
theorem m_291 : (k_RW_markAt : Cond) ∈ bw := bw_m 291 (by decide +kernel) (by decide +kernel)
theorem m_292 : (.methodLink "CoinTree$Row" 36 y_RW_leafAt : Cond) ∈ bw := bw_m 292 (by decide +kernel) (by decide +kernel)
theorem m_293 : (.instanceMethod y_RW_leafAt : Cond) ∈ bw := bw_m 293 (by decide +kernel) (by decide +kernel)
theorem m_294 : (.selects "CoinTree$Row" y_RW_leafAt y_RW_leafAt : Cond) ∈ bw := bw_m 294 (by decide +kernel) (by decide +kernel)
abbrev k_RW_leafAt : Cond := .code y_RW_leafAt b_RW_leafAt 2 (some .int)
theorem m_295 : (k_RW_leafAt : Cond) ∈ bw := bw_m 295 (by decide +kernel) (by decide +kernel)
theorem m_296 : (.methodLink "CoinTree$Row" 39 y_RW_valueAt : Cond) ∈ bw := bw_m 296 (by decide +kernel) (by decide +kernel)
theorem m_297 : (.instanceMethod y_RW_valueAt : Cond) ∈ bw := bw_m 297 (by decide +kernel) (by decide +kernel)
theorem m_298 : (.selects "CoinTree$Row" y_RW_valueAt y_RW_valueAt : Cond) ∈ bw := bw_m 298 (by decide +kernel) (by decide +kernel)
abbrev k_RW_valueAt : Cond := .code y_RW_valueAt b_RW_valueAt 2 (some .long)
theorem m_299 : (k_RW_valueAt : Cond) ∈ bw := bw_m 299 (by decide +kernel) (by decide +kernel)
theorem m_300 : (.methodLink "CoinTree$Row" 43 y_RW_put : Cond) ∈ bw := bw_m 300 (by decide +kernel) (by decide +kernel)
theorem m_301 : (.instanceMethod y_RW_put : Cond) ∈ bw := bw_m 301 (by decide +kernel) (by decide +kernel)
theorem m_302 : (.selects "CoinTree$Row" y_RW_put y_RW_put : Cond) ∈ bw := bw_m 302 (by decide +kernel) (by decide +kernel)
abbrev k_RW_put : Cond := .code y_RW_put b_RW_put 6 none
theorem m_303 : (k_RW_put : Cond) ∈ bw := bw_m 303 (by decide +kernel) (by decide +kernel)
theorem m_304 : (.methodLink "CoinTree$Tree" 78 y_TR_nodeOnWay : Cond) ∈ bw := bw_m 304 (by decide +kernel) (by decide +kernel)
theorem m_306 : (.instanceMethod y_TR_nodeOnWay : Cond) ∈ bw := bw_m 306 (by decide +kernel) (by decide +kernel)
abbrev k_TR_nodeOnWay : Cond := .code y_TR_nodeOnWay b_TR_nodeOnWay 3 (some .int)
theorem m_307 : (k_TR_nodeOnWay : Cond) ∈ bw := bw_m 307 (by decide +kernel) (by decide +kernel)
theorem m_308 : (.methodLink "CoinTree$Tree" 82 y_TR_gatherNode : Cond) ∈ bw := bw_m 308 (by decide +kernel) (by decide +kernel)
theorem m_310 : (.instanceMethod y_TR_gatherNode : Cond) ∈ bw := bw_m 310 (by decide +kernel) (by decide +kernel)
abbrev k_TR_gatherNode : Cond := .code y_TR_gatherNode b_TR_gatherNode 4 none
theorem m_311 : (k_TR_gatherNode : Cond) ∈ bw := bw_m 311 (by decide +kernel) (by decide +kernel)
theorem m_312 : (.methodLink "CoinTree$Tree" 57 y_RW_markAt : Cond) ∈ bw := bw_m 312 (by decide +kernel) (by decide +kernel)
theorem m_313 : (.methodLink "CoinTree$Tree" 85 y_RW_find : Cond) ∈ bw := bw_m 313 (by decide +kernel) (by decide +kernel)
theorem m_314 : (.instanceMethod y_RW_find : Cond) ∈ bw := bw_m 314 (by decide +kernel) (by decide +kernel)
theorem m_315 : (.selects "CoinTree$Row" y_RW_find y_RW_find : Cond) ∈ bw := bw_m 315 (by decide +kernel) (by decide +kernel)
abbrev k_RW_find : Cond := .code y_RW_find b_RW_find 3 (some .int)
theorem m_316 : (k_RW_find : Cond) ∈ bw := bw_m 316 (by decide +kernel) (by decide +kernel)
theorem m_317 : (.methodLink "CoinTree$Tree" 91 y_RW_appendNew : Cond) ∈ bw := bw_m 317 (by decide +kernel) (by decide +kernel)
theorem m_318 : (.instanceMethod y_RW_appendNew : Cond) ∈ bw := bw_m 318 (by decide +kernel) (by decide +kernel)
theorem m_319 : (.selects "CoinTree$Row" y_RW_appendNew y_RW_appendNew : Cond) ∈ bw := bw_m 319 (by decide +kernel) (by decide +kernel)
abbrev k_RW_appendNew : Cond := .code y_RW_appendNew b_RW_appendNew 2 none
theorem m_320 : (k_RW_appendNew : Cond) ∈ bw := bw_m 320 (by decide +kernel) (by decide +kernel)
theorem m_321 : (.methodLink "CoinTree" 141 y_TR_soughtValue : Cond) ∈ bw := bw_m 321 (by decide +kernel) (by decide +kernel)
theorem m_322 : (.instanceMethod y_TR_soughtValue : Cond) ∈ bw := bw_m 322 (by decide +kernel) (by decide +kernel)
theorem m_323 : (.selects "CoinTree$Tree" y_TR_soughtValue y_TR_soughtValue : Cond) ∈ bw := bw_m 323 (by decide +kernel) (by decide +kernel)
abbrev k_TR_soughtValue : Cond := .code y_TR_soughtValue b_TR_soughtValue 1 (some .long)
theorem m_324 : (k_TR_soughtValue : Cond) ∈ bw := bw_m 324 (by decide +kernel) (by decide +kernel)
theorem m_325 : (.methodLink "CoinTree$Tree" 64 y_RW_valueAt : Cond) ∈ bw := bw_m 325 (by decide +kernel) (by decide +kernel)
theorem m_326 : (.methodLink "CoinTree" 145 y_CT_withNumber : Cond) ∈ bw := bw_m 326 (by decide +kernel) (by decide +kernel)
theorem m_327 : (.static y_CT_withNumber : Cond) ∈ bw := bw_m 327 (by decide +kernel) (by decide +kernel)
abbrev k_CT_withNumber : Cond := .code y_CT_withNumber b_CT_withNumber 4 (some .long)
theorem m_328 : (k_CT_withNumber : Cond) ∈ bw := bw_m 328 (by decide +kernel) (by decide +kernel)
theorem m_329 : (.constantLong "CoinTree" 169 65535 : Cond) ∈ bw := bw_m 329 (by decide +kernel) (by decide +kernel)
theorem m_330 : (.constantLong "CoinTree" 173 (-1) : Cond) ∈ bw := bw_m 330 (by decide +kernel) (by decide +kernel)
theorem m_331 : (.methodLink "CoinTree" 149 y_TR_settle : Cond) ∈ bw := bw_m 331 (by decide +kernel) (by decide +kernel)
theorem m_332 : (.instanceMethod y_TR_settle : Cond) ∈ bw := bw_m 332 (by decide +kernel) (by decide +kernel)
theorem m_333 : (.selects "CoinTree$Tree" y_TR_settle y_TR_settle : Cond) ∈ bw := bw_m 333 (by decide +kernel) (by decide +kernel)
abbrev k_TR_settle : Cond := .code y_TR_settle b_TR_settle 4 none
theorem m_334 : (k_TR_settle : Cond) ∈ bw := bw_m 334 (by decide +kernel) (by decide +kernel)
theorem m_335 : (.methodLink "CoinTree$Tree" 94 y_RW_put : Cond) ∈ bw := bw_m 335 (by decide +kernel) (by decide +kernel)
theorem m_336 : (.methodLink "CoinTree" 153 y_CT_leafTold : Cond) ∈ bw := bw_m 336 (by decide +kernel) (by decide +kernel)
theorem m_338 : (.instanceMethod y_CT_leafTold : Cond) ∈ bw := bw_m 338 (by decide +kernel) (by decide +kernel)
abbrev k_CT_leafTold : Cond := .code y_CT_leafTold b_CT_leafTold 6 (some .int)
theorem m_339 : (k_CT_leafTold : Cond) ∈ bw := bw_m 339 (by decide +kernel) (by decide +kernel)
theorem m_340 : (.methodLink "CoinTree" 157 y_TR_fits : Cond) ∈ bw := bw_m 340 (by decide +kernel) (by decide +kernel)
theorem m_341 : (.instanceMethod y_TR_fits : Cond) ∈ bw := bw_m 341 (by decide +kernel) (by decide +kernel)
theorem m_342 : (.selects "CoinTree$Tree" y_TR_fits y_TR_fits : Cond) ∈ bw := bw_m 342 (by decide +kernel) (by decide +kernel)
abbrev k_TR_fits : Cond := .code y_TR_fits b_TR_fits 3 (some .boolean)
theorem m_343 : (k_TR_fits : Cond) ∈ bw := bw_m 343 (by decide +kernel) (by decide +kernel)
theorem m_344 : (.methodLink "CoinTree$Tree" 98 y_TR_fillNode : Cond) ∈ bw := bw_m 344 (by decide +kernel) (by decide +kernel)
theorem m_346 : (.instanceMethod y_TR_fillNode : Cond) ∈ bw := bw_m 346 (by decide +kernel) (by decide +kernel)
abbrev k_TR_fillNode : Cond := .code y_TR_fillNode b_TR_fillNode 5 (some .int)
theorem m_347 : (k_TR_fillNode : Cond) ∈ bw := bw_m 347 (by decide +kernel) (by decide +kernel)
theorem m_348 : (.methodLink "CoinTree$Tree" 61 y_RW_leafAt : Cond) ∈ bw := bw_m 348 (by decide +kernel) (by decide +kernel)
theorem m_349 : (.classLink "CoinTree" 161 "java/lang/UnsupportedOperationException" : Cond) ∈ bw := bw_m 349 (by decide +kernel) (by decide +kernel)
theorem m_350 : (.instantiable "java/lang/UnsupportedOperationException" 6 : Cond) ∈ bw := bw_m 350 (by decide +kernel) (by decide +kernel)
theorem m_352 : (.selects "java/lang/UnsupportedOperationException" ⟨"java/lang/Throwable", "fillInStackTrace", "(I)Ljava/lang/Throwable;"⟩ ⟨"java/lang/Throwable", "fillInStackTrace", "(I)Ljava/lang/Throwable;"⟩ : Cond) ∈ bw := bw_m 352 (by decide +kernel) (by decide +kernel)
theorem m_353 : (.lays "java/lang/UnsupportedOperationException" "java/lang/Throwable" "cause" "Ljava/lang/Throwable;" : Cond) ∈ bw := bw_m 353 (by decide +kernel) (by decide +kernel)
theorem m_354 : (.lays "java/lang/UnsupportedOperationException" "java/lang/Throwable" "stackTrace" "[Ljava/lang/StackTraceElement;" : Cond) ∈ bw := bw_m 354 (by decide +kernel) (by decide +kernel)
theorem m_355 : (.lays "java/lang/UnsupportedOperationException" "java/lang/Throwable" "suppressedExceptions" "Ljava/util/List;" : Cond) ∈ bw := bw_m 355 (by decide +kernel) (by decide +kernel)
theorem m_356 : (.lays "java/lang/UnsupportedOperationException" "java/lang/Throwable" "detailMessage" "Ljava/lang/String;" : Cond) ∈ bw := bw_m 356 (by decide +kernel) (by decide +kernel)
theorem m_357 : (.lays "java/lang/UnsupportedOperationException" "java/lang/Throwable" "backtrace" "Ljava/lang/Object;" : Cond) ∈ bw := bw_m 357 (by decide +kernel) (by decide +kernel)
theorem m_359 : (.methodLink "CoinTree" 165 ⟨"java/lang/UnsupportedOperationException", "<init>", "(Ljava/lang/String;)V"⟩ : Cond) ∈ bw := bw_m 359 (by decide +kernel) (by decide +kernel)
theorem m_360 : (.instanceMethod ⟨"java/lang/UnsupportedOperationException", "<init>", "(Ljava/lang/String;)V"⟩ : Cond) ∈ bw := bw_m 360 (by decide +kernel) (by decide +kernel)
theorem m_362 : (.methodLink "java/lang/UnsupportedOperationException" 7 ⟨"java/lang/RuntimeException", "<init>", "(Ljava/lang/String;)V"⟩ : Cond) ∈ bw := bw_m 362 (by decide +kernel) (by decide +kernel)
theorem m_363 : (.lays "java/lang/UnsupportedOperationException" "java/lang/Throwable" "depth" "I" : Cond) ∈ bw := bw_m 363 (by decide +kernel) (by decide +kernel)
theorem m_365 : (.methodLink "CoinTree" 166 y_TR_carryOut : Cond) ∈ bw := bw_m 365 (by decide +kernel) (by decide +kernel)
theorem m_366 : (.instanceMethod y_TR_carryOut : Cond) ∈ bw := bw_m 366 (by decide +kernel) (by decide +kernel)
theorem m_367 : (.selects "CoinTree$Tree" y_TR_carryOut y_TR_carryOut : Cond) ∈ bw := bw_m 367 (by decide +kernel) (by decide +kernel)
abbrev k_TR_carryOut : Cond := .code y_TR_carryOut b_TR_carryOut 2 none
theorem m_368 : (k_TR_carryOut : Cond) ∈ bw := bw_m 368 (by decide +kernel) (by decide +kernel)
theorem m_369 : (.methodLink "CoinTree$Tree" 101 y_TR_emptyNode : Cond) ∈ bw := bw_m 369 (by decide +kernel) (by decide +kernel)
theorem m_371 : (.instanceMethod y_TR_emptyNode : Cond) ∈ bw := bw_m 371 (by decide +kernel) (by decide +kernel)
abbrev k_TR_emptyNode : Cond := .code y_TR_emptyNode b_TR_emptyNode 3 none
theorem m_372 : (k_TR_emptyNode : Cond) ∈ bw := bw_m 372 (by decide +kernel) (by decide +kernel)
theorem m_373 : (.methodLink "CoinTree$Tree" 53 y_TR_hasNode : Cond) ∈ bw := bw_m 373 (by decide +kernel) (by decide +kernel)
theorem m_374 : (.instanceMethod y_TR_hasNode : Cond) ∈ bw := bw_m 374 (by decide +kernel) (by decide +kernel)
theorem m_375 : (.selects "CoinTree$Tree" y_TR_hasNode y_TR_hasNode : Cond) ∈ bw := bw_m 375 (by decide +kernel) (by decide +kernel)
abbrev k_TR_hasNode : Cond := .code y_TR_hasNode b_TR_hasNode 2 (some .boolean)
theorem m_376 : (k_TR_hasNode : Cond) ∈ bw := bw_m 376 (by decide +kernel) (by decide +kernel)
theorem m_377 : (.methodLink "CoinTree$Tree" 104 y_RW_copy : Cond) ∈ bw := bw_m 377 (by decide +kernel) (by decide +kernel)
theorem m_378 : (.methodLink "CoinTree$Tree" 108 y_TL_add : Cond) ∈ bw := bw_m 378 (by decide +kernel) (by decide +kernel)
theorem m_379 : (.instanceMethod y_TL_add : Cond) ∈ bw := bw_m 379 (by decide +kernel) (by decide +kernel)
theorem m_380 : (.selects "CoinTree$Trail" y_TL_add y_TL_add : Cond) ∈ bw := bw_m 380 (by decide +kernel) (by decide +kernel)
abbrev k_TL_add : Cond := .code y_TL_add b_TL_add 2 none
theorem m_381 : (k_TL_add : Cond) ∈ bw := bw_m 381 (by decide +kernel) (by decide +kernel)
theorem m_382 : (.methodLink "CoinTree$Trail" 22 Lib.Math.min.name : Cond) ∈ bw := bw_m 382 (by decide +kernel) (by decide +kernel)
theorem m_383 : (.methodLink "CoinTreeLaw" 63 y_LW_write : Cond) ∈ bw := bw_m 383 (by decide +kernel) (by decide +kernel)
theorem m_384 : (.static y_LW_write : Cond) ∈ bw := bw_m 384 (by decide +kernel) (by decide +kernel)
abbrev k_LW_write : Cond := .codeWith y_LW_write b_LW_write 8 (some .int) [(0, 14, 17, 13), (0, 14, 21, 15), (0, 14, 25, 17)]
theorem m_385 : (k_LW_write : Cond) ∈ bw := bw_m 385 (by decide +kernel) (by decide +kernel)
theorem m_386 : (.methodLink "CoinTreeLaw" 19 y_CT_write : Cond) ∈ bw := bw_m 386 (by decide +kernel) (by decide +kernel)
theorem m_387 : (.instanceMethod y_CT_write : Cond) ∈ bw := bw_m 387 (by decide +kernel) (by decide +kernel)
theorem m_388 : (.selects "CoinTree" y_CT_write y_CT_write : Cond) ∈ bw := bw_m 388 (by decide +kernel) (by decide +kernel)
abbrev k_CT_write : Cond := .code y_CT_write b_CT_write 6 (some .long)
theorem m_389 : (k_CT_write : Cond) ∈ bw := bw_m 389 (by decide +kernel) (by decide +kernel)
theorem m_390 : (.methodLink "CoinTreeLaw" 67 y_LW_trace : Cond) ∈ bw := bw_m 390 (by decide +kernel) (by decide +kernel)
theorem m_391 : (.static y_LW_trace : Cond) ∈ bw := bw_m 391 (by decide +kernel) (by decide +kernel)
abbrev k_LW_trace : Cond := .codeWith y_LW_trace b_LW_trace 5 (some .int) [(0, 10, 13, 13)]
theorem m_392 : (k_LW_trace : Cond) ∈ bw := bw_m 392 (by decide +kernel) (by decide +kernel)
theorem m_393 : (.methodLink "CoinTreeLaw" 23 y_CT_trace : Cond) ∈ bw := bw_m 393 (by decide +kernel) (by decide +kernel)
theorem m_394 : (.instanceMethod y_CT_trace : Cond) ∈ bw := bw_m 394 (by decide +kernel) (by decide +kernel)
theorem m_395 : (.selects "CoinTree" y_CT_trace y_CT_trace : Cond) ∈ bw := bw_m 395 (by decide +kernel) (by decide +kernel)
abbrev k_CT_trace : Cond := .code y_CT_trace b_CT_trace 4 (some .int)
theorem m_396 : (k_CT_trace : Cond) ∈ bw := bw_m 396 (by decide +kernel) (by decide +kernel)
theorem m_397 : (.methodLink "CoinTree" 54 y_CT_treeNumbered : Cond) ∈ bw := bw_m 397 (by decide +kernel) (by decide +kernel)
theorem m_399 : (.instanceMethod y_CT_treeNumbered : Cond) ∈ bw := bw_m 399 (by decide +kernel) (by decide +kernel)
abbrev k_CT_treeNumbered : Cond := .code y_CT_treeNumbered b_CT_treeNumbered 2 (some (.object "CoinTree$Tree"))
theorem m_400 : (k_CT_treeNumbered : Cond) ∈ bw := bw_m 400 (by decide +kernel) (by decide +kernel)
theorem m_403 : (.methodLink "CoinTree" 74 y_TL_leafAt : Cond) ∈ bw := bw_m 403 (by decide +kernel) (by decide +kernel)
theorem m_404 : (.instanceMethod y_TL_leafAt : Cond) ∈ bw := bw_m 404 (by decide +kernel) (by decide +kernel)
theorem m_405 : (.selects "CoinTree$Trail" y_TL_leafAt y_TL_leafAt : Cond) ∈ bw := bw_m 405 (by decide +kernel) (by decide +kernel)
abbrev k_TL_leafAt : Cond := .code y_TL_leafAt b_TL_leafAt 4 (some .int)
theorem m_406 : (k_TL_leafAt : Cond) ∈ bw := bw_m 406 (by decide +kernel) (by decide +kernel)
theorem m_407 : (.methodLink "CoinTreeLaw" 71 y_LW_stored : Cond) ∈ bw := bw_m 407 (by decide +kernel) (by decide +kernel)
theorem m_408 : (.static y_LW_stored : Cond) ∈ bw := bw_m 408 (by decide +kernel) (by decide +kernel)
abbrev k_LW_stored : Cond := .codeWith y_LW_stored b_LW_stored 7 (some .int) [(0, 13, 16, 13)]
theorem m_409 : (k_LW_stored : Cond) ∈ bw := bw_m 409 (by decide +kernel) (by decide +kernel)
theorem m_410 : (.methodLink "CoinTreeLaw" 27 y_CT_stored : Cond) ∈ bw := bw_m 410 (by decide +kernel) (by decide +kernel)
theorem m_411 : (.instanceMethod y_CT_stored : Cond) ∈ bw := bw_m 411 (by decide +kernel) (by decide +kernel)
theorem m_412 : (.selects "CoinTree" y_CT_stored y_CT_stored : Cond) ∈ bw := bw_m 412 (by decide +kernel) (by decide +kernel)
abbrev k_CT_stored : Cond := .code y_CT_stored b_CT_stored 8 (some .long)
theorem m_413 : (k_CT_stored : Cond) ∈ bw := bw_m 413 (by decide +kernel) (by decide +kernel)
theorem m_414 : (.methodLink "CoinTree" 77 y_TR_hasNode : Cond) ∈ bw := bw_m 414 (by decide +kernel) (by decide +kernel)
theorem m_418 : (.methodLink "CoinTree" 87 y_TR_wordAt : Cond) ∈ bw := bw_m 418 (by decide +kernel) (by decide +kernel)
theorem m_419 : (.instanceMethod y_TR_wordAt : Cond) ∈ bw := bw_m 419 (by decide +kernel) (by decide +kernel)
theorem m_420 : (.selects "CoinTree$Tree" y_TR_wordAt y_TR_wordAt : Cond) ∈ bw := bw_m 420 (by decide +kernel) (by decide +kernel)
abbrev k_TR_wordAt : Cond := .code y_TR_wordAt b_TR_wordAt 5 (some .long)
theorem m_421 : (k_TR_wordAt : Cond) ∈ bw := bw_m 421 (by decide +kernel) (by decide +kernel)
theorem m_422 : (.constantLong "CoinTree" 91 1000003 : Cond) ∈ bw := bw_m 422 (by decide +kernel) (by decide +kernel)
theorem m_423 : (.constantLong "CoinTree" 93 (-7046029254386353131) : Cond) ∈ bw := bw_m 423 (by decide +kernel) (by decide +kernel)
theorem m_424 : (.methodLink "CoinTree" 95 y_TR_timesWritten : Cond) ∈ bw := bw_m 424 (by decide +kernel) (by decide +kernel)
theorem m_425 : (.instanceMethod y_TR_timesWritten : Cond) ∈ bw := bw_m 425 (by decide +kernel) (by decide +kernel)
theorem m_426 : (.selects "CoinTree$Tree" y_TR_timesWritten y_TR_timesWritten : Cond) ∈ bw := bw_m 426 (by decide +kernel) (by decide +kernel)
abbrev k_TR_timesWritten : Cond := .code y_TR_timesWritten b_TR_timesWritten 2 (some .int)
theorem m_427 : (k_TR_timesWritten : Cond) ∈ bw := bw_m 427 (by decide +kernel) (by decide +kernel)
theorem m_428 : (.methodLink "CoinTree" 98 y_CT_mix : Cond) ∈ bw := bw_m 428 (by decide +kernel) (by decide +kernel)
theorem m_429 : (.static y_CT_mix : Cond) ∈ bw := bw_m 429 (by decide +kernel) (by decide +kernel)
abbrev k_CT_mix : Cond := .code y_CT_mix b_CT_mix 6 (some .long)
theorem m_430 : (k_CT_mix : Cond) ∈ bw := bw_m 430 (by decide +kernel) (by decide +kernel)
theorem m_431 : (.constantLong "CoinTree" 178 (-4658895280553007687) : Cond) ∈ bw := bw_m 431 (by decide +kernel) (by decide +kernel)
theorem m_432 : (.constantLong "CoinTree" 180 (-7723592293110705685) : Cond) ∈ bw := bw_m 432 (by decide +kernel) (by decide +kernel)
theorem m_433 : (.methodLink "CoinTreeLaw" 75 y_LW_written : Cond) ∈ bw := bw_m 433 (by decide +kernel) (by decide +kernel)
theorem m_434 : (.static y_LW_written : Cond) ∈ bw := bw_m 434 (by decide +kernel) (by decide +kernel)
abbrev k_LW_written : Cond := .codeWith y_LW_written b_LW_written 5 (some .int) [(0, 10, 13, 13)]
theorem m_435 : (k_LW_written : Cond) ∈ bw := bw_m 435 (by decide +kernel) (by decide +kernel)
theorem m_436 : (.methodLink "CoinTreeLaw" 31 y_CT_written : Cond) ∈ bw := bw_m 436 (by decide +kernel) (by decide +kernel)
theorem m_437 : (.instanceMethod y_CT_written : Cond) ∈ bw := bw_m 437 (by decide +kernel) (by decide +kernel)
theorem m_438 : (.selects "CoinTree" y_CT_written y_CT_written : Cond) ∈ bw := bw_m 438 (by decide +kernel) (by decide +kernel)
abbrev k_CT_written : Cond := .code y_CT_written b_CT_written 4 (some .int)
theorem m_439 : (k_CT_written : Cond) ∈ bw := bw_m 439 (by decide +kernel) (by decide +kernel)
theorem m_440 : (.methodLink "CoinTreeLaw" 78 y_LW_stash : Cond) ∈ bw := bw_m 440 (by decide +kernel) (by decide +kernel)
theorem m_441 : (.static y_LW_stash : Cond) ∈ bw := bw_m 441 (by decide +kernel) (by decide +kernel)
abbrev k_LW_stash : Cond := .codeWith y_LW_stash b_LW_stash 5 (some .int) [(0, 10, 13, 13)]
theorem m_442 : (k_LW_stash : Cond) ∈ bw := bw_m 442 (by decide +kernel) (by decide +kernel)
theorem m_443 : (.methodLink "CoinTreeLaw" 34 y_CT_stash : Cond) ∈ bw := bw_m 443 (by decide +kernel) (by decide +kernel)
theorem m_444 : (.instanceMethod y_CT_stash : Cond) ∈ bw := bw_m 444 (by decide +kernel) (by decide +kernel)
theorem m_445 : (.selects "CoinTree" y_CT_stash y_CT_stash : Cond) ∈ bw := bw_m 445 (by decide +kernel) (by decide +kernel)
abbrev k_CT_stash : Cond := .code y_CT_stash b_CT_stash 4 (some .int)
theorem m_446 : (k_CT_stash : Cond) ∈ bw := bw_m 446 (by decide +kernel) (by decide +kernel)
theorem m_448 : (.methodLink "CoinTree" 113 y_RW_markAt : Cond) ∈ bw := bw_m 448 (by decide +kernel) (by decide +kernel)
theorem m_449 : (.methodLink "CoinTreeLaw" 81 y_LW_count : Cond) ∈ bw := bw_m 449 (by decide +kernel) (by decide +kernel)
theorem m_450 : (.static y_LW_count : Cond) ∈ bw := bw_m 450 (by decide +kernel) (by decide +kernel)
abbrev k_LW_count : Cond := .codeWith y_LW_count b_LW_count 4 (some .int) [(0, 9, 12, 13)]
theorem m_451 : (k_LW_count : Cond) ∈ bw := bw_m 451 (by decide +kernel) (by decide +kernel)
theorem m_452 : (.methodLink "CoinTreeLaw" 37 y_CT_count : Cond) ∈ bw := bw_m 452 (by decide +kernel) (by decide +kernel)
theorem m_453 : (.instanceMethod y_CT_count : Cond) ∈ bw := bw_m 453 (by decide +kernel) (by decide +kernel)
theorem m_454 : (.selects "CoinTree" y_CT_count y_CT_count : Cond) ∈ bw := bw_m 454 (by decide +kernel) (by decide +kernel)
abbrev k_CT_count : Cond := .code y_CT_count b_CT_count 2 (some .int)
theorem m_455 : (k_CT_count : Cond) ∈ bw := bw_m 455 (by decide +kernel) (by decide +kernel)
theorem m_457 : (.classLink "CoinTreeLaw" 50 "CoinTreeModel" : Cond) ∈ bw := bw_m 457 (by decide +kernel) (by decide +kernel)
theorem m_458 : (.instantiable "CoinTreeModel" 27 : Cond) ∈ bw := bw_m 458 (by decide +kernel) (by decide +kernel)
theorem m_459 : (.methodLink "CoinTreeLaw" 52 y_CM_init : Cond) ∈ bw := bw_m 459 (by decide +kernel) (by decide +kernel)
theorem m_460 : (.instanceMethod y_CM_init : Cond) ∈ bw := bw_m 460 (by decide +kernel) (by decide +kernel)
abbrev k_CM_init : Cond := .code y_CM_init b_CM_init 7 none
theorem m_461 : (k_CM_init : Cond) ∈ bw := bw_m 461 (by decide +kernel) (by decide +kernel)
theorem m_462 : (.methodLink "CoinTreeModel" 1 objectInit : Cond) ∈ bw := bw_m 462 (by decide +kernel) (by decide +kernel)
theorem m_463 : (.methodLink "CoinTreeModel" 82 y_CM_leavesOf : Cond) ∈ bw := bw_m 463 (by decide +kernel) (by decide +kernel)
theorem m_465 : (.instanceMethod y_CM_leavesOf : Cond) ∈ bw := bw_m 465 (by decide +kernel) (by decide +kernel)
abbrev k_CM_leavesOf : Cond := .code y_CM_leavesOf b_CM_leavesOf 2 (some .int)
theorem m_466 : (k_CM_leavesOf : Cond) ∈ bw := bw_m 466 (by decide +kernel) (by decide +kernel)
theorem m_467 : (.methodLink "CoinTreeModel" 89 y_CM_levelsOf : Cond) ∈ bw := bw_m 467 (by decide +kernel) (by decide +kernel)
theorem m_469 : (.instanceMethod y_CM_levelsOf : Cond) ∈ bw := bw_m 469 (by decide +kernel) (by decide +kernel)
abbrev k_CM_levelsOf : Cond := .code y_CM_levelsOf b_CM_levelsOf 2 (some .int)
theorem m_470 : (k_CM_levelsOf : Cond) ∈ bw := bw_m 470 (by decide +kernel) (by decide +kernel)
theorem m_471 : (.fieldLink "CoinTreeModel" 86 "CoinTreeModel" "thrown" "I" : Cond) ∈ bw := bw_m 471 (by decide +kernel) (by decide +kernel)
theorem m_472 : (.fieldLink "CoinTreeModel" 68 "CoinTreeModel" "levels" "I" : Cond) ∈ bw := bw_m 472 (by decide +kernel) (by decide +kernel)
theorem m_473 : (.fieldLink "CoinTreeModel" 72 "CoinTreeModel" "slots" "I" : Cond) ∈ bw := bw_m 473 (by decide +kernel) (by decide +kernel)
theorem m_474 : (.fieldLink "CoinTreeModel" 75 "CoinTreeModel" "capacity" "I" : Cond) ∈ bw := bw_m 474 (by decide +kernel) (by decide +kernel)
theorem m_475 : (.fieldLink "CoinTreeModel" 78 "CoinTreeModel" "key" "J" : Cond) ∈ bw := bw_m 475 (by decide +kernel) (by decide +kernel)
theorem m_476 : (.fieldLink "CoinTreeModel" 7 "CoinTreeModel" "blocks" "[I" : Cond) ∈ bw := bw_m 476 (by decide +kernel) (by decide +kernel)
theorem m_477 : (.fieldLink "CoinTreeModel" 13 "CoinTreeModel" "leaves" "[I" : Cond) ∈ bw := bw_m 477 (by decide +kernel) (by decide +kernel)
theorem m_478 : (.fieldLink "CoinTreeModel" 16 "CoinTreeModel" "values" "[J" : Cond) ∈ bw := bw_m 478 (by decide +kernel) (by decide +kernel)
theorem m_479 : (.fieldLink "CoinTreeModel" 20 "CoinTreeModel" "counts" "[I" : Cond) ∈ bw := bw_m 479 (by decide +kernel) (by decide +kernel)
theorem m_480 : (.fieldLink "CoinTreeModel" 23 "CoinTreeModel" "stashBlocks" "[I" : Cond) ∈ bw := bw_m 480 (by decide +kernel) (by decide +kernel)
theorem m_481 : (.fieldLink "CoinTreeModel" 26 "CoinTreeModel" "stashLeaves" "[I" : Cond) ∈ bw := bw_m 481 (by decide +kernel) (by decide +kernel)
theorem m_482 : (.fieldLink "CoinTreeModel" 29 "CoinTreeModel" "stashValues" "[J" : Cond) ∈ bw := bw_m 482 (by decide +kernel) (by decide +kernel)
theorem m_483 : (.fieldLink "CoinTreeModel" 32 "CoinTreeModel" "stashed" "[I" : Cond) ∈ bw := bw_m 483 (by decide +kernel) (by decide +kernel)
theorem m_484 : (.fieldLink "CoinTreeModel" 35 "CoinTreeModel" "mapLeaves" "[I" : Cond) ∈ bw := bw_m 484 (by decide +kernel) (by decide +kernel)
theorem m_485 : (.fieldLink "CoinTreeModel" 126 "CoinTreeModel" "most" "I" : Cond) ∈ bw := bw_m 485 (by decide +kernel) (by decide +kernel)
theorem m_486 : (.fieldLink "CoinTreeModel" 129 "CoinTreeModel" "asked" "I" : Cond) ∈ bw := bw_m 486 (by decide +kernel) (by decide +kernel)
theorem m_487 : (.fieldLink "CoinTreeModel" 38 "CoinTreeModel" "traces" "[I" : Cond) ∈ bw := bw_m 487 (by decide +kernel) (by decide +kernel)
theorem m_488 : (.fieldLink "CoinTreeModel" 135 "CoinTreeModel" "traced" "I" : Cond) ∈ bw := bw_m 488 (by decide +kernel) (by decide +kernel)
theorem m_489 : (.fieldLink "CoinTreeModel" 41 "CoinTreeModel" "oldBlocks" "[I" : Cond) ∈ bw := bw_m 489 (by decide +kernel) (by decide +kernel)
theorem m_490 : (.fieldLink "CoinTreeModel" 44 "CoinTreeModel" "oldLeaves" "[I" : Cond) ∈ bw := bw_m 490 (by decide +kernel) (by decide +kernel)
theorem m_491 : (.fieldLink "CoinTreeModel" 47 "CoinTreeModel" "oldValues" "[J" : Cond) ∈ bw := bw_m 491 (by decide +kernel) (by decide +kernel)
theorem m_492 : (.fieldLink "CoinTreeModel" 50 "CoinTreeModel" "oldCounts" "[I" : Cond) ∈ bw := bw_m 492 (by decide +kernel) (by decide +kernel)
theorem m_493 : (.fieldLink "CoinTreeModel" 53 "CoinTreeModel" "oldStashBlocks" "[I" : Cond) ∈ bw := bw_m 493 (by decide +kernel) (by decide +kernel)
theorem m_494 : (.fieldLink "CoinTreeModel" 56 "CoinTreeModel" "oldStashLeaves" "[I" : Cond) ∈ bw := bw_m 494 (by decide +kernel) (by decide +kernel)
theorem m_495 : (.fieldLink "CoinTreeModel" 59 "CoinTreeModel" "oldStashValues" "[J" : Cond) ∈ bw := bw_m 495 (by decide +kernel) (by decide +kernel)
theorem m_496 : (.fieldLink "CoinTreeModel" 62 "CoinTreeModel" "oldStashed" "[I" : Cond) ∈ bw := bw_m 496 (by decide +kernel) (by decide +kernel)
theorem m_497 : (.fieldLink "CoinTreeModel" 65 "CoinTreeModel" "oldMapLeaves" "[I" : Cond) ∈ bw := bw_m 497 (by decide +kernel) (by decide +kernel)
theorem m_498 : (.lays "CoinTreeModel" "CoinTreeModel" "thrown" "I" : Cond) ∈ bw := bw_m 498 (by decide +kernel) (by decide +kernel)
theorem m_500 : (.laysFinal "CoinTreeModel" "CoinTreeModel" "levels" "I" : Cond) ∈ bw := bw_m 500 (by decide +kernel) (by decide +kernel)
theorem m_502 : (.laysFinal "CoinTreeModel" "CoinTreeModel" "slots" "I" : Cond) ∈ bw := bw_m 502 (by decide +kernel) (by decide +kernel)
theorem m_504 : (.laysFinal "CoinTreeModel" "CoinTreeModel" "capacity" "I" : Cond) ∈ bw := bw_m 504 (by decide +kernel) (by decide +kernel)
theorem m_506 : (.laysFinal "CoinTreeModel" "CoinTreeModel" "key" "J" : Cond) ∈ bw := bw_m 506 (by decide +kernel) (by decide +kernel)
theorem m_508 : (.laysFinal "CoinTreeModel" "CoinTreeModel" "blocks" "[I" : Cond) ∈ bw := bw_m 508 (by decide +kernel) (by decide +kernel)
theorem m_510 : (.laysFinal "CoinTreeModel" "CoinTreeModel" "leaves" "[I" : Cond) ∈ bw := bw_m 510 (by decide +kernel) (by decide +kernel)
theorem m_512 : (.laysFinal "CoinTreeModel" "CoinTreeModel" "values" "[J" : Cond) ∈ bw := bw_m 512 (by decide +kernel) (by decide +kernel)
theorem m_514 : (.laysFinal "CoinTreeModel" "CoinTreeModel" "counts" "[I" : Cond) ∈ bw := bw_m 514 (by decide +kernel) (by decide +kernel)
theorem m_516 : (.laysFinal "CoinTreeModel" "CoinTreeModel" "stashBlocks" "[I" : Cond) ∈ bw := bw_m 516 (by decide +kernel) (by decide +kernel)
theorem m_518 : (.laysFinal "CoinTreeModel" "CoinTreeModel" "stashLeaves" "[I" : Cond) ∈ bw := bw_m 518 (by decide +kernel) (by decide +kernel)
theorem m_520 : (.laysFinal "CoinTreeModel" "CoinTreeModel" "stashValues" "[J" : Cond) ∈ bw := bw_m 520 (by decide +kernel) (by decide +kernel)
theorem m_522 : (.laysFinal "CoinTreeModel" "CoinTreeModel" "stashed" "[I" : Cond) ∈ bw := bw_m 522 (by decide +kernel) (by decide +kernel)
theorem m_524 : (.laysFinal "CoinTreeModel" "CoinTreeModel" "mapLeaves" "[I" : Cond) ∈ bw := bw_m 524 (by decide +kernel) (by decide +kernel)
theorem m_526 : (.lays "CoinTreeModel" "CoinTreeModel" "most" "I" : Cond) ∈ bw := bw_m 526 (by decide +kernel) (by decide +kernel)
theorem m_528 : (.lays "CoinTreeModel" "CoinTreeModel" "asked" "I" : Cond) ∈ bw := bw_m 528 (by decide +kernel) (by decide +kernel)
theorem m_530 : (.laysFinal "CoinTreeModel" "CoinTreeModel" "traces" "[I" : Cond) ∈ bw := bw_m 530 (by decide +kernel) (by decide +kernel)
theorem m_532 : (.lays "CoinTreeModel" "CoinTreeModel" "traced" "I" : Cond) ∈ bw := bw_m 532 (by decide +kernel) (by decide +kernel)
theorem m_534 : (.laysFinal "CoinTreeModel" "CoinTreeModel" "oldBlocks" "[I" : Cond) ∈ bw := bw_m 534 (by decide +kernel) (by decide +kernel)
theorem m_536 : (.laysFinal "CoinTreeModel" "CoinTreeModel" "oldLeaves" "[I" : Cond) ∈ bw := bw_m 536 (by decide +kernel) (by decide +kernel)
theorem m_538 : (.laysFinal "CoinTreeModel" "CoinTreeModel" "oldValues" "[J" : Cond) ∈ bw := bw_m 538 (by decide +kernel) (by decide +kernel)
theorem m_540 : (.laysFinal "CoinTreeModel" "CoinTreeModel" "oldCounts" "[I" : Cond) ∈ bw := bw_m 540 (by decide +kernel) (by decide +kernel)
theorem m_542 : (.laysFinal "CoinTreeModel" "CoinTreeModel" "oldStashBlocks" "[I" : Cond) ∈ bw := bw_m 542 (by decide +kernel) (by decide +kernel)
theorem m_544 : (.laysFinal "CoinTreeModel" "CoinTreeModel" "oldStashLeaves" "[I" : Cond) ∈ bw := bw_m 544 (by decide +kernel) (by decide +kernel)
theorem m_546 : (.laysFinal "CoinTreeModel" "CoinTreeModel" "oldStashValues" "[J" : Cond) ∈ bw := bw_m 546 (by decide +kernel) (by decide +kernel)
theorem m_548 : (.laysFinal "CoinTreeModel" "CoinTreeModel" "oldStashed" "[I" : Cond) ∈ bw := bw_m 548 (by decide +kernel) (by decide +kernel)
theorem m_550 : (.laysFinal "CoinTreeModel" "CoinTreeModel" "oldMapLeaves" "[I" : Cond) ∈ bw := bw_m 550 (by decide +kernel) (by decide +kernel)
theorem m_553 : (.methodLink "CoinTreeLaw" 57 y_CM_thrown : Cond) ∈ bw := bw_m 553 (by decide +kernel) (by decide +kernel)
theorem m_554 : (.instanceMethod y_CM_thrown : Cond) ∈ bw := bw_m 554 (by decide +kernel) (by decide +kernel)
theorem m_555 : (.selects "CoinTreeModel" y_CM_thrown y_CM_thrown : Cond) ∈ bw := bw_m 555 (by decide +kernel) (by decide +kernel)
abbrev k_CM_thrown : Cond := .code y_CM_thrown b_CM_thrown 1 (some .int)
theorem m_556 : (k_CM_thrown : Cond) ∈ bw := bw_m 556 (by decide +kernel) (by decide +kernel)
theorem m_557 : (.methodLink "CoinTreeLaw" 56 y_CM_read : Cond) ∈ bw := bw_m 557 (by decide +kernel) (by decide +kernel)
theorem m_558 : (.instanceMethod y_CM_read : Cond) ∈ bw := bw_m 558 (by decide +kernel) (by decide +kernel)
theorem m_559 : (.selects "CoinTreeModel" y_CM_read y_CM_read : Cond) ∈ bw := bw_m 559 (by decide +kernel) (by decide +kernel)
abbrev k_CM_read : Cond := .code y_CM_read b_CM_read 4 (some .long)
theorem m_560 : (k_CM_read : Cond) ∈ bw := bw_m 560 (by decide +kernel) (by decide +kernel)
theorem m_561 : (.methodLink "CoinTreeModel" 138 y_CM_ask : Cond) ∈ bw := bw_m 561 (by decide +kernel) (by decide +kernel)
theorem m_563 : (.instanceMethod y_CM_ask : Cond) ∈ bw := bw_m 563 (by decide +kernel) (by decide +kernel)
abbrev k_CM_ask : Cond := .code y_CM_ask b_CM_ask 19 (some .long)
theorem m_564 : (k_CM_ask : Cond) ∈ bw := bw_m 564 (by decide +kernel) (by decide +kernel)
theorem m_565 : (.methodLink "CoinTreeModel" 108 y_CM_keep : Cond) ∈ bw := bw_m 565 (by decide +kernel) (by decide +kernel)
theorem m_567 : (.instanceMethod y_CM_keep : Cond) ∈ bw := bw_m 567 (by decide +kernel) (by decide +kernel)
abbrev k_CM_keep : Cond := .code y_CM_keep b_CM_keep 2 none
theorem m_568 : (k_CM_keep : Cond) ∈ bw := bw_m 568 (by decide +kernel) (by decide +kernel)
theorem m_569 : (.methodLink "CoinTreeModel" 111 y_CM_gather : Cond) ∈ bw := bw_m 569 (by decide +kernel) (by decide +kernel)
theorem m_571 : (.instanceMethod y_CM_gather : Cond) ∈ bw := bw_m 571 (by decide +kernel) (by decide +kernel)
abbrev k_CM_gather : Cond := .code y_CM_gather b_CM_gather 9 (some .int)
theorem m_572 : (k_CM_gather : Cond) ∈ bw := bw_m 572 (by decide +kernel) (by decide +kernel)
theorem m_573 : (.methodLink "CoinTreeModel" 92 y_CM_place : Cond) ∈ bw := bw_m 573 (by decide +kernel) (by decide +kernel)
theorem m_574 : (.static y_CM_place : Cond) ∈ bw := bw_m 574 (by decide +kernel) (by decide +kernel)
abbrev k_CM_place : Cond := .code y_CM_place b_CM_place 3 (some .int)
theorem m_575 : (k_CM_place : Cond) ∈ bw := bw_m 575 (by decide +kernel) (by decide +kernel)
theorem m_576 : (.methodLink "CoinTreeModel" 96 y_CM_push : Cond) ∈ bw := bw_m 576 (by decide +kernel) (by decide +kernel)
theorem m_578 : (.instanceMethod y_CM_push : Cond) ∈ bw := bw_m 578 (by decide +kernel) (by decide +kernel)
abbrev k_CM_push : Cond := .code y_CM_push b_CM_push 7 none
theorem m_579 : (k_CM_push : Cond) ∈ bw := bw_m 579 (by decide +kernel) (by decide +kernel)
theorem m_580 : (.methodLink "CoinTreeModel" 100 y_CM_find : Cond) ∈ bw := bw_m 580 (by decide +kernel) (by decide +kernel)
theorem m_582 : (.instanceMethod y_CM_find : Cond) ∈ bw := bw_m 582 (by decide +kernel) (by decide +kernel)
abbrev k_CM_find : Cond := .code y_CM_find b_CM_find 4 (some .int)
theorem m_583 : (k_CM_find : Cond) ∈ bw := bw_m 583 (by decide +kernel) (by decide +kernel)
theorem m_584 : (.constant "CoinTreeModel" 114 65535 : Cond) ∈ bw := bw_m 584 (by decide +kernel) (by decide +kernel)
theorem m_585 : (.constantLong "CoinTreeModel" 115 65535 : Cond) ∈ bw := bw_m 585 (by decide +kernel) (by decide +kernel)
theorem m_586 : (.constantLong "CoinTreeModel" 117 (-1) : Cond) ∈ bw := bw_m 586 (by decide +kernel) (by decide +kernel)
theorem m_587 : (.methodLink "CoinTreeModel" 119 y_CM_fill : Cond) ∈ bw := bw_m 587 (by decide +kernel) (by decide +kernel)
theorem m_589 : (.instanceMethod y_CM_fill : Cond) ∈ bw := bw_m 589 (by decide +kernel) (by decide +kernel)
abbrev k_CM_fill : Cond := .code y_CM_fill b_CM_fill 10 (some .boolean)
theorem m_590 : (k_CM_fill : Cond) ∈ bw := bw_m 590 (by decide +kernel) (by decide +kernel)
theorem m_591 : (.methodLink "CoinTreeModel" 104 y_CM_pull : Cond) ∈ bw := bw_m 591 (by decide +kernel) (by decide +kernel)
theorem m_593 : (.instanceMethod y_CM_pull : Cond) ∈ bw := bw_m 593 (by decide +kernel) (by decide +kernel)
abbrev k_CM_pull : Cond := .code y_CM_pull b_CM_pull 4 none
theorem m_594 : (k_CM_pull : Cond) ∈ bw := bw_m 594 (by decide +kernel) (by decide +kernel)
theorem m_595 : (.methodLink "CoinTreeModel" 123 y_CM_takeBack : Cond) ∈ bw := bw_m 595 (by decide +kernel) (by decide +kernel)
theorem m_597 : (.instanceMethod y_CM_takeBack : Cond) ∈ bw := bw_m 597 (by decide +kernel) (by decide +kernel)
abbrev k_CM_takeBack : Cond := .code y_CM_takeBack b_CM_takeBack 2 none
theorem m_598 : (k_CM_takeBack : Cond) ∈ bw := bw_m 598 (by decide +kernel) (by decide +kernel)
theorem m_599 : (.methodLink "CoinTreeModel" 132 y_CM_mark : Cond) ∈ bw := bw_m 599 (by decide +kernel) (by decide +kernel)
theorem m_601 : (.instanceMethod y_CM_mark : Cond) ∈ bw := bw_m 601 (by decide +kernel) (by decide +kernel)
abbrev k_CM_mark : Cond := .code y_CM_mark b_CM_mark 4 none
theorem m_602 : (k_CM_mark : Cond) ∈ bw := bw_m 602 (by decide +kernel) (by decide +kernel)
theorem m_603 : (.methodLink "CoinTreeLaw" 66 y_CM_write : Cond) ∈ bw := bw_m 603 (by decide +kernel) (by decide +kernel)
theorem m_604 : (.instanceMethod y_CM_write : Cond) ∈ bw := bw_m 604 (by decide +kernel) (by decide +kernel)
theorem m_605 : (.selects "CoinTreeModel" y_CM_write y_CM_write : Cond) ∈ bw := bw_m 605 (by decide +kernel) (by decide +kernel)
abbrev k_CM_write : Cond := .code y_CM_write b_CM_write 6 (some .long)
theorem m_606 : (k_CM_write : Cond) ∈ bw := bw_m 606 (by decide +kernel) (by decide +kernel)
theorem m_607 : (.methodLink "CoinTreeLaw" 70 y_CM_trace : Cond) ∈ bw := bw_m 607 (by decide +kernel) (by decide +kernel)
theorem m_608 : (.instanceMethod y_CM_trace : Cond) ∈ bw := bw_m 608 (by decide +kernel) (by decide +kernel)
theorem m_609 : (.selects "CoinTreeModel" y_CM_trace y_CM_trace : Cond) ∈ bw := bw_m 609 (by decide +kernel) (by decide +kernel)
abbrev k_CM_trace : Cond := .code y_CM_trace b_CM_trace 3 (some .int)
theorem m_610 : (k_CM_trace : Cond) ∈ bw := bw_m 610 (by decide +kernel) (by decide +kernel)
theorem m_611 : (.methodLink "CoinTreeModel" 142 y_CM_isTree : Cond) ∈ bw := bw_m 611 (by decide +kernel) (by decide +kernel)
theorem m_612 : (.static y_CM_isTree : Cond) ∈ bw := bw_m 612 (by decide +kernel) (by decide +kernel)
abbrev k_CM_isTree : Cond := .code y_CM_isTree b_CM_isTree 1 (some .boolean)
theorem m_613 : (k_CM_isTree : Cond) ∈ bw := bw_m 613 (by decide +kernel) (by decide +kernel)
theorem m_614 : (.methodLink "CoinTreeLaw" 74 y_CM_stored : Cond) ∈ bw := bw_m 614 (by decide +kernel) (by decide +kernel)
theorem m_615 : (.instanceMethod y_CM_stored : Cond) ∈ bw := bw_m 615 (by decide +kernel) (by decide +kernel)
theorem m_616 : (.selects "CoinTreeModel" y_CM_stored y_CM_stored : Cond) ∈ bw := bw_m 616 (by decide +kernel) (by decide +kernel)
abbrev k_CM_stored : Cond := .code y_CM_stored b_CM_stored 11 (some .long)
theorem m_617 : (k_CM_stored : Cond) ∈ bw := bw_m 617 (by decide +kernel) (by decide +kernel)
theorem m_618 : (.methodLink "CoinTreeModel" 150 y_CM_isNode : Cond) ∈ bw := bw_m 618 (by decide +kernel) (by decide +kernel)
theorem m_620 : (.instanceMethod y_CM_isNode : Cond) ∈ bw := bw_m 620 (by decide +kernel) (by decide +kernel)
abbrev k_CM_isNode : Cond := .code y_CM_isNode b_CM_isNode 3 (some .boolean)
theorem m_621 : (k_CM_isNode : Cond) ∈ bw := bw_m 621 (by decide +kernel) (by decide +kernel)
theorem m_622 : (.constantLong "CoinTreeModel" 153 64 : Cond) ∈ bw := bw_m 622 (by decide +kernel) (by decide +kernel)
theorem m_623 : (.constantLong "CoinTreeModel" 155 4 : Cond) ∈ bw := bw_m 623 (by decide +kernel) (by decide +kernel)
theorem m_624 : (.constantLong "CoinTreeModel" 157 1000003 : Cond) ∈ bw := bw_m 624 (by decide +kernel) (by decide +kernel)
theorem m_625 : (.constantLong "CoinTreeModel" 159 (-7046029254386353131) : Cond) ∈ bw := bw_m 625 (by decide +kernel) (by decide +kernel)
theorem m_626 : (.methodLink "CoinTreeModel" 161 y_CM_mix : Cond) ∈ bw := bw_m 626 (by decide +kernel) (by decide +kernel)
theorem m_627 : (.static y_CM_mix : Cond) ∈ bw := bw_m 627 (by decide +kernel) (by decide +kernel)
abbrev k_CM_mix : Cond := .code y_CM_mix b_CM_mix 4 (some .long)
theorem m_628 : (k_CM_mix : Cond) ∈ bw := bw_m 628 (by decide +kernel) (by decide +kernel)
theorem m_629 : (.constantLong "CoinTreeModel" 146 (-4658895280553007687) : Cond) ∈ bw := bw_m 629 (by decide +kernel) (by decide +kernel)
theorem m_630 : (.constantLong "CoinTreeModel" 148 (-7723592293110705685) : Cond) ∈ bw := bw_m 630 (by decide +kernel) (by decide +kernel)
theorem m_631 : (.methodLink "CoinTreeLaw" 77 y_CM_written : Cond) ∈ bw := bw_m 631 (by decide +kernel) (by decide +kernel)
theorem m_632 : (.instanceMethod y_CM_written : Cond) ∈ bw := bw_m 632 (by decide +kernel) (by decide +kernel)
theorem m_633 : (.selects "CoinTreeModel" y_CM_written y_CM_written : Cond) ∈ bw := bw_m 633 (by decide +kernel) (by decide +kernel)
abbrev k_CM_written : Cond := .code y_CM_written b_CM_written 3 (some .int)
theorem m_634 : (k_CM_written : Cond) ∈ bw := bw_m 634 (by decide +kernel) (by decide +kernel)
theorem m_635 : (.methodLink "CoinTreeLaw" 80 y_CM_stash : Cond) ∈ bw := bw_m 635 (by decide +kernel) (by decide +kernel)
theorem m_636 : (.instanceMethod y_CM_stash : Cond) ∈ bw := bw_m 636 (by decide +kernel) (by decide +kernel)
theorem m_637 : (.selects "CoinTreeModel" y_CM_stash y_CM_stash : Cond) ∈ bw := bw_m 637 (by decide +kernel) (by decide +kernel)
abbrev k_CM_stash : Cond := .code y_CM_stash b_CM_stash 3 (some .int)
theorem m_638 : (k_CM_stash : Cond) ∈ bw := bw_m 638 (by decide +kernel) (by decide +kernel)
theorem m_639 : (.methodLink "CoinTreeLaw" 84 y_CM_count : Cond) ∈ bw := bw_m 639 (by decide +kernel) (by decide +kernel)
theorem m_640 : (.instanceMethod y_CM_count : Cond) ∈ bw := bw_m 640 (by decide +kernel) (by decide +kernel)
theorem m_641 : (.selects "CoinTreeModel" y_CM_count y_CM_count : Cond) ∈ bw := bw_m 641 (by decide +kernel) (by decide +kernel)
abbrev k_CM_count : Cond := .code y_CM_count b_CM_count 2 (some .int)
theorem m_642 : (k_CM_count : Cond) ∈ bw := bw_m 642 (by decide +kernel) (by decide +kernel)
theorem m_643 : (.constantLong "CoinTreeLaw" 61 4294967295 : Cond) ∈ bw := bw_m 643 (by decide +kernel) (by decide +kernel)
theorem i_RW : ∀ w ∈ u_ws R_RW F_RW 4, w ∈ bw := List.forall_mem_cons.mpr ⟨m_88, List.forall_mem_cons.mpr ⟨m_90, List.forall_mem_cons.mpr ⟨m_92, List.forall_mem_cons.mpr ⟨m_94, fun _ h => absurd h List.not_mem_nil⟩⟩⟩⟩
theorem i_TL : ∀ w ∈ u_ws R_TL F_TL 3, w ∈ bw := List.forall_mem_cons.mpr ⟨m_67, List.forall_mem_cons.mpr ⟨m_69, List.forall_mem_cons.mpr ⟨m_71, fun _ h => absurd h List.not_mem_nil⟩⟩⟩
theorem i_TR : ∀ w ∈ u_ws R_TR F_TR 12, w ∈ bw := List.forall_mem_cons.mpr ⟨m_113, List.forall_mem_cons.mpr ⟨m_115, List.forall_mem_cons.mpr ⟨m_117, List.forall_mem_cons.mpr ⟨m_119, List.forall_mem_cons.mpr ⟨m_121, List.forall_mem_cons.mpr ⟨m_123, List.forall_mem_cons.mpr ⟨m_125, List.forall_mem_cons.mpr ⟨m_127, List.forall_mem_cons.mpr ⟨m_129, List.forall_mem_cons.mpr ⟨m_131, List.forall_mem_cons.mpr ⟨m_133, List.forall_mem_cons.mpr ⟨m_135, fun _ h => absurd h List.not_mem_nil⟩⟩⟩⟩⟩⟩⟩⟩⟩⟩⟩⟩
theorem i_CT : ∀ w ∈ u_ws R_CT F_CT 8, w ∈ bw := List.forall_mem_cons.mpr ⟨m_150, List.forall_mem_cons.mpr ⟨m_152, List.forall_mem_cons.mpr ⟨m_154, List.forall_mem_cons.mpr ⟨m_156, List.forall_mem_cons.mpr ⟨m_158, List.forall_mem_cons.mpr ⟨m_160, List.forall_mem_cons.mpr ⟨m_162, List.forall_mem_cons.mpr ⟨m_164, fun _ h => absurd h List.not_mem_nil⟩⟩⟩⟩⟩⟩⟩⟩
theorem i_CM : ∀ w ∈ u_ws R_CM F_CM 27, w ∈ bw := List.forall_mem_cons.mpr ⟨m_498, List.forall_mem_cons.mpr ⟨m_500, List.forall_mem_cons.mpr ⟨m_502, List.forall_mem_cons.mpr ⟨m_504, List.forall_mem_cons.mpr ⟨m_506, List.forall_mem_cons.mpr ⟨m_508, List.forall_mem_cons.mpr ⟨m_510, List.forall_mem_cons.mpr ⟨m_512, List.forall_mem_cons.mpr ⟨m_514, List.forall_mem_cons.mpr ⟨m_516, List.forall_mem_cons.mpr ⟨m_518, List.forall_mem_cons.mpr ⟨m_520, List.forall_mem_cons.mpr ⟨m_522, List.forall_mem_cons.mpr ⟨m_524, List.forall_mem_cons.mpr ⟨m_526, List.forall_mem_cons.mpr ⟨m_528, List.forall_mem_cons.mpr ⟨m_530, List.forall_mem_cons.mpr ⟨m_532, List.forall_mem_cons.mpr ⟨m_534, List.forall_mem_cons.mpr ⟨m_536, List.forall_mem_cons.mpr ⟨m_538, List.forall_mem_cons.mpr ⟨m_540, List.forall_mem_cons.mpr ⟨m_542, List.forall_mem_cons.mpr ⟨m_544, List.forall_mem_cons.mpr ⟨m_546, List.forall_mem_cons.mpr ⟨m_548, List.forall_mem_cons.mpr ⟨m_550, fun _ h => absurd h List.not_mem_nil⟩⟩⟩⟩⟩⟩⟩⟩⟩⟩⟩⟩⟩⟩⟩⟩⟩⟩⟩⟩⟩⟩⟩⟩⟩⟩⟩
end
section
theorem d_TL_init_0 : decode b_TL_init 0 = .ok (.aload_n 0, 1) := by decide +kernel
theorem d_TL_init_1 : decode b_TL_init 1 = .ok (.invokespecial 3, 3) := by decide +kernel
theorem d_TL_init_4 : decode b_TL_init 4 = .ok (.aload_n 0, 1) := by decide +kernel
theorem d_TL_init_5 : decode b_TL_init 5 = .ok (.sipush 600, 3) := by decide +kernel
theorem d_TL_init_8 : decode b_TL_init 8 = .ok (.newarray .int, 2) := by decide +kernel
theorem d_TL_init_10 : decode b_TL_init 10 = .ok (.putfield 9, 3) := by decide +kernel
theorem d_TL_init_13 : decode b_TL_init 13 = .ok (.return_, 1) := by decide +kernel
theorem d_RW_init_0 : decode b_RW_init 0 = .ok (.aload_n 0, 1) := by decide +kernel
theorem d_RW_init_1 : decode b_RW_init 1 = .ok (.invokespecial 3, 3) := by decide +kernel
theorem d_RW_init_4 : decode b_RW_init 4 = .ok (.iconst 0, 1) := by decide +kernel
theorem d_RW_init_5 : decode b_RW_init 5 = .ok (.iload_n 1, 1) := by decide +kernel
theorem d_RW_init_6 : decode b_RW_init 6 = .ok (.invokestatic 9, 3) := by decide +kernel
theorem d_RW_init_9 : decode b_RW_init 9 = .ok (.istore_n 2, 1) := by decide +kernel
theorem d_RW_init_10 : decode b_RW_init 10 = .ok (.aload_n 0, 1) := by decide +kernel
theorem d_RW_init_11 : decode b_RW_init 11 = .ok (.iload_n 2, 1) := by decide +kernel
theorem d_RW_init_12 : decode b_RW_init 12 = .ok (.newarray .int, 2) := by decide +kernel
theorem d_RW_init_14 : decode b_RW_init 14 = .ok (.putfield 15, 3) := by decide +kernel
theorem d_RW_init_17 : decode b_RW_init 17 = .ok (.aload_n 0, 1) := by decide +kernel
theorem d_RW_init_18 : decode b_RW_init 18 = .ok (.iload_n 2, 1) := by decide +kernel
theorem d_RW_init_19 : decode b_RW_init 19 = .ok (.newarray .int, 2) := by decide +kernel
theorem d_RW_init_21 : decode b_RW_init 21 = .ok (.putfield 21, 3) := by decide +kernel
theorem d_RW_init_24 : decode b_RW_init 24 = .ok (.aload_n 0, 1) := by decide +kernel
theorem d_RW_init_25 : decode b_RW_init 25 = .ok (.iload_n 2, 1) := by decide +kernel
theorem d_RW_init_26 : decode b_RW_init 26 = .ok (.newarray .long, 2) := by decide +kernel
theorem d_RW_init_28 : decode b_RW_init 28 = .ok (.putfield 24, 3) := by decide +kernel
theorem d_RW_init_31 : decode b_RW_init 31 = .ok (.return_, 1) := by decide +kernel
theorem d_RW_append_0 : decode b_RW_append 0 = .ok (.aload_n 0, 1) := by decide +kernel
theorem d_RW_append_1 : decode b_RW_append 1 = .ok (.aload_n 0, 1) := by decide +kernel
theorem d_RW_append_2 : decode b_RW_append 2 = .ok (.getfield 47, 3) := by decide +kernel
theorem d_RW_append_5 : decode b_RW_append 5 = .ok (.invokevirtual 28, 3) := by decide +kernel
theorem d_RW_append_8 : decode b_RW_append 8 = .ok (.ifCond .eq 23, 3) := by decide +kernel
theorem d_RW_append_11 : decode b_RW_append 11 = .ok (.aload_n 0, 1) := by decide +kernel
theorem d_RW_append_12 : decode b_RW_append 12 = .ok (.aload_n 0, 1) := by decide +kernel
theorem d_RW_append_13 : decode b_RW_append 13 = .ok (.getfield 47, 3) := by decide +kernel
theorem d_RW_append_16 : decode b_RW_append 16 = .ok (.aload_n 1, 1) := by decide +kernel
theorem d_RW_append_17 : decode b_RW_append 17 = .ok (.iload_n 2, 1) := by decide +kernel
theorem d_RW_append_18 : decode b_RW_append 18 = .ok (.invokevirtual 51, 3) := by decide +kernel
theorem d_RW_append_21 : decode b_RW_append 21 = .ok (.aload_n 0, 1) := by decide +kernel
theorem d_RW_append_22 : decode b_RW_append 22 = .ok (.dup, 1) := by decide +kernel
theorem d_RW_append_23 : decode b_RW_append 23 = .ok (.getfield 47, 3) := by decide +kernel
theorem d_RW_append_26 : decode b_RW_append 26 = .ok (.iconst 1, 1) := by decide +kernel
theorem d_RW_append_27 : decode b_RW_append 27 = .ok (.iadd, 1) := by decide +kernel
theorem d_RW_append_28 : decode b_RW_append 28 = .ok (.putfield 47, 3) := by decide +kernel
theorem d_RW_append_31 : decode b_RW_append 31 = .ok (.return_, 1) := by decide +kernel
theorem d_RW_has_0 : decode b_RW_has 0 = .ok (.iload_n 1, 1) := by decide +kernel
theorem d_RW_has_1 : decode b_RW_has 1 = .ok (.ifCond .lt 16, 3) := by decide +kernel
theorem d_RW_has_4 : decode b_RW_has 4 = .ok (.iload_n 1, 1) := by decide +kernel
theorem d_RW_has_5 : decode b_RW_has 5 = .ok (.aload_n 0, 1) := by decide +kernel
theorem d_RW_has_6 : decode b_RW_has 6 = .ok (.getfield 15, 3) := by decide +kernel
theorem d_RW_has_9 : decode b_RW_has 9 = .ok (.arraylength, 1) := by decide +kernel
theorem d_RW_has_10 : decode b_RW_has 10 = .ok (.if_icmp .ge 7, 3) := by decide +kernel
theorem d_RW_has_13 : decode b_RW_has 13 = .ok (.iconst 1, 1) := by decide +kernel
theorem d_RW_has_14 : decode b_RW_has 14 = .ok (.goto 4, 3) := by decide +kernel
theorem d_RW_has_17 : decode b_RW_has 17 = .ok (.iconst 0, 1) := by decide +kernel
theorem d_RW_has_18 : decode b_RW_has 18 = .ok (.ireturn, 1) := by decide +kernel
theorem d_RW_copy_0 : decode b_RW_copy 0 = .ok (.aload_n 0, 1) := by decide +kernel
theorem d_RW_copy_1 : decode b_RW_copy 1 = .ok (.iload_n 1, 1) := by decide +kernel
theorem d_RW_copy_2 : decode b_RW_copy 2 = .ok (.aload_n 2, 1) := by decide +kernel
theorem d_RW_copy_3 : decode b_RW_copy 3 = .ok (.iload_n 3, 1) := by decide +kernel
theorem d_RW_copy_4 : decode b_RW_copy 4 = .ok (.invokevirtual 32, 3) := by decide +kernel
theorem d_RW_copy_7 : decode b_RW_copy 7 = .ok (.aload_n 2, 1) := by decide +kernel
theorem d_RW_copy_8 : decode b_RW_copy 8 = .ok (.iload_n 3, 1) := by decide +kernel
theorem d_RW_copy_9 : decode b_RW_copy 9 = .ok (.invokevirtual 36, 3) := by decide +kernel
theorem d_RW_copy_12 : decode b_RW_copy 12 = .ok (.aload_n 2, 1) := by decide +kernel
theorem d_RW_copy_13 : decode b_RW_copy 13 = .ok (.iload_n 3, 1) := by decide +kernel
theorem d_RW_copy_14 : decode b_RW_copy 14 = .ok (.invokevirtual 39, 3) := by decide +kernel
theorem d_RW_copy_17 : decode b_RW_copy 17 = .ok (.invokevirtual 43, 3) := by decide +kernel
theorem d_RW_copy_20 : decode b_RW_copy 20 = .ok (.return_, 1) := by decide +kernel
theorem d_RW_markAt_0 : decode b_RW_markAt 0 = .ok (.aload_n 0, 1) := by decide +kernel
theorem d_RW_markAt_1 : decode b_RW_markAt 1 = .ok (.iload_n 1, 1) := by decide +kernel
theorem d_RW_markAt_2 : decode b_RW_markAt 2 = .ok (.invokevirtual 28, 3) := by decide +kernel
theorem d_RW_markAt_5 : decode b_RW_markAt 5 = .ok (.ifCond .eq 12, 3) := by decide +kernel
theorem d_RW_markAt_8 : decode b_RW_markAt 8 = .ok (.aload_n 0, 1) := by decide +kernel
theorem d_RW_markAt_9 : decode b_RW_markAt 9 = .ok (.getfield 15, 3) := by decide +kernel
theorem d_RW_markAt_12 : decode b_RW_markAt 12 = .ok (.iload_n 1, 1) := by decide +kernel
theorem d_RW_markAt_13 : decode b_RW_markAt 13 = .ok (.iaload, 1) := by decide +kernel
theorem d_RW_markAt_14 : decode b_RW_markAt 14 = .ok (.goto 4, 3) := by decide +kernel
theorem d_RW_markAt_17 : decode b_RW_markAt 17 = .ok (.iconst 0, 1) := by decide +kernel
theorem d_RW_markAt_18 : decode b_RW_markAt 18 = .ok (.ireturn, 1) := by decide +kernel
theorem d_RW_leafAt_0 : decode b_RW_leafAt 0 = .ok (.aload_n 0, 1) := by decide +kernel
theorem d_RW_leafAt_1 : decode b_RW_leafAt 1 = .ok (.iload_n 1, 1) := by decide +kernel
theorem d_RW_leafAt_2 : decode b_RW_leafAt 2 = .ok (.invokevirtual 28, 3) := by decide +kernel
theorem d_RW_leafAt_5 : decode b_RW_leafAt 5 = .ok (.ifCond .eq 12, 3) := by decide +kernel
theorem d_RW_leafAt_8 : decode b_RW_leafAt 8 = .ok (.aload_n 0, 1) := by decide +kernel
theorem d_RW_leafAt_9 : decode b_RW_leafAt 9 = .ok (.getfield 21, 3) := by decide +kernel
theorem d_RW_leafAt_12 : decode b_RW_leafAt 12 = .ok (.iload_n 1, 1) := by decide +kernel
theorem d_RW_leafAt_13 : decode b_RW_leafAt 13 = .ok (.iaload, 1) := by decide +kernel
theorem d_RW_leafAt_14 : decode b_RW_leafAt 14 = .ok (.goto 4, 3) := by decide +kernel
theorem d_RW_leafAt_17 : decode b_RW_leafAt 17 = .ok (.iconst 0, 1) := by decide +kernel
theorem d_RW_leafAt_18 : decode b_RW_leafAt 18 = .ok (.ireturn, 1) := by decide +kernel
theorem d_RW_valueAt_0 : decode b_RW_valueAt 0 = .ok (.aload_n 0, 1) := by decide +kernel
theorem d_RW_valueAt_1 : decode b_RW_valueAt 1 = .ok (.iload_n 1, 1) := by decide +kernel
theorem d_RW_valueAt_2 : decode b_RW_valueAt 2 = .ok (.invokevirtual 28, 3) := by decide +kernel
theorem d_RW_valueAt_5 : decode b_RW_valueAt 5 = .ok (.ifCond .eq 12, 3) := by decide +kernel
theorem d_RW_valueAt_8 : decode b_RW_valueAt 8 = .ok (.aload_n 0, 1) := by decide +kernel
theorem d_RW_valueAt_9 : decode b_RW_valueAt 9 = .ok (.getfield 24, 3) := by decide +kernel
theorem d_RW_valueAt_12 : decode b_RW_valueAt 12 = .ok (.iload_n 1, 1) := by decide +kernel
theorem d_RW_valueAt_13 : decode b_RW_valueAt 13 = .ok (.laload, 1) := by decide +kernel
theorem d_RW_valueAt_14 : decode b_RW_valueAt 14 = .ok (.goto 4, 3) := by decide +kernel
theorem d_RW_valueAt_17 : decode b_RW_valueAt 17 = .ok (.lconst 0, 1) := by decide +kernel
theorem d_RW_valueAt_18 : decode b_RW_valueAt 18 = .ok (.lreturn, 1) := by decide +kernel
theorem d_RW_put_0 : decode b_RW_put 0 = .ok (.aload_n 0, 1) := by decide +kernel
theorem d_RW_put_1 : decode b_RW_put 1 = .ok (.iload_n 1, 1) := by decide +kernel
theorem d_RW_put_2 : decode b_RW_put 2 = .ok (.invokevirtual 28, 3) := by decide +kernel
theorem d_RW_put_5 : decode b_RW_put 5 = .ok (.ifCond .eq 25, 3) := by decide +kernel
theorem d_RW_put_8 : decode b_RW_put 8 = .ok (.aload_n 0, 1) := by decide +kernel
theorem d_RW_put_9 : decode b_RW_put 9 = .ok (.getfield 15, 3) := by decide +kernel
theorem d_RW_put_12 : decode b_RW_put 12 = .ok (.iload_n 1, 1) := by decide +kernel
theorem d_RW_put_13 : decode b_RW_put 13 = .ok (.iload_n 2, 1) := by decide +kernel
theorem d_RW_put_14 : decode b_RW_put 14 = .ok (.iastore, 1) := by decide +kernel
theorem d_RW_put_15 : decode b_RW_put 15 = .ok (.aload_n 0, 1) := by decide +kernel
theorem d_RW_put_16 : decode b_RW_put 16 = .ok (.getfield 21, 3) := by decide +kernel
theorem d_RW_put_19 : decode b_RW_put 19 = .ok (.iload_n 1, 1) := by decide +kernel
theorem d_RW_put_20 : decode b_RW_put 20 = .ok (.iload_n 3, 1) := by decide +kernel
theorem d_RW_put_21 : decode b_RW_put 21 = .ok (.iastore, 1) := by decide +kernel
theorem d_RW_put_22 : decode b_RW_put 22 = .ok (.aload_n 0, 1) := by decide +kernel
theorem d_RW_put_23 : decode b_RW_put 23 = .ok (.getfield 24, 3) := by decide +kernel
theorem d_RW_put_26 : decode b_RW_put 26 = .ok (.iload_n 1, 1) := by decide +kernel
theorem d_RW_put_27 : decode b_RW_put 27 = .ok (.lload 4, 2) := by decide +kernel
theorem d_RW_put_29 : decode b_RW_put 29 = .ok (.lastore, 1) := by decide +kernel
theorem d_RW_put_30 : decode b_RW_put 30 = .ok (.return_, 1) := by decide +kernel
theorem d_RW_find_0 : decode b_RW_find 0 = .ok (.iconst 0, 1) := by decide +kernel
theorem d_RW_find_1 : decode b_RW_find 1 = .ok (.istore_n 2, 1) := by decide +kernel
theorem d_RW_find_2 : decode b_RW_find 2 = .ok (.iload_n 2, 1) := by decide +kernel
theorem d_RW_find_3 : decode b_RW_find 3 = .ok (.aload_n 0, 1) := by decide +kernel
theorem d_RW_find_4 : decode b_RW_find 4 = .ok (.getfield 47, 3) := by decide +kernel
theorem d_RW_find_7 : decode b_RW_find 7 = .ok (.if_icmp .ge 30, 3) := by decide +kernel
theorem d_RW_find_10 : decode b_RW_find 10 = .ok (.iload_n 2, 1) := by decide +kernel
theorem d_RW_find_11 : decode b_RW_find 11 = .ok (.aload_n 0, 1) := by decide +kernel
theorem d_RW_find_12 : decode b_RW_find 12 = .ok (.getfield 15, 3) := by decide +kernel
theorem d_RW_find_15 : decode b_RW_find 15 = .ok (.arraylength, 1) := by decide +kernel
theorem d_RW_find_16 : decode b_RW_find 16 = .ok (.if_icmp .ge 21, 3) := by decide +kernel
theorem d_RW_find_19 : decode b_RW_find 19 = .ok (.aload_n 0, 1) := by decide +kernel
theorem d_RW_find_20 : decode b_RW_find 20 = .ok (.getfield 15, 3) := by decide +kernel
theorem d_RW_find_23 : decode b_RW_find 23 = .ok (.iload_n 2, 1) := by decide +kernel
theorem d_RW_find_24 : decode b_RW_find 24 = .ok (.iaload, 1) := by decide +kernel
theorem d_RW_find_25 : decode b_RW_find 25 = .ok (.iload_n 1, 1) := by decide +kernel
theorem d_RW_find_26 : decode b_RW_find 26 = .ok (.if_icmp .ne 5, 3) := by decide +kernel
theorem d_RW_find_29 : decode b_RW_find 29 = .ok (.iload_n 2, 1) := by decide +kernel
theorem d_RW_find_30 : decode b_RW_find 30 = .ok (.ireturn, 1) := by decide +kernel
theorem d_RW_find_31 : decode b_RW_find 31 = .ok (.iinc 2 1, 3) := by decide +kernel
theorem d_RW_find_34 : decode b_RW_find 34 = .ok (.goto (-32), 3) := by decide +kernel
theorem d_RW_find_37 : decode b_RW_find 37 = .ok (.iconst (-1), 1) := by decide +kernel
theorem d_RW_find_38 : decode b_RW_find 38 = .ok (.ireturn, 1) := by decide +kernel
theorem d_RW_appendNew_0 : decode b_RW_appendNew 0 = .ok (.aload_n 0, 1) := by decide +kernel
theorem d_RW_appendNew_1 : decode b_RW_appendNew 1 = .ok (.aload_n 0, 1) := by decide +kernel
theorem d_RW_appendNew_2 : decode b_RW_appendNew 2 = .ok (.getfield 47, 3) := by decide +kernel
theorem d_RW_appendNew_5 : decode b_RW_appendNew 5 = .ok (.invokevirtual 28, 3) := by decide +kernel
theorem d_RW_appendNew_8 : decode b_RW_appendNew 8 = .ok (.ifCond .eq 24, 3) := by decide +kernel
theorem d_RW_appendNew_11 : decode b_RW_appendNew 11 = .ok (.aload_n 0, 1) := by decide +kernel
theorem d_RW_appendNew_12 : decode b_RW_appendNew 12 = .ok (.aload_n 0, 1) := by decide +kernel
theorem d_RW_appendNew_13 : decode b_RW_appendNew 13 = .ok (.getfield 47, 3) := by decide +kernel
theorem d_RW_appendNew_16 : decode b_RW_appendNew 16 = .ok (.iload_n 1, 1) := by decide +kernel
theorem d_RW_appendNew_17 : decode b_RW_appendNew 17 = .ok (.iconst 0, 1) := by decide +kernel
theorem d_RW_appendNew_18 : decode b_RW_appendNew 18 = .ok (.lconst 0, 1) := by decide +kernel
theorem d_RW_appendNew_19 : decode b_RW_appendNew 19 = .ok (.invokevirtual 43, 3) := by decide +kernel
theorem d_RW_appendNew_22 : decode b_RW_appendNew 22 = .ok (.aload_n 0, 1) := by decide +kernel
theorem d_RW_appendNew_23 : decode b_RW_appendNew 23 = .ok (.dup, 1) := by decide +kernel
theorem d_RW_appendNew_24 : decode b_RW_appendNew 24 = .ok (.getfield 47, 3) := by decide +kernel
theorem d_RW_appendNew_27 : decode b_RW_appendNew 27 = .ok (.iconst 1, 1) := by decide +kernel
theorem d_RW_appendNew_28 : decode b_RW_appendNew 28 = .ok (.iadd, 1) := by decide +kernel
theorem d_RW_appendNew_29 : decode b_RW_appendNew 29 = .ok (.putfield 47, 3) := by decide +kernel
theorem d_RW_appendNew_32 : decode b_RW_appendNew 32 = .ok (.return_, 1) := by decide +kernel
theorem d_TL_add_0 : decode b_TL_add 0 = .ok (.aload_n 0, 1) := by decide +kernel
theorem d_TL_add_1 : decode b_TL_add 1 = .ok (.getfield 15, 3) := by decide +kernel
theorem d_TL_add_4 : decode b_TL_add 4 = .ok (.ifCond .lt 13, 3) := by decide +kernel
theorem d_TL_add_7 : decode b_TL_add 7 = .ok (.aload_n 0, 1) := by decide +kernel
theorem d_TL_add_8 : decode b_TL_add 8 = .ok (.getfield 15, 3) := by decide +kernel
theorem d_TL_add_11 : decode b_TL_add 11 = .ok (.sipush 600, 3) := by decide +kernel
theorem d_TL_add_14 : decode b_TL_add 14 = .ok (.if_icmp .lt 8, 3) := by decide +kernel
theorem d_TL_add_17 : decode b_TL_add 17 = .ok (.aload_n 0, 1) := by decide +kernel
theorem d_TL_add_18 : decode b_TL_add 18 = .ok (.iconst 0, 1) := by decide +kernel
theorem d_TL_add_19 : decode b_TL_add 19 = .ok (.putfield 15, 3) := by decide +kernel
theorem d_TL_add_22 : decode b_TL_add 22 = .ok (.aload_n 0, 1) := by decide +kernel
theorem d_TL_add_23 : decode b_TL_add 23 = .ok (.getfield 9, 3) := by decide +kernel
theorem d_TL_add_26 : decode b_TL_add 26 = .ok (.aload_n 0, 1) := by decide +kernel
theorem d_TL_add_27 : decode b_TL_add 27 = .ok (.getfield 15, 3) := by decide +kernel
theorem d_TL_add_30 : decode b_TL_add 30 = .ok (.iload_n 1, 1) := by decide +kernel
theorem d_TL_add_31 : decode b_TL_add 31 = .ok (.iastore, 1) := by decide +kernel
theorem d_TL_add_32 : decode b_TL_add 32 = .ok (.aload_n 0, 1) := by decide +kernel
theorem d_TL_add_33 : decode b_TL_add 33 = .ok (.dup, 1) := by decide +kernel
theorem d_TL_add_34 : decode b_TL_add 34 = .ok (.getfield 15, 3) := by decide +kernel
theorem d_TL_add_37 : decode b_TL_add 37 = .ok (.iconst 1, 1) := by decide +kernel
theorem d_TL_add_38 : decode b_TL_add 38 = .ok (.iadd, 1) := by decide +kernel
theorem d_TL_add_39 : decode b_TL_add 39 = .ok (.putfield 15, 3) := by decide +kernel
theorem d_TL_add_42 : decode b_TL_add 42 = .ok (.aload_n 0, 1) := by decide +kernel
theorem d_TL_add_43 : decode b_TL_add 43 = .ok (.aload_n 0, 1) := by decide +kernel
theorem d_TL_add_44 : decode b_TL_add 44 = .ok (.getfield 19, 3) := by decide +kernel
theorem d_TL_add_47 : decode b_TL_add 47 = .ok (.iconst 1, 1) := by decide +kernel
theorem d_TL_add_48 : decode b_TL_add 48 = .ok (.iadd, 1) := by decide +kernel
theorem d_TL_add_49 : decode b_TL_add 49 = .ok (.sipush 600, 3) := by decide +kernel
theorem d_TL_add_52 : decode b_TL_add 52 = .ok (.invokestatic 22, 3) := by decide +kernel
theorem d_TL_add_55 : decode b_TL_add 55 = .ok (.putfield 19, 3) := by decide +kernel
theorem d_TL_add_58 : decode b_TL_add 58 = .ok (.return_, 1) := by decide +kernel
theorem d_TL_leafAt_0 : decode b_TL_leafAt 0 = .ok (.aload_n 0, 1) := by decide +kernel
theorem d_TL_leafAt_1 : decode b_TL_leafAt 1 = .ok (.getfield 19, 3) := by decide +kernel
theorem d_TL_leafAt_4 : decode b_TL_leafAt 4 = .ok (.sipush 600, 3) := by decide +kernel
theorem d_TL_leafAt_7 : decode b_TL_leafAt 7 = .ok (.if_icmp .ge 7, 3) := by decide +kernel
theorem d_TL_leafAt_10 : decode b_TL_leafAt 10 = .ok (.iconst 0, 1) := by decide +kernel
theorem d_TL_leafAt_11 : decode b_TL_leafAt 11 = .ok (.goto 7, 3) := by decide +kernel
theorem d_TL_leafAt_14 : decode b_TL_leafAt 14 = .ok (.aload_n 0, 1) := by decide +kernel
theorem d_TL_leafAt_15 : decode b_TL_leafAt 15 = .ok (.getfield 15, 3) := by decide +kernel
theorem d_TL_leafAt_18 : decode b_TL_leafAt 18 = .ok (.istore_n 2, 1) := by decide +kernel
theorem d_TL_leafAt_19 : decode b_TL_leafAt 19 = .ok (.iload_n 2, 1) := by decide +kernel
theorem d_TL_leafAt_20 : decode b_TL_leafAt 20 = .ok (.iload_n 1, 1) := by decide +kernel
theorem d_TL_leafAt_21 : decode b_TL_leafAt 21 = .ok (.iadd, 1) := by decide +kernel
theorem d_TL_leafAt_22 : decode b_TL_leafAt 22 = .ok (.sipush 600, 3) := by decide +kernel
theorem d_TL_leafAt_25 : decode b_TL_leafAt 25 = .ok (.irem, 1) := by decide +kernel
theorem d_TL_leafAt_26 : decode b_TL_leafAt 26 = .ok (.istore_n 3, 1) := by decide +kernel
theorem d_TL_leafAt_27 : decode b_TL_leafAt 27 = .ok (.iload_n 3, 1) := by decide +kernel
theorem d_TL_leafAt_28 : decode b_TL_leafAt 28 = .ok (.ifCond .lt 12, 3) := by decide +kernel
theorem d_TL_leafAt_31 : decode b_TL_leafAt 31 = .ok (.aload_n 0, 1) := by decide +kernel
theorem d_TL_leafAt_32 : decode b_TL_leafAt 32 = .ok (.getfield 9, 3) := by decide +kernel
theorem d_TL_leafAt_35 : decode b_TL_leafAt 35 = .ok (.iload_n 3, 1) := by decide +kernel
theorem d_TL_leafAt_36 : decode b_TL_leafAt 36 = .ok (.iaload, 1) := by decide +kernel
theorem d_TL_leafAt_37 : decode b_TL_leafAt 37 = .ok (.goto 4, 3) := by decide +kernel
theorem d_TL_leafAt_40 : decode b_TL_leafAt 40 = .ok (.iconst 0, 1) := by decide +kernel
theorem d_TL_leafAt_41 : decode b_TL_leafAt 41 = .ok (.ireturn, 1) := by decide +kernel
end
section
theorem d_TR_init_0 : decode b_TR_init 0 = .ok (.aload_n 0, 1) := by decide +kernel
theorem d_TR_init_1 : decode b_TR_init 1 = .ok (.invokespecial 3, 3) := by decide +kernel
theorem d_TR_init_4 : decode b_TR_init 4 = .ok (.aload_n 0, 1) := by decide +kernel
theorem d_TR_init_5 : decode b_TR_init 5 = .ok (.new 9, 3) := by decide +kernel
theorem d_TR_init_8 : decode b_TR_init 8 = .ok (.dup, 1) := by decide +kernel
theorem d_TR_init_9 : decode b_TR_init 9 = .ok (.invokespecial 11, 3) := by decide +kernel
theorem d_TR_init_12 : decode b_TR_init 12 = .ok (.putfield 12, 3) := by decide +kernel
theorem d_TR_init_15 : decode b_TR_init 15 = .ok (.aload_n 0, 1) := by decide +kernel
theorem d_TR_init_16 : decode b_TR_init 16 = .ok (.iload_n 1, 1) := by decide +kernel
theorem d_TR_init_17 : decode b_TR_init 17 = .ok (.putfield 18, 3) := by decide +kernel
theorem d_TR_init_20 : decode b_TR_init 20 = .ok (.aload_n 0, 1) := by decide +kernel
theorem d_TR_init_21 : decode b_TR_init 21 = .ok (.iconst 1, 1) := by decide +kernel
theorem d_TR_init_22 : decode b_TR_init 22 = .ok (.iload_n 1, 1) := by decide +kernel
theorem d_TR_init_23 : decode b_TR_init 23 = .ok (.ishl, 1) := by decide +kernel
theorem d_TR_init_24 : decode b_TR_init 24 = .ok (.putfield 22, 3) := by decide +kernel
theorem d_TR_init_27 : decode b_TR_init 27 = .ok (.aload_n 0, 1) := by decide +kernel
theorem d_TR_init_28 : decode b_TR_init 28 = .ok (.iload_n 2, 1) := by decide +kernel
theorem d_TR_init_29 : decode b_TR_init 29 = .ok (.putfield 25, 3) := by decide +kernel
theorem d_TR_init_32 : decode b_TR_init 32 = .ok (.aload_n 0, 1) := by decide +kernel
theorem d_TR_init_33 : decode b_TR_init 33 = .ok (.iload_n 3, 1) := by decide +kernel
theorem d_TR_init_34 : decode b_TR_init 34 = .ok (.putfield 28, 3) := by decide +kernel
theorem d_TR_init_37 : decode b_TR_init 37 = .ok (.aload_n 0, 1) := by decide +kernel
theorem d_TR_init_38 : decode b_TR_init 38 = .ok (.new 31, 3) := by decide +kernel
theorem d_TR_init_41 : decode b_TR_init 41 = .ok (.dup, 1) := by decide +kernel
theorem d_TR_init_42 : decode b_TR_init 42 = .ok (.iconst 2, 1) := by decide +kernel
theorem d_TR_init_43 : decode b_TR_init 43 = .ok (.aload_n 0, 1) := by decide +kernel
theorem d_TR_init_44 : decode b_TR_init 44 = .ok (.getfield 22, 3) := by decide +kernel
theorem d_TR_init_47 : decode b_TR_init 47 = .ok (.imul, 1) := by decide +kernel
theorem d_TR_init_48 : decode b_TR_init 48 = .ok (.iload_n 2, 1) := by decide +kernel
theorem d_TR_init_49 : decode b_TR_init 49 = .ok (.imul, 1) := by decide +kernel
theorem d_TR_init_50 : decode b_TR_init 50 = .ok (.invokespecial 33, 3) := by decide +kernel
theorem d_TR_init_53 : decode b_TR_init 53 = .ok (.putfield 36, 3) := by decide +kernel
theorem d_TR_init_56 : decode b_TR_init 56 = .ok (.aload_n 0, 1) := by decide +kernel
theorem d_TR_init_57 : decode b_TR_init 57 = .ok (.iconst 2, 1) := by decide +kernel
theorem d_TR_init_58 : decode b_TR_init 58 = .ok (.aload_n 0, 1) := by decide +kernel
theorem d_TR_init_59 : decode b_TR_init 59 = .ok (.getfield 22, 3) := by decide +kernel
theorem d_TR_init_62 : decode b_TR_init 62 = .ok (.imul, 1) := by decide +kernel
theorem d_TR_init_63 : decode b_TR_init 63 = .ok (.newarray .int, 2) := by decide +kernel
theorem d_TR_init_65 : decode b_TR_init 65 = .ok (.putfield 40, 3) := by decide +kernel
theorem d_TR_init_68 : decode b_TR_init 68 = .ok (.aload_n 0, 1) := by decide +kernel
theorem d_TR_init_69 : decode b_TR_init 69 = .ok (.new 31, 3) := by decide +kernel
theorem d_TR_init_72 : decode b_TR_init 72 = .ok (.dup, 1) := by decide +kernel
theorem d_TR_init_73 : decode b_TR_init 73 = .ok (.iload_n 3, 1) := by decide +kernel
theorem d_TR_init_74 : decode b_TR_init 74 = .ok (.invokespecial 33, 3) := by decide +kernel
theorem d_TR_init_77 : decode b_TR_init 77 = .ok (.putfield 44, 3) := by decide +kernel
theorem d_TR_init_80 : decode b_TR_init 80 = .ok (.aload_n 0, 1) := by decide +kernel
theorem d_TR_init_81 : decode b_TR_init 81 = .ok (.new 31, 3) := by decide +kernel
theorem d_TR_init_84 : decode b_TR_init 84 = .ok (.dup, 1) := by decide +kernel
theorem d_TR_init_85 : decode b_TR_init 85 = .ok (.iload 4, 2) := by decide +kernel
theorem d_TR_init_87 : decode b_TR_init 87 = .ok (.invokespecial 33, 3) := by decide +kernel
theorem d_TR_init_90 : decode b_TR_init 90 = .ok (.putfield 47, 3) := by decide +kernel
theorem d_TR_init_93 : decode b_TR_init 93 = .ok (.aload_n 0, 1) := by decide +kernel
theorem d_TR_init_94 : decode b_TR_init 94 = .ok (.iload 4, 2) := by decide +kernel
theorem d_TR_init_96 : decode b_TR_init 96 = .ok (.newarray .int, 2) := by decide +kernel
theorem d_TR_init_98 : decode b_TR_init 98 = .ok (.putfield 50, 3) := by decide +kernel
theorem d_TR_init_101 : decode b_TR_init 101 = .ok (.return_, 1) := by decide +kernel
theorem d_TR_leafModulo_0 : decode b_TR_leafModulo 0 = .ok (.iload_n 1, 1) := by decide +kernel
theorem d_TR_leafModulo_1 : decode b_TR_leafModulo 1 = .ok (.aload_n 0, 1) := by decide +kernel
theorem d_TR_leafModulo_2 : decode b_TR_leafModulo 2 = .ok (.getfield 22, 3) := by decide +kernel
theorem d_TR_leafModulo_5 : decode b_TR_leafModulo 5 = .ok (.iconst 1, 1) := by decide +kernel
theorem d_TR_leafModulo_6 : decode b_TR_leafModulo 6 = .ok (.isub, 1) := by decide +kernel
theorem d_TR_leafModulo_7 : decode b_TR_leafModulo 7 = .ok (.iand, 1) := by decide +kernel
theorem d_TR_leafModulo_8 : decode b_TR_leafModulo 8 = .ok (.ireturn, 1) := by decide +kernel
theorem d_TR_hasLeaf_0 : decode b_TR_hasLeaf 0 = .ok (.iload_n 1, 1) := by decide +kernel
theorem d_TR_hasLeaf_1 : decode b_TR_hasLeaf 1 = .ok (.ifCond .lt 15, 3) := by decide +kernel
theorem d_TR_hasLeaf_4 : decode b_TR_hasLeaf 4 = .ok (.iload_n 1, 1) := by decide +kernel
theorem d_TR_hasLeaf_5 : decode b_TR_hasLeaf 5 = .ok (.aload_n 0, 1) := by decide +kernel
theorem d_TR_hasLeaf_6 : decode b_TR_hasLeaf 6 = .ok (.getfield 22, 3) := by decide +kernel
theorem d_TR_hasLeaf_9 : decode b_TR_hasLeaf 9 = .ok (.if_icmp .ge 7, 3) := by decide +kernel
theorem d_TR_hasLeaf_12 : decode b_TR_hasLeaf 12 = .ok (.iconst 1, 1) := by decide +kernel
theorem d_TR_hasLeaf_13 : decode b_TR_hasLeaf 13 = .ok (.goto 4, 3) := by decide +kernel
theorem d_TR_hasLeaf_16 : decode b_TR_hasLeaf 16 = .ok (.iconst 0, 1) := by decide +kernel
theorem d_TR_hasLeaf_17 : decode b_TR_hasLeaf 17 = .ok (.ireturn, 1) := by decide +kernel
theorem d_TR_gather_0 : decode b_TR_gather 0 = .ok (.aload_n 0, 1) := by decide +kernel
theorem d_TR_gather_1 : decode b_TR_gather 1 = .ok (.iload_n 2, 1) := by decide +kernel
theorem d_TR_gather_2 : decode b_TR_gather 2 = .ok (.putfield 68, 3) := by decide +kernel
theorem d_TR_gather_5 : decode b_TR_gather 5 = .ok (.aload_n 0, 1) := by decide +kernel
theorem d_TR_gather_6 : decode b_TR_gather 6 = .ok (.getfield 47, 3) := by decide +kernel
theorem d_TR_gather_9 : decode b_TR_gather 9 = .ok (.iconst 0, 1) := by decide +kernel
theorem d_TR_gather_10 : decode b_TR_gather 10 = .ok (.putfield 71, 3) := by decide +kernel
theorem d_TR_gather_13 : decode b_TR_gather 13 = .ok (.iconst 0, 1) := by decide +kernel
theorem d_TR_gather_14 : decode b_TR_gather 14 = .ok (.istore_n 3, 1) := by decide +kernel
theorem d_TR_gather_15 : decode b_TR_gather 15 = .ok (.iload_n 3, 1) := by decide +kernel
theorem d_TR_gather_16 : decode b_TR_gather 16 = .ok (.aload_n 0, 1) := by decide +kernel
theorem d_TR_gather_17 : decode b_TR_gather 17 = .ok (.getfield 44, 3) := by decide +kernel
theorem d_TR_gather_20 : decode b_TR_gather 20 = .ok (.getfield 71, 3) := by decide +kernel
theorem d_TR_gather_23 : decode b_TR_gather 23 = .ok (.if_icmp .ge 21, 3) := by decide +kernel
theorem d_TR_gather_26 : decode b_TR_gather 26 = .ok (.aload_n 0, 1) := by decide +kernel
theorem d_TR_gather_27 : decode b_TR_gather 27 = .ok (.getfield 47, 3) := by decide +kernel
theorem d_TR_gather_30 : decode b_TR_gather 30 = .ok (.aload_n 0, 1) := by decide +kernel
theorem d_TR_gather_31 : decode b_TR_gather 31 = .ok (.getfield 44, 3) := by decide +kernel
theorem d_TR_gather_34 : decode b_TR_gather 34 = .ok (.iload_n 3, 1) := by decide +kernel
theorem d_TR_gather_35 : decode b_TR_gather 35 = .ok (.invokevirtual 74, 3) := by decide +kernel
theorem d_TR_gather_38 : decode b_TR_gather 38 = .ok (.iinc 3 1, 3) := by decide +kernel
theorem d_TR_gather_41 : decode b_TR_gather 41 = .ok (.goto (-26), 3) := by decide +kernel
theorem d_TR_gather_44 : decode b_TR_gather 44 = .ok (.iconst 0, 1) := by decide +kernel
theorem d_TR_gather_45 : decode b_TR_gather 45 = .ok (.istore_n 3, 1) := by decide +kernel
theorem d_TR_gather_46 : decode b_TR_gather 46 = .ok (.iload_n 3, 1) := by decide +kernel
theorem d_TR_gather_47 : decode b_TR_gather 47 = .ok (.aload_n 0, 1) := by decide +kernel
theorem d_TR_gather_48 : decode b_TR_gather 48 = .ok (.getfield 18, 3) := by decide +kernel
theorem d_TR_gather_51 : decode b_TR_gather 51 = .ok (.if_icmp .gt 19, 3) := by decide +kernel
theorem d_TR_gather_54 : decode b_TR_gather 54 = .ok (.aload_n 0, 1) := by decide +kernel
theorem d_TR_gather_55 : decode b_TR_gather 55 = .ok (.aload_n 0, 1) := by decide +kernel
theorem d_TR_gather_56 : decode b_TR_gather 56 = .ok (.iload_n 2, 1) := by decide +kernel
theorem d_TR_gather_57 : decode b_TR_gather 57 = .ok (.iload_n 3, 1) := by decide +kernel
theorem d_TR_gather_58 : decode b_TR_gather 58 = .ok (.invokevirtual 78, 3) := by decide +kernel
theorem d_TR_gather_61 : decode b_TR_gather 61 = .ok (.invokevirtual 82, 3) := by decide +kernel
theorem d_TR_gather_64 : decode b_TR_gather 64 = .ok (.iinc 3 1, 3) := by decide +kernel
theorem d_TR_gather_67 : decode b_TR_gather 67 = .ok (.goto (-21), 3) := by decide +kernel
theorem d_TR_gather_70 : decode b_TR_gather 70 = .ok (.aload_n 0, 1) := by decide +kernel
theorem d_TR_gather_71 : decode b_TR_gather 71 = .ok (.aload_n 0, 1) := by decide +kernel
theorem d_TR_gather_72 : decode b_TR_gather 72 = .ok (.getfield 47, 3) := by decide +kernel
theorem d_TR_gather_75 : decode b_TR_gather 75 = .ok (.iload_n 1, 1) := by decide +kernel
theorem d_TR_gather_76 : decode b_TR_gather 76 = .ok (.iconst 1, 1) := by decide +kernel
theorem d_TR_gather_77 : decode b_TR_gather 77 = .ok (.iadd, 1) := by decide +kernel
theorem d_TR_gather_78 : decode b_TR_gather 78 = .ok (.invokevirtual 85, 3) := by decide +kernel
theorem d_TR_gather_81 : decode b_TR_gather 81 = .ok (.putfield 88, 3) := by decide +kernel
theorem d_TR_gather_84 : decode b_TR_gather 84 = .ok (.aload_n 0, 1) := by decide +kernel
theorem d_TR_gather_85 : decode b_TR_gather 85 = .ok (.getfield 88, 3) := by decide +kernel
theorem d_TR_gather_88 : decode b_TR_gather 88 = .ok (.iconst (-1), 1) := by decide +kernel
theorem d_TR_gather_89 : decode b_TR_gather 89 = .ok (.if_icmp .ne 24, 3) := by decide +kernel
theorem d_TR_gather_92 : decode b_TR_gather 92 = .ok (.aload_n 0, 1) := by decide +kernel
theorem d_TR_gather_93 : decode b_TR_gather 93 = .ok (.aload_n 0, 1) := by decide +kernel
theorem d_TR_gather_94 : decode b_TR_gather 94 = .ok (.getfield 47, 3) := by decide +kernel
theorem d_TR_gather_97 : decode b_TR_gather 97 = .ok (.getfield 71, 3) := by decide +kernel
theorem d_TR_gather_100 : decode b_TR_gather 100 = .ok (.putfield 88, 3) := by decide +kernel
theorem d_TR_gather_103 : decode b_TR_gather 103 = .ok (.aload_n 0, 1) := by decide +kernel
theorem d_TR_gather_104 : decode b_TR_gather 104 = .ok (.getfield 47, 3) := by decide +kernel
theorem d_TR_gather_107 : decode b_TR_gather 107 = .ok (.iload_n 1, 1) := by decide +kernel
theorem d_TR_gather_108 : decode b_TR_gather 108 = .ok (.iconst 1, 1) := by decide +kernel
theorem d_TR_gather_109 : decode b_TR_gather 109 = .ok (.iadd, 1) := by decide +kernel
theorem d_TR_gather_110 : decode b_TR_gather 110 = .ok (.invokevirtual 91, 3) := by decide +kernel
theorem d_TR_gather_113 : decode b_TR_gather 113 = .ok (.return_, 1) := by decide +kernel
theorem d_TR_nodeOnWay_0 : decode b_TR_nodeOnWay 0 = .ok (.aload_n 0, 1) := by decide +kernel
theorem d_TR_nodeOnWay_1 : decode b_TR_nodeOnWay 1 = .ok (.getfield 22, 3) := by decide +kernel
theorem d_TR_nodeOnWay_4 : decode b_TR_nodeOnWay 4 = .ok (.iload_n 1, 1) := by decide +kernel
theorem d_TR_nodeOnWay_5 : decode b_TR_nodeOnWay 5 = .ok (.iadd, 1) := by decide +kernel
theorem d_TR_nodeOnWay_6 : decode b_TR_nodeOnWay 6 = .ok (.aload_n 0, 1) := by decide +kernel
theorem d_TR_nodeOnWay_7 : decode b_TR_nodeOnWay 7 = .ok (.getfield 18, 3) := by decide +kernel
theorem d_TR_nodeOnWay_10 : decode b_TR_nodeOnWay 10 = .ok (.iload_n 2, 1) := by decide +kernel
theorem d_TR_nodeOnWay_11 : decode b_TR_nodeOnWay 11 = .ok (.isub, 1) := by decide +kernel
theorem d_TR_nodeOnWay_12 : decode b_TR_nodeOnWay 12 = .ok (.ishr, 1) := by decide +kernel
theorem d_TR_nodeOnWay_13 : decode b_TR_nodeOnWay 13 = .ok (.ireturn, 1) := by decide +kernel
theorem d_TR_gatherNode_0 : decode b_TR_gatherNode 0 = .ok (.iconst 0, 1) := by decide +kernel
theorem d_TR_gatherNode_1 : decode b_TR_gatherNode 1 = .ok (.istore_n 2, 1) := by decide +kernel
theorem d_TR_gatherNode_2 : decode b_TR_gatherNode 2 = .ok (.iload_n 2, 1) := by decide +kernel
theorem d_TR_gatherNode_3 : decode b_TR_gatherNode 3 = .ok (.aload_n 0, 1) := by decide +kernel
theorem d_TR_gatherNode_4 : decode b_TR_gatherNode 4 = .ok (.getfield 25, 3) := by decide +kernel
theorem d_TR_gatherNode_7 : decode b_TR_gatherNode 7 = .ok (.if_icmp .ge 41, 3) := by decide +kernel
theorem d_TR_gatherNode_10 : decode b_TR_gatherNode 10 = .ok (.iload_n 1, 1) := by decide +kernel
theorem d_TR_gatherNode_11 : decode b_TR_gatherNode 11 = .ok (.aload_n 0, 1) := by decide +kernel
theorem d_TR_gatherNode_12 : decode b_TR_gatherNode 12 = .ok (.getfield 25, 3) := by decide +kernel
theorem d_TR_gatherNode_15 : decode b_TR_gatherNode 15 = .ok (.imul, 1) := by decide +kernel
theorem d_TR_gatherNode_16 : decode b_TR_gatherNode 16 = .ok (.iload_n 2, 1) := by decide +kernel
theorem d_TR_gatherNode_17 : decode b_TR_gatherNode 17 = .ok (.iadd, 1) := by decide +kernel
theorem d_TR_gatherNode_18 : decode b_TR_gatherNode 18 = .ok (.istore_n 3, 1) := by decide +kernel
theorem d_TR_gatherNode_19 : decode b_TR_gatherNode 19 = .ok (.aload_n 0, 1) := by decide +kernel
theorem d_TR_gatherNode_20 : decode b_TR_gatherNode 20 = .ok (.getfield 36, 3) := by decide +kernel
theorem d_TR_gatherNode_23 : decode b_TR_gatherNode 23 = .ok (.iload_n 3, 1) := by decide +kernel
theorem d_TR_gatherNode_24 : decode b_TR_gatherNode 24 = .ok (.invokevirtual 57, 3) := by decide +kernel
theorem d_TR_gatherNode_27 : decode b_TR_gatherNode 27 = .ok (.ifCond .eq 15, 3) := by decide +kernel
theorem d_TR_gatherNode_30 : decode b_TR_gatherNode 30 = .ok (.aload_n 0, 1) := by decide +kernel
theorem d_TR_gatherNode_31 : decode b_TR_gatherNode 31 = .ok (.getfield 47, 3) := by decide +kernel
theorem d_TR_gatherNode_34 : decode b_TR_gatherNode 34 = .ok (.aload_n 0, 1) := by decide +kernel
theorem d_TR_gatherNode_35 : decode b_TR_gatherNode 35 = .ok (.getfield 36, 3) := by decide +kernel
theorem d_TR_gatherNode_38 : decode b_TR_gatherNode 38 = .ok (.iload_n 3, 1) := by decide +kernel
theorem d_TR_gatherNode_39 : decode b_TR_gatherNode 39 = .ok (.invokevirtual 74, 3) := by decide +kernel
theorem d_TR_gatherNode_42 : decode b_TR_gatherNode 42 = .ok (.iinc 2 1, 3) := by decide +kernel
theorem d_TR_gatherNode_45 : decode b_TR_gatherNode 45 = .ok (.goto (-43), 3) := by decide +kernel
theorem d_TR_gatherNode_48 : decode b_TR_gatherNode 48 = .ok (.return_, 1) := by decide +kernel
theorem d_TR_soughtValue_0 : decode b_TR_soughtValue 0 = .ok (.aload_n 0, 1) := by decide +kernel
theorem d_TR_soughtValue_1 : decode b_TR_soughtValue 1 = .ok (.getfield 47, 3) := by decide +kernel
theorem d_TR_soughtValue_4 : decode b_TR_soughtValue 4 = .ok (.aload_n 0, 1) := by decide +kernel
theorem d_TR_soughtValue_5 : decode b_TR_soughtValue 5 = .ok (.getfield 88, 3) := by decide +kernel
theorem d_TR_soughtValue_8 : decode b_TR_soughtValue 8 = .ok (.invokevirtual 64, 3) := by decide +kernel
theorem d_TR_soughtValue_11 : decode b_TR_soughtValue 11 = .ok (.lreturn, 1) := by decide +kernel
theorem d_TR_settle_0 : decode b_TR_settle 0 = .ok (.aload_n 0, 1) := by decide +kernel
theorem d_TR_settle_1 : decode b_TR_settle 1 = .ok (.getfield 47, 3) := by decide +kernel
theorem d_TR_settle_4 : decode b_TR_settle 4 = .ok (.aload_n 0, 1) := by decide +kernel
theorem d_TR_settle_5 : decode b_TR_settle 5 = .ok (.getfield 88, 3) := by decide +kernel
theorem d_TR_settle_8 : decode b_TR_settle 8 = .ok (.aload_n 0, 1) := by decide +kernel
theorem d_TR_settle_9 : decode b_TR_settle 9 = .ok (.getfield 47, 3) := by decide +kernel
theorem d_TR_settle_12 : decode b_TR_settle 12 = .ok (.aload_n 0, 1) := by decide +kernel
theorem d_TR_settle_13 : decode b_TR_settle 13 = .ok (.getfield 88, 3) := by decide +kernel
theorem d_TR_settle_16 : decode b_TR_settle 16 = .ok (.invokevirtual 57, 3) := by decide +kernel
theorem d_TR_settle_19 : decode b_TR_settle 19 = .ok (.iload_n 1, 1) := by decide +kernel
theorem d_TR_settle_20 : decode b_TR_settle 20 = .ok (.lload_n 2, 1) := by decide +kernel
theorem d_TR_settle_21 : decode b_TR_settle 21 = .ok (.invokevirtual 94, 3) := by decide +kernel
theorem d_TR_settle_24 : decode b_TR_settle 24 = .ok (.return_, 1) := by decide +kernel
theorem d_TR_fits_0 : decode b_TR_fits 0 = .ok (.aload_n 0, 1) := by decide +kernel
theorem d_TR_fits_1 : decode b_TR_fits 1 = .ok (.getfield 47, 3) := by decide +kernel
theorem d_TR_fits_4 : decode b_TR_fits 4 = .ok (.getfield 71, 3) := by decide +kernel
theorem d_TR_fits_7 : decode b_TR_fits 7 = .ok (.istore_n 1, 1) := by decide +kernel
theorem d_TR_fits_8 : decode b_TR_fits 8 = .ok (.iconst 0, 1) := by decide +kernel
theorem d_TR_fits_9 : decode b_TR_fits 9 = .ok (.istore_n 2, 1) := by decide +kernel
theorem d_TR_fits_10 : decode b_TR_fits 10 = .ok (.iload_n 2, 1) := by decide +kernel
theorem d_TR_fits_11 : decode b_TR_fits 11 = .ok (.aload_n 0, 1) := by decide +kernel
theorem d_TR_fits_12 : decode b_TR_fits 12 = .ok (.getfield 47, 3) := by decide +kernel
theorem d_TR_fits_15 : decode b_TR_fits 15 = .ok (.getfield 71, 3) := by decide +kernel
theorem d_TR_fits_18 : decode b_TR_fits 18 = .ok (.if_icmp .ge 25, 3) := by decide +kernel
theorem d_TR_fits_21 : decode b_TR_fits 21 = .ok (.iload_n 2, 1) := by decide +kernel
theorem d_TR_fits_22 : decode b_TR_fits 22 = .ok (.aload_n 0, 1) := by decide +kernel
theorem d_TR_fits_23 : decode b_TR_fits 23 = .ok (.getfield 50, 3) := by decide +kernel
theorem d_TR_fits_26 : decode b_TR_fits 26 = .ok (.arraylength, 1) := by decide +kernel
theorem d_TR_fits_27 : decode b_TR_fits 27 = .ok (.if_icmp .ge 16, 3) := by decide +kernel
theorem d_TR_fits_30 : decode b_TR_fits 30 = .ok (.aload_n 0, 1) := by decide +kernel
theorem d_TR_fits_31 : decode b_TR_fits 31 = .ok (.getfield 50, 3) := by decide +kernel
theorem d_TR_fits_34 : decode b_TR_fits 34 = .ok (.iload_n 2, 1) := by decide +kernel
theorem d_TR_fits_35 : decode b_TR_fits 35 = .ok (.iconst (-1), 1) := by decide +kernel
theorem d_TR_fits_36 : decode b_TR_fits 36 = .ok (.iastore, 1) := by decide +kernel
theorem d_TR_fits_37 : decode b_TR_fits 37 = .ok (.iinc 2 1, 3) := by decide +kernel
theorem d_TR_fits_40 : decode b_TR_fits 40 = .ok (.goto (-30), 3) := by decide +kernel
theorem d_TR_fits_43 : decode b_TR_fits 43 = .ok (.aload_n 0, 1) := by decide +kernel
theorem d_TR_fits_44 : decode b_TR_fits 44 = .ok (.getfield 18, 3) := by decide +kernel
theorem d_TR_fits_47 : decode b_TR_fits 47 = .ok (.istore_n 2, 1) := by decide +kernel
theorem d_TR_fits_48 : decode b_TR_fits 48 = .ok (.iload_n 2, 1) := by decide +kernel
theorem d_TR_fits_49 : decode b_TR_fits 49 = .ok (.ifCond .lt 26, 3) := by decide +kernel
theorem d_TR_fits_52 : decode b_TR_fits 52 = .ok (.iload_n 1, 1) := by decide +kernel
theorem d_TR_fits_53 : decode b_TR_fits 53 = .ok (.aload_n 0, 1) := by decide +kernel
theorem d_TR_fits_54 : decode b_TR_fits 54 = .ok (.aload_n 0, 1) := by decide +kernel
theorem d_TR_fits_55 : decode b_TR_fits 55 = .ok (.aload_n 0, 1) := by decide +kernel
theorem d_TR_fits_56 : decode b_TR_fits 56 = .ok (.getfield 68, 3) := by decide +kernel
theorem d_TR_fits_59 : decode b_TR_fits 59 = .ok (.iload_n 2, 1) := by decide +kernel
theorem d_TR_fits_60 : decode b_TR_fits 60 = .ok (.invokevirtual 78, 3) := by decide +kernel
theorem d_TR_fits_63 : decode b_TR_fits 63 = .ok (.iload_n 2, 1) := by decide +kernel
theorem d_TR_fits_64 : decode b_TR_fits 64 = .ok (.invokevirtual 98, 3) := by decide +kernel
theorem d_TR_fits_67 : decode b_TR_fits 67 = .ok (.isub, 1) := by decide +kernel
theorem d_TR_fits_68 : decode b_TR_fits 68 = .ok (.istore_n 1, 1) := by decide +kernel
theorem d_TR_fits_69 : decode b_TR_fits 69 = .ok (.iinc 2 (-1), 3) := by decide +kernel
theorem d_TR_fits_72 : decode b_TR_fits 72 = .ok (.goto (-24), 3) := by decide +kernel
theorem d_TR_fits_75 : decode b_TR_fits 75 = .ok (.iload_n 1, 1) := by decide +kernel
theorem d_TR_fits_76 : decode b_TR_fits 76 = .ok (.aload_n 0, 1) := by decide +kernel
theorem d_TR_fits_77 : decode b_TR_fits 77 = .ok (.getfield 28, 3) := by decide +kernel
theorem d_TR_fits_80 : decode b_TR_fits 80 = .ok (.if_icmp .gt 7, 3) := by decide +kernel
theorem d_TR_fits_83 : decode b_TR_fits 83 = .ok (.iconst 1, 1) := by decide +kernel
theorem d_TR_fits_84 : decode b_TR_fits 84 = .ok (.goto 4, 3) := by decide +kernel
theorem d_TR_fits_87 : decode b_TR_fits 87 = .ok (.iconst 0, 1) := by decide +kernel
theorem d_TR_fits_88 : decode b_TR_fits 88 = .ok (.ireturn, 1) := by decide +kernel
theorem d_TR_fillNode_0 : decode b_TR_fillNode 0 = .ok (.iconst 0, 1) := by decide +kernel
theorem d_TR_fillNode_1 : decode b_TR_fillNode 1 = .ok (.istore_n 3, 1) := by decide +kernel
theorem d_TR_fillNode_2 : decode b_TR_fillNode 2 = .ok (.iconst 0, 1) := by decide +kernel
theorem d_TR_fillNode_3 : decode b_TR_fillNode 3 = .ok (.istore 4, 2) := by decide +kernel
theorem d_TR_fillNode_5 : decode b_TR_fillNode 5 = .ok (.iload 4, 2) := by decide +kernel
theorem d_TR_fillNode_7 : decode b_TR_fillNode 7 = .ok (.aload_n 0, 1) := by decide +kernel
theorem d_TR_fillNode_8 : decode b_TR_fillNode 8 = .ok (.getfield 47, 3) := by decide +kernel
theorem d_TR_fillNode_11 : decode b_TR_fillNode 11 = .ok (.getfield 71, 3) := by decide +kernel
theorem d_TR_fillNode_14 : decode b_TR_fillNode 14 = .ok (.if_icmp .ge 74, 3) := by decide +kernel
theorem d_TR_fillNode_17 : decode b_TR_fillNode 17 = .ok (.iload 4, 2) := by decide +kernel
theorem d_TR_fillNode_19 : decode b_TR_fillNode 19 = .ok (.aload_n 0, 1) := by decide +kernel
theorem d_TR_fillNode_20 : decode b_TR_fillNode 20 = .ok (.getfield 50, 3) := by decide +kernel
theorem d_TR_fillNode_23 : decode b_TR_fillNode 23 = .ok (.arraylength, 1) := by decide +kernel
theorem d_TR_fillNode_24 : decode b_TR_fillNode 24 = .ok (.if_icmp .ge 64, 3) := by decide +kernel
theorem d_TR_fillNode_27 : decode b_TR_fillNode 27 = .ok (.iload_n 3, 1) := by decide +kernel
theorem d_TR_fillNode_28 : decode b_TR_fillNode 28 = .ok (.aload_n 0, 1) := by decide +kernel
theorem d_TR_fillNode_29 : decode b_TR_fillNode 29 = .ok (.getfield 25, 3) := by decide +kernel
theorem d_TR_fillNode_32 : decode b_TR_fillNode 32 = .ok (.if_icmp .ge 56, 3) := by decide +kernel
theorem d_TR_fillNode_35 : decode b_TR_fillNode 35 = .ok (.aload_n 0, 1) := by decide +kernel
theorem d_TR_fillNode_36 : decode b_TR_fillNode 36 = .ok (.getfield 50, 3) := by decide +kernel
theorem d_TR_fillNode_39 : decode b_TR_fillNode 39 = .ok (.iload 4, 2) := by decide +kernel
theorem d_TR_fillNode_41 : decode b_TR_fillNode 41 = .ok (.iaload, 1) := by decide +kernel
theorem d_TR_fillNode_42 : decode b_TR_fillNode 42 = .ok (.iconst (-1), 1) := by decide +kernel
theorem d_TR_fillNode_43 : decode b_TR_fillNode 43 = .ok (.if_icmp .ne 39, 3) := by decide +kernel
theorem d_TR_fillNode_46 : decode b_TR_fillNode 46 = .ok (.aload_n 0, 1) := by decide +kernel
theorem d_TR_fillNode_47 : decode b_TR_fillNode 47 = .ok (.aload_n 0, 1) := by decide +kernel
theorem d_TR_fillNode_48 : decode b_TR_fillNode 48 = .ok (.getfield 47, 3) := by decide +kernel
theorem d_TR_fillNode_51 : decode b_TR_fillNode 51 = .ok (.iload 4, 2) := by decide +kernel
theorem d_TR_fillNode_53 : decode b_TR_fillNode 53 = .ok (.invokevirtual 61, 3) := by decide +kernel
theorem d_TR_fillNode_56 : decode b_TR_fillNode 56 = .ok (.iload_n 2, 1) := by decide +kernel
theorem d_TR_fillNode_57 : decode b_TR_fillNode 57 = .ok (.invokevirtual 78, 3) := by decide +kernel
theorem d_TR_fillNode_60 : decode b_TR_fillNode 60 = .ok (.iload_n 1, 1) := by decide +kernel
theorem d_TR_fillNode_61 : decode b_TR_fillNode 61 = .ok (.if_icmp .ne 21, 3) := by decide +kernel
theorem d_TR_fillNode_64 : decode b_TR_fillNode 64 = .ok (.aload_n 0, 1) := by decide +kernel
theorem d_TR_fillNode_65 : decode b_TR_fillNode 65 = .ok (.getfield 50, 3) := by decide +kernel
theorem d_TR_fillNode_68 : decode b_TR_fillNode 68 = .ok (.iload 4, 2) := by decide +kernel
theorem d_TR_fillNode_70 : decode b_TR_fillNode 70 = .ok (.iload_n 1, 1) := by decide +kernel
theorem d_TR_fillNode_71 : decode b_TR_fillNode 71 = .ok (.aload_n 0, 1) := by decide +kernel
theorem d_TR_fillNode_72 : decode b_TR_fillNode 72 = .ok (.getfield 25, 3) := by decide +kernel
theorem d_TR_fillNode_75 : decode b_TR_fillNode 75 = .ok (.imul, 1) := by decide +kernel
theorem d_TR_fillNode_76 : decode b_TR_fillNode 76 = .ok (.iload_n 3, 1) := by decide +kernel
theorem d_TR_fillNode_77 : decode b_TR_fillNode 77 = .ok (.iadd, 1) := by decide +kernel
theorem d_TR_fillNode_78 : decode b_TR_fillNode 78 = .ok (.iastore, 1) := by decide +kernel
theorem d_TR_fillNode_79 : decode b_TR_fillNode 79 = .ok (.iinc 3 1, 3) := by decide +kernel
theorem d_TR_fillNode_82 : decode b_TR_fillNode 82 = .ok (.iinc 4 1, 3) := by decide +kernel
theorem d_TR_fillNode_85 : decode b_TR_fillNode 85 = .ok (.goto (-80), 3) := by decide +kernel
theorem d_TR_fillNode_88 : decode b_TR_fillNode 88 = .ok (.iload_n 3, 1) := by decide +kernel
theorem d_TR_fillNode_89 : decode b_TR_fillNode 89 = .ok (.ireturn, 1) := by decide +kernel
theorem d_TR_carryOut_0 : decode b_TR_carryOut 0 = .ok (.iconst 0, 1) := by decide +kernel
theorem d_TR_carryOut_1 : decode b_TR_carryOut 1 = .ok (.istore_n 1, 1) := by decide +kernel
theorem d_TR_carryOut_2 : decode b_TR_carryOut 2 = .ok (.iload_n 1, 1) := by decide +kernel
theorem d_TR_carryOut_3 : decode b_TR_carryOut 3 = .ok (.aload_n 0, 1) := by decide +kernel
theorem d_TR_carryOut_4 : decode b_TR_carryOut 4 = .ok (.getfield 18, 3) := by decide +kernel
theorem d_TR_carryOut_7 : decode b_TR_carryOut 7 = .ok (.if_icmp .gt 22, 3) := by decide +kernel
theorem d_TR_carryOut_10 : decode b_TR_carryOut 10 = .ok (.aload_n 0, 1) := by decide +kernel
theorem d_TR_carryOut_11 : decode b_TR_carryOut 11 = .ok (.aload_n 0, 1) := by decide +kernel
theorem d_TR_carryOut_12 : decode b_TR_carryOut 12 = .ok (.aload_n 0, 1) := by decide +kernel
theorem d_TR_carryOut_13 : decode b_TR_carryOut 13 = .ok (.getfield 68, 3) := by decide +kernel
theorem d_TR_carryOut_16 : decode b_TR_carryOut 16 = .ok (.iload_n 1, 1) := by decide +kernel
theorem d_TR_carryOut_17 : decode b_TR_carryOut 17 = .ok (.invokevirtual 78, 3) := by decide +kernel
theorem d_TR_carryOut_20 : decode b_TR_carryOut 20 = .ok (.invokevirtual 101, 3) := by decide +kernel
theorem d_TR_carryOut_23 : decode b_TR_carryOut 23 = .ok (.iinc 1 1, 3) := by decide +kernel
theorem d_TR_carryOut_26 : decode b_TR_carryOut 26 = .ok (.goto (-24), 3) := by decide +kernel
theorem d_TR_carryOut_29 : decode b_TR_carryOut 29 = .ok (.aload_n 0, 1) := by decide +kernel
theorem d_TR_carryOut_30 : decode b_TR_carryOut 30 = .ok (.getfield 44, 3) := by decide +kernel
theorem d_TR_carryOut_33 : decode b_TR_carryOut 33 = .ok (.iconst 0, 1) := by decide +kernel
theorem d_TR_carryOut_34 : decode b_TR_carryOut 34 = .ok (.putfield 71, 3) := by decide +kernel
theorem d_TR_carryOut_37 : decode b_TR_carryOut 37 = .ok (.iconst 0, 1) := by decide +kernel
theorem d_TR_carryOut_38 : decode b_TR_carryOut 38 = .ok (.istore_n 1, 1) := by decide +kernel
theorem d_TR_carryOut_39 : decode b_TR_carryOut 39 = .ok (.iload_n 1, 1) := by decide +kernel
theorem d_TR_carryOut_40 : decode b_TR_carryOut 40 = .ok (.aload_n 0, 1) := by decide +kernel
theorem d_TR_carryOut_41 : decode b_TR_carryOut 41 = .ok (.getfield 47, 3) := by decide +kernel
theorem d_TR_carryOut_44 : decode b_TR_carryOut 44 = .ok (.getfield 71, 3) := by decide +kernel
theorem d_TR_carryOut_47 : decode b_TR_carryOut 47 = .ok (.if_icmp .ge 61, 3) := by decide +kernel
theorem d_TR_carryOut_50 : decode b_TR_carryOut 50 = .ok (.iload_n 1, 1) := by decide +kernel
theorem d_TR_carryOut_51 : decode b_TR_carryOut 51 = .ok (.aload_n 0, 1) := by decide +kernel
theorem d_TR_carryOut_52 : decode b_TR_carryOut 52 = .ok (.getfield 50, 3) := by decide +kernel
theorem d_TR_carryOut_55 : decode b_TR_carryOut 55 = .ok (.arraylength, 1) := by decide +kernel
theorem d_TR_carryOut_56 : decode b_TR_carryOut 56 = .ok (.if_icmp .ge 52, 3) := by decide +kernel
theorem d_TR_carryOut_59 : decode b_TR_carryOut 59 = .ok (.aload_n 0, 1) := by decide +kernel
theorem d_TR_carryOut_60 : decode b_TR_carryOut 60 = .ok (.getfield 50, 3) := by decide +kernel
theorem d_TR_carryOut_63 : decode b_TR_carryOut 63 = .ok (.iload_n 1, 1) := by decide +kernel
theorem d_TR_carryOut_64 : decode b_TR_carryOut 64 = .ok (.iaload, 1) := by decide +kernel
theorem d_TR_carryOut_65 : decode b_TR_carryOut 65 = .ok (.iconst (-1), 1) := by decide +kernel
theorem d_TR_carryOut_66 : decode b_TR_carryOut 66 = .ok (.if_icmp .ne 18, 3) := by decide +kernel
theorem d_TR_carryOut_69 : decode b_TR_carryOut 69 = .ok (.aload_n 0, 1) := by decide +kernel
theorem d_TR_carryOut_70 : decode b_TR_carryOut 70 = .ok (.getfield 44, 3) := by decide +kernel
theorem d_TR_carryOut_73 : decode b_TR_carryOut 73 = .ok (.aload_n 0, 1) := by decide +kernel
theorem d_TR_carryOut_74 : decode b_TR_carryOut 74 = .ok (.getfield 47, 3) := by decide +kernel
theorem d_TR_carryOut_77 : decode b_TR_carryOut 77 = .ok (.iload_n 1, 1) := by decide +kernel
theorem d_TR_carryOut_78 : decode b_TR_carryOut 78 = .ok (.invokevirtual 74, 3) := by decide +kernel
theorem d_TR_carryOut_81 : decode b_TR_carryOut 81 = .ok (.goto 21, 3) := by decide +kernel
theorem d_TR_carryOut_84 : decode b_TR_carryOut 84 = .ok (.aload_n 0, 1) := by decide +kernel
theorem d_TR_carryOut_85 : decode b_TR_carryOut 85 = .ok (.getfield 36, 3) := by decide +kernel
theorem d_TR_carryOut_88 : decode b_TR_carryOut 88 = .ok (.aload_n 0, 1) := by decide +kernel
theorem d_TR_carryOut_89 : decode b_TR_carryOut 89 = .ok (.getfield 50, 3) := by decide +kernel
theorem d_TR_carryOut_92 : decode b_TR_carryOut 92 = .ok (.iload_n 1, 1) := by decide +kernel
theorem d_TR_carryOut_93 : decode b_TR_carryOut 93 = .ok (.iaload, 1) := by decide +kernel
theorem d_TR_carryOut_94 : decode b_TR_carryOut 94 = .ok (.aload_n 0, 1) := by decide +kernel
theorem d_TR_carryOut_95 : decode b_TR_carryOut 95 = .ok (.getfield 47, 3) := by decide +kernel
theorem d_TR_carryOut_98 : decode b_TR_carryOut 98 = .ok (.iload_n 1, 1) := by decide +kernel
theorem d_TR_carryOut_99 : decode b_TR_carryOut 99 = .ok (.invokevirtual 104, 3) := by decide +kernel
theorem d_TR_carryOut_102 : decode b_TR_carryOut 102 = .ok (.iinc 1 1, 3) := by decide +kernel
theorem d_TR_carryOut_105 : decode b_TR_carryOut 105 = .ok (.goto (-66), 3) := by decide +kernel
theorem d_TR_carryOut_108 : decode b_TR_carryOut 108 = .ok (.aload_n 0, 1) := by decide +kernel
theorem d_TR_carryOut_109 : decode b_TR_carryOut 109 = .ok (.getfield 12, 3) := by decide +kernel
theorem d_TR_carryOut_112 : decode b_TR_carryOut 112 = .ok (.aload_n 0, 1) := by decide +kernel
theorem d_TR_carryOut_113 : decode b_TR_carryOut 113 = .ok (.getfield 68, 3) := by decide +kernel
theorem d_TR_carryOut_116 : decode b_TR_carryOut 116 = .ok (.invokevirtual 108, 3) := by decide +kernel
theorem d_TR_carryOut_119 : decode b_TR_carryOut 119 = .ok (.return_, 1) := by decide +kernel
theorem d_TR_emptyNode_0 : decode b_TR_emptyNode 0 = .ok (.iconst 0, 1) := by decide +kernel
theorem d_TR_emptyNode_1 : decode b_TR_emptyNode 1 = .ok (.istore_n 2, 1) := by decide +kernel
theorem d_TR_emptyNode_2 : decode b_TR_emptyNode 2 = .ok (.iload_n 2, 1) := by decide +kernel
theorem d_TR_emptyNode_3 : decode b_TR_emptyNode 3 = .ok (.aload_n 0, 1) := by decide +kernel
theorem d_TR_emptyNode_4 : decode b_TR_emptyNode 4 = .ok (.getfield 25, 3) := by decide +kernel
theorem d_TR_emptyNode_7 : decode b_TR_emptyNode 7 = .ok (.if_icmp .ge 27, 3) := by decide +kernel
theorem d_TR_emptyNode_10 : decode b_TR_emptyNode 10 = .ok (.aload_n 0, 1) := by decide +kernel
theorem d_TR_emptyNode_11 : decode b_TR_emptyNode 11 = .ok (.getfield 36, 3) := by decide +kernel
theorem d_TR_emptyNode_14 : decode b_TR_emptyNode 14 = .ok (.iload_n 1, 1) := by decide +kernel
theorem d_TR_emptyNode_15 : decode b_TR_emptyNode 15 = .ok (.aload_n 0, 1) := by decide +kernel
theorem d_TR_emptyNode_16 : decode b_TR_emptyNode 16 = .ok (.getfield 25, 3) := by decide +kernel
theorem d_TR_emptyNode_19 : decode b_TR_emptyNode 19 = .ok (.imul, 1) := by decide +kernel
theorem d_TR_emptyNode_20 : decode b_TR_emptyNode 20 = .ok (.iload_n 2, 1) := by decide +kernel
theorem d_TR_emptyNode_21 : decode b_TR_emptyNode 21 = .ok (.iadd, 1) := by decide +kernel
theorem d_TR_emptyNode_22 : decode b_TR_emptyNode 22 = .ok (.iconst 0, 1) := by decide +kernel
theorem d_TR_emptyNode_23 : decode b_TR_emptyNode 23 = .ok (.iconst 0, 1) := by decide +kernel
theorem d_TR_emptyNode_24 : decode b_TR_emptyNode 24 = .ok (.lconst 0, 1) := by decide +kernel
theorem d_TR_emptyNode_25 : decode b_TR_emptyNode 25 = .ok (.invokevirtual 94, 3) := by decide +kernel
theorem d_TR_emptyNode_28 : decode b_TR_emptyNode 28 = .ok (.iinc 2 1, 3) := by decide +kernel
theorem d_TR_emptyNode_31 : decode b_TR_emptyNode 31 = .ok (.goto (-29), 3) := by decide +kernel
theorem d_TR_emptyNode_34 : decode b_TR_emptyNode 34 = .ok (.aload_n 0, 1) := by decide +kernel
theorem d_TR_emptyNode_35 : decode b_TR_emptyNode 35 = .ok (.iload_n 1, 1) := by decide +kernel
theorem d_TR_emptyNode_36 : decode b_TR_emptyNode 36 = .ok (.invokevirtual 53, 3) := by decide +kernel
theorem d_TR_emptyNode_39 : decode b_TR_emptyNode 39 = .ok (.ifCond .eq 13, 3) := by decide +kernel
theorem d_TR_emptyNode_42 : decode b_TR_emptyNode 42 = .ok (.aload_n 0, 1) := by decide +kernel
theorem d_TR_emptyNode_43 : decode b_TR_emptyNode 43 = .ok (.getfield 40, 3) := by decide +kernel
theorem d_TR_emptyNode_46 : decode b_TR_emptyNode 46 = .ok (.iload_n 1, 1) := by decide +kernel
theorem d_TR_emptyNode_47 : decode b_TR_emptyNode 47 = .ok (.dup2, 1) := by decide +kernel
theorem d_TR_emptyNode_48 : decode b_TR_emptyNode 48 = .ok (.iaload, 1) := by decide +kernel
theorem d_TR_emptyNode_49 : decode b_TR_emptyNode 49 = .ok (.iconst 1, 1) := by decide +kernel
theorem d_TR_emptyNode_50 : decode b_TR_emptyNode 50 = .ok (.iadd, 1) := by decide +kernel
theorem d_TR_emptyNode_51 : decode b_TR_emptyNode 51 = .ok (.iastore, 1) := by decide +kernel
theorem d_TR_emptyNode_52 : decode b_TR_emptyNode 52 = .ok (.return_, 1) := by decide +kernel
theorem d_TR_hasNode_0 : decode b_TR_hasNode 0 = .ok (.iload_n 1, 1) := by decide +kernel
theorem d_TR_hasNode_1 : decode b_TR_hasNode 1 = .ok (.iconst 1, 1) := by decide +kernel
theorem d_TR_hasNode_2 : decode b_TR_hasNode 2 = .ok (.if_icmp .lt 17, 3) := by decide +kernel
theorem d_TR_hasNode_5 : decode b_TR_hasNode 5 = .ok (.iload_n 1, 1) := by decide +kernel
theorem d_TR_hasNode_6 : decode b_TR_hasNode 6 = .ok (.iconst 2, 1) := by decide +kernel
theorem d_TR_hasNode_7 : decode b_TR_hasNode 7 = .ok (.aload_n 0, 1) := by decide +kernel
theorem d_TR_hasNode_8 : decode b_TR_hasNode 8 = .ok (.getfield 22, 3) := by decide +kernel
theorem d_TR_hasNode_11 : decode b_TR_hasNode 11 = .ok (.imul, 1) := by decide +kernel
theorem d_TR_hasNode_12 : decode b_TR_hasNode 12 = .ok (.if_icmp .ge 7, 3) := by decide +kernel
theorem d_TR_hasNode_15 : decode b_TR_hasNode 15 = .ok (.iconst 1, 1) := by decide +kernel
theorem d_TR_hasNode_16 : decode b_TR_hasNode 16 = .ok (.goto 4, 3) := by decide +kernel
theorem d_TR_hasNode_19 : decode b_TR_hasNode 19 = .ok (.iconst 0, 1) := by decide +kernel
theorem d_TR_hasNode_20 : decode b_TR_hasNode 20 = .ok (.ireturn, 1) := by decide +kernel
theorem d_TR_wordAt_0 : decode b_TR_wordAt 0 = .ok (.iload_n 1, 1) := by decide +kernel
theorem d_TR_wordAt_1 : decode b_TR_wordAt 1 = .ok (.aload_n 0, 1) := by decide +kernel
theorem d_TR_wordAt_2 : decode b_TR_wordAt 2 = .ok (.getfield 25, 3) := by decide +kernel
theorem d_TR_wordAt_5 : decode b_TR_wordAt 5 = .ok (.imul, 1) := by decide +kernel
theorem d_TR_wordAt_6 : decode b_TR_wordAt 6 = .ok (.iload_n 2, 1) := by decide +kernel
theorem d_TR_wordAt_7 : decode b_TR_wordAt 7 = .ok (.iadd, 1) := by decide +kernel
theorem d_TR_wordAt_8 : decode b_TR_wordAt 8 = .ok (.istore 4, 2) := by decide +kernel
theorem d_TR_wordAt_10 : decode b_TR_wordAt 10 = .ok (.iload_n 3, 1) := by decide +kernel
theorem d_TR_wordAt_11 : decode b_TR_wordAt 11 = .ok (.lookupswitch 47 #[(0, 25), (1, 36)], 25) := by decide +kernel
theorem d_TR_wordAt_36 : decode b_TR_wordAt 36 = .ok (.aload_n 0, 1) := by decide +kernel
theorem d_TR_wordAt_37 : decode b_TR_wordAt 37 = .ok (.getfield 36, 3) := by decide +kernel
theorem d_TR_wordAt_40 : decode b_TR_wordAt 40 = .ok (.iload 4, 2) := by decide +kernel
theorem d_TR_wordAt_42 : decode b_TR_wordAt 42 = .ok (.invokevirtual 57, 3) := by decide +kernel
theorem d_TR_wordAt_45 : decode b_TR_wordAt 45 = .ok (.i2l, 1) := by decide +kernel
theorem d_TR_wordAt_46 : decode b_TR_wordAt 46 = .ok (.lreturn, 1) := by decide +kernel
theorem d_TR_wordAt_47 : decode b_TR_wordAt 47 = .ok (.aload_n 0, 1) := by decide +kernel
theorem d_TR_wordAt_48 : decode b_TR_wordAt 48 = .ok (.getfield 36, 3) := by decide +kernel
theorem d_TR_wordAt_51 : decode b_TR_wordAt 51 = .ok (.iload 4, 2) := by decide +kernel
theorem d_TR_wordAt_53 : decode b_TR_wordAt 53 = .ok (.invokevirtual 61, 3) := by decide +kernel
theorem d_TR_wordAt_56 : decode b_TR_wordAt 56 = .ok (.i2l, 1) := by decide +kernel
theorem d_TR_wordAt_57 : decode b_TR_wordAt 57 = .ok (.lreturn, 1) := by decide +kernel
theorem d_TR_wordAt_58 : decode b_TR_wordAt 58 = .ok (.aload_n 0, 1) := by decide +kernel
theorem d_TR_wordAt_59 : decode b_TR_wordAt 59 = .ok (.getfield 36, 3) := by decide +kernel
theorem d_TR_wordAt_62 : decode b_TR_wordAt 62 = .ok (.iload 4, 2) := by decide +kernel
theorem d_TR_wordAt_64 : decode b_TR_wordAt 64 = .ok (.invokevirtual 64, 3) := by decide +kernel
theorem d_TR_wordAt_67 : decode b_TR_wordAt 67 = .ok (.lreturn, 1) := by decide +kernel
theorem d_TR_timesWritten_0 : decode b_TR_timesWritten 0 = .ok (.aload_n 0, 1) := by decide +kernel
theorem d_TR_timesWritten_1 : decode b_TR_timesWritten 1 = .ok (.iload_n 1, 1) := by decide +kernel
theorem d_TR_timesWritten_2 : decode b_TR_timesWritten 2 = .ok (.invokevirtual 53, 3) := by decide +kernel
theorem d_TR_timesWritten_5 : decode b_TR_timesWritten 5 = .ok (.ifCond .eq 12, 3) := by decide +kernel
theorem d_TR_timesWritten_8 : decode b_TR_timesWritten 8 = .ok (.aload_n 0, 1) := by decide +kernel
theorem d_TR_timesWritten_9 : decode b_TR_timesWritten 9 = .ok (.getfield 40, 3) := by decide +kernel
theorem d_TR_timesWritten_12 : decode b_TR_timesWritten 12 = .ok (.iload_n 1, 1) := by decide +kernel
theorem d_TR_timesWritten_13 : decode b_TR_timesWritten 13 = .ok (.iaload, 1) := by decide +kernel
theorem d_TR_timesWritten_14 : decode b_TR_timesWritten 14 = .ok (.goto 4, 3) := by decide +kernel
theorem d_TR_timesWritten_17 : decode b_TR_timesWritten 17 = .ok (.iconst 0, 1) := by decide +kernel
theorem d_TR_timesWritten_18 : decode b_TR_timesWritten 18 = .ok (.ireturn, 1) := by decide +kernel
end
section
theorem d_CT_init_0 : decode b_CT_init 0 = .ok (.aload_n 0, 1) := by decide +kernel
theorem d_CT_init_1 : decode b_CT_init 1 = .ok (.invokespecial 1, 3) := by decide +kernel
theorem d_CT_init_4 : decode b_CT_init 4 = .ok (.aload_n 0, 1) := by decide +kernel
theorem d_CT_init_5 : decode b_CT_init 5 = .ok (.bipush 16, 2) := by decide +kernel
theorem d_CT_init_7 : decode b_CT_init 7 = .ok (.newarray .int, 2) := by decide +kernel
theorem d_CT_init_9 : decode b_CT_init 9 = .ok (.putfield 9, 3) := by decide +kernel
theorem d_CT_init_12 : decode b_CT_init 12 = .ok (.iload_n 1, 1) := by decide +kernel
theorem d_CT_init_13 : decode b_CT_init 13 = .ok (.iconst 1, 1) := by decide +kernel
theorem d_CT_init_14 : decode b_CT_init 14 = .ok (.iconst 5, 1) := by decide +kernel
theorem d_CT_init_15 : decode b_CT_init 15 = .ok (.invokestatic 13, 3) := by decide +kernel
theorem d_CT_init_18 : decode b_CT_init 18 = .ok (.istore 6, 2) := by decide +kernel
theorem d_CT_init_20 : decode b_CT_init 20 = .ok (.aload_n 0, 1) := by decide +kernel
theorem d_CT_init_21 : decode b_CT_init 21 = .ok (.iload_n 2, 1) := by decide +kernel
theorem d_CT_init_22 : decode b_CT_init 22 = .ok (.iconst 1, 1) := by decide +kernel
theorem d_CT_init_23 : decode b_CT_init 23 = .ok (.iconst 4, 1) := by decide +kernel
theorem d_CT_init_24 : decode b_CT_init 24 = .ok (.invokestatic 13, 3) := by decide +kernel
theorem d_CT_init_27 : decode b_CT_init 27 = .ok (.putfield 17, 3) := by decide +kernel
theorem d_CT_init_30 : decode b_CT_init 30 = .ok (.aload_n 0, 1) := by decide +kernel
theorem d_CT_init_31 : decode b_CT_init 31 = .ok (.iload_n 3, 1) := by decide +kernel
theorem d_CT_init_32 : decode b_CT_init 32 = .ok (.iconst 0, 1) := by decide +kernel
theorem d_CT_init_33 : decode b_CT_init 33 = .ok (.bipush 40, 2) := by decide +kernel
theorem d_CT_init_35 : decode b_CT_init 35 = .ok (.invokestatic 13, 3) := by decide +kernel
theorem d_CT_init_38 : decode b_CT_init 38 = .ok (.putfield 21, 3) := by decide +kernel
theorem d_CT_init_41 : decode b_CT_init 41 = .ok (.aload_n 0, 1) := by decide +kernel
theorem d_CT_init_42 : decode b_CT_init 42 = .ok (.lload 4, 2) := by decide +kernel
theorem d_CT_init_44 : decode b_CT_init 44 = .ok (.putfield 24, 3) := by decide +kernel
theorem d_CT_init_47 : decode b_CT_init 47 = .ok (.aload_n 0, 1) := by decide +kernel
theorem d_CT_init_48 : decode b_CT_init 48 = .ok (.new 28, 3) := by decide +kernel
theorem d_CT_init_51 : decode b_CT_init 51 = .ok (.dup, 1) := by decide +kernel
theorem d_CT_init_52 : decode b_CT_init 52 = .ok (.iload 6, 2) := by decide +kernel
theorem d_CT_init_54 : decode b_CT_init 54 = .ok (.aload_n 0, 1) := by decide +kernel
theorem d_CT_init_55 : decode b_CT_init 55 = .ok (.getfield 17, 3) := by decide +kernel
theorem d_CT_init_58 : decode b_CT_init 58 = .ok (.aload_n 0, 1) := by decide +kernel
theorem d_CT_init_59 : decode b_CT_init 59 = .ok (.getfield 21, 3) := by decide +kernel
theorem d_CT_init_62 : decode b_CT_init 62 = .ok (.bipush 64, 2) := by decide +kernel
theorem d_CT_init_64 : decode b_CT_init 64 = .ok (.invokespecial 30, 3) := by decide +kernel
theorem d_CT_init_67 : decode b_CT_init 67 = .ok (.putfield 33, 3) := by decide +kernel
theorem d_CT_init_70 : decode b_CT_init 70 = .ok (.aload_n 0, 1) := by decide +kernel
theorem d_CT_init_71 : decode b_CT_init 71 = .ok (.new 28, 3) := by decide +kernel
theorem d_CT_init_74 : decode b_CT_init 74 = .ok (.dup, 1) := by decide +kernel
theorem d_CT_init_75 : decode b_CT_init 75 = .ok (.iconst 1, 1) := by decide +kernel
theorem d_CT_init_76 : decode b_CT_init 76 = .ok (.iload 6, 2) := by decide +kernel
theorem d_CT_init_78 : decode b_CT_init 78 = .ok (.iconst 1, 1) := by decide +kernel
theorem d_CT_init_79 : decode b_CT_init 79 = .ok (.isub, 1) := by decide +kernel
theorem d_CT_init_80 : decode b_CT_init 80 = .ok (.invokestatic 37, 3) := by decide +kernel
theorem d_CT_init_83 : decode b_CT_init 83 = .ok (.aload_n 0, 1) := by decide +kernel
theorem d_CT_init_84 : decode b_CT_init 84 = .ok (.getfield 17, 3) := by decide +kernel
theorem d_CT_init_87 : decode b_CT_init 87 = .ok (.aload_n 0, 1) := by decide +kernel
theorem d_CT_init_88 : decode b_CT_init 88 = .ok (.getfield 21, 3) := by decide +kernel
theorem d_CT_init_91 : decode b_CT_init 91 = .ok (.bipush 16, 2) := by decide +kernel
theorem d_CT_init_93 : decode b_CT_init 93 = .ok (.invokespecial 30, 3) := by decide +kernel
theorem d_CT_init_96 : decode b_CT_init 96 = .ok (.putfield 43, 3) := by decide +kernel
theorem d_CT_init_99 : decode b_CT_init 99 = .ok (.iconst 0, 1) := by decide +kernel
theorem d_CT_init_100 : decode b_CT_init 100 = .ok (.istore 7, 2) := by decide +kernel
theorem d_CT_init_102 : decode b_CT_init 102 = .ok (.iload 7, 2) := by decide +kernel
theorem d_CT_init_104 : decode b_CT_init 104 = .ok (.bipush 16, 2) := by decide +kernel
theorem d_CT_init_106 : decode b_CT_init 106 = .ok (.if_icmp .ge 25, 3) := by decide +kernel
theorem d_CT_init_109 : decode b_CT_init 109 = .ok (.aload_n 0, 1) := by decide +kernel
theorem d_CT_init_110 : decode b_CT_init 110 = .ok (.getfield 9, 3) := by decide +kernel
theorem d_CT_init_113 : decode b_CT_init 113 = .ok (.iload 7, 2) := by decide +kernel
theorem d_CT_init_115 : decode b_CT_init 115 = .ok (.aload_n 0, 1) := by decide +kernel
theorem d_CT_init_116 : decode b_CT_init 116 = .ok (.getfield 43, 3) := by decide +kernel
theorem d_CT_init_119 : decode b_CT_init 119 = .ok (.iload 7, 2) := by decide +kernel
theorem d_CT_init_121 : decode b_CT_init 121 = .ok (.invokevirtual 46, 3) := by decide +kernel
theorem d_CT_init_124 : decode b_CT_init 124 = .ok (.iastore, 1) := by decide +kernel
theorem d_CT_init_125 : decode b_CT_init 125 = .ok (.iinc 7 1, 3) := by decide +kernel
theorem d_CT_init_128 : decode b_CT_init 128 = .ok (.goto (-26), 3) := by decide +kernel
theorem d_CT_init_131 : decode b_CT_init 131 = .ok (.return_, 1) := by decide +kernel
theorem d_CT_nearest_0 : decode b_CT_nearest 0 = .ok (.iload_n 1, 1) := by decide +kernel
theorem d_CT_nearest_1 : decode b_CT_nearest 1 = .ok (.iload_n 2, 1) := by decide +kernel
theorem d_CT_nearest_2 : decode b_CT_nearest 2 = .ok (.iload_n 0, 1) := by decide +kernel
theorem d_CT_nearest_3 : decode b_CT_nearest 3 = .ok (.invokestatic 175, 3) := by decide +kernel
theorem d_CT_nearest_6 : decode b_CT_nearest 6 = .ok (.invokestatic 37, 3) := by decide +kernel
theorem d_CT_nearest_9 : decode b_CT_nearest 9 = .ok (.ireturn, 1) := by decide +kernel
theorem d_CT_read_0 : decode b_CT_read 0 = .ok (.aload_n 0, 1) := by decide +kernel
theorem d_CT_read_1 : decode b_CT_read 1 = .ok (.iload_n 1, 1) := by decide +kernel
theorem d_CT_read_2 : decode b_CT_read 2 = .ok (.iconst 0, 1) := by decide +kernel
theorem d_CT_read_3 : decode b_CT_read 3 = .ok (.lconst 0, 1) := by decide +kernel
theorem d_CT_read_4 : decode b_CT_read 4 = .ok (.iload_n 2, 1) := by decide +kernel
theorem d_CT_read_5 : decode b_CT_read 5 = .ok (.iload_n 3, 1) := by decide +kernel
theorem d_CT_read_6 : decode b_CT_read 6 = .ok (.invokevirtual 50, 3) := by decide +kernel
theorem d_CT_read_9 : decode b_CT_read 9 = .ok (.lreturn, 1) := by decide +kernel
theorem d_CT_ask_0 : decode b_CT_ask 0 = .ok (.iload_n 1, 1) := by decide +kernel
theorem d_CT_ask_1 : decode b_CT_ask 1 = .ok (.ifCond .lt 9, 3) := by decide +kernel
theorem d_CT_ask_4 : decode b_CT_ask 4 = .ok (.iload_n 1, 1) := by decide +kernel
theorem d_CT_ask_5 : decode b_CT_ask 5 = .ok (.bipush 64, 2) := by decide +kernel
theorem d_CT_ask_7 : decode b_CT_ask 7 = .ok (.if_icmp .lt 13, 3) := by decide +kernel
theorem d_CT_ask_10 : decode b_CT_ask 10 = .ok (.new 67, 3) := by decide +kernel
theorem d_CT_ask_13 : decode b_CT_ask 13 = .ok (.dup, 1) := by decide +kernel
theorem d_CT_ask_14 : decode b_CT_ask 14 = .ok (.ldc 127, 2) := by decide +kernel
theorem d_CT_ask_16 : decode b_CT_ask 16 = .ok (.invokespecial 71, 3) := by decide +kernel
theorem d_CT_ask_19 : decode b_CT_ask 19 = .ok (.athrow, 1) := by decide +kernel
theorem d_CT_ask_20 : decode b_CT_ask 20 = .ok (.aload_n 0, 1) := by decide +kernel
theorem d_CT_ask_21 : decode b_CT_ask 21 = .ok (.getfield 33, 3) := by decide +kernel
theorem d_CT_ask_24 : decode b_CT_ask 24 = .ok (.iload 5, 2) := by decide +kernel
theorem d_CT_ask_26 : decode b_CT_ask 26 = .ok (.invokevirtual 129, 3) := by decide +kernel
theorem d_CT_ask_29 : decode b_CT_ask 29 = .ok (.ifCond .eq 15, 3) := by decide +kernel
theorem d_CT_ask_32 : decode b_CT_ask 32 = .ok (.aload_n 0, 1) := by decide +kernel
theorem d_CT_ask_33 : decode b_CT_ask 33 = .ok (.getfield 43, 3) := by decide +kernel
theorem d_CT_ask_36 : decode b_CT_ask 36 = .ok (.iload 6, 2) := by decide +kernel
theorem d_CT_ask_38 : decode b_CT_ask 38 = .ok (.invokevirtual 129, 3) := by decide +kernel
theorem d_CT_ask_41 : decode b_CT_ask 41 = .ok (.ifCond .ne 13, 3) := by decide +kernel
theorem d_CT_ask_44 : decode b_CT_ask 44 = .ok (.new 132, 3) := by decide +kernel
theorem d_CT_ask_47 : decode b_CT_ask 47 = .ok (.dup, 1) := by decide +kernel
theorem d_CT_ask_48 : decode b_CT_ask 48 = .ok (.ldc 134, 2) := by decide +kernel
theorem d_CT_ask_50 : decode b_CT_ask 50 = .ok (.invokespecial 136, 3) := by decide +kernel
theorem d_CT_ask_53 : decode b_CT_ask 53 = .ok (.athrow, 1) := by decide +kernel
theorem d_CT_ask_54 : decode b_CT_ask 54 = .ok (.iload_n 1, 1) := by decide +kernel
theorem d_CT_ask_55 : decode b_CT_ask 55 = .ok (.iconst 4, 1) := by decide +kernel
theorem d_CT_ask_56 : decode b_CT_ask 56 = .ok (.idiv, 1) := by decide +kernel
theorem d_CT_ask_57 : decode b_CT_ask 57 = .ok (.istore 7, 2) := by decide +kernel
theorem d_CT_ask_59 : decode b_CT_ask 59 = .ok (.iload_n 1, 1) := by decide +kernel
theorem d_CT_ask_60 : decode b_CT_ask 60 = .ok (.iconst 4, 1) := by decide +kernel
theorem d_CT_ask_61 : decode b_CT_ask 61 = .ok (.irem, 1) := by decide +kernel
theorem d_CT_ask_62 : decode b_CT_ask 62 = .ok (.bipush 16, 2) := by decide +kernel
theorem d_CT_ask_64 : decode b_CT_ask 64 = .ok (.imul, 1) := by decide +kernel
theorem d_CT_ask_65 : decode b_CT_ask 65 = .ok (.istore 8, 2) := by decide +kernel
theorem d_CT_ask_67 : decode b_CT_ask 67 = .ok (.aload_n 0, 1) := by decide +kernel
theorem d_CT_ask_68 : decode b_CT_ask 68 = .ok (.getfield 43, 3) := by decide +kernel
theorem d_CT_ask_71 : decode b_CT_ask 71 = .ok (.iload 7, 2) := by decide +kernel
theorem d_CT_ask_73 : decode b_CT_ask 73 = .ok (.aload_n 0, 1) := by decide +kernel
theorem d_CT_ask_74 : decode b_CT_ask 74 = .ok (.getfield 9, 3) := by decide +kernel
theorem d_CT_ask_77 : decode b_CT_ask 77 = .ok (.iload 7, 2) := by decide +kernel
theorem d_CT_ask_79 : decode b_CT_ask 79 = .ok (.iaload, 1) := by decide +kernel
theorem d_CT_ask_80 : decode b_CT_ask 80 = .ok (.invokevirtual 137, 3) := by decide +kernel
theorem d_CT_ask_83 : decode b_CT_ask 83 = .ok (.aload_n 0, 1) := by decide +kernel
theorem d_CT_ask_84 : decode b_CT_ask 84 = .ok (.getfield 43, 3) := by decide +kernel
theorem d_CT_ask_87 : decode b_CT_ask 87 = .ok (.invokevirtual 141, 3) := by decide +kernel
theorem d_CT_ask_90 : decode b_CT_ask 90 = .ok (.lstore 9, 2) := by decide +kernel
theorem d_CT_ask_92 : decode b_CT_ask 92 = .ok (.aload_n 0, 1) := by decide +kernel
theorem d_CT_ask_93 : decode b_CT_ask 93 = .ok (.getfield 43, 3) := by decide +kernel
theorem d_CT_ask_96 : decode b_CT_ask 96 = .ok (.iload 6, 2) := by decide +kernel
theorem d_CT_ask_98 : decode b_CT_ask 98 = .ok (.lload 9, 2) := by decide +kernel
theorem d_CT_ask_100 : decode b_CT_ask 100 = .ok (.iload 8, 2) := by decide +kernel
theorem d_CT_ask_102 : decode b_CT_ask 102 = .ok (.iload 5, 2) := by decide +kernel
theorem d_CT_ask_104 : decode b_CT_ask 104 = .ok (.iconst 1, 1) := by decide +kernel
theorem d_CT_ask_105 : decode b_CT_ask 105 = .ok (.iadd, 1) := by decide +kernel
theorem d_CT_ask_106 : decode b_CT_ask 106 = .ok (.invokestatic 145, 3) := by decide +kernel
theorem d_CT_ask_109 : decode b_CT_ask 109 = .ok (.invokevirtual 149, 3) := by decide +kernel
theorem d_CT_ask_112 : decode b_CT_ask 112 = .ok (.aload_n 0, 1) := by decide +kernel
theorem d_CT_ask_113 : decode b_CT_ask 113 = .ok (.getfield 33, 3) := by decide +kernel
theorem d_CT_ask_116 : decode b_CT_ask 116 = .ok (.iload_n 1, 1) := by decide +kernel
theorem d_CT_ask_117 : decode b_CT_ask 117 = .ok (.aload_n 0, 1) := by decide +kernel
theorem d_CT_ask_118 : decode b_CT_ask 118 = .ok (.lload 9, 2) := by decide +kernel
theorem d_CT_ask_120 : decode b_CT_ask 120 = .ok (.iload 8, 2) := by decide +kernel
theorem d_CT_ask_122 : decode b_CT_ask 122 = .ok (.iload_n 1, 1) := by decide +kernel
theorem d_CT_ask_123 : decode b_CT_ask 123 = .ok (.invokevirtual 153, 3) := by decide +kernel
theorem d_CT_ask_126 : decode b_CT_ask 126 = .ok (.invokevirtual 137, 3) := by decide +kernel
theorem d_CT_ask_129 : decode b_CT_ask 129 = .ok (.aload_n 0, 1) := by decide +kernel
theorem d_CT_ask_130 : decode b_CT_ask 130 = .ok (.getfield 33, 3) := by decide +kernel
theorem d_CT_ask_133 : decode b_CT_ask 133 = .ok (.invokevirtual 141, 3) := by decide +kernel
theorem d_CT_ask_136 : decode b_CT_ask 136 = .ok (.lstore 11, 2) := by decide +kernel
theorem d_CT_ask_138 : decode b_CT_ask 138 = .ok (.aload_n 0, 1) := by decide +kernel
theorem d_CT_ask_139 : decode b_CT_ask 139 = .ok (.getfield 33, 3) := by decide +kernel
theorem d_CT_ask_142 : decode b_CT_ask 142 = .ok (.iload 5, 2) := by decide +kernel
theorem d_CT_ask_144 : decode b_CT_ask 144 = .ok (.iload_n 2, 1) := by decide +kernel
theorem d_CT_ask_145 : decode b_CT_ask 145 = .ok (.ifCond .eq 7, 3) := by decide +kernel
theorem d_CT_ask_148 : decode b_CT_ask 148 = .ok (.lload_n 3, 1) := by decide +kernel
theorem d_CT_ask_149 : decode b_CT_ask 149 = .ok (.goto 5, 3) := by decide +kernel
theorem d_CT_ask_152 : decode b_CT_ask 152 = .ok (.lload 11, 2) := by decide +kernel
theorem d_CT_ask_154 : decode b_CT_ask 154 = .ok (.invokevirtual 149, 3) := by decide +kernel
theorem d_CT_ask_157 : decode b_CT_ask 157 = .ok (.aload_n 0, 1) := by decide +kernel
theorem d_CT_ask_158 : decode b_CT_ask 158 = .ok (.getfield 43, 3) := by decide +kernel
theorem d_CT_ask_161 : decode b_CT_ask 161 = .ok (.invokevirtual 157, 3) := by decide +kernel
theorem d_CT_ask_164 : decode b_CT_ask 164 = .ok (.ifCond .eq 13, 3) := by decide +kernel
theorem d_CT_ask_167 : decode b_CT_ask 167 = .ok (.aload_n 0, 1) := by decide +kernel
theorem d_CT_ask_168 : decode b_CT_ask 168 = .ok (.getfield 33, 3) := by decide +kernel
theorem d_CT_ask_171 : decode b_CT_ask 171 = .ok (.invokevirtual 157, 3) := by decide +kernel
theorem d_CT_ask_174 : decode b_CT_ask 174 = .ok (.ifCond .ne 13, 3) := by decide +kernel
theorem d_CT_ask_177 : decode b_CT_ask 177 = .ok (.new 161, 3) := by decide +kernel
theorem d_CT_ask_180 : decode b_CT_ask 180 = .ok (.dup, 1) := by decide +kernel
theorem d_CT_ask_181 : decode b_CT_ask 181 = .ok (.ldc 163, 2) := by decide +kernel
theorem d_CT_ask_183 : decode b_CT_ask 183 = .ok (.invokespecial 165, 3) := by decide +kernel
theorem d_CT_ask_186 : decode b_CT_ask 186 = .ok (.athrow, 1) := by decide +kernel
theorem d_CT_ask_187 : decode b_CT_ask 187 = .ok (.aload_n 0, 1) := by decide +kernel
theorem d_CT_ask_188 : decode b_CT_ask 188 = .ok (.getfield 43, 3) := by decide +kernel
theorem d_CT_ask_191 : decode b_CT_ask 191 = .ok (.invokevirtual 166, 3) := by decide +kernel
theorem d_CT_ask_194 : decode b_CT_ask 194 = .ok (.aload_n 0, 1) := by decide +kernel
theorem d_CT_ask_195 : decode b_CT_ask 195 = .ok (.getfield 33, 3) := by decide +kernel
theorem d_CT_ask_198 : decode b_CT_ask 198 = .ok (.invokevirtual 166, 3) := by decide +kernel
theorem d_CT_ask_201 : decode b_CT_ask 201 = .ok (.aload_n 0, 1) := by decide +kernel
theorem d_CT_ask_202 : decode b_CT_ask 202 = .ok (.getfield 9, 3) := by decide +kernel
theorem d_CT_ask_205 : decode b_CT_ask 205 = .ok (.iload 7, 2) := by decide +kernel
theorem d_CT_ask_207 : decode b_CT_ask 207 = .ok (.iload 6, 2) := by decide +kernel
theorem d_CT_ask_209 : decode b_CT_ask 209 = .ok (.iastore, 1) := by decide +kernel
theorem d_CT_ask_210 : decode b_CT_ask 210 = .ok (.aload_n 0, 1) := by decide +kernel
theorem d_CT_ask_211 : decode b_CT_ask 211 = .ok (.dup, 1) := by decide +kernel
theorem d_CT_ask_212 : decode b_CT_ask 212 = .ok (.getfield 122, 3) := by decide +kernel
theorem d_CT_ask_215 : decode b_CT_ask 215 = .ok (.iconst 1, 1) := by decide +kernel
theorem d_CT_ask_216 : decode b_CT_ask 216 = .ok (.iadd, 1) := by decide +kernel
theorem d_CT_ask_217 : decode b_CT_ask 217 = .ok (.putfield 122, 3) := by decide +kernel
theorem d_CT_ask_220 : decode b_CT_ask 220 = .ok (.aload_n 0, 1) := by decide +kernel
theorem d_CT_ask_221 : decode b_CT_ask 221 = .ok (.aload_n 0, 1) := by decide +kernel
theorem d_CT_ask_222 : decode b_CT_ask 222 = .ok (.getfield 119, 3) := by decide +kernel
theorem d_CT_ask_225 : decode b_CT_ask 225 = .ok (.aload_n 0, 1) := by decide +kernel
theorem d_CT_ask_226 : decode b_CT_ask 226 = .ok (.getfield 33, 3) := by decide +kernel
theorem d_CT_ask_229 : decode b_CT_ask 229 = .ok (.getfield 102, 3) := by decide +kernel
theorem d_CT_ask_232 : decode b_CT_ask 232 = .ok (.getfield 108, 3) := by decide +kernel
theorem d_CT_ask_235 : decode b_CT_ask 235 = .ok (.invokestatic 37, 3) := by decide +kernel
theorem d_CT_ask_238 : decode b_CT_ask 238 = .ok (.putfield 119, 3) := by decide +kernel
theorem d_CT_ask_241 : decode b_CT_ask 241 = .ok (.lload 11, 2) := by decide +kernel
theorem d_CT_ask_243 : decode b_CT_ask 243 = .ok (.lreturn, 1) := by decide +kernel
theorem d_CT_withNumber_0 : decode b_CT_withNumber 0 = .ok (.lload_n 0, 1) := by decide +kernel
theorem d_CT_withNumber_1 : decode b_CT_withNumber 1 = .ok (.ldc2_w 169, 3) := by decide +kernel
theorem d_CT_withNumber_4 : decode b_CT_withNumber 4 = .ok (.iload_n 2, 1) := by decide +kernel
theorem d_CT_withNumber_5 : decode b_CT_withNumber 5 = .ok (.lshl, 1) := by decide +kernel
theorem d_CT_withNumber_6 : decode b_CT_withNumber 6 = .ok (.ldc2_w 173, 3) := by decide +kernel
theorem d_CT_withNumber_9 : decode b_CT_withNumber 9 = .ok (.lxor, 1) := by decide +kernel
theorem d_CT_withNumber_10 : decode b_CT_withNumber 10 = .ok (.land, 1) := by decide +kernel
theorem d_CT_withNumber_11 : decode b_CT_withNumber 11 = .ok (.iload_n 3, 1) := by decide +kernel
theorem d_CT_withNumber_12 : decode b_CT_withNumber 12 = .ok (.i2l, 1) := by decide +kernel
theorem d_CT_withNumber_13 : decode b_CT_withNumber 13 = .ok (.iload_n 2, 1) := by decide +kernel
theorem d_CT_withNumber_14 : decode b_CT_withNumber 14 = .ok (.lshl, 1) := by decide +kernel
theorem d_CT_withNumber_15 : decode b_CT_withNumber 15 = .ok (.lor, 1) := by decide +kernel
theorem d_CT_withNumber_16 : decode b_CT_withNumber 16 = .ok (.lreturn, 1) := by decide +kernel
theorem d_CT_leafTold_0 : decode b_CT_leafTold 0 = .ok (.lload_n 1, 1) := by decide +kernel
theorem d_CT_leafTold_1 : decode b_CT_leafTold 1 = .ok (.iload_n 3, 1) := by decide +kernel
theorem d_CT_leafTold_2 : decode b_CT_leafTold 2 = .ok (.lushr, 1) := by decide +kernel
theorem d_CT_leafTold_3 : decode b_CT_leafTold 3 = .ok (.ldc2_w 169, 3) := by decide +kernel
theorem d_CT_leafTold_6 : decode b_CT_leafTold 6 = .ok (.land, 1) := by decide +kernel
theorem d_CT_leafTold_7 : decode b_CT_leafTold 7 = .ok (.l2i, 1) := by decide +kernel
theorem d_CT_leafTold_8 : decode b_CT_leafTold 8 = .ok (.istore 5, 2) := by decide +kernel
theorem d_CT_leafTold_10 : decode b_CT_leafTold 10 = .ok (.aload_n 0, 1) := by decide +kernel
theorem d_CT_leafTold_11 : decode b_CT_leafTold 11 = .ok (.getfield 33, 3) := by decide +kernel
theorem d_CT_leafTold_14 : decode b_CT_leafTold 14 = .ok (.iload 5, 2) := by decide +kernel
theorem d_CT_leafTold_16 : decode b_CT_leafTold 16 = .ok (.ifCond .ne 8, 3) := by decide +kernel
theorem d_CT_leafTold_19 : decode b_CT_leafTold 19 = .ok (.iload 4, 2) := by decide +kernel
theorem d_CT_leafTold_21 : decode b_CT_leafTold 21 = .ok (.goto 7, 3) := by decide +kernel
theorem d_CT_leafTold_24 : decode b_CT_leafTold 24 = .ok (.iload 5, 2) := by decide +kernel
theorem d_CT_leafTold_26 : decode b_CT_leafTold 26 = .ok (.iconst 1, 1) := by decide +kernel
theorem d_CT_leafTold_27 : decode b_CT_leafTold 27 = .ok (.isub, 1) := by decide +kernel
theorem d_CT_leafTold_28 : decode b_CT_leafTold 28 = .ok (.invokevirtual 46, 3) := by decide +kernel
theorem d_CT_leafTold_31 : decode b_CT_leafTold 31 = .ok (.ireturn, 1) := by decide +kernel
theorem d_CT_write_0 : decode b_CT_write 0 = .ok (.aload_n 0, 1) := by decide +kernel
theorem d_CT_write_1 : decode b_CT_write 1 = .ok (.iload_n 1, 1) := by decide +kernel
theorem d_CT_write_2 : decode b_CT_write 2 = .ok (.iconst 1, 1) := by decide +kernel
theorem d_CT_write_3 : decode b_CT_write 3 = .ok (.lload_n 2, 1) := by decide +kernel
theorem d_CT_write_4 : decode b_CT_write 4 = .ok (.iload 4, 2) := by decide +kernel
theorem d_CT_write_6 : decode b_CT_write 6 = .ok (.iload 5, 2) := by decide +kernel
theorem d_CT_write_8 : decode b_CT_write 8 = .ok (.invokevirtual 50, 3) := by decide +kernel
theorem d_CT_write_11 : decode b_CT_write 11 = .ok (.lreturn, 1) := by decide +kernel
theorem d_CT_trace_0 : decode b_CT_trace 0 = .ok (.aload_n 0, 1) := by decide +kernel
theorem d_CT_trace_1 : decode b_CT_trace 1 = .ok (.iload_n 1, 1) := by decide +kernel
theorem d_CT_trace_2 : decode b_CT_trace 2 = .ok (.invokevirtual 54, 3) := by decide +kernel
theorem d_CT_trace_5 : decode b_CT_trace 5 = .ok (.getfield 58, 3) := by decide +kernel
theorem d_CT_trace_8 : decode b_CT_trace 8 = .ok (.astore_n 3, 1) := by decide +kernel
theorem d_CT_trace_9 : decode b_CT_trace 9 = .ok (.iload_n 2, 1) := by decide +kernel
theorem d_CT_trace_10 : decode b_CT_trace 10 = .ok (.ifCond .lt 11, 3) := by decide +kernel
theorem d_CT_trace_13 : decode b_CT_trace 13 = .ok (.iload_n 2, 1) := by decide +kernel
theorem d_CT_trace_14 : decode b_CT_trace 14 = .ok (.aload_n 3, 1) := by decide +kernel
theorem d_CT_trace_15 : decode b_CT_trace 15 = .ok (.getfield 62, 3) := by decide +kernel
theorem d_CT_trace_18 : decode b_CT_trace 18 = .ok (.if_icmp .lt 13, 3) := by decide +kernel
theorem d_CT_trace_21 : decode b_CT_trace 21 = .ok (.new 67, 3) := by decide +kernel
theorem d_CT_trace_24 : decode b_CT_trace 24 = .ok (.dup, 1) := by decide +kernel
theorem d_CT_trace_25 : decode b_CT_trace 25 = .ok (.ldc 69, 2) := by decide +kernel
theorem d_CT_trace_27 : decode b_CT_trace 27 = .ok (.invokespecial 71, 3) := by decide +kernel
theorem d_CT_trace_30 : decode b_CT_trace 30 = .ok (.athrow, 1) := by decide +kernel
theorem d_CT_trace_31 : decode b_CT_trace 31 = .ok (.aload_n 3, 1) := by decide +kernel
theorem d_CT_trace_32 : decode b_CT_trace 32 = .ok (.iload_n 2, 1) := by decide +kernel
theorem d_CT_trace_33 : decode b_CT_trace 33 = .ok (.invokevirtual 74, 3) := by decide +kernel
theorem d_CT_trace_36 : decode b_CT_trace 36 = .ok (.ireturn, 1) := by decide +kernel
theorem d_CT_treeNumbered_0 : decode b_CT_treeNumbered 0 = .ok (.iload_n 1, 1) := by decide +kernel
theorem d_CT_treeNumbered_1 : decode b_CT_treeNumbered 1 = .ok (.ifCond .lt 8, 3) := by decide +kernel
theorem d_CT_treeNumbered_4 : decode b_CT_treeNumbered 4 = .ok (.iload_n 1, 1) := by decide +kernel
theorem d_CT_treeNumbered_5 : decode b_CT_treeNumbered 5 = .ok (.iconst 1, 1) := by decide +kernel
theorem d_CT_treeNumbered_6 : decode b_CT_treeNumbered 6 = .ok (.if_icmp .le 13, 3) := by decide +kernel
theorem d_CT_treeNumbered_9 : decode b_CT_treeNumbered 9 = .ok (.new 67, 3) := by decide +kernel
theorem d_CT_treeNumbered_12 : decode b_CT_treeNumbered 12 = .ok (.dup, 1) := by decide +kernel
theorem d_CT_treeNumbered_13 : decode b_CT_treeNumbered 13 = .ok (.ldc 171, 2) := by decide +kernel
theorem d_CT_treeNumbered_15 : decode b_CT_treeNumbered 15 = .ok (.invokespecial 71, 3) := by decide +kernel
theorem d_CT_treeNumbered_18 : decode b_CT_treeNumbered 18 = .ok (.athrow, 1) := by decide +kernel
theorem d_CT_treeNumbered_19 : decode b_CT_treeNumbered 19 = .ok (.iload_n 1, 1) := by decide +kernel
theorem d_CT_treeNumbered_20 : decode b_CT_treeNumbered 20 = .ok (.ifCond .ne 10, 3) := by decide +kernel
theorem d_CT_treeNumbered_23 : decode b_CT_treeNumbered 23 = .ok (.aload_n 0, 1) := by decide +kernel
theorem d_CT_treeNumbered_24 : decode b_CT_treeNumbered 24 = .ok (.getfield 33, 3) := by decide +kernel
theorem d_CT_treeNumbered_27 : decode b_CT_treeNumbered 27 = .ok (.goto 7, 3) := by decide +kernel
theorem d_CT_treeNumbered_30 : decode b_CT_treeNumbered 30 = .ok (.aload_n 0, 1) := by decide +kernel
theorem d_CT_treeNumbered_31 : decode b_CT_treeNumbered 31 = .ok (.getfield 43, 3) := by decide +kernel
theorem d_CT_treeNumbered_34 : decode b_CT_treeNumbered 34 = .ok (.areturn, 1) := by decide +kernel
theorem d_CT_stored_0 : decode b_CT_stored 0 = .ok (.aload_n 0, 1) := by decide +kernel
theorem d_CT_stored_1 : decode b_CT_stored 1 = .ok (.iload_n 1, 1) := by decide +kernel
theorem d_CT_stored_2 : decode b_CT_stored 2 = .ok (.invokevirtual 54, 3) := by decide +kernel
theorem d_CT_stored_5 : decode b_CT_stored 5 = .ok (.astore 5, 2) := by decide +kernel
theorem d_CT_stored_7 : decode b_CT_stored 7 = .ok (.aload 5, 2) := by decide +kernel
theorem d_CT_stored_9 : decode b_CT_stored 9 = .ok (.iload_n 2, 1) := by decide +kernel
theorem d_CT_stored_10 : decode b_CT_stored 10 = .ok (.invokevirtual 77, 3) := by decide +kernel
theorem d_CT_stored_13 : decode b_CT_stored 13 = .ok (.ifCond .ne 13, 3) := by decide +kernel
theorem d_CT_stored_16 : decode b_CT_stored 16 = .ok (.new 67, 3) := by decide +kernel
theorem d_CT_stored_19 : decode b_CT_stored 19 = .ok (.dup, 1) := by decide +kernel
theorem d_CT_stored_20 : decode b_CT_stored 20 = .ok (.ldc 81, 2) := by decide +kernel
theorem d_CT_stored_22 : decode b_CT_stored 22 = .ok (.invokespecial 71, 3) := by decide +kernel
theorem d_CT_stored_25 : decode b_CT_stored 25 = .ok (.athrow, 1) := by decide +kernel
theorem d_CT_stored_26 : decode b_CT_stored 26 = .ok (.iload_n 3, 1) := by decide +kernel
theorem d_CT_stored_27 : decode b_CT_stored 27 = .ok (.ifCond .lt 11, 3) := by decide +kernel
theorem d_CT_stored_30 : decode b_CT_stored 30 = .ok (.iload_n 3, 1) := by decide +kernel
theorem d_CT_stored_31 : decode b_CT_stored 31 = .ok (.aload_n 0, 1) := by decide +kernel
theorem d_CT_stored_32 : decode b_CT_stored 32 = .ok (.getfield 17, 3) := by decide +kernel
theorem d_CT_stored_35 : decode b_CT_stored 35 = .ok (.if_icmp .lt 13, 3) := by decide +kernel
theorem d_CT_stored_38 : decode b_CT_stored 38 = .ok (.new 67, 3) := by decide +kernel
theorem d_CT_stored_41 : decode b_CT_stored 41 = .ok (.dup, 1) := by decide +kernel
theorem d_CT_stored_42 : decode b_CT_stored 42 = .ok (.ldc 83, 2) := by decide +kernel
theorem d_CT_stored_44 : decode b_CT_stored 44 = .ok (.invokespecial 71, 3) := by decide +kernel
theorem d_CT_stored_47 : decode b_CT_stored 47 = .ok (.athrow, 1) := by decide +kernel
theorem d_CT_stored_48 : decode b_CT_stored 48 = .ok (.iload 4, 2) := by decide +kernel
theorem d_CT_stored_50 : decode b_CT_stored 50 = .ok (.ifCond .lt 9, 3) := by decide +kernel
theorem d_CT_stored_53 : decode b_CT_stored 53 = .ok (.iload 4, 2) := by decide +kernel
theorem d_CT_stored_55 : decode b_CT_stored 55 = .ok (.iconst 3, 1) := by decide +kernel
theorem d_CT_stored_56 : decode b_CT_stored 56 = .ok (.if_icmp .lt 13, 3) := by decide +kernel
theorem d_CT_stored_59 : decode b_CT_stored 59 = .ok (.new 67, 3) := by decide +kernel
theorem d_CT_stored_62 : decode b_CT_stored 62 = .ok (.dup, 1) := by decide +kernel
theorem d_CT_stored_63 : decode b_CT_stored 63 = .ok (.ldc 85, 2) := by decide +kernel
theorem d_CT_stored_65 : decode b_CT_stored 65 = .ok (.invokespecial 71, 3) := by decide +kernel
theorem d_CT_stored_68 : decode b_CT_stored 68 = .ok (.athrow, 1) := by decide +kernel
theorem d_CT_stored_69 : decode b_CT_stored 69 = .ok (.iload_n 1, 1) := by decide +kernel
theorem d_CT_stored_70 : decode b_CT_stored 70 = .ok (.bipush 64, 2) := by decide +kernel
theorem d_CT_stored_72 : decode b_CT_stored 72 = .ok (.imul, 1) := by decide +kernel
theorem d_CT_stored_73 : decode b_CT_stored 73 = .ok (.iload_n 2, 1) := by decide +kernel
theorem d_CT_stored_74 : decode b_CT_stored 74 = .ok (.iadd, 1) := by decide +kernel
theorem d_CT_stored_75 : decode b_CT_stored 75 = .ok (.iconst 4, 1) := by decide +kernel
theorem d_CT_stored_76 : decode b_CT_stored 76 = .ok (.imul, 1) := by decide +kernel
theorem d_CT_stored_77 : decode b_CT_stored 77 = .ok (.iload_n 3, 1) := by decide +kernel
theorem d_CT_stored_78 : decode b_CT_stored 78 = .ok (.iadd, 1) := by decide +kernel
theorem d_CT_stored_79 : decode b_CT_stored 79 = .ok (.iconst 4, 1) := by decide +kernel
theorem d_CT_stored_80 : decode b_CT_stored 80 = .ok (.imul, 1) := by decide +kernel
theorem d_CT_stored_81 : decode b_CT_stored 81 = .ok (.iload 4, 2) := by decide +kernel
theorem d_CT_stored_83 : decode b_CT_stored 83 = .ok (.iadd, 1) := by decide +kernel
theorem d_CT_stored_84 : decode b_CT_stored 84 = .ok (.i2l, 1) := by decide +kernel
theorem d_CT_stored_85 : decode b_CT_stored 85 = .ok (.lstore 6, 2) := by decide +kernel
theorem d_CT_stored_87 : decode b_CT_stored 87 = .ok (.aload 5, 2) := by decide +kernel
theorem d_CT_stored_89 : decode b_CT_stored 89 = .ok (.iload_n 2, 1) := by decide +kernel
theorem d_CT_stored_90 : decode b_CT_stored 90 = .ok (.iload_n 3, 1) := by decide +kernel
theorem d_CT_stored_91 : decode b_CT_stored 91 = .ok (.iload 4, 2) := by decide +kernel
theorem d_CT_stored_93 : decode b_CT_stored 93 = .ok (.invokevirtual 87, 3) := by decide +kernel
theorem d_CT_stored_96 : decode b_CT_stored 96 = .ok (.aload_n 0, 1) := by decide +kernel
theorem d_CT_stored_97 : decode b_CT_stored 97 = .ok (.getfield 24, 3) := by decide +kernel
theorem d_CT_stored_100 : decode b_CT_stored 100 = .ok (.ldc2_w 91, 3) := by decide +kernel
theorem d_CT_stored_103 : decode b_CT_stored 103 = .ok (.lload 6, 2) := by decide +kernel
theorem d_CT_stored_105 : decode b_CT_stored 105 = .ok (.lmul, 1) := by decide +kernel
theorem d_CT_stored_106 : decode b_CT_stored 106 = .ok (.ladd, 1) := by decide +kernel
theorem d_CT_stored_107 : decode b_CT_stored 107 = .ok (.ldc2_w 93, 3) := by decide +kernel
theorem d_CT_stored_110 : decode b_CT_stored 110 = .ok (.aload 5, 2) := by decide +kernel
theorem d_CT_stored_112 : decode b_CT_stored 112 = .ok (.iload_n 2, 1) := by decide +kernel
theorem d_CT_stored_113 : decode b_CT_stored 113 = .ok (.invokevirtual 95, 3) := by decide +kernel
theorem d_CT_stored_116 : decode b_CT_stored 116 = .ok (.i2l, 1) := by decide +kernel
theorem d_CT_stored_117 : decode b_CT_stored 117 = .ok (.lmul, 1) := by decide +kernel
theorem d_CT_stored_118 : decode b_CT_stored 118 = .ok (.ladd, 1) := by decide +kernel
theorem d_CT_stored_119 : decode b_CT_stored 119 = .ok (.invokestatic 98, 3) := by decide +kernel
theorem d_CT_stored_122 : decode b_CT_stored 122 = .ok (.lxor, 1) := by decide +kernel
theorem d_CT_stored_123 : decode b_CT_stored 123 = .ok (.lreturn, 1) := by decide +kernel
theorem d_CT_mix_0 : decode b_CT_mix 0 = .ok (.lload_n 0, 1) := by decide +kernel
theorem d_CT_mix_1 : decode b_CT_mix 1 = .ok (.lload_n 0, 1) := by decide +kernel
theorem d_CT_mix_2 : decode b_CT_mix 2 = .ok (.bipush 30, 2) := by decide +kernel
theorem d_CT_mix_4 : decode b_CT_mix 4 = .ok (.lushr, 1) := by decide +kernel
theorem d_CT_mix_5 : decode b_CT_mix 5 = .ok (.lxor, 1) := by decide +kernel
theorem d_CT_mix_6 : decode b_CT_mix 6 = .ok (.ldc2_w 178, 3) := by decide +kernel
theorem d_CT_mix_9 : decode b_CT_mix 9 = .ok (.lmul, 1) := by decide +kernel
theorem d_CT_mix_10 : decode b_CT_mix 10 = .ok (.lstore_n 2, 1) := by decide +kernel
theorem d_CT_mix_11 : decode b_CT_mix 11 = .ok (.lload_n 2, 1) := by decide +kernel
theorem d_CT_mix_12 : decode b_CT_mix 12 = .ok (.lload_n 2, 1) := by decide +kernel
theorem d_CT_mix_13 : decode b_CT_mix 13 = .ok (.bipush 27, 2) := by decide +kernel
theorem d_CT_mix_15 : decode b_CT_mix 15 = .ok (.lushr, 1) := by decide +kernel
theorem d_CT_mix_16 : decode b_CT_mix 16 = .ok (.lxor, 1) := by decide +kernel
theorem d_CT_mix_17 : decode b_CT_mix 17 = .ok (.ldc2_w 180, 3) := by decide +kernel
theorem d_CT_mix_20 : decode b_CT_mix 20 = .ok (.lmul, 1) := by decide +kernel
theorem d_CT_mix_21 : decode b_CT_mix 21 = .ok (.lstore 4, 2) := by decide +kernel
theorem d_CT_mix_23 : decode b_CT_mix 23 = .ok (.lload 4, 2) := by decide +kernel
theorem d_CT_mix_25 : decode b_CT_mix 25 = .ok (.lload 4, 2) := by decide +kernel
theorem d_CT_mix_27 : decode b_CT_mix 27 = .ok (.bipush 31, 2) := by decide +kernel
theorem d_CT_mix_29 : decode b_CT_mix 29 = .ok (.lushr, 1) := by decide +kernel
theorem d_CT_mix_30 : decode b_CT_mix 30 = .ok (.lxor, 1) := by decide +kernel
theorem d_CT_mix_31 : decode b_CT_mix 31 = .ok (.lreturn, 1) := by decide +kernel
theorem d_CT_written_0 : decode b_CT_written 0 = .ok (.aload_n 0, 1) := by decide +kernel
theorem d_CT_written_1 : decode b_CT_written 1 = .ok (.iload_n 1, 1) := by decide +kernel
theorem d_CT_written_2 : decode b_CT_written 2 = .ok (.invokevirtual 54, 3) := by decide +kernel
theorem d_CT_written_5 : decode b_CT_written 5 = .ok (.astore_n 3, 1) := by decide +kernel
theorem d_CT_written_6 : decode b_CT_written 6 = .ok (.aload_n 3, 1) := by decide +kernel
theorem d_CT_written_7 : decode b_CT_written 7 = .ok (.iload_n 2, 1) := by decide +kernel
theorem d_CT_written_8 : decode b_CT_written 8 = .ok (.invokevirtual 77, 3) := by decide +kernel
theorem d_CT_written_11 : decode b_CT_written 11 = .ok (.ifCond .ne 13, 3) := by decide +kernel
theorem d_CT_written_14 : decode b_CT_written 14 = .ok (.new 67, 3) := by decide +kernel
theorem d_CT_written_17 : decode b_CT_written 17 = .ok (.dup, 1) := by decide +kernel
theorem d_CT_written_18 : decode b_CT_written 18 = .ok (.ldc 81, 2) := by decide +kernel
theorem d_CT_written_20 : decode b_CT_written 20 = .ok (.invokespecial 71, 3) := by decide +kernel
theorem d_CT_written_23 : decode b_CT_written 23 = .ok (.athrow, 1) := by decide +kernel
theorem d_CT_written_24 : decode b_CT_written 24 = .ok (.aload_n 3, 1) := by decide +kernel
theorem d_CT_written_25 : decode b_CT_written 25 = .ok (.iload_n 2, 1) := by decide +kernel
theorem d_CT_written_26 : decode b_CT_written 26 = .ok (.invokevirtual 95, 3) := by decide +kernel
theorem d_CT_written_29 : decode b_CT_written 29 = .ok (.ireturn, 1) := by decide +kernel
theorem d_CT_stash_0 : decode b_CT_stash 0 = .ok (.aload_n 0, 1) := by decide +kernel
theorem d_CT_stash_1 : decode b_CT_stash 1 = .ok (.iload_n 1, 1) := by decide +kernel
theorem d_CT_stash_2 : decode b_CT_stash 2 = .ok (.invokevirtual 54, 3) := by decide +kernel
theorem d_CT_stash_5 : decode b_CT_stash 5 = .ok (.getfield 102, 3) := by decide +kernel
theorem d_CT_stash_8 : decode b_CT_stash 8 = .ok (.astore_n 3, 1) := by decide +kernel
theorem d_CT_stash_9 : decode b_CT_stash 9 = .ok (.iload_n 2, 1) := by decide +kernel
theorem d_CT_stash_10 : decode b_CT_stash 10 = .ok (.ifCond .ge 13, 3) := by decide +kernel
theorem d_CT_stash_13 : decode b_CT_stash 13 = .ok (.new 67, 3) := by decide +kernel
theorem d_CT_stash_16 : decode b_CT_stash 16 = .ok (.dup, 1) := by decide +kernel
theorem d_CT_stash_17 : decode b_CT_stash 17 = .ok (.ldc 106, 2) := by decide +kernel
theorem d_CT_stash_19 : decode b_CT_stash 19 = .ok (.invokespecial 71, 3) := by decide +kernel
theorem d_CT_stash_22 : decode b_CT_stash 22 = .ok (.athrow, 1) := by decide +kernel
theorem d_CT_stash_23 : decode b_CT_stash 23 = .ok (.iload_n 2, 1) := by decide +kernel
theorem d_CT_stash_24 : decode b_CT_stash 24 = .ok (.aload_n 3, 1) := by decide +kernel
theorem d_CT_stash_25 : decode b_CT_stash 25 = .ok (.getfield 108, 3) := by decide +kernel
theorem d_CT_stash_28 : decode b_CT_stash 28 = .ok (.if_icmp .ge 13, 3) := by decide +kernel
theorem d_CT_stash_31 : decode b_CT_stash 31 = .ok (.aload_n 3, 1) := by decide +kernel
theorem d_CT_stash_32 : decode b_CT_stash 32 = .ok (.iload_n 2, 1) := by decide +kernel
theorem d_CT_stash_33 : decode b_CT_stash 33 = .ok (.invokevirtual 113, 3) := by decide +kernel
theorem d_CT_stash_36 : decode b_CT_stash 36 = .ok (.iconst 1, 1) := by decide +kernel
theorem d_CT_stash_37 : decode b_CT_stash 37 = .ok (.isub, 1) := by decide +kernel
theorem d_CT_stash_38 : decode b_CT_stash 38 = .ok (.goto 4, 3) := by decide +kernel
theorem d_CT_stash_41 : decode b_CT_stash 41 = .ok (.iconst (-1), 1) := by decide +kernel
theorem d_CT_stash_42 : decode b_CT_stash 42 = .ok (.ireturn, 1) := by decide +kernel
theorem d_CT_count_0 : decode b_CT_count 0 = .ok (.iload_n 1, 1) := by decide +kernel
theorem d_CT_count_1 : decode b_CT_count 1 = .ok (.tableswitch 120 0 8 #[51, 59, 67, 72, 77, 88, 99, 104, 109], 51) := by decide +kernel
theorem d_CT_count_52 : decode b_CT_count 52 = .ok (.aload_n 0, 1) := by decide +kernel
theorem d_CT_count_53 : decode b_CT_count 53 = .ok (.getfield 33, 3) := by decide +kernel
theorem d_CT_count_56 : decode b_CT_count 56 = .ok (.getfield 116, 3) := by decide +kernel
theorem d_CT_count_59 : decode b_CT_count 59 = .ok (.ireturn, 1) := by decide +kernel
theorem d_CT_count_60 : decode b_CT_count 60 = .ok (.aload_n 0, 1) := by decide +kernel
theorem d_CT_count_61 : decode b_CT_count 61 = .ok (.getfield 43, 3) := by decide +kernel
theorem d_CT_count_64 : decode b_CT_count 64 = .ok (.getfield 116, 3) := by decide +kernel
theorem d_CT_count_67 : decode b_CT_count 67 = .ok (.ireturn, 1) := by decide +kernel
theorem d_CT_count_68 : decode b_CT_count 68 = .ok (.aload_n 0, 1) := by decide +kernel
theorem d_CT_count_69 : decode b_CT_count 69 = .ok (.getfield 17, 3) := by decide +kernel
theorem d_CT_count_72 : decode b_CT_count 72 = .ok (.ireturn, 1) := by decide +kernel
theorem d_CT_count_73 : decode b_CT_count 73 = .ok (.aload_n 0, 1) := by decide +kernel
theorem d_CT_count_74 : decode b_CT_count 74 = .ok (.getfield 21, 3) := by decide +kernel
theorem d_CT_count_77 : decode b_CT_count 77 = .ok (.ireturn, 1) := by decide +kernel
theorem d_CT_count_78 : decode b_CT_count 78 = .ok (.aload_n 0, 1) := by decide +kernel
theorem d_CT_count_79 : decode b_CT_count 79 = .ok (.getfield 33, 3) := by decide +kernel
theorem d_CT_count_82 : decode b_CT_count 82 = .ok (.getfield 102, 3) := by decide +kernel
theorem d_CT_count_85 : decode b_CT_count 85 = .ok (.getfield 108, 3) := by decide +kernel
theorem d_CT_count_88 : decode b_CT_count 88 = .ok (.ireturn, 1) := by decide +kernel
theorem d_CT_count_89 : decode b_CT_count 89 = .ok (.aload_n 0, 1) := by decide +kernel
theorem d_CT_count_90 : decode b_CT_count 90 = .ok (.getfield 43, 3) := by decide +kernel
theorem d_CT_count_93 : decode b_CT_count 93 = .ok (.getfield 102, 3) := by decide +kernel
theorem d_CT_count_96 : decode b_CT_count 96 = .ok (.getfield 108, 3) := by decide +kernel
theorem d_CT_count_99 : decode b_CT_count 99 = .ok (.ireturn, 1) := by decide +kernel
theorem d_CT_count_100 : decode b_CT_count 100 = .ok (.aload_n 0, 1) := by decide +kernel
theorem d_CT_count_101 : decode b_CT_count 101 = .ok (.getfield 119, 3) := by decide +kernel
theorem d_CT_count_104 : decode b_CT_count 104 = .ok (.ireturn, 1) := by decide +kernel
theorem d_CT_count_105 : decode b_CT_count 105 = .ok (.aload_n 0, 1) := by decide +kernel
theorem d_CT_count_106 : decode b_CT_count 106 = .ok (.getfield 122, 3) := by decide +kernel
theorem d_CT_count_109 : decode b_CT_count 109 = .ok (.ireturn, 1) := by decide +kernel
theorem d_CT_count_110 : decode b_CT_count 110 = .ok (.aload_n 0, 1) := by decide +kernel
theorem d_CT_count_111 : decode b_CT_count 111 = .ok (.getfield 33, 3) := by decide +kernel
theorem d_CT_count_114 : decode b_CT_count 114 = .ok (.getfield 58, 3) := by decide +kernel
theorem d_CT_count_117 : decode b_CT_count 117 = .ok (.getfield 62, 3) := by decide +kernel
theorem d_CT_count_120 : decode b_CT_count 120 = .ok (.ireturn, 1) := by decide +kernel
theorem d_CT_count_121 : decode b_CT_count 121 = .ok (.new 67, 3) := by decide +kernel
theorem d_CT_count_124 : decode b_CT_count 124 = .ok (.dup, 1) := by decide +kernel
theorem d_CT_count_125 : decode b_CT_count 125 = .ok (.ldc 125, 2) := by decide +kernel
theorem d_CT_count_127 : decode b_CT_count 127 = .ok (.invokespecial 71, 3) := by decide +kernel
theorem d_CT_count_130 : decode b_CT_count 130 = .ok (.athrow, 1) := by decide +kernel
end
section
-- my own rows: contracts whose heap stays as it is (z..), contracts over a world (m..)
section ZK
variable {p : Program} {l : Launch} {e : Env} {R : Room} {s : State} {m : MethodId} {args : Array Value} {below : List Frame} {meth : Method} {c : Code} {H : Heap} {locs : List Loc} {cells slots : Nat} {Q : State → Prop}
variable {pc : Nat} {ls : Array Slot} {rest st0 : List Value} {a : Array Value} {A0 : Nat → Prop} {H0 : Heap} {D : va_G} {cl : List vw_C} {tys : List (ClassId × FieldType)}
/-- the start of a method that leaves the heap as it is -/
def zP (D : va_G) (cl : List vw_C) (tys : List (ClassId × FieldType)) (av : List Value) (H : Heap) : Array Value → State → Prop := va_Pc av (fun U => U.heap = H ∧ va_K D cl tys U)
theorem zP_blind {av : List Value} : FrameBlind (zP D cl tys av H) := fun a U g mk q => by
  obtain ⟨q0, q1, qK⟩ := q
  exact ⟨q0, q1, va_K.moved (u := U) (U := U.calling g mk a) (Vm.Alike.refl U.vm) qK⟩
theorem zP_pre {av : List Value} (hK : va_K D cl tys s) : ∀ U : State, U.heap = H → s.WarmedH U.vm → zP D cl tys av H av.toArray U := fun _ hU hW => ⟨rfl, hU, va_K.moved hW.alike hK⟩
def zQi (H : Heap) (r : Int32) : Array Value → State → Outcome → State → Prop := va_Qi (fun x (_ : Unit) => x = r) (fun _ t => t.heap = H) (fun _ => False)
def zQl (H : Heap) (r : Int64) : Array Value → State → Outcome → State → Prop := va_Ql (fun x (_ : Unit) => x = r) (fun _ t => t.heap = H) (fun _ => False)
theorem zQi_end {v r : Int32} {t : State} (e : v = r) (hs : s.heap = H) (ht : t.heap = H) : zQi H r a s (.returned (some (.int v))) t := ⟨⟨v, (), rfl, e, ht⟩, by rw [hs, ht]; exact Nat.le_refl _, fun q _ _ => by rw [hs, ht]⟩
theorem zQl_end {v r : Int64} {t : State} (e : v = r) (hs : s.heap = H) (ht : t.heap = H) : zQl H r a s (.returned (some (.long v))) t := ⟨⟨v, (), rfl, e, ht⟩, by rw [hs, ht]; exact Nat.le_refl _, fun q _ _ => by rw [hs, ht]⟩
theorem zc_i {r : Int32} (hr : va_Run p l e R s m args below meth c H locs cells slots 0 0 (F0 m pc ls st0) rest (zQi H r a) (fun _ => False)) (hS : va_S A0 H0 H locs)
    (kk : ∀ locs1 : List Loc, va_S A0 H0 H locs1 → W p l e R s m args below meth c H locs1 cells slots Q (F0 m (pc + 3) ls (.int r :: rest))) : W p l e R s m args below meth c H locs cells slots Q (F0 m pc ls st0) := by
  refine va_calli hr hS (fun q _ h => h.elim) (fun q h => h.elim) (fun r1 u t H1 locs1 ht _ hp hb _ _ hS1 => ?_)
  subst hp
  have e1 : H1 = H := ht.symm.trans hb
  subst e1
  exact kk locs1 hS1
theorem zc_l {r : Int64} (hr : va_Run p l e R s m args below meth c H locs cells slots 0 0 (F0 m pc ls st0) rest (zQl H r a) (fun _ => False)) (hS : va_S A0 H0 H locs)
    (kk : ∀ locs1 : List Loc, va_S A0 H0 H locs1 → W p l e R s m args below meth c H locs1 cells slots Q (F0 m (pc + 3) ls (.long r :: rest))) : W p l e R s m args below meth c H locs cells slots Q (F0 m pc ls st0) := by
  refine va_calll hr hS (fun q _ h => h.elim) (fun q h => h.elim) (fun r1 u t H1 locs1 ht _ hp hb _ _ hS1 => ?_)
  subst hp
  have e1 : H1 = H := ht.symm.trans hb
  subst e1
  exact kk locs1 hS1
/-- the start of a method that writes in its world -/
def mP (D : va_G) (cl : List vw_C) (tys : List (ClassId × FieldType)) (av : List Value) (ws : va_W) (A : Nat → Prop) : Array Value → State → Prop := va_Pc av (fun U => va_P D cl ws U.heap ∧ va_K D cl tys U ∧ va_D A ws)
theorem mP_blind {av : List Value} {ws : va_W} {A : Nat → Prop} : FrameBlind (mP D cl tys av ws A) := fun a U g mk q => by
  obtain ⟨q0, q1, qK, qD⟩ := q
  exact ⟨q0, q1, va_K.moved (u := U) (U := U.calling g mk a) (Vm.Alike.refl U.vm) qK, qD⟩
theorem mP_pre {av : List Value} {ws : va_W} {A : Nat → Prop} (hK : va_K D cl tys s) (hP : va_P D cl ws H) (hD : va_D A ws) : ∀ U : State, U.heap = H → s.WarmedH U.vm → mP D cl tys av ws A av.toArray U := fun _ hU hW => ⟨rfl, by rw [hU]; exact hP, va_K.moved hW.alike hK, hD⟩
def mQv (D : va_G) (cl : List vw_C) (ws : va_W) (A : Nat → Prop) : Array Value → State → Outcome → State → Prop := va_Qv (fun (_ : Unit) => True) (fun _ t => va_P D cl ws t.heap ∧ va_D A ws) A
def mQi (D : va_G) (cl : List vw_C) (r : Int32) (ws : va_W) (A : Nat → Prop) : Array Value → State → Outcome → State → Prop := va_Qi (fun x (_ : Unit) => x = r) (fun _ t => va_P D cl ws t.heap ∧ va_D A ws) A
theorem mQv_end {ws ws' : va_W} {A : Nat → Prop} {t : State} (e : ws = ws') (hP : va_P D cl ws H) (hD : va_D A ws) (hS : va_S A s.heap H locs) (ht : t.heap = H) : mQv D cl ws' A a s (.returned none) t := by
  subst e
  exact ⟨⟨(), rfl, trivial, by rw [ht]; exact hP, hD⟩, hS.F ht⟩
theorem mQi_end {ws ws' : va_W} {A : Nat → Prop} {v r : Int32} {t : State} (ev : v = r) (e : ws = ws') (hP : va_P D cl ws H) (hD : va_D A ws) (hS : va_S A s.heap H locs) (ht : t.heap = H) : mQi D cl r ws' A a s (.returned (some (.int v))) t := by
  subst e
  exact ⟨⟨v, (), rfl, ev, by rw [ht]; exact hP, hD⟩, hS.F ht⟩
/-- behind a call that has the same world and the same A as its caller -/
theorem mc_v {ws : va_W} {A : Nat → Prop} (hr : va_Run p l e R s m args below meth c H locs cells slots 0 0 (F0 m pc ls st0) rest (mQv D cl ws A a) A) (hS : va_S A H0 H locs)
    (kk : ∀ (H1 : Heap) (locs1 : List Loc), va_P D cl ws H1 → va_D A ws → va_S A H0 H1 locs1 → W p l e R s m args below meth c H1 locs1 cells slots Q (F0 m (pc + 3) ls rest)) : W p l e R s m args below meth c H locs cells slots Q (F0 m pc ls st0) := by
  refine va_callv hr hS (fun q _ h => h) (fun q h => h) (fun u t H1 locs1 ht _ _ hb _ _ hS1 => ?_)
  exact kk H1 locs1 (by rw [← ht]; exact hb.1) hb.2 hS1
theorem mc_i {ws : va_W} {A : Nat → Prop} {r : Int32} (hr : va_Run p l e R s m args below meth c H locs cells slots 0 0 (F0 m pc ls st0) rest (mQi D cl r ws A a) A) (hS : va_S A H0 H locs)
    (kk : ∀ (H1 : Heap) (locs1 : List Loc), va_P D cl ws H1 → va_D A ws → va_S A H0 H1 locs1 → W p l e R s m args below meth c H1 locs1 cells slots Q (F0 m (pc + 3) ls (.int r :: rest))) : W p l e R s m args below meth c H locs cells slots Q (F0 m pc ls st0) := by
  refine va_calli hr hS (fun q _ h => h) (fun q h => h) (fun r1 u t H1 locs1 ht _ hp hb _ _ hS1 => ?_)
  subst hp
  exact kk H1 locs1 (by rw [← ht]; exact hb.1) hb.2 hS1
theorem W.mono {Q' : State → Prop} {g : JFrame} (h : ∀ t, Q t → Q' t) (k : W p l e R s m args below meth c H locs cells slots Q g) : W p l e R s m args below meth c H locs cells slots Q' g := fun T hT X => by
  obtain ⟨t, a, b⟩ := k T hT X
  exact ⟨t, a, h t b⟩
/-- all of a method's fixed things at once -/
def zAt (p : Program) (s : State) (m : MethodId) (args : Array Value) (meth : Method) (c : Code) (own : String) (cc : ByteArray) (nL : Nat) (ret : Option FieldType) : Prop :=
  p.tables.exec = Jvm.exec ∧ c.code = cc ∧ meth.sig.returnType = ret ∧ c.maxLocals = nL ∧ s.vm.findClass own = some m.cls ∧ (∀ w ∈ bw, w.before args s = true) ∧ meth.locks = false
/-- a contract out of a walk of the body -/
theorem Met.ofZ {y : MethodName} {rm : Room} {Pc : Array Value → State → Prop} {Qc : Array Value → State → Outcome → State → Prop} {mc ms : Nat} {free : Addr → Prop} {cc : ByteArray} {maxL : Nat} {ret : Option FieldType} {own : String} (hy : plainName y.cls = true) (ho : y.cls = own) (av : List Value) (hav : (lg_sl av).length ≤ maxL)
    (hav2 : ∀ (v : Array Value) (U : State), Pc v U → v = av.toArray)
    (body : ∀ (p : Program) (e : Env) (s : State) (m : MethodId) (below : List Frame) (meth : Method) (c : Code) (ls : Array Slot), zAt p s m av.toArray meth c own cc maxL ret → Pc av.toArray s → lv_has ls maxL (lv_args 0 av) →
      W p l e rm s m av.toArray below meth c s.heap [] 0 0 (MQ below Qc av.toArray s mc ms free) (F0 m 0 ls [])) : Met l y (Cond.code y cc maxL ret :: bw) rm Pc Qc mc ms free := by
  refine Met.ofW (cc := cc) (maxL := maxL) (ret := ret) hy rfl ?_
  intro p e s m args below meth c s₁ B hml hv
  have h0 := hav2 _ _ hv
  subst h0
  rw [lg_entry_eq]
  have hT := atoms_spec (ws := Cond.code y cc maxL ret :: bw) B.pre
  exact body p e s m below meth c _ ⟨B.exec, B.bytes, B.returns, hml, by rw [← ho]; exact findClass_of_methodNamed B.named, fun w h => hT w (.tail _ h), B.notSynchronized⟩ hv (lv_entry av hav)
end ZK
def b2i (b : Bool) : Int32 := if b = true then 1 else 0
theorem b2i_0 {b : Bool} : b2i b = 0 ↔ b = false := by cases b <;> decide
theorem b2i_n {b : Bool} : ¬ b2i b = 0 ↔ b = true := by cases b <;> decide
theorem b2i_nar {b : Bool} : narrow .boolean (.int (b2i b)) = .int (b2i b) := by cases b <;> rfl
theorem nar_0 : narrow .boolean (.int 0) = .int 0 := rfl
theorem nar_1 : narrow .boolean (.int 1) = .int 1 := rfl
end
section
-- PURE: what the class's methods compute, as they are written (a mirror of the Java text; no machine here)
/-- k rounds of a loop that counts from 0 -/
def lp_ {α : Type} (f : Nat → α → α) : Nat → α → α
  | 0, x => x
  | k + 1, x => f k (lp_ f k x)
/-- k rounds of a loop that counts down from n - 1 -/
def ld_ {α : Type} (f : Nat → α → α) (n : Nat) : Nat → α → α
  | 0, x => x
  | k + 1, x => f (n - 1 - k) (ld_ f n k x)
-- a row: marks, leaves, values, size
abbrev Rw : Type := (Nat → Int32) × (Nat → Int32) × (Nat → Int64) × Int32
/-- Row.has -/
def rw_has (n : Nat) (i : Int32) : Bool := decide (¬ i < 0) && decide (i < nI n)
def rw_at (n : Nat) (f : Nat → Int32) (i : Int32) : Int32 := if rw_has n i = true then f i.toNatClampNeg else 0
def rw_atL (n : Nat) (f : Nat → Int64) (i : Int32) : Int64 := if rw_has n i = true then f i.toNatClampNeg else 0
def rw_up (n : Nat) (f : Nat → Int32) (i x : Int32) : Nat → Int32 := if rw_has n i = true then upd f i.toNatClampNeg x else f
def rw_upL (n : Nat) (f : Nat → Int64) (i : Int32) (x : Int64) : Nat → Int64 := if rw_has n i = true then vp_updL f i.toNatClampNeg x else f
def rw_put (n : Nat) (r : Rw) (i mk lf : Int32) (v : Int64) : Rw := (rw_up n r.1 i mk, rw_up n r.2.1 i lf, rw_upL n r.2.2.1 i v, r.2.2.2)
def rw_copy (n : Nat) (r : Rw) (i : Int32) (n2 : Nat) (r2 : Rw) (j : Int32) : Rw := rw_put n r i (rw_at n2 r2.1 j) (rw_at n2 r2.2.1 j) (rw_atL n2 r2.2.2.1 j)
def rw_size (r : Rw) (k : Int32) : Rw := (r.1, r.2.1, r.2.2.1, k)
def rw_app (n : Nat) (r : Rw) (n2 : Nat) (r2 : Rw) (j : Int32) : Rw := if rw_has n r.2.2.2 = true then rw_size (rw_copy n r r.2.2.2 n2 r2 j) (r.2.2.2 + 1) else r
def rw_new (n : Nat) (r : Rw) (mk : Int32) : Rw := if rw_has n r.2.2.2 = true then rw_size (rw_put n r r.2.2.2 mk 0 0) (r.2.2.2 + 1) else r
/-- Row.find, from place j on, k places -/
def rw_find (f : Nat → Int32) (mk : Int32) : Nat → Nat → Int32
  | 0, _ => -1
  | k + 1, j => if f j = mk then nI j else rw_find f mk k (j + 1)
def rw_cnt (n : Nat) (sz : Int32) : Nat := min sz.toNatClampNeg n
-- the trail: leaves, how many are kept (never 600 here: a law's script has at most 512 calls)
abbrev Tl : Type := (Nat → Int32) × Nat
def tl_add (t : Tl) (lf : Int32) : Tl := (upd t.1 t.2 lf, t.2 + 1)
-- a tree: nodes (a row), counts, stash (a row), trail, plan (a row), targets, wayLeaf, sought; L levels, S slots, C capacity, B blocks
abbrev Ts : Type := Rw × (Nat → Int32) × Rw × Tl × Rw × (Nat → Int32) × Int32 × Int32
def ts_nodes (t : Ts) : Rw := t.1
def ts_cnts (t : Ts) : Nat → Int32 := t.2.1
def ts_stash (t : Ts) : Rw := t.2.2.1
def ts_trail (t : Ts) : Tl := t.2.2.2.1
def ts_plan (t : Ts) : Rw := t.2.2.2.2.1
def ts_tgt (t : Ts) : Nat → Int32 := t.2.2.2.2.2.1
def ts_way (t : Ts) : Int32 := t.2.2.2.2.2.2.1
def ts_sought (t : Ts) : Int32 := t.2.2.2.2.2.2.2
def ts_mk (a : Rw) (b : Nat → Int32) (c : Rw) (d : Tl) (e : Rw) (f : Nat → Int32) (g h : Int32) : Ts := (a, b, c, d, e, f, g, h)
def tr_nN (L S : Nat) : Nat := 2 * 2 ^ L * S
/-- Tree.nodeOnWay -/
def tr_way (L : Nat) (lf lv : Int32) : Int32 := (nI (2 ^ L) + lf) >>> ((nI L - lv) &&& 31)
/-- Tree.gatherNode: what becomes of the plan -/
def tr_gNf (L S B : Nat) (nodes : Rw) (node : Int32) (j : Nat) (pl : Rw) : Rw := if rw_at (tr_nN L S) nodes.1 (node * nI S + nI j) = 0 then pl else rw_app B pl (tr_nN L S) nodes (node * nI S + nI j)
def tr_gN (L S B : Nat) (nodes : Rw) (node : Int32) (plan : Rw) : Rw := lp_ (tr_gNf L S B nodes node) S plan
def tr_gSf (C B : Nat) (stash : Rw) (k : Nat) (pl : Rw) : Rw := rw_app B pl C stash (nI k)
def tr_gS (C B : Nat) (stash plan : Rw) : Rw := lp_ (tr_gSf C B stash) stash.2.2.2.toNatClampNeg plan
def tr_gWf (L S B : Nat) (nodes : Rw) (lf : Int32) (k : Nat) (pl : Rw) : Rw := tr_gN L S B nodes (tr_way L lf (nI k)) pl
def tr_gW (L S B : Nat) (nodes : Rw) (lf : Int32) (plan : Rw) : Rw := lp_ (tr_gWf L S B nodes lf) (L + 1) plan
def tr_gP (L S C B : Nat) (t : Ts) (lf : Int32) : Rw := tr_gW L S B (ts_nodes t) lf (tr_gS C B (ts_stash t) (rw_size (ts_plan t) 0))
def tr_look (B : Nat) (pl : Rw) (mk : Int32) : Int32 := rw_find pl.1 mk (rw_cnt B pl.2.2.2) 0
/-- Tree.gather -/
def tr_gather (L S C B : Nat) (t : Ts) (blk lf : Int32) : Ts :=
  (fun pl : Rw => (fun so : Int32 => if so = -1 then ts_mk (ts_nodes t) (ts_cnts t) (ts_stash t) (ts_trail t) (rw_new B pl (blk + 1)) (ts_tgt t) lf pl.2.2.2 else ts_mk (ts_nodes t) (ts_cnts t) (ts_stash t) (ts_trail t) pl (ts_tgt t) lf so) (tr_look B pl (blk + 1))) (tr_gP L S C B t lf)
def tr_value (B : Nat) (t : Ts) : Int64 := rw_atL B (ts_plan t).2.2.1 (ts_sought t)
def tr_settle (B : Nat) (t : Ts) (lf : Int32) (v : Int64) : Ts := ts_mk (ts_nodes t) (ts_cnts t) (ts_stash t) (ts_trail t) (rw_put B (ts_plan t) (ts_sought t) (rw_at B (ts_plan t).1 (ts_sought t)) lf v) (ts_tgt t) (ts_way t) (ts_sought t)
/-- Tree.fillNode: targets and how many are filled, a round of the plan; it stops when the slots are full -/
def tr_fNf (L S B : Nat) (pl : Rw) (node lv : Int32) (k : Nat) (q : (Nat → Int32) × Nat) : (Nat → Int32) × Nat :=
  if q.2 < S then (if q.1 k = -1 then (if tr_way L (rw_at B pl.2.1 (nI k)) lv = node then (upd q.1 k (node * nI S + nI q.2), q.2 + 1) else q) else q) else q
def tr_fN (L S B : Nat) (pl : Rw) (node lv : Int32) (tg : Nat → Int32) : (Nat → Int32) × Nat := lp_ (tr_fNf L S B pl node lv) (rw_cnt B pl.2.2.2) (tg, 0)
def tr_f0f (k : Nat) (f : Nat → Int32) : Nat → Int32 := upd f k (-1)
def tr_f0 (B : Nat) (pl : Rw) (tg : Nat → Int32) : Nat → Int32 := lp_ tr_f0f (rw_cnt B pl.2.2.2) tg
/-- Tree.fits: targets, rest -/
def tr_f1f (L S B : Nat) (pl : Rw) (way : Int32) (k : Nat) (q : (Nat → Int32) × Int32) : (Nat → Int32) × Int32 :=
  ((tr_fN L S B pl (tr_way L way (nI (L - k))) (nI (L - k)) q.1).1, q.2 - nI (tr_fN L S B pl (tr_way L way (nI (L - k))) (nI (L - k)) q.1).2)
def tr_fit (L S B : Nat) (t : Ts) : (Nat → Int32) × Int32 := lp_ (tr_f1f L S B (ts_plan t) (ts_way t)) (L + 1) (tr_f0 B (ts_plan t) (ts_tgt t), (ts_plan t).2.2.2)
def tr_fits (L S B : Nat) (t : Ts) : Ts := ts_mk (ts_nodes t) (ts_cnts t) (ts_stash t) (ts_trail t) (ts_plan t) (tr_fit L S B t).1 (ts_way t) (ts_sought t)
/-- Tree.emptyNode: nodes and counts -/
def tr_eNf (L S : Nat) (node : Int32) (j : Nat) (ns : Rw) : Rw := rw_put (tr_nN L S) ns (node * nI S + nI j) 0 0 0
def tr_nd (L : Nat) (node : Int32) : Bool := decide (1 ≤ node) && decide (node < 2 * nI (2 ^ L))
def tr_eN (L S : Nat) (node : Int32) (q : Rw × (Nat → Int32)) : Rw × (Nat → Int32) :=
  (lp_ (tr_eNf L S node) S q.1, if tr_nd L node = true then upd q.2 node.toNatClampNeg (q.2 node.toNatClampNeg + 1) else q.2)
/-- Tree.carryOut -/
def tr_cEf (L S : Nat) (way : Int32) (k : Nat) (q : Rw × (Nat → Int32)) : Rw × (Nat → Int32) := tr_eN L S (tr_way L way (nI k)) q
def tr_cE (L S : Nat) (t : Ts) : Rw × (Nat → Int32) := lp_ (tr_cEf L S (ts_way t)) (L + 1) (ts_nodes t, ts_cnts t)
def tr_cSf (L S C B : Nat) (pl : Rw) (tg : Nat → Int32) (k : Nat) (q : Rw × Rw) : Rw × Rw :=
  if tg k = -1 then (q.1, rw_app C q.2 B pl (nI k)) else (rw_copy (tr_nN L S) q.1 (tg k) B pl (nI k), q.2)
def tr_cS (L S C B : Nat) (t : Ts) : Rw × Rw := lp_ (tr_cSf L S C B (ts_plan t) (ts_tgt t)) (rw_cnt B (ts_plan t).2.2.2) ((tr_cE L S t).1, rw_size (ts_stash t) 0)
def tr_carry (L S C B : Nat) (t : Ts) : Ts := ts_mk (tr_cS L S C B t).1 (tr_cE L S t).2 (tr_cS L S C B t).2 (tl_add (ts_trail t) (ts_way t)) (ts_plan t) (ts_tgt t) (ts_way t) (ts_sought t)
theorem ls_lt {α : Type} {l : List α} {i : Nat} {x : α} (h : l[i]? = some x) : i < l.length := (List.getElem?_eq_some_iff.mp h).1
theorem ls_same {α : Type} {l : List α} {i : Nat} {x : α} (h : l[i]? = some x) : l.set i x = l := by
  apply List.ext_getElem?
  intro j
  rw [List.getElem?_set]
  by_cases hij : i = j
  · subst hij
    rw [if_pos rfl, if_pos (ls_lt h), h]
  · rw [if_neg hij]
theorem ls_ne {α : Type} {l : List α} {i j : Nat} {x : α} (h : i ≠ j) : (l.set i x)[j]? = l[j]? := by rw [List.getElem?_set, if_neg h]
theorem ls_eq {α : Type} {l : List α} {i : Nat} {x y : α} (h : l[i]? = some y) : (l.set i x)[i]? = some x := by rw [List.getElem?_set, if_pos rfl, if_pos (ls_lt h)]
/-- a Row at place i0 of the world: its object, marks, leaves, values -/
def rw_in (ws : va_W) (i0 h a1 a2 a3 n : Nat) (cI cJ : ClassId) (r : Rw) : Prop :=
  ws[i0]? = some (h, .inr (0, [.ref a1, .ref a2, .ref a3, .int r.2.2.2])) ∧ ws[i0 + 1]? = some (a1, .inl (cI, n, .inl r.1)) ∧ ws[i0 + 2]? = some (a2, .inl (cI, n, .inl r.2.1)) ∧ ws[i0 + 3]? = some (a3, .inl (cJ, n, .inr (.inl r.2.2.1)))
def rw_set (ws : va_W) (i0 h a1 a2 a3 n : Nat) (cI cJ : ClassId) (r : Rw) : va_W :=
  (((ws.set i0 (h, .inr (0, [.ref a1, .ref a2, .ref a3, .int r.2.2.2]))).set (i0 + 1) (a1, .inl (cI, n, .inl r.1))).set (i0 + 2) (a2, .inl (cI, n, .inl r.2.1))).set (i0 + 3) (a3, .inl (cJ, n, .inr (.inl r.2.2.1)))
theorem rw_in_set {ws : va_W} {i0 h a1 a2 a3 n : Nat} {cI cJ : ClassId} {r : Rw} (r' : Rw) (q : rw_in ws i0 h a1 a2 a3 n cI cJ r) : rw_in (rw_set ws i0 h a1 a2 a3 n cI cJ r') i0 h a1 a2 a3 n cI cJ r' := by
  obtain ⟨q0, q1, q2, q3⟩ := q
  have l3 := ls_lt q3
  refine ⟨?_, ?_, ?_, ?_⟩ <;> simp [rw_set, List.getElem?_set] <;> omega
theorem rw_set_self {ws : va_W} {i0 h a1 a2 a3 n : Nat} {cI cJ : ClassId} {r : Rw} (q : rw_in ws i0 h a1 a2 a3 n cI cJ r) : rw_set ws i0 h a1 a2 a3 n cI cJ r = ws := by
  obtain ⟨q0, q1, q2, q3⟩ := q
  rw [rw_set, ls_same q0, ls_same q1, ls_same q2, ls_same q3]
theorem rw_set_set {ws : va_W} {i0 h a1 a2 a3 n : Nat} {cI cJ : ClassId} {r r' : Rw} : rw_set (rw_set ws i0 h a1 a2 a3 n cI cJ r) i0 h a1 a2 a3 n cI cJ r' = rw_set ws i0 h a1 a2 a3 n cI cJ r' := by
  apply List.ext_getElem?
  intro j
  simp only [rw_set, List.getElem?_set, List.length_set]
  repeat' split
  all_goals first | rfl | omega
theorem rw_in_other {ws : va_W} {i0 j0 h a1 a2 a3 n h' b1 b2 b3 n' : Nat} {cI cJ : ClassId} {r r' r2 : Rw} (hd : i0 + 4 ≤ j0 ∨ j0 + 4 ≤ i0) (q : rw_in ws j0 h' b1 b2 b3 n' cI cJ r2) : rw_in (rw_set ws i0 h a1 a2 a3 n cI cJ r') j0 h' b1 b2 b3 n' cI cJ r2 := by
  obtain ⟨q0, q1, q2, q3⟩ := q
  refine ⟨?_, ?_, ?_, ?_⟩
  all_goals
    simp only [rw_set]
    rw [ls_ne (by omega), ls_ne (by omega), ls_ne (by omega), ls_ne (by omega)]
    assumption
theorem b2i_t {b : Bool} (h : b = true) : (1 : Int32) = b2i b := by rw [h]; rfl
theorem b2i_f {b : Bool} (h : b = false) : (0 : Int32) = b2i b := by rw [h]; rfl
theorem rw_has_t {n : Nat} {i : Int32} (h1 : ¬ i < 0) (h2 : ¬ nI n ≤ i) : rw_has n i = true := by
  simp only [rw_has, Bool.and_eq_true, decide_eq_true_eq]
  exact ⟨h1, Int32.not_le.mp h2⟩
theorem rw_has_f1 {n : Nat} {i : Int32} (h : i < 0) : rw_has n i = false := by simp [rw_has, h]
theorem rw_has_f2 {n : Nat} {i : Int32} (h : nI n ≤ i) : rw_has n i = false := by
  have h2 : ¬ i < nI n := Int32.not_lt.mpr h
  simp [rw_has, h2]
theorem rw_vp {n : Nat} {i : Int32} (hn : n < 2 ^ 31) (h : rw_has n i = true) : vp_in i n := by
  simp only [rw_has, Bool.and_eq_true, decide_eq_true_eq] at h
  obtain ⟨h1, h2⟩ := h
  rw [vp_in_iff]
  rw [Int32.lt_iff_toInt_lt] at h1 h2
  rw [nI_toInt hn] at h2
  rw [Int32.toInt_zero] at h1
  omega
theorem rw_cnt_le (n : Nat) (sz : Int32) : rw_cnt n sz ≤ n := Nat.min_le_right _ _
theorem i32_clampT {x : Int32} : (x.toNatClampNeg : Int) = max x.toInt 0 := by
  have h : x.toNatClampNeg = x.toInt.toNat := rfl
  rw [h]
  omega
theorem rw_c1 {n j : Nat} {sz : Int32} (hn : n < 2 ^ 31) (hj : j ≤ rw_cnt n sz) (h : sz ≤ nI j) : rw_cnt n sz ≤ j := by
  have h1 := rw_cnt_le n sz
  rw [Int32.le_iff_toInt_le, nI_toInt (by omega)] at h
  have h2 := i32_clampT (x := sz)
  simp only [rw_cnt] at *
  omega
theorem rw_c2 {n j : Nat} {sz : Int32} (hn : n < 2 ^ 31) (hj : j ≤ rw_cnt n sz) (h : nI n ≤ nI j) : rw_cnt n sz ≤ j := by
  have h1 := rw_cnt_le n sz
  rw [nI_leI hn (by omega)] at h
  omega
theorem rw_c3 {n j : Nat} {sz : Int32} (hn : n < 2 ^ 31) (hj : j ≤ rw_cnt n sz) (h : ¬ sz ≤ nI j) (h' : ¬ nI n ≤ nI j) : j < rw_cnt n sz := by
  have h1 := rw_cnt_le n sz
  rw [Int32.le_iff_toInt_le, nI_toInt (by omega)] at h
  rw [nI_leI hn (by omega)] at h'
  have h2 := i32_clampT (x := sz)
  simp only [rw_cnt] at *
  omega
theorem rw_find_z {f : Nat → Int32} {mk F : Int32} {c j : Nat} (hf : rw_find f mk (c - j) j = F) (h : c ≤ j) : (-1 : Int32) = F := by
  rw [← hf, Nat.sub_eq_zero_of_le h]; rfl
theorem rw_find_y {f : Nat → Int32} {mk F : Int32} {c j : Nat} (hf : rw_find f mk (c - j) j = F) (h : j < c) (e : f j = mk) : nI j = F := by
  obtain ⟨d, hd⟩ : ∃ d, c - j = d + 1 := ⟨c - j - 1, by omega⟩
  rw [hd] at hf
  rw [← hf]
  show nI j = if f j = mk then nI j else _
  rw [if_pos e]
theorem rw_find_n {f : Nat → Int32} {mk F : Int32} {c j : Nat} (hf : rw_find f mk (c - j) j = F) (h : j < c) (e : ¬ f j = mk) : rw_find f mk (c - (j + 1)) (j + 1) = F := by
  obtain ⟨d, hd⟩ : ∃ d, c - j = d + 1 := ⟨c - j - 1, by omega⟩
  rw [hd] at hf
  rw [← hf, show c - (j + 1) = d by omega]
  show _ = if f j = mk then nI j else _
  rw [if_neg e]
section RS
variable {ws : va_W} {i0 h a1 a2 a3 n : Nat} {cI cJ : ClassId} {r : Rw}
theorem rw_set_0 (q : rw_in ws i0 h a1 a2 a3 n cI cJ r) (k : Int32) : ws.set i0 (h, .inr (0, [.ref a1, .ref a2, .ref a3, .int k])) = rw_set ws i0 h a1 a2 a3 n cI cJ (rw_size r k) := by
  obtain ⟨q0, q1, q2, q3⟩ := q
  show _ = (((ws.set i0 (h, .inr (0, [.ref a1, .ref a2, .ref a3, .int k]))).set (i0 + 1) (a1, .inl (cI, n, .inl r.1))).set (i0 + 2) (a2, .inl (cI, n, .inl r.2.1))).set (i0 + 3) (a3, .inl (cJ, n, .inr (.inl r.2.2.1)))
  rw [ls_same (i := i0 + 1) (by rw [ls_ne (by omega)]; exact q1), ls_same (i := i0 + 2) (by rw [ls_ne (by omega)]; exact q2), ls_same (i := i0 + 3) (by rw [ls_ne (by omega)]; exact q3)]
theorem rw_set_1 (q : rw_in ws i0 h a1 a2 a3 n cI cJ r) (f : Nat → Int32) : ws.set (i0 + 1) (a1, .inl (cI, n, .inl f)) = rw_set ws i0 h a1 a2 a3 n cI cJ (f, r.2) := by
  obtain ⟨q0, q1, q2, q3⟩ := q
  show _ = (((ws.set i0 (h, .inr (0, [.ref a1, .ref a2, .ref a3, .int r.2.2.2]))).set (i0 + 1) (a1, .inl (cI, n, .inl f))).set (i0 + 2) (a2, .inl (cI, n, .inl r.2.1))).set (i0 + 3) (a3, .inl (cJ, n, .inr (.inl r.2.2.1)))
  rw [ls_same (i := i0) q0, ls_same (i := i0 + 2) (by rw [ls_ne (by omega)]; exact q2), ls_same (i := i0 + 3) (by rw [ls_ne (by omega)]; exact q3)]
theorem rw_set_2 (q : rw_in ws i0 h a1 a2 a3 n cI cJ r) (f : Nat → Int32) : ws.set (i0 + 2) (a2, .inl (cI, n, .inl f)) = rw_set ws i0 h a1 a2 a3 n cI cJ (r.1, f, r.2.2) := by
  obtain ⟨q0, q1, q2, q3⟩ := q
  show _ = (((ws.set i0 (h, .inr (0, [.ref a1, .ref a2, .ref a3, .int r.2.2.2]))).set (i0 + 1) (a1, .inl (cI, n, .inl r.1))).set (i0 + 2) (a2, .inl (cI, n, .inl f))).set (i0 + 3) (a3, .inl (cJ, n, .inr (.inl r.2.2.1)))
  rw [ls_same (i := i0) q0, ls_same (i := i0 + 1) q1, ls_same (i := i0 + 3) (by rw [ls_ne (by omega)]; exact q3)]
theorem rw_set_3 (q : rw_in ws i0 h a1 a2 a3 n cI cJ r) (f : Nat → Int64) : ws.set (i0 + 3) (a3, .inl (cJ, n, .inr (.inl f))) = rw_set ws i0 h a1 a2 a3 n cI cJ (r.1, r.2.1, f, r.2.2.2) := by
  obtain ⟨q0, q1, q2, q3⟩ := q
  show _ = (((ws.set i0 (h, .inr (0, [.ref a1, .ref a2, .ref a3, .int r.2.2.2]))).set (i0 + 1) (a1, .inl (cI, n, .inl r.1))).set (i0 + 2) (a2, .inl (cI, n, .inl r.2.1))).set (i0 + 3) (a3, .inl (cJ, n, .inr (.inl f)))
  rw [ls_same (i := i0) q0, ls_same (i := i0 + 1) q1, ls_same (i := i0 + 2) q2]
end RS
theorem rw_put_t {n : Nat} {r : Rw} {i mk lf : Int32} {v : Int64} (h : rw_has n i = true) : rw_put n r i mk lf v = (upd r.1 i.toNatClampNeg mk, upd r.2.1 i.toNatClampNeg lf, vp_updL r.2.2.1 i.toNatClampNeg v, r.2.2.2) := by simp [rw_put, rw_up, rw_upL, h]
theorem rw_put_f {n : Nat} {r : Rw} {i mk lf : Int32} {v : Int64} (h : rw_has n i = false) : rw_put n r i mk lf v = r := by simp [rw_put, rw_up, rw_upL, h]
theorem rw_app_t {n n2 : Nat} {r r2 : Rw} {j : Int32} (h : rw_has n r.2.2.2 = true) : rw_app n r n2 r2 j = rw_size (rw_copy n r r.2.2.2 n2 r2 j) (r.2.2.2 + 1) := by rw [rw_app, if_pos h]
theorem rw_app_f {n n2 : Nat} {r r2 : Rw} {j : Int32} (h : rw_has n r.2.2.2 = false) : rw_app n r n2 r2 j = r := by rw [rw_app, if_neg (by rw [h]; decide)]
theorem rw_new_t {n : Nat} {r : Rw} {mk : Int32} (h : rw_has n r.2.2.2 = true) : rw_new n r mk = rw_size (rw_put n r r.2.2.2 mk 0 0) (r.2.2.2 + 1) := by rw [rw_new, if_pos h]
theorem rw_new_f {n : Nat} {r : Rw} {mk : Int32} (h : rw_has n r.2.2.2 = false) : rw_new n r mk = r := by rw [rw_new, if_neg (by rw [h]; decide)]
end
section
set_option maxHeartbeats 4000000 in
set_option maxRecDepth 100000 in
/-- Row.has -/
theorem c_RW_has {l : Launch} {dC : Nat → ClassId} {dI : Nat → Nat → Nat} {cI cJ : ClassId} {H : Heap} {ws : va_W} {i0 h a1 a2 a3 n : Nat} {r : Rw} (hP : va_P (dC, dI) kCl ws H) (hr0 : rw_in ws i0 h a1 a2 a3 n cI cJ r) (hn : n < 2 ^ 31) (i : Int32) : Met l y_RW_has (k_RW_has :: bw) { frames := 0, cells := 0, slots := 0, locals := 0 } (zP (dC, dI) kCl [(cI, .int), (cJ, .long)] [.ref h, .int i] H) (zQi H (b2i (rw_has n i))) 0 0 (fun _ => False) := by
  refine Met.ofZ (own := "CoinTree$Row") (by decide) rfl [.ref h, .int i] (Nat.le_of_ble_eq_true rfl) (fun _ _ h => h.1) ?_
  intro p e s m below meth c ls C0 hv hl
  obtain ⟨hx, hb, hr, hml, hown, hT, hlocks⟩ := C0
  obtain ⟨-, rfl, hK⟩ := hv
  have hS : va_S (fun _ => False) s.heap s.heap [] := va_S.rf
  have hl : lv_has ls 2 [(0, .ref h), (1, .int i)] := hl
  refine lv_iload_n hx hb d_RW_has_0 rfl (lv_at hl 1 rfl) ?_
  refine lv_if_lt (tgt := 17) hx hb d_RW_has_1 (by decide) (fun c_1 => ?_) (fun c_1 => ?_)
  · refine lv_iconst (v := 0) hx hb d_RW_has_17 (by decide) ?_
    exact W.zret (ty := .boolean) hx hb hr nar_0 (fun t9 ht _ => zQi_end (by first | exact b2i_t (rw_has_t (by assumption) (by assumption)) | exact b2i_f (rw_has_f1 (by assumption)) | exact b2i_f (rw_has_f2 (by assumption))) rfl ht) hS.2.2 d_RW_has_18 hlocks
  · refine lv_iload_n hx hb d_RW_has_4 rfl (lv_at hl 1 rfl) ?_
    refine lv_aload_n hx hb d_RW_has_5 rfl (lv_at hl 0 rfl) ?_
    refine va_get (D := (dC, dI)) (ci := 0) (v := .ref a1) (C := R_RW) (T := F_RW) (N := 4) hx hb hT i_RW hown hK hP i0 hr0.1 rfl 0 (by decide) (hT _ m_82) (fun _ h9 => h9) rfl d_RW_has_6 ?_
    refine va_alen (v := nI n) hx hb hK hP (i0 + 1) 0 hr0.2.1 rfl rfl d_RW_has_9 ?_
    refine lv_icmp_ge (tgt := 17) hx hb d_RW_has_10 (by decide) (fun c_2 => ?_) (fun c_2 => ?_)
    · refine lv_iconst (v := 0) hx hb d_RW_has_17 (by decide) ?_
      exact W.zret (ty := .boolean) hx hb hr nar_0 (fun t9 ht _ => zQi_end (by first | exact b2i_t (rw_has_t (by assumption) (by assumption)) | exact b2i_f (rw_has_f1 (by assumption)) | exact b2i_f (rw_has_f2 (by assumption))) rfl ht) hS.2.2 d_RW_has_18 hlocks
    · refine lv_iconst (v := 1) hx hb d_RW_has_13 (by decide) ?_
      refine lv_goto (tgt := 18) hx hb d_RW_has_14 (by decide) ?_
      exact W.zret (ty := .boolean) hx hb hr nar_1 (fun t9 ht _ => zQi_end (by first | exact b2i_t (rw_has_t (by assumption) (by assumption)) | exact b2i_f (rw_has_f1 (by assumption)) | exact b2i_f (rw_has_f2 (by assumption))) rfl ht) hS.2.2 d_RW_has_18 hlocks

set_option maxHeartbeats 4000000 in
set_option maxRecDepth 100000 in
/-- Row.markAt -/
theorem c_RW_markAt {l : Launch} {dC : Nat → ClassId} {dI : Nat → Nat → Nat} {cI cJ : ClassId} {H : Heap} {ws : va_W} {i0 h a1 a2 a3 n : Nat} {r : Rw} (hP : va_P (dC, dI) kCl ws H) (hr0 : rw_in ws i0 h a1 a2 a3 n cI cJ r) (hn : n < 2 ^ 31) (i : Int32) : Met l y_RW_markAt (k_RW_markAt :: bw) { frames := 1, cells := 0, slots := 0, locals := 21 } (zP (dC, dI) kCl [(cI, .int), (cJ, .long)] [.ref h, .int i] H) (zQi H (rw_at n r.1 i)) 0 0 (fun _ => False) := by
  refine Met.ofZ (own := "CoinTree$Row") (by decide) rfl [.ref h, .int i] (Nat.le_of_ble_eq_true rfl) (fun _ _ h => h.1) ?_
  intro p e s m below meth c ls C0 hv hl
  obtain ⟨hx, hb, hr, hml, hown, hT, hlocks⟩ := C0
  obtain ⟨-, rfl, hK⟩ := hv
  have hS : va_S (fun _ => False) s.heap s.heap [] := va_S.rf
  have hl : lv_has ls 2 [(0, .ref h), (1, .int i)] := hl
  refine lv_aload_n hx hb d_RW_markAt_0 rfl (lv_at hl 0 rfl) ?_
  refine lv_iload_n hx hb d_RW_markAt_1 rfl (lv_at hl 1 rfl) ?_
  refine zc_i (va_runV (As := [.int i]) (rest := []) ⟨hx, hb, hml, hown, hT⟩ (c_RW_has hP hr0 hn i) (cwV 1 hT (gi_V m_283 m_280 m_282 m_2 m_26) rfl rfl rfl p_RW_has ⟨Nat.le_of_ble_eq_true rfl, Nat.le_of_ble_eq_true rfl⟩) ⟨zP_blind, va_recv hK hP (ci := 0) (q0 := i0) rfl hr0.1, zP_pre hK⟩ rfl rfl hl.1 rfl (lv_room (Nat.le_of_ble_eq_true rfl)) d_RW_markAt_2 ⟨Nat.le_refl _, Nat.le_refl _⟩) hS (fun locs hS => ?_)
  refine lv_if_eq (tgt := 17) hx hb d_RW_markAt_5 (by decide) (fun c_1 => ?_) (fun c_1 => ?_)
  · refine lv_iconst (v := 0) hx hb d_RW_markAt_17 (by decide) ?_
    exact W.iret hx hb hr (fun t9 ht _ => zQi_end (by first | simp [rw_at, rw_atL, b2i_n.mp c_1] | simp [rw_at, rw_atL, b2i_0.mp c_1]) rfl ht) hS.2.2 d_RW_markAt_18 hlocks
  · refine lv_aload_n hx hb d_RW_markAt_8 rfl (lv_at hl 0 rfl) ?_
    refine va_get (D := (dC, dI)) (ci := 0) (v := .ref a1) (C := R_RW) (T := F_RW) (N := 4) hx hb hT i_RW hown hK hP i0 hr0.1 rfl 0 (by decide) (hT _ m_82) (fun _ h9 => h9) rfl d_RW_markAt_9 ?_
    refine lv_iload_n hx hb d_RW_markAt_12 rfl (lv_at hl 1 rfl) ?_
    refine va_iald hx hb hK hP (i0 + 1) 0 hr0.2.1 rfl (rw_vp hn (b2i_n.mp c_1)) d_RW_markAt_13 ?_
    refine lv_goto (tgt := 18) hx hb d_RW_markAt_14 (by decide) ?_
    exact W.iret hx hb hr (fun t9 ht _ => zQi_end (by first | simp [rw_at, rw_atL, b2i_n.mp c_1] | simp [rw_at, rw_atL, b2i_0.mp c_1]) rfl ht) hS.2.2 d_RW_markAt_18 hlocks

set_option maxHeartbeats 4000000 in
set_option maxRecDepth 100000 in
/-- Row.leafAt -/
theorem c_RW_leafAt {l : Launch} {dC : Nat → ClassId} {dI : Nat → Nat → Nat} {cI cJ : ClassId} {H : Heap} {ws : va_W} {i0 h a1 a2 a3 n : Nat} {r : Rw} (hP : va_P (dC, dI) kCl ws H) (hr0 : rw_in ws i0 h a1 a2 a3 n cI cJ r) (hn : n < 2 ^ 31) (i : Int32) : Met l y_RW_leafAt (k_RW_leafAt :: bw) { frames := 1, cells := 0, slots := 0, locals := 21 } (zP (dC, dI) kCl [(cI, .int), (cJ, .long)] [.ref h, .int i] H) (zQi H (rw_at n r.2.1 i)) 0 0 (fun _ => False) := by
  refine Met.ofZ (own := "CoinTree$Row") (by decide) rfl [.ref h, .int i] (Nat.le_of_ble_eq_true rfl) (fun _ _ h => h.1) ?_
  intro p e s m below meth c ls C0 hv hl
  obtain ⟨hx, hb, hr, hml, hown, hT, hlocks⟩ := C0
  obtain ⟨-, rfl, hK⟩ := hv
  have hS : va_S (fun _ => False) s.heap s.heap [] := va_S.rf
  have hl : lv_has ls 2 [(0, .ref h), (1, .int i)] := hl
  refine lv_aload_n hx hb d_RW_leafAt_0 rfl (lv_at hl 0 rfl) ?_
  refine lv_iload_n hx hb d_RW_leafAt_1 rfl (lv_at hl 1 rfl) ?_
  refine zc_i (va_runV (As := [.int i]) (rest := []) ⟨hx, hb, hml, hown, hT⟩ (c_RW_has hP hr0 hn i) (cwV 1 hT (gi_V m_283 m_280 m_282 m_2 m_26) rfl rfl rfl p_RW_has ⟨Nat.le_of_ble_eq_true rfl, Nat.le_of_ble_eq_true rfl⟩) ⟨zP_blind, va_recv hK hP (ci := 0) (q0 := i0) rfl hr0.1, zP_pre hK⟩ rfl rfl hl.1 rfl (lv_room (Nat.le_of_ble_eq_true rfl)) d_RW_leafAt_2 ⟨Nat.le_refl _, Nat.le_refl _⟩) hS (fun locs hS => ?_)
  refine lv_if_eq (tgt := 17) hx hb d_RW_leafAt_5 (by decide) (fun c_1 => ?_) (fun c_1 => ?_)
  · refine lv_iconst (v := 0) hx hb d_RW_leafAt_17 (by decide) ?_
    exact W.iret hx hb hr (fun t9 ht _ => zQi_end (by first | simp [rw_at, rw_atL, b2i_n.mp c_1] | simp [rw_at, rw_atL, b2i_0.mp c_1]) rfl ht) hS.2.2 d_RW_leafAt_18 hlocks
  · refine lv_aload_n hx hb d_RW_leafAt_8 rfl (lv_at hl 0 rfl) ?_
    refine va_get (D := (dC, dI)) (ci := 0) (v := .ref a2) (C := R_RW) (T := F_RW) (N := 4) hx hb hT i_RW hown hK hP i0 hr0.1 rfl 1 (by decide) (hT _ m_83) (fun _ h9 => h9) rfl d_RW_leafAt_9 ?_
    refine lv_iload_n hx hb d_RW_leafAt_12 rfl (lv_at hl 1 rfl) ?_
    refine va_iald hx hb hK hP (i0 + 2) 0 hr0.2.2.1 rfl (rw_vp hn (b2i_n.mp c_1)) d_RW_leafAt_13 ?_
    refine lv_goto (tgt := 18) hx hb d_RW_leafAt_14 (by decide) ?_
    exact W.iret hx hb hr (fun t9 ht _ => zQi_end (by first | simp [rw_at, rw_atL, b2i_n.mp c_1] | simp [rw_at, rw_atL, b2i_0.mp c_1]) rfl ht) hS.2.2 d_RW_leafAt_18 hlocks

set_option maxHeartbeats 4000000 in
set_option maxRecDepth 100000 in
/-- Row.valueAt -/
theorem c_RW_valueAt {l : Launch} {dC : Nat → ClassId} {dI : Nat → Nat → Nat} {cI cJ : ClassId} {H : Heap} {ws : va_W} {i0 h a1 a2 a3 n : Nat} {r : Rw} (hP : va_P (dC, dI) kCl ws H) (hr0 : rw_in ws i0 h a1 a2 a3 n cI cJ r) (hn : n < 2 ^ 31) (i : Int32) : Met l y_RW_valueAt (k_RW_valueAt :: bw) { frames := 1, cells := 0, slots := 0, locals := 21 } (zP (dC, dI) kCl [(cI, .int), (cJ, .long)] [.ref h, .int i] H) (zQl H (rw_atL n r.2.2.1 i)) 0 0 (fun _ => False) := by
  refine Met.ofZ (own := "CoinTree$Row") (by decide) rfl [.ref h, .int i] (Nat.le_of_ble_eq_true rfl) (fun _ _ h => h.1) ?_
  intro p e s m below meth c ls C0 hv hl
  obtain ⟨hx, hb, hr, hml, hown, hT, hlocks⟩ := C0
  obtain ⟨-, rfl, hK⟩ := hv
  have hS : va_S (fun _ => False) s.heap s.heap [] := va_S.rf
  have hl : lv_has ls 2 [(0, .ref h), (1, .int i)] := hl
  refine lv_aload_n hx hb d_RW_valueAt_0 rfl (lv_at hl 0 rfl) ?_
  refine lv_iload_n hx hb d_RW_valueAt_1 rfl (lv_at hl 1 rfl) ?_
  refine zc_i (va_runV (As := [.int i]) (rest := []) ⟨hx, hb, hml, hown, hT⟩ (c_RW_has hP hr0 hn i) (cwV 1 hT (gi_V m_283 m_280 m_282 m_2 m_26) rfl rfl rfl p_RW_has ⟨Nat.le_of_ble_eq_true rfl, Nat.le_of_ble_eq_true rfl⟩) ⟨zP_blind, va_recv hK hP (ci := 0) (q0 := i0) rfl hr0.1, zP_pre hK⟩ rfl rfl hl.1 rfl (lv_room (Nat.le_of_ble_eq_true rfl)) d_RW_valueAt_2 ⟨Nat.le_refl _, Nat.le_refl _⟩) hS (fun locs hS => ?_)
  refine lv_if_eq (tgt := 17) hx hb d_RW_valueAt_5 (by decide) (fun c_1 => ?_) (fun c_1 => ?_)
  · refine lv_lconst (v := 0) hx hb d_RW_valueAt_17 (by decide) ?_
    exact W.lret hx hb hr (fun t9 ht _ => zQl_end (by first | simp [rw_at, rw_atL, b2i_n.mp c_1] | simp [rw_at, rw_atL, b2i_0.mp c_1]) rfl ht) hS.2.2 d_RW_valueAt_18 hlocks
  · refine lv_aload_n hx hb d_RW_valueAt_8 rfl (lv_at hl 0 rfl) ?_
    refine va_get (D := (dC, dI)) (ci := 0) (v := .ref a3) (C := R_RW) (T := F_RW) (N := 4) hx hb hT i_RW hown hK hP i0 hr0.1 rfl 2 (by decide) (hT _ m_84) (fun _ h9 => h9) rfl d_RW_valueAt_9 ?_
    refine lv_iload_n hx hb d_RW_valueAt_12 rfl (lv_at hl 1 rfl) ?_
    refine va_lald hx hb hK hP (i0 + 3) 1 hr0.2.2.2 rfl (rw_vp hn (b2i_n.mp c_1)) d_RW_valueAt_13 ?_
    refine lv_goto (tgt := 18) hx hb d_RW_valueAt_14 (by decide) ?_
    exact W.lret hx hb hr (fun t9 ht _ => zQl_end (by first | simp [rw_at, rw_atL, b2i_n.mp c_1] | simp [rw_at, rw_atL, b2i_0.mp c_1]) rfl ht) hS.2.2 d_RW_valueAt_18 hlocks
end
section
set_option maxHeartbeats 4000000 in
set_option maxRecDepth 100000 in
/-- Row.find -/
theorem c_RW_find {l : Launch} {dC : Nat → ClassId} {dI : Nat → Nat → Nat} {cI cJ : ClassId} {H : Heap} {ws : va_W} {i0 h a1 a2 a3 n : Nat} {r : Rw} (hP : va_P (dC, dI) kCl ws H) (hr0 : rw_in ws i0 h a1 a2 a3 n cI cJ r) (hn : n < 2 ^ 31) (mk : Int32) : Met l y_RW_find (k_RW_find :: bw) { frames := 0, cells := 0, slots := 0, locals := 0 } (zP (dC, dI) kCl [(cI, .int), (cJ, .long)] [.ref h, .int mk] H) (zQi H (rw_find r.1 mk (rw_cnt n r.2.2.2) 0)) 0 0 (fun _ => False) := by
  refine Met.ofZ (own := "CoinTree$Row") (by decide) rfl [.ref h, .int mk] (Nat.le_of_ble_eq_true rfl) (fun _ _ h => h.1) ?_
  intro p e s m below meth c ls C0 hv hl
  obtain ⟨hx, hb, hr, hml, hown, hT, hlocks⟩ := C0
  obtain ⟨-, rfl, hK⟩ := hv
  have hS : va_S (fun _ => False) s.heap s.heap [] := va_S.rf
  have hl : lv_has ls 3 [(0, .ref h), (1, .int mk)] := hl
  refine lv_iconst (v := 0) hx hb d_RW_find_0 (by decide) ?_
  refine lv_istore_n (lv' := [(2, .int 0), (0, .ref h), (1, .int mk)]) hx hb d_RW_find_1 rfl hl (by decide) rfl (fun ls hl => ?_)
  have lp : ∀ (N : Nat) (j : Nat) (ls : Array Slot) (locs : List Loc), rw_cnt n r.2.2.2 - j < N → j ≤ rw_cnt n r.2.2.2 → rw_find r.1 mk (rw_cnt n r.2.2.2 - j) j = rw_find r.1 mk (rw_cnt n r.2.2.2) 0 →  va_S (fun _ => False) s.heap s.heap locs → lv_has ls 3 [(2, .int (nI j)), (0, .ref h), (1, .int mk)] → W p l e ({ frames := 0, cells := 0, slots := 0, locals := 0 } : Room) s m ([.ref h, .int mk] : List Value).toArray below meth c s.heap locs 0 0 (MQ below (zQi s.heap (rw_find r.1 mk (rw_cnt n r.2.2.2) 0)) ([.ref h, .int mk] : List Value).toArray s 0 0 (fun _ => False)) (F0 m 2 ls []) := by
    intro N
    induction N with
    | zero => intro j ls locs hN; omega
    | succ N ih =>
      intro j ls locs hN hj hf hS hl
      refine lv_iload_n hx hb d_RW_find_2 rfl (lv_at hl 0 rfl) ?_
      refine lv_aload_n hx hb d_RW_find_3 rfl (lv_at hl 1 rfl) ?_
      refine va_get (D := (dC, dI)) (ci := 0) (v := .int r.2.2.2) (C := R_RW) (T := F_RW) (N := 4) hx hb hT i_RW hown hK hP i0 hr0.1 rfl 3 (by decide) (hT _ m_87) (fun _ h9 => h9) rfl d_RW_find_4 ?_
      refine lv_icmp_ge (tgt := 37) hx hb d_RW_find_7 (by decide) (fun c_1 => ?_) (fun c_1 => ?_)
      · refine lv_iconst (v := (-1)) hx hb d_RW_find_37 (by decide) ?_
        exact W.iret hx hb hr (fun t9 ht _ => zQi_end (by first | exact rw_find_z hf (rw_c1 hn hj c_1) | exact rw_find_z hf (rw_c2 hn hj c_2)) rfl ht) hS.2.2 d_RW_find_38 hlocks
      · refine lv_iload_n hx hb d_RW_find_10 rfl (lv_at hl 0 rfl) ?_
        refine lv_aload_n hx hb d_RW_find_11 rfl (lv_at hl 1 rfl) ?_
        refine va_get (D := (dC, dI)) (ci := 0) (v := .ref a1) (C := R_RW) (T := F_RW) (N := 4) hx hb hT i_RW hown hK hP i0 hr0.1 rfl 0 (by decide) (hT _ m_82) (fun _ h9 => h9) rfl d_RW_find_12 ?_
        refine va_alen (v := nI n) hx hb hK hP (i0 + 1) 0 hr0.2.1 rfl rfl d_RW_find_15 ?_
        refine lv_icmp_ge (tgt := 37) hx hb d_RW_find_16 (by decide) (fun c_2 => ?_) (fun c_2 => ?_)
        · refine lv_iconst (v := (-1)) hx hb d_RW_find_37 (by decide) ?_
          exact W.iret hx hb hr (fun t9 ht _ => zQi_end (by first | exact rw_find_z hf (rw_c1 hn hj c_1) | exact rw_find_z hf (rw_c2 hn hj c_2)) rfl ht) hS.2.2 d_RW_find_38 hlocks
        · have hlt := rw_c3 hn hj c_1 c_2
          have hj31 : j < 2 ^ 31 := by have := rw_cnt_le n r.2.2.2; omega
          refine lv_aload_n hx hb d_RW_find_19 rfl (lv_at hl 1 rfl) ?_
          refine va_get (D := (dC, dI)) (ci := 0) (v := .ref a1) (C := R_RW) (T := F_RW) (N := 4) hx hb hT i_RW hown hK hP i0 hr0.1 rfl 0 (by decide) (hT _ m_82) (fun _ h9 => h9) rfl d_RW_find_20 ?_
          refine lv_iload_n hx hb d_RW_find_23 rfl (lv_at hl 0 rfl) ?_
          refine va_iald hx hb hK hP (i0 + 1) 0 hr0.2.1 rfl (vp_in_nI (by have := rw_cnt_le n r.2.2.2; omega) hn) d_RW_find_24 ?_
          refine lv_iload_n hx hb d_RW_find_25 rfl (lv_at hl 2 rfl) ?_
          refine lv_icmp_ne (tgt := 31) hx hb d_RW_find_26 (by decide) (fun c_3 => ?_) (fun c_3 => ?_)
          · have hne : ¬ r.1 j = mk := by rw [nI_clamp hj31] at c_3; exact c_3
            refine lv_iinc (v := nI (j + 1)) (lv' := [(2, .int (nI (j + 1))), (0, .ref h), (1, .int mk)]) hx hb d_RW_find_31 hl (k := 0) rfl (nI_1 j) (by decide) rfl (fun ls hl => ?_)
            refine lv_goto (tgt := 2) hx hb d_RW_find_34 (by decide) ?_
            exact ih (j + 1) ls locs (by omega) hlt (rw_find_n hf hlt hne) hS (lv_sub hl [0, 1, 2] rfl)
          · refine lv_iload_n hx hb d_RW_find_29 rfl (lv_at hl 0 rfl) ?_
            exact W.iret hx hb hr (fun t9 ht _ => zQi_end (rw_find_y hf hlt (by rw [← c_3, nI_clamp hj31])) rfl ht) hS.2.2 d_RW_find_30 hlocks
  exact lp (rw_cnt n r.2.2.2 + 1) 0 ls _ (by omega) (Nat.zero_le _) rfl hS hl
end
section
set_option maxHeartbeats 4000000 in
set_option maxRecDepth 100000 in
/-- Row.put -/
theorem c_RW_put {l : Launch} {dC : Nat → ClassId} {dI : Nat → Nat → Nat} {cI cJ : ClassId} {A : Nat → Prop} {ws : va_W} {i0 h a1 a2 a3 n : Nat} {r : Rw} (hr0 : rw_in ws i0 h a1 a2 a3 n cI cJ r) (hn : n < 2 ^ 31) (i mk lf : Int32) (v : Int64) : Met l y_RW_put (k_RW_put :: bw) { frames := 1, cells := 0, slots := 0, locals := 21 } (mP (dC, dI) kCl [(cI, .int), (cJ, .long)] [.ref h, .int i, .int mk, .int lf, .long v] ws A) (mQv (dC, dI) kCl (rw_set ws i0 h a1 a2 a3 n cI cJ (rw_put n r i mk lf v)) A) 0 0 A := by
  refine Met.ofZ (own := "CoinTree$Row") (by decide) rfl [.ref h, .int i, .int mk, .int lf, .long v] (Nat.le_of_ble_eq_true rfl) (fun _ _ h => h.1) ?_
  intro p e s m below meth c ls C0 hv hl
  obtain ⟨hx, hb, hr, hml, hown, hT, hlocks⟩ := C0
  obtain ⟨-, hP, hK, hD⟩ := hv
  have hS : va_S A s.heap s.heap [] := va_S.rf
  have hl : lv_has ls 6 [(0, .ref h), (1, .int i), (2, .int mk), (3, .int lf), (4, .long v)] := hl
  refine lv_aload_n hx hb d_RW_put_0 rfl (lv_at hl 0 rfl) ?_
  refine lv_iload_n hx hb d_RW_put_1 rfl (lv_at hl 1 rfl) ?_
  refine zc_i (va_runV (As := [.int i]) (rest := []) ⟨hx, hb, hml, hown, hT⟩ (c_RW_has hP hr0 hn i) (cwV 1 hT (gi_V m_283 m_280 m_282 m_2 m_26) rfl rfl rfl p_RW_has ⟨Nat.le_of_ble_eq_true rfl, Nat.le_of_ble_eq_true rfl⟩) ⟨zP_blind, va_recv hK hP (ci := 0) (q0 := i0) rfl hr0.1, zP_pre hK⟩ rfl rfl hl.1 rfl (lv_room (Nat.le_of_ble_eq_true rfl)) d_RW_put_2 ⟨Nat.le_refl _, Nat.le_refl _⟩) hS (fun locs hS => ?_)
  refine lv_if_eq (tgt := 30) hx hb d_RW_put_5 (by decide) (fun c_1 => ?_) (fun c_1 => ?_)
  · exact W.vret hx hb hr (fun t9 ht _ => mQv_end (by first | (rw [rw_put_t (b2i_n.mp c_1)]; done) | (rw [rw_put_f (b2i_0.mp c_1), rw_set_self hr0]; done)) hP hD hS ht) hS.2.2 d_RW_put_30 hlocks
  · refine lv_aload_n hx hb d_RW_put_8 rfl (lv_at hl 0 rfl) ?_
    refine va_get (D := (dC, dI)) (ci := 0) (v := .ref a1) (C := R_RW) (T := F_RW) (N := 4) hx hb hT i_RW hown hK hP i0 hr0.1 rfl 0 (by decide) (hT _ m_82) (fun _ h9 => h9) rfl d_RW_put_9 ?_
    refine lv_iload_n hx hb d_RW_put_12 rfl (lv_at hl 1 rfl) ?_
    refine lv_iload_n hx hb d_RW_put_13 rfl (lv_at hl 2 rfl) ?_
    refine va_iast hx hb hK hP hD hS (i0 + 1) 0 hr0.2.1 rfl (rw_vp hn (b2i_n.mp c_1)) d_RW_put_14 (fun H locs hP hD hS => ?_)
    rw [rw_set_1 hr0] at hP hD
    have hr00 := hr0
    have hr0 := rw_in_set (upd r.1 i.toNatClampNeg mk, r.2) hr0
    refine lv_aload_n hx hb d_RW_put_15 rfl (lv_at hl 0 rfl) ?_
    refine va_get (D := (dC, dI)) (ci := 0) (v := .ref a2) (C := R_RW) (T := F_RW) (N := 4) hx hb hT i_RW hown hK hP i0 hr0.1 rfl 1 (by decide) (hT _ m_83) (fun _ h9 => h9) rfl d_RW_put_16 ?_
    refine lv_iload_n hx hb d_RW_put_19 rfl (lv_at hl 1 rfl) ?_
    refine lv_iload_n hx hb d_RW_put_20 rfl (lv_at hl 3 rfl) ?_
    refine va_iast hx hb hK hP hD hS (i0 + 2) 0 hr0.2.2.1 rfl (rw_vp hn (b2i_n.mp c_1)) d_RW_put_21 (fun H locs hP hD hS => ?_)
    rw [rw_set_2 hr0, rw_set_set] at hP hD
    have hr0 := rw_in_set (upd r.1 i.toNatClampNeg mk, upd r.2.1 i.toNatClampNeg lf, r.2.2) hr00
    refine lv_aload_n hx hb d_RW_put_22 rfl (lv_at hl 0 rfl) ?_
    refine va_get (D := (dC, dI)) (ci := 0) (v := .ref a3) (C := R_RW) (T := F_RW) (N := 4) hx hb hT i_RW hown hK hP i0 hr0.1 rfl 2 (by decide) (hT _ m_84) (fun _ h9 => h9) rfl d_RW_put_23 ?_
    refine lv_iload_n hx hb d_RW_put_26 rfl (lv_at hl 1 rfl) ?_
    refine lv_lload hx hb d_RW_put_27 (lv_at hl 4 rfl) ?_
    refine va_last hx hb hK hP hD hS (i0 + 3) 1 hr0.2.2.2 rfl (rw_vp hn (b2i_n.mp c_1)) d_RW_put_29 (fun H locs hP hD hS => ?_)
    rw [rw_set_3 hr0, rw_set_set] at hP hD
    have hr0 := rw_in_set (upd r.1 i.toNatClampNeg mk, upd r.2.1 i.toNatClampNeg lf, vp_updL r.2.2.1 i.toNatClampNeg v, r.2.2.2) hr00
    exact W.vret hx hb hr (fun t9 ht _ => mQv_end (by first | (rw [rw_put_t (b2i_n.mp c_1)]; done) | (rw [rw_put_f (b2i_0.mp c_1), rw_set_self hr0]; done)) hP hD hS ht) hS.2.2 d_RW_put_30 hlocks

set_option maxHeartbeats 4000000 in
set_option maxRecDepth 100000 in
/-- Row.copy -/
theorem c_RW_copy {l : Launch} {dC : Nat → ClassId} {dI : Nat → Nat → Nat} {cI cJ : ClassId} {A : Nat → Prop} {ws : va_W} {i0 h a1 a2 a3 n : Nat} {r : Rw} (hr0 : rw_in ws i0 h a1 a2 a3 n cI cJ r) (hn : n < 2 ^ 31) {j0 g b1 b2 b3 n2 : Nat} {r2 : Rw} (hq0 : rw_in ws j0 g b1 b2 b3 n2 cI cJ r2) (hn2 : n2 < 2 ^ 31) (hd : i0 + 4 ≤ j0 ∨ j0 + 4 ≤ i0) (i j : Int32) : Met l y_RW_copy (k_RW_copy :: bw) { frames := 2, cells := 0, slots := 0, locals := 46 } (mP (dC, dI) kCl [(cI, .int), (cJ, .long)] [.ref h, .int i, .ref g, .int j] ws A) (mQv (dC, dI) kCl (rw_set ws i0 h a1 a2 a3 n cI cJ (rw_copy n r i n2 r2 j)) A) 0 0 A := by
  refine Met.ofZ (own := "CoinTree$Row") (by decide) rfl [.ref h, .int i, .ref g, .int j] (Nat.le_of_ble_eq_true rfl) (fun _ _ h => h.1) ?_
  intro p e s m below meth c ls C0 hv hl
  obtain ⟨hx, hb, hr, hml, hown, hT, hlocks⟩ := C0
  obtain ⟨-, hP, hK, hD⟩ := hv
  have hS : va_S A s.heap s.heap [] := va_S.rf
  have hl : lv_has ls 4 [(0, .ref h), (1, .int i), (2, .ref g), (3, .int j)] := hl
  refine lv_aload_n hx hb d_RW_copy_0 rfl (lv_at hl 0 rfl) ?_
  refine lv_iload_n hx hb d_RW_copy_1 rfl (lv_at hl 1 rfl) ?_
  refine lv_aload_n hx hb d_RW_copy_2 rfl (lv_at hl 2 rfl) ?_
  refine lv_iload_n hx hb d_RW_copy_3 rfl (lv_at hl 3 rfl) ?_
  refine zc_i (va_runV (As := [.int j]) (rest := [.int i, .ref h]) ⟨hx, hb, hml, hown, hT⟩ (c_RW_markAt hP hq0 hn2 j) (cwV 1 hT (gi_V m_291 m_288 m_289 m_290 m_26) rfl rfl rfl p_RW_markAt ⟨Nat.le_of_ble_eq_true rfl, Nat.le_of_ble_eq_true rfl⟩) ⟨zP_blind, va_recv hK hP (ci := 0) (q0 := j0) rfl hq0.1, zP_pre hK⟩ rfl rfl hl.1 rfl (lv_room (Nat.le_of_ble_eq_true rfl)) d_RW_copy_4 ⟨Nat.le_refl _, Nat.le_refl _⟩) hS (fun locs hS => ?_)
  refine lv_aload_n hx hb d_RW_copy_7 rfl (lv_at hl 2 rfl) ?_
  refine lv_iload_n hx hb d_RW_copy_8 rfl (lv_at hl 3 rfl) ?_
  refine zc_i (va_runV (As := [.int j]) (rest := [.int (rw_at n2 r2.1 j), .int i, .ref h]) ⟨hx, hb, hml, hown, hT⟩ (c_RW_leafAt hP hq0 hn2 j) (cwV 1 hT (gi_V m_295 m_292 m_293 m_294 m_26) rfl rfl rfl p_RW_leafAt ⟨Nat.le_of_ble_eq_true rfl, Nat.le_of_ble_eq_true rfl⟩) ⟨zP_blind, va_recv hK hP (ci := 0) (q0 := j0) rfl hq0.1, zP_pre hK⟩ rfl rfl hl.1 rfl (lv_room (Nat.le_of_ble_eq_true rfl)) d_RW_copy_9 ⟨Nat.le_refl _, Nat.le_refl _⟩) hS (fun locs hS => ?_)
  refine lv_aload_n hx hb d_RW_copy_12 rfl (lv_at hl 2 rfl) ?_
  refine lv_iload_n hx hb d_RW_copy_13 rfl (lv_at hl 3 rfl) ?_
  refine zc_l (va_runV (As := [.int j]) (rest := [.int (rw_at n2 r2.2.1 j), .int (rw_at n2 r2.1 j), .int i, .ref h]) ⟨hx, hb, hml, hown, hT⟩ (c_RW_valueAt hP hq0 hn2 j) (cwV 1 hT (gi_V m_299 m_296 m_297 m_298 m_26) rfl rfl rfl p_RW_valueAt ⟨Nat.le_of_ble_eq_true rfl, Nat.le_of_ble_eq_true rfl⟩) ⟨zP_blind, va_recv hK hP (ci := 0) (q0 := j0) rfl hq0.1, zP_pre hK⟩ rfl rfl hl.1 rfl (lv_room (Nat.le_of_ble_eq_true rfl)) d_RW_copy_14 ⟨Nat.le_refl _, Nat.le_refl _⟩) hS (fun locs hS => ?_)
  refine mc_v (va_runV (As := [.int i, .int (rw_at n2 r2.1 j), .int (rw_at n2 r2.2.1 j), .long (rw_atL n2 r2.2.2.1 j)]) (rest := []) ⟨hx, hb, hml, hown, hT⟩ (c_RW_put hr0 hn i (rw_at n2 r2.1 j) (rw_at n2 r2.2.1 j) (rw_atL n2 r2.2.2.1 j)) (cwV 4 hT (gi_V m_303 m_300 m_301 m_302 m_26) rfl rfl rfl p_RW_put ⟨Nat.le_of_ble_eq_true rfl, Nat.le_of_ble_eq_true rfl⟩) ⟨mP_blind, va_recv hK hP (ci := 0) (q0 := i0) rfl hr0.1, mP_pre hK hP hD⟩ rfl rfl hl.1 rfl (lv_room (Nat.le_of_ble_eq_true rfl)) d_RW_copy_17 ⟨Nat.le_refl _, Nat.le_refl _⟩) hS (fun H locs hP hD hS => ?_)
  exact W.vret hx hb hr (fun t9 ht _ => mQv_end (rfl) hP hD hS ht) hS.2.2 d_RW_copy_20 hlocks
end
section
set_option maxHeartbeats 4000000 in
set_option maxRecDepth 100000 in
/-- Row.append -/
theorem c_RW_append {l : Launch} {dC : Nat → ClassId} {dI : Nat → Nat → Nat} {cI cJ : ClassId} {A : Nat → Prop} {ws : va_W} {i0 h a1 a2 a3 n : Nat} {r : Rw} (hr0 : rw_in ws i0 h a1 a2 a3 n cI cJ r) (hn : n < 2 ^ 31) {j0 g b1 b2 b3 n2 : Nat} {r2 : Rw} (hq0 : rw_in ws j0 g b1 b2 b3 n2 cI cJ r2) (hn2 : n2 < 2 ^ 31) (hd : i0 + 4 ≤ j0 ∨ j0 + 4 ≤ i0) (j : Int32) : Met l y_RW_append (k_RW_append :: bw) { frames := 3, cells := 0, slots := 0, locals := 69 } (mP (dC, dI) kCl [(cI, .int), (cJ, .long)] [.ref h, .ref g, .int j] ws A) (mQv (dC, dI) kCl (rw_set ws i0 h a1 a2 a3 n cI cJ (rw_app n r n2 r2 j)) A) 0 0 A := by
  refine Met.ofZ (own := "CoinTree$Row") (by decide) rfl [.ref h, .ref g, .int j] (Nat.le_of_ble_eq_true rfl) (fun _ _ h => h.1) ?_
  intro p e s m below meth c ls C0 hv hl
  obtain ⟨hx, hb, hr, hml, hown, hT, hlocks⟩ := C0
  obtain ⟨-, hP, hK, hD⟩ := hv
  have hS : va_S A s.heap s.heap [] := va_S.rf
  have hl : lv_has ls 3 [(0, .ref h), (1, .ref g), (2, .int j)] := hl
  refine lv_aload_n hx hb d_RW_append_0 rfl (lv_at hl 0 rfl) ?_
  refine lv_aload_n hx hb d_RW_append_1 rfl (lv_at hl 0 rfl) ?_
  refine va_get (D := (dC, dI)) (ci := 0) (v := .int r.2.2.2) (C := R_RW) (T := F_RW) (N := 4) hx hb hT i_RW hown hK hP i0 hr0.1 rfl 3 (by decide) (hT _ m_87) (fun _ h9 => h9) rfl d_RW_append_2 ?_
  refine zc_i (va_runV (As := [.int r.2.2.2]) (rest := []) ⟨hx, hb, hml, hown, hT⟩ (c_RW_has hP hr0 hn r.2.2.2) (cwV 1 hT (gi_V m_283 m_280 m_282 m_2 m_26) rfl rfl rfl p_RW_has ⟨Nat.le_of_ble_eq_true rfl, Nat.le_of_ble_eq_true rfl⟩) ⟨zP_blind, va_recv hK hP (ci := 0) (q0 := i0) rfl hr0.1, zP_pre hK⟩ rfl rfl hl.1 rfl (lv_room (Nat.le_of_ble_eq_true rfl)) d_RW_append_5 ⟨Nat.le_refl _, Nat.le_refl _⟩) hS (fun locs hS => ?_)
  refine lv_if_eq (tgt := 31) hx hb d_RW_append_8 (by decide) (fun c_1 => ?_) (fun c_1 => ?_)
  · exact W.vret hx hb hr (fun t9 ht _ => mQv_end (by first | (rw [rw_app_t (b2i_n.mp c_1)]; done) | (rw [rw_app_f (b2i_0.mp c_1), rw_set_self hr0]; done)) hP hD hS ht) hS.2.2 d_RW_append_31 hlocks
  · refine lv_aload_n hx hb d_RW_append_11 rfl (lv_at hl 0 rfl) ?_
    refine lv_aload_n hx hb d_RW_append_12 rfl (lv_at hl 0 rfl) ?_
    refine va_get (D := (dC, dI)) (ci := 0) (v := .int r.2.2.2) (C := R_RW) (T := F_RW) (N := 4) hx hb hT i_RW hown hK hP i0 hr0.1 rfl 3 (by decide) (hT _ m_87) (fun _ h9 => h9) rfl d_RW_append_13 ?_
    refine lv_aload_n hx hb d_RW_append_16 rfl (lv_at hl 1 rfl) ?_
    refine lv_iload_n hx hb d_RW_append_17 rfl (lv_at hl 2 rfl) ?_
    refine mc_v (va_runV (As := [.int r.2.2.2, .ref g, .int j]) (rest := []) ⟨hx, hb, hml, hown, hT⟩ (c_RW_copy hr0 hn hq0 hn2 hd r.2.2.2 j) (cwV 3 hT (gi_V m_287 m_284 m_285 m_286 m_26) rfl rfl rfl p_RW_copy ⟨Nat.le_of_ble_eq_true rfl, Nat.le_of_ble_eq_true rfl⟩) ⟨mP_blind, va_recv hK hP (ci := 0) (q0 := i0) rfl hr0.1, mP_pre hK hP hD⟩ rfl rfl hl.1 rfl (lv_room (Nat.le_of_ble_eq_true rfl)) d_RW_append_18 ⟨Nat.le_refl _, Nat.le_refl _⟩) hS (fun H locs hP hD hS => ?_)
    have hr0 := rw_in_set (rw_copy n r r.2.2.2 n2 r2 j) hr0
    refine lv_aload_n hx hb d_RW_append_21 rfl (lv_at hl 0 rfl) ?_
    refine lv_dup hx hb d_RW_append_22 rfl ?_
    refine va_get (D := (dC, dI)) (ci := 0) (v := .int r.2.2.2) (C := R_RW) (T := F_RW) (N := 4) hx hb hT i_RW hown hK hP i0 hr0.1 rfl 3 (by decide) (hT _ m_87) (fun _ h9 => h9) rfl d_RW_append_23 ?_
    refine lv_iconst (v := 1) hx hb d_RW_append_26 (by decide) ?_
    refine lv_iadd hx hb d_RW_append_27 ?_
    refine va_put (D := (dC, dI)) (ci := 0) (v := .int (r.2.2.2 + 1)) (ty := .int) (C := R_RW) (T := F_RW) (N := 4) hx hb hT i_RW t_RW t_RW_ok n_RW hown hK hP hD hS i0 hr0.1 rfl 3 (by decide) (hT _ m_87) (fun _ h9 => h9) rfl (by decide +kernel) rfl rfl (Nat.le_of_ble_eq_true rfl) d_RW_append_28 (fun H locs hP hD hS => ?_)
    have hP : va_P (dC, dI) kCl ((rw_set ws i0 h a1 a2 a3 n cI cJ (rw_copy n r r.2.2.2 n2 r2 j)).set i0 (h, .inr (0, [.ref a1, .ref a2, .ref a3, .int (r.2.2.2 + 1)]))) H := hP
    have hD : va_D A ((rw_set ws i0 h a1 a2 a3 n cI cJ (rw_copy n r r.2.2.2 n2 r2 j)).set i0 (h, .inr (0, [.ref a1, .ref a2, .ref a3, .int (r.2.2.2 + 1)]))) := hD
    rw [rw_set_0 hr0, rw_set_set] at hP hD
    exact W.vret hx hb hr (fun t9 ht _ => mQv_end (by first | (rw [rw_app_t (b2i_n.mp c_1)]; done) | (rw [rw_app_f (b2i_0.mp c_1), rw_set_self hr0]; done)) hP hD hS ht) hS.2.2 d_RW_append_31 hlocks

set_option maxHeartbeats 4000000 in
set_option maxRecDepth 100000 in
/-- Row.appendNew -/
theorem c_RW_appendNew {l : Launch} {dC : Nat → ClassId} {dI : Nat → Nat → Nat} {cI cJ : ClassId} {A : Nat → Prop} {ws : va_W} {i0 h a1 a2 a3 n : Nat} {r : Rw} (hr0 : rw_in ws i0 h a1 a2 a3 n cI cJ r) (hn : n < 2 ^ 31) (mk : Int32) : Met l y_RW_appendNew (k_RW_appendNew :: bw) { frames := 2, cells := 0, slots := 0, locals := 46 } (mP (dC, dI) kCl [(cI, .int), (cJ, .long)] [.ref h, .int mk] ws A) (mQv (dC, dI) kCl (rw_set ws i0 h a1 a2 a3 n cI cJ (rw_new n r mk)) A) 0 0 A := by
  refine Met.ofZ (own := "CoinTree$Row") (by decide) rfl [.ref h, .int mk] (Nat.le_of_ble_eq_true rfl) (fun _ _ h => h.1) ?_
  intro p e s m below meth c ls C0 hv hl
  obtain ⟨hx, hb, hr, hml, hown, hT, hlocks⟩ := C0
  obtain ⟨-, hP, hK, hD⟩ := hv
  have hS : va_S A s.heap s.heap [] := va_S.rf
  have hl : lv_has ls 2 [(0, .ref h), (1, .int mk)] := hl
  refine lv_aload_n hx hb d_RW_appendNew_0 rfl (lv_at hl 0 rfl) ?_
  refine lv_aload_n hx hb d_RW_appendNew_1 rfl (lv_at hl 0 rfl) ?_
  refine va_get (D := (dC, dI)) (ci := 0) (v := .int r.2.2.2) (C := R_RW) (T := F_RW) (N := 4) hx hb hT i_RW hown hK hP i0 hr0.1 rfl 3 (by decide) (hT _ m_87) (fun _ h9 => h9) rfl d_RW_appendNew_2 ?_
  refine zc_i (va_runV (As := [.int r.2.2.2]) (rest := []) ⟨hx, hb, hml, hown, hT⟩ (c_RW_has hP hr0 hn r.2.2.2) (cwV 1 hT (gi_V m_283 m_280 m_282 m_2 m_26) rfl rfl rfl p_RW_has ⟨Nat.le_of_ble_eq_true rfl, Nat.le_of_ble_eq_true rfl⟩) ⟨zP_blind, va_recv hK hP (ci := 0) (q0 := i0) rfl hr0.1, zP_pre hK⟩ rfl rfl hl.1 rfl (lv_room (Nat.le_of_ble_eq_true rfl)) d_RW_appendNew_5 ⟨Nat.le_refl _, Nat.le_refl _⟩) hS (fun locs hS => ?_)
  refine lv_if_eq (tgt := 32) hx hb d_RW_appendNew_8 (by decide) (fun c_1 => ?_) (fun c_1 => ?_)
  · exact W.vret hx hb hr (fun t9 ht _ => mQv_end (by first | (rw [rw_new_t (b2i_n.mp c_1)]; done) | (rw [rw_new_f (b2i_0.mp c_1), rw_set_self hr0]; done)) hP hD hS ht) hS.2.2 d_RW_appendNew_32 hlocks
  · refine lv_aload_n hx hb d_RW_appendNew_11 rfl (lv_at hl 0 rfl) ?_
    refine lv_aload_n hx hb d_RW_appendNew_12 rfl (lv_at hl 0 rfl) ?_
    refine va_get (D := (dC, dI)) (ci := 0) (v := .int r.2.2.2) (C := R_RW) (T := F_RW) (N := 4) hx hb hT i_RW hown hK hP i0 hr0.1 rfl 3 (by decide) (hT _ m_87) (fun _ h9 => h9) rfl d_RW_appendNew_13 ?_
    refine lv_iload_n hx hb d_RW_appendNew_16 rfl (lv_at hl 1 rfl) ?_
    refine lv_iconst (v := 0) hx hb d_RW_appendNew_17 (by decide) ?_
    refine lv_lconst (v := 0) hx hb d_RW_appendNew_18 (by decide) ?_
    refine mc_v (va_runV (As := [.int r.2.2.2, .int mk, .int 0, .long 0]) (rest := []) ⟨hx, hb, hml, hown, hT⟩ (c_RW_put hr0 hn r.2.2.2 mk 0 0) (cwV 4 hT (gi_V m_303 m_300 m_301 m_302 m_26) rfl rfl rfl p_RW_put ⟨Nat.le_of_ble_eq_true rfl, Nat.le_of_ble_eq_true rfl⟩) ⟨mP_blind, va_recv hK hP (ci := 0) (q0 := i0) rfl hr0.1, mP_pre hK hP hD⟩ rfl rfl hl.1 rfl (lv_room (Nat.le_of_ble_eq_true rfl)) d_RW_appendNew_19 ⟨Nat.le_refl _, Nat.le_refl _⟩) hS (fun H locs hP hD hS => ?_)
    have hr0 := rw_in_set (rw_put n r r.2.2.2 mk 0 0) hr0
    refine lv_aload_n hx hb d_RW_appendNew_22 rfl (lv_at hl 0 rfl) ?_
    refine lv_dup hx hb d_RW_appendNew_23 rfl ?_
    refine va_get (D := (dC, dI)) (ci := 0) (v := .int r.2.2.2) (C := R_RW) (T := F_RW) (N := 4) hx hb hT i_RW hown hK hP i0 hr0.1 rfl 3 (by decide) (hT _ m_87) (fun _ h9 => h9) rfl d_RW_appendNew_24 ?_
    refine lv_iconst (v := 1) hx hb d_RW_appendNew_27 (by decide) ?_
    refine lv_iadd hx hb d_RW_appendNew_28 ?_
    refine va_put (D := (dC, dI)) (ci := 0) (v := .int (r.2.2.2 + 1)) (ty := .int) (C := R_RW) (T := F_RW) (N := 4) hx hb hT i_RW t_RW t_RW_ok n_RW hown hK hP hD hS i0 hr0.1 rfl 3 (by decide) (hT _ m_87) (fun _ h9 => h9) rfl (by decide +kernel) rfl rfl (Nat.le_of_ble_eq_true rfl) d_RW_appendNew_29 (fun H locs hP hD hS => ?_)
    have hP : va_P (dC, dI) kCl ((rw_set ws i0 h a1 a2 a3 n cI cJ (rw_put n r r.2.2.2 mk 0 0)).set i0 (h, .inr (0, [.ref a1, .ref a2, .ref a3, .int (r.2.2.2 + 1)]))) H := hP
    have hD : va_D A ((rw_set ws i0 h a1 a2 a3 n cI cJ (rw_put n r r.2.2.2 mk 0 0)).set i0 (h, .inr (0, [.ref a1, .ref a2, .ref a3, .int (r.2.2.2 + 1)]))) := hD
    rw [rw_set_0 hr0, rw_set_set] at hP hD
    exact W.vret hx hb hr (fun t9 ht _ => mQv_end (by first | (rw [rw_new_t (b2i_n.mp c_1)]; done) | (rw [rw_new_f (b2i_0.mp c_1), rw_set_self hr0]; done)) hP hD hS ht) hS.2.2 d_RW_appendNew_32 hlocks
end
section
-- a Trail at place i0
def tl_in (ws : va_W) (i0 h a : Nat) (cI : ClassId) (t : Tl) : Prop := ws[i0]? = some (h, .inr (1, [.ref a, .int (nI t.2), .int (nI t.2)])) ∧ ws[i0 + 1]? = some (a, .inl (cI, 600, .inl t.1))
def tl_set (ws : va_W) (i0 h a : Nat) (cI : ClassId) (t : Tl) : va_W := (ws.set i0 (h, .inr (1, [.ref a, .int (nI t.2), .int (nI t.2)]))).set (i0 + 1) (a, .inl (cI, 600, .inl t.1))
theorem tl_r600 : ∀ j, j < 600 → ((0 : Int32) + nI j) - ((0 : Int32) + nI j) / 600 * 600 = nI j := by
  intro j hj
  rw [show (0 : Int32) + nI j = nI j by rw [← nI_0, nI_add, Nat.zero_add], show (600 : Int32) = nI 600 from rfl, pk_rem (by omega) (by omega) (by omega), Nat.mod_eq_of_lt hj]
/-- the cells of a tree -/
def tw_ (cI cJ : ClassId) (ad : Nat → Nat) (L S C B : Nat) (t : Ts) : va_W :=
  [(ad 0, .inr (2, [.int (nI L), .int (nI (2 ^ L)), .int (nI S), .int (nI C), .ref (ad 1), .ref (ad 5), .ref (ad 6), .ref (ad 10), .ref (ad 12), .ref (ad 16), .int (ts_way t), .int (ts_sought t)])),
   (ad 1, .inr (0, [.ref (ad 2), .ref (ad 3), .ref (ad 4), .int (ts_nodes t).2.2.2])), (ad 2, .inl (cI, tr_nN L S, .inl (ts_nodes t).1)), (ad 3, .inl (cI, tr_nN L S, .inl (ts_nodes t).2.1)), (ad 4, .inl (cJ, tr_nN L S, .inr (.inl (ts_nodes t).2.2.1))),
   (ad 5, .inl (cI, 2 * 2 ^ L, .inl (ts_cnts t))),
   (ad 6, .inr (0, [.ref (ad 7), .ref (ad 8), .ref (ad 9), .int (ts_stash t).2.2.2])), (ad 7, .inl (cI, C, .inl (ts_stash t).1)), (ad 8, .inl (cI, C, .inl (ts_stash t).2.1)), (ad 9, .inl (cJ, C, .inr (.inl (ts_stash t).2.2.1))),
   (ad 10, .inr (1, [.ref (ad 11), .int (nI (ts_trail t).2), .int (nI (ts_trail t).2)])), (ad 11, .inl (cI, 600, .inl (ts_trail t).1)),
   (ad 12, .inr (0, [.ref (ad 13), .ref (ad 14), .ref (ad 15), .int (ts_plan t).2.2.2])), (ad 13, .inl (cI, B, .inl (ts_plan t).1)), (ad 14, .inl (cI, B, .inl (ts_plan t).2.1)), (ad 15, .inl (cJ, B, .inr (.inl (ts_plan t).2.2.1))),
   (ad 16, .inl (cI, B, .inl (ts_tgt t)))]
section TW
variable {cI cJ : ClassId} {ad : Nat → Nat} {L S C B : Nat} {t : Ts}
theorem tw_nodes : rw_in (tw_ cI cJ ad L S C B t) 1 (ad 1) (ad 2) (ad 3) (ad 4) (tr_nN L S) cI cJ (ts_nodes t) := ⟨rfl, rfl, rfl, rfl⟩
theorem tw_stash : rw_in (tw_ cI cJ ad L S C B t) 6 (ad 6) (ad 7) (ad 8) (ad 9) C cI cJ (ts_stash t) := ⟨rfl, rfl, rfl, rfl⟩
theorem tw_plan : rw_in (tw_ cI cJ ad L S C B t) 12 (ad 12) (ad 13) (ad 14) (ad 15) B cI cJ (ts_plan t) := ⟨rfl, rfl, rfl, rfl⟩
end TW
def ts_sNodes (t : Ts) (x : Rw) : Ts := ts_mk x (ts_cnts t) (ts_stash t) (ts_trail t) (ts_plan t) (ts_tgt t) (ts_way t) (ts_sought t)
def ts_sCnts (t : Ts) (x : Nat → Int32) : Ts := ts_mk (ts_nodes t) x (ts_stash t) (ts_trail t) (ts_plan t) (ts_tgt t) (ts_way t) (ts_sought t)
def ts_sStash (t : Ts) (x : Rw) : Ts := ts_mk (ts_nodes t) (ts_cnts t) x (ts_trail t) (ts_plan t) (ts_tgt t) (ts_way t) (ts_sought t)
def ts_sTrail (t : Ts) (x : Tl) : Ts := ts_mk (ts_nodes t) (ts_cnts t) (ts_stash t) x (ts_plan t) (ts_tgt t) (ts_way t) (ts_sought t)
def ts_sPlan (t : Ts) (x : Rw) : Ts := ts_mk (ts_nodes t) (ts_cnts t) (ts_stash t) (ts_trail t) x (ts_tgt t) (ts_way t) (ts_sought t)
def ts_sTgt (t : Ts) (x : Nat → Int32) : Ts := ts_mk (ts_nodes t) (ts_cnts t) (ts_stash t) (ts_trail t) (ts_plan t) x (ts_way t) (ts_sought t)
def ts_sWay (t : Ts) (x : Int32) : Ts := ts_mk (ts_nodes t) (ts_cnts t) (ts_stash t) (ts_trail t) (ts_plan t) (ts_tgt t) x (ts_sought t)
def ts_sSought (t : Ts) (x : Int32) : Ts := ts_mk (ts_nodes t) (ts_cnts t) (ts_stash t) (ts_trail t) (ts_plan t) (ts_tgt t) (ts_way t) x
/-- the constants' bounds -/
def tr_ok (L S C B : Nat) : Prop := 1 ≤ L ∧ L ≤ 5 ∧ 1 ≤ S ∧ S ≤ 4 ∧ C ≤ 40 ∧ B ≤ 64
theorem tr_p2 {L : Nat} (h : L ≤ 5) : 2 ^ L ≤ 32 := by
  rcases (show L = 0 ∨ L = 1 ∨ L = 2 ∨ L = 3 ∨ L = 4 ∨ L = 5 by omega) with rfl | rfl | rfl | rfl | rfl | rfl <;> decide
theorem tr_nN_lt {L S C B : Nat} (h : tr_ok L S C B) : tr_nN L S < 2 ^ 31 := by
  obtain ⟨-, h1, -, h2, -, -⟩ := h
  have h3 := tr_p2 h1
  have h4 : 2 * 2 ^ L * S ≤ 64 * 4 := Nat.mul_le_mul (by omega) h2
  unfold tr_nN
  omega
theorem tr_C_lt {L S C B : Nat} (h : tr_ok L S C B) : C < 2 ^ 31 := by obtain ⟨-, -, -, -, h, -⟩ := h; omega
theorem tr_B_lt {L S C B : Nat} (h : tr_ok L S C B) : B < 2 ^ 31 := by obtain ⟨-, -, -, -, -, h⟩ := h; omega
theorem tr_S_lt {L S C B : Nat} (h : tr_ok L S C B) : S < 2 ^ 31 := by obtain ⟨-, -, -, h, -, -⟩ := h; omega
theorem tr_L_lt {L S C B : Nat} (h : tr_ok L S C B) : L < 2 ^ 31 := by obtain ⟨-, h, -⟩ := h; omega
end
section
theorem tr_nd_t {L : Nat} {x : Int32} (h1 : ¬ x < 1) (h2 : ¬ 2 * nI (2 ^ L) ≤ x) : tr_nd L x = true := by
  simp only [tr_nd, Bool.and_eq_true, decide_eq_true_eq]
  exact ⟨Int32.not_lt.mp h1, Int32.not_le.mp h2⟩
theorem tr_nd_f1 {L : Nat} {x : Int32} (h : x < 1) : tr_nd L x = false := by
  have h2 : ¬ 1 ≤ x := Int32.not_le.mpr h
  simp [tr_nd, h2]
theorem tr_nd_f2 {L : Nat} {x : Int32} (h : 2 * nI (2 ^ L) ≤ x) : tr_nd L x = false := by
  have h2 : ¬ x < 2 * nI (2 ^ L) := Int32.not_lt.mpr h
  simp [tr_nd, h2]
theorem tr_nd_vp {L S C B : Nat} {x : Int32} (ok : tr_ok L S C B) (h : tr_nd L x = true) : vp_in x (2 * 2 ^ L) := by
  simp only [tr_nd, Bool.and_eq_true, decide_eq_true_eq] at h
  obtain ⟨h1, h2⟩ := h
  have h3 := tr_p2 ok.2.1
  rw [vp_in_iff]
  rw [show (2 : Int32) = nI 2 from rfl, pk_mul, Int32.lt_iff_toInt_lt, nI_toInt (by omega)] at h2
  rw [Int32.le_iff_toInt_le, show (1 : Int32).toInt = 1 from rfl] at h1
  omega

theorem clamp_lt (x : Int32) : x.toNatClampNeg < 2 ^ 31 := by
  have h := i32_clampT (x := x)
  have h2 := x.toInt_lt
  omega
theorem le_clamp {x : Int32} {k : Nat} (hk : k < 2 ^ 31) (h : x ≤ nI k) : x.toNatClampNeg ≤ k := by
  rw [Int32.le_iff_toInt_le, nI_toInt hk] at h
  have h2 := i32_clampT (x := x)
  omega
theorem lt_clamp {x : Int32} {k : Nat} (hk : k < 2 ^ 31) (h : ¬ x ≤ nI k) : k < x.toNatClampNeg := by
  rw [Int32.le_iff_toInt_le, nI_toInt hk] at h
  have h2 := i32_clampT (x := x)
  omega
theorem tr_gather_n {L S C B : Nat} {t : Ts} {blk lf : Int32} (h : ¬ tr_look B (tr_gP L S C B t lf) (blk + 1) = -1) : tr_gather L S C B t blk lf = ts_mk (ts_nodes t) (ts_cnts t) (ts_stash t) (ts_trail t) (tr_gP L S C B t lf) (ts_tgt t) lf (tr_look B (tr_gP L S C B t lf) (blk + 1)) := if_neg h
theorem tr_gather_y {L S C B : Nat} {t : Ts} {blk lf : Int32} (h : tr_look B (tr_gP L S C B t lf) (blk + 1) = -1) : tr_gather L S C B t blk lf = ts_mk (ts_nodes t) (ts_cnts t) (ts_stash t) (ts_trail t) (rw_new B (tr_gP L S C B t lf) (blk + 1)) (ts_tgt t) lf (tr_gP L S C B t lf).2.2.2 := if_pos h
section FN
variable {L S B : Nat} {pl : Rw} {nd lv : Int32} {tg : Nat → Int32} {k : Nat} {q : (Nat → Int32) × Nat}
theorem tr_fNf_a (h : q.2 < S) (h1 : ¬ q.1 k = -1) : tr_fNf L S B pl nd lv k q = q := by unfold tr_fNf; rw [if_pos h, if_neg h1]
theorem tr_fNf_b (h : q.2 < S) (h1 : q.1 k = -1) (h2 : ¬ tr_way L (rw_at B pl.2.1 (nI k)) lv = nd) : tr_fNf L S B pl nd lv k q = q := by unfold tr_fNf; rw [if_pos h, if_pos h1, if_neg h2]
theorem tr_fNf_c (h : q.2 < S) (h1 : q.1 k = -1) (h2 : tr_way L (rw_at B pl.2.1 (nI k)) lv = nd) : tr_fNf L S B pl nd lv k q = (upd q.1 k (nd * nI S + nI q.2), q.2 + 1) := by unfold tr_fNf; rw [if_pos h, if_pos h1, if_pos h2]
theorem tr_fNf_d (h : ¬ q.2 < S) : tr_fNf L S B pl nd lv k q = q := by unfold tr_fNf; rw [if_neg h]
theorem tr_fN_le : ∀ k, (lp_ (tr_fNf L S B pl nd lv) k (tg, 0)).2 ≤ S := by
  intro k
  induction k with
  | zero => exact Nat.zero_le _
  | succ k ih =>
    show (tr_fNf L S B pl nd lv k (lp_ (tr_fNf L S B pl nd lv) k (tg, 0))).2 ≤ S
    generalize lp_ (tr_fNf L S B pl nd lv) k (tg, 0) = q at ih
    unfold tr_fNf
    split
    · split
      · split
        · show q.2 + 1 ≤ S
          omega
        · exact ih
      · exact ih
    · exact ih
theorem tr_fN_full (h : ¬ (lp_ (tr_fNf L S B pl nd lv) k (tg, 0)).2 < S) : ∀ d, lp_ (tr_fNf L S B pl nd lv) (k + d) (tg, 0) = lp_ (tr_fNf L S B pl nd lv) k (tg, 0) := by
  intro d
  induction d with
  | zero => rfl
  | succ d ih =>
    show tr_fNf L S B pl nd lv (k + d) (lp_ (tr_fNf L S B pl nd lv) (k + d) (tg, 0)) = _
    rw [ih]
    exact tr_fNf_d h
theorem tr_fN_end (hk : k ≤ rw_cnt B pl.2.2.2) (h : ¬ (lp_ (tr_fNf L S B pl nd lv) k (tg, 0)).2 < S) : lp_ (tr_fNf L S B pl nd lv) k (tg, 0) = tr_fN L S B pl nd lv tg := by
  have h2 := tr_fN_full h (rw_cnt B pl.2.2.2 - k)
  rw [show k + (rw_cnt B pl.2.2.2 - k) = rw_cnt B pl.2.2.2 by omega] at h2
  exact h2.symm
end FN
theorem fl_step {k L : Nat} (h : k ≤ L) : nI (L - k) + (-1) = nI L - nI (k + 1) := by
  rw [← pk_sub h, ← nI_1, Int32.sub_eq_add_neg, Int32.sub_eq_add_neg, Int32.neg_add, Int32.sub_eq_add_neg, Int32.add_assoc]
theorem fl_neg (L : Nat) : nI L - nI (L + 1) < 0 := by
  rw [← nI_1, show nI L - (nI L + 1) = (-1 : Int32) by rw [Int32.sub_eq_add_neg, Int32.neg_add, Int32.sub_eq_add_neg, ← Int32.add_assoc, Int32.add_right_neg, Int32.zero_add]]
  decide
theorem tl_min {c : Nat} (h : c < 600) : (if (600 : Int32) < nI c + 1 then 600 else nI c + 1) = nI (c + 1) := by
  rw [nI_1, if_neg]
  rw [show (600 : Int32) = nI 600 from rfl]
  exact nI_nlt (by omega) (by omega)
theorem tl_in_set {ws : va_W} {i0 h a : Nat} {cI : ClassId} {t : Tl} (q : tl_in ws i0 h a cI t) (f : Nat → Int32) (x y : Value) :
    ((ws.set (i0 + 1) (a, .inl (cI, 600, .inl f))).set i0 (h, .inr (1, [.ref a, x, y]))) = (ws.set i0 (h, .inr (1, [.ref a, x, y]))).set (i0 + 1) (a, .inl (cI, 600, .inl f)) := List.set_comm _ _ (by omega)
end
section
set_option maxHeartbeats 4000000 in
set_option maxRecDepth 100000 in
/-- Tree.hasLeaf -/
theorem c_TR_hasLeaf {l : Launch} {dC : Nat → ClassId} {dI : Nat → Nat → Nat} {cI cJ : ClassId} {H : Heap} {ad : Nat → Nat} {L S C B : Nat} {t : Ts} (ok : tr_ok L S C B) (hP : va_P (dC, dI) kCl (tw_ cI cJ ad L S C B (ts_mk (ts_nodes t) (ts_cnts t) (ts_stash t) (ts_trail t) (ts_plan t) (ts_tgt t) (ts_way t) (ts_sought t))) H) (lf : Int32) : Met l y_TR_hasLeaf (k_TR_hasLeaf :: bw) { frames := 0, cells := 0, slots := 0, locals := 0 } (zP (dC, dI) kCl [(cI, .int), (cJ, .long)] [.ref (ad 0), .int lf] H) (zQi H (b2i (rw_has (2 ^ L) lf))) 0 0 (fun _ => False) := by
  refine Met.ofZ (own := "CoinTree$Tree") (by decide) rfl [.ref (ad 0), .int lf] (Nat.le_of_ble_eq_true rfl) (fun _ _ h => h.1) ?_
  intro p e s m below meth c ls C0 hv hl
  obtain ⟨hx, hb, hr, hml, hown, hT, hlocks⟩ := C0
  obtain ⟨-, rfl, hK⟩ := hv
  have hS : va_S (fun _ => False) s.heap s.heap [] := va_S.rf
  have hl : lv_has ls 2 [(0, .ref (ad 0)), (1, .int lf)] := hl
  refine lv_iload_n hx hb d_TR_hasLeaf_0 rfl (lv_at hl 1 rfl) ?_
  refine lv_if_lt (tgt := 16) hx hb d_TR_hasLeaf_1 (by decide) (fun c_1 => ?_) (fun c_1 => ?_)
  · refine lv_iconst (v := 0) hx hb d_TR_hasLeaf_16 (by decide) ?_
    exact W.zret (ty := .boolean) hx hb hr nar_0 (fun t9 ht _ => zQi_end (by first | exact b2i_t (rw_has_t (by assumption) (by assumption)) | exact b2i_f (rw_has_f1 (by assumption)) | exact b2i_f (rw_has_f2 (by assumption))) rfl ht) hS.2.2 d_TR_hasLeaf_17 hlocks
  · refine lv_iload_n hx hb d_TR_hasLeaf_4 rfl (lv_at hl 1 rfl) ?_
    refine lv_aload_n hx hb d_TR_hasLeaf_5 rfl (lv_at hl 0 rfl) ?_
    refine va_get (D := (dC, dI)) (ci := 2) (v := .int (nI (2 ^ L))) (C := R_TR) (T := F_TR) (N := 12) hx hb hT i_TR hown hK hP 0 rfl rfl 1 (by decide) (hT _ m_99) (fun _ h9 => h9) rfl d_TR_hasLeaf_6 ?_
    refine lv_icmp_ge (tgt := 16) hx hb d_TR_hasLeaf_9 (by decide) (fun c_2 => ?_) (fun c_2 => ?_)
    · refine lv_iconst (v := 0) hx hb d_TR_hasLeaf_16 (by decide) ?_
      exact W.zret (ty := .boolean) hx hb hr nar_0 (fun t9 ht _ => zQi_end (by first | exact b2i_t (rw_has_t (by assumption) (by assumption)) | exact b2i_f (rw_has_f1 (by assumption)) | exact b2i_f (rw_has_f2 (by assumption))) rfl ht) hS.2.2 d_TR_hasLeaf_17 hlocks
    · refine lv_iconst (v := 1) hx hb d_TR_hasLeaf_12 (by decide) ?_
      refine lv_goto (tgt := 17) hx hb d_TR_hasLeaf_13 (by decide) ?_
      exact W.zret (ty := .boolean) hx hb hr nar_1 (fun t9 ht _ => zQi_end (by first | exact b2i_t (rw_has_t (by assumption) (by assumption)) | exact b2i_f (rw_has_f1 (by assumption)) | exact b2i_f (rw_has_f2 (by assumption))) rfl ht) hS.2.2 d_TR_hasLeaf_17 hlocks

set_option maxHeartbeats 4000000 in
set_option maxRecDepth 100000 in
/-- Tree.hasNode -/
theorem c_TR_hasNode {l : Launch} {dC : Nat → ClassId} {dI : Nat → Nat → Nat} {cI cJ : ClassId} {H : Heap} {ad : Nat → Nat} {L S C B : Nat} {t : Ts} (ok : tr_ok L S C B) (hP : va_P (dC, dI) kCl (tw_ cI cJ ad L S C B (ts_mk (ts_nodes t) (ts_cnts t) (ts_stash t) (ts_trail t) (ts_plan t) (ts_tgt t) (ts_way t) (ts_sought t))) H) (nd : Int32) : Met l y_TR_hasNode (k_TR_hasNode :: bw) { frames := 0, cells := 0, slots := 0, locals := 0 } (zP (dC, dI) kCl [(cI, .int), (cJ, .long)] [.ref (ad 0), .int nd] H) (zQi H (b2i (tr_nd L nd))) 0 0 (fun _ => False) := by
  refine Met.ofZ (own := "CoinTree$Tree") (by decide) rfl [.ref (ad 0), .int nd] (Nat.le_of_ble_eq_true rfl) (fun _ _ h => h.1) ?_
  intro p e s m below meth c ls C0 hv hl
  obtain ⟨hx, hb, hr, hml, hown, hT, hlocks⟩ := C0
  obtain ⟨-, rfl, hK⟩ := hv
  have hS : va_S (fun _ => False) s.heap s.heap [] := va_S.rf
  have hl : lv_has ls 2 [(0, .ref (ad 0)), (1, .int nd)] := hl
  refine lv_iload_n hx hb d_TR_hasNode_0 rfl (lv_at hl 1 rfl) ?_
  refine lv_iconst (v := 1) hx hb d_TR_hasNode_1 (by decide) ?_
  refine lv_icmp_lt (tgt := 19) hx hb d_TR_hasNode_2 (by decide) (fun c_1 => ?_) (fun c_1 => ?_)
  · refine lv_iconst (v := 0) hx hb d_TR_hasNode_19 (by decide) ?_
    exact W.zret (ty := .boolean) hx hb hr nar_0 (fun t9 ht _ => zQi_end (by first | exact b2i_t (tr_nd_t (by assumption) (by assumption)) | exact b2i_f (tr_nd_f1 (by assumption)) | exact b2i_f (tr_nd_f2 (by assumption))) rfl ht) hS.2.2 d_TR_hasNode_20 hlocks
  · refine lv_iload_n hx hb d_TR_hasNode_5 rfl (lv_at hl 1 rfl) ?_
    refine lv_iconst (v := 2) hx hb d_TR_hasNode_6 (by decide) ?_
    refine lv_aload_n hx hb d_TR_hasNode_7 rfl (lv_at hl 0 rfl) ?_
    refine va_get (D := (dC, dI)) (ci := 2) (v := .int (nI (2 ^ L))) (C := R_TR) (T := F_TR) (N := 12) hx hb hT i_TR hown hK hP 0 rfl rfl 1 (by decide) (hT _ m_99) (fun _ h9 => h9) rfl d_TR_hasNode_8 ?_
    refine lv_imul hx hb d_TR_hasNode_11 ?_
    refine lv_icmp_ge (tgt := 19) hx hb d_TR_hasNode_12 (by decide) (fun c_2 => ?_) (fun c_2 => ?_)
    · refine lv_iconst (v := 0) hx hb d_TR_hasNode_19 (by decide) ?_
      exact W.zret (ty := .boolean) hx hb hr nar_0 (fun t9 ht _ => zQi_end (by first | exact b2i_t (tr_nd_t (by assumption) (by assumption)) | exact b2i_f (tr_nd_f1 (by assumption)) | exact b2i_f (tr_nd_f2 (by assumption))) rfl ht) hS.2.2 d_TR_hasNode_20 hlocks
    · refine lv_iconst (v := 1) hx hb d_TR_hasNode_15 (by decide) ?_
      refine lv_goto (tgt := 20) hx hb d_TR_hasNode_16 (by decide) ?_
      exact W.zret (ty := .boolean) hx hb hr nar_1 (fun t9 ht _ => zQi_end (by first | exact b2i_t (tr_nd_t (by assumption) (by assumption)) | exact b2i_f (tr_nd_f1 (by assumption)) | exact b2i_f (tr_nd_f2 (by assumption))) rfl ht) hS.2.2 d_TR_hasNode_20 hlocks

set_option maxHeartbeats 4000000 in
set_option maxRecDepth 100000 in
/-- Tree.leafModulo -/
theorem c_TR_leafModulo {l : Launch} {dC : Nat → ClassId} {dI : Nat → Nat → Nat} {cI cJ : ClassId} {H : Heap} {ad : Nat → Nat} {L S C B : Nat} {t : Ts} (ok : tr_ok L S C B) (hP : va_P (dC, dI) kCl (tw_ cI cJ ad L S C B (ts_mk (ts_nodes t) (ts_cnts t) (ts_stash t) (ts_trail t) (ts_plan t) (ts_tgt t) (ts_way t) (ts_sought t))) H) (x : Int32) : Met l y_TR_leafModulo (k_TR_leafModulo :: bw) { frames := 0, cells := 0, slots := 0, locals := 0 } (zP (dC, dI) kCl [(cI, .int), (cJ, .long)] [.ref (ad 0), .int x] H) (zQi H (x &&& (nI (2 ^ L) - 1))) 0 0 (fun _ => False) := by
  refine Met.ofZ (own := "CoinTree$Tree") (by decide) rfl [.ref (ad 0), .int x] (Nat.le_of_ble_eq_true rfl) (fun _ _ h => h.1) ?_
  intro p e s m below meth c ls C0 hv hl
  obtain ⟨hx, hb, hr, hml, hown, hT, hlocks⟩ := C0
  obtain ⟨-, rfl, hK⟩ := hv
  have hS : va_S (fun _ => False) s.heap s.heap [] := va_S.rf
  have hl : lv_has ls 2 [(0, .ref (ad 0)), (1, .int x)] := hl
  refine lv_iload_n hx hb d_TR_leafModulo_0 rfl (lv_at hl 1 rfl) ?_
  refine lv_aload_n hx hb d_TR_leafModulo_1 rfl (lv_at hl 0 rfl) ?_
  refine va_get (D := (dC, dI)) (ci := 2) (v := .int (nI (2 ^ L))) (C := R_TR) (T := F_TR) (N := 12) hx hb hT i_TR hown hK hP 0 rfl rfl 1 (by decide) (hT _ m_99) (fun _ h9 => h9) rfl d_TR_leafModulo_2 ?_
  refine lv_iconst (v := 1) hx hb d_TR_leafModulo_5 (by decide) ?_
  refine lv_isub hx hb d_TR_leafModulo_6 ?_
  refine lv_iand hx hb d_TR_leafModulo_7 ?_
  exact W.iret hx hb hr (fun t9 ht _ => zQi_end (rfl) rfl ht) hS.2.2 d_TR_leafModulo_8 hlocks

set_option maxHeartbeats 4000000 in
set_option maxRecDepth 100000 in
/-- Tree.nodeOnWay -/
theorem c_TR_nodeOnWay {l : Launch} {dC : Nat → ClassId} {dI : Nat → Nat → Nat} {cI cJ : ClassId} {H : Heap} {ad : Nat → Nat} {L S C B : Nat} {t : Ts} (ok : tr_ok L S C B) (hP : va_P (dC, dI) kCl (tw_ cI cJ ad L S C B (ts_mk (ts_nodes t) (ts_cnts t) (ts_stash t) (ts_trail t) (ts_plan t) (ts_tgt t) (ts_way t) (ts_sought t))) H) (lf lv : Int32) : Met l y_TR_nodeOnWay (k_TR_nodeOnWay :: bw) { frames := 0, cells := 0, slots := 0, locals := 0 } (zP (dC, dI) kCl [(cI, .int), (cJ, .long)] [.ref (ad 0), .int lf, .int lv] H) (zQi H (tr_way L lf lv)) 0 0 (fun _ => False) := by
  refine Met.ofZ (own := "CoinTree$Tree") (by decide) rfl [.ref (ad 0), .int lf, .int lv] (Nat.le_of_ble_eq_true rfl) (fun _ _ h => h.1) ?_
  intro p e s m below meth c ls C0 hv hl
  obtain ⟨hx, hb, hr, hml, hown, hT, hlocks⟩ := C0
  obtain ⟨-, rfl, hK⟩ := hv
  have hS : va_S (fun _ => False) s.heap s.heap [] := va_S.rf
  have hl : lv_has ls 3 [(0, .ref (ad 0)), (1, .int lf), (2, .int lv)] := hl
  refine lv_aload_n hx hb d_TR_nodeOnWay_0 rfl (lv_at hl 0 rfl) ?_
  refine va_get (D := (dC, dI)) (ci := 2) (v := .int (nI (2 ^ L))) (C := R_TR) (T := F_TR) (N := 12) hx hb hT i_TR hown hK hP 0 rfl rfl 1 (by decide) (hT _ m_99) (fun _ h9 => h9) rfl d_TR_nodeOnWay_1 ?_
  refine lv_iload_n hx hb d_TR_nodeOnWay_4 rfl (lv_at hl 1 rfl) ?_
  refine lv_iadd hx hb d_TR_nodeOnWay_5 ?_
  refine lv_aload_n hx hb d_TR_nodeOnWay_6 rfl (lv_at hl 0 rfl) ?_
  refine va_get (D := (dC, dI)) (ci := 2) (v := .int (nI L)) (C := R_TR) (T := F_TR) (N := 12) hx hb hT i_TR hown hK hP 0 rfl rfl 0 (by decide) (hT _ m_98) (fun _ h9 => h9) rfl d_TR_nodeOnWay_7 ?_
  refine lv_iload_n hx hb d_TR_nodeOnWay_10 rfl (lv_at hl 2 rfl) ?_
  refine lv_isub hx hb d_TR_nodeOnWay_11 ?_
  refine lv_ishr hx hb d_TR_nodeOnWay_12 ?_
  exact W.iret hx hb hr (fun t9 ht _ => zQi_end (rfl) rfl ht) hS.2.2 d_TR_nodeOnWay_13 hlocks

set_option maxHeartbeats 4000000 in
set_option maxRecDepth 100000 in
/-- Tree.timesWritten -/
theorem c_TR_timesWritten {l : Launch} {dC : Nat → ClassId} {dI : Nat → Nat → Nat} {cI cJ : ClassId} {H : Heap} {ad : Nat → Nat} {L S C B : Nat} {t : Ts} (ok : tr_ok L S C B) (hP : va_P (dC, dI) kCl (tw_ cI cJ ad L S C B (ts_mk (ts_nodes t) (ts_cnts t) (ts_stash t) (ts_trail t) (ts_plan t) (ts_tgt t) (ts_way t) (ts_sought t))) H) (nd : Int32) : Met l y_TR_timesWritten (k_TR_timesWritten :: bw) { frames := 1, cells := 0, slots := 0, locals := 21 } (zP (dC, dI) kCl [(cI, .int), (cJ, .long)] [.ref (ad 0), .int nd] H) (zQi H (if tr_nd L nd = true then ts_cnts t nd.toNatClampNeg else 0)) 0 0 (fun _ => False) := by
  refine Met.ofZ (own := "CoinTree$Tree") (by decide) rfl [.ref (ad 0), .int nd] (Nat.le_of_ble_eq_true rfl) (fun _ _ h => h.1) ?_
  intro p e s m below meth c ls C0 hv hl
  obtain ⟨hx, hb, hr, hml, hown, hT, hlocks⟩ := C0
  obtain ⟨-, rfl, hK⟩ := hv
  have hS : va_S (fun _ => False) s.heap s.heap [] := va_S.rf
  have hl : lv_has ls 2 [(0, .ref (ad 0)), (1, .int nd)] := hl
  refine lv_aload_n hx hb d_TR_timesWritten_0 rfl (lv_at hl 0 rfl) ?_
  refine lv_iload_n hx hb d_TR_timesWritten_1 rfl (lv_at hl 1 rfl) ?_
  refine zc_i (va_runV (As := [.int nd]) (rest := []) ⟨hx, hb, hml, hown, hT⟩ (c_TR_hasNode (t := ts_mk (ts_nodes t) (ts_cnts t) (ts_stash t) (ts_trail t) (ts_plan t) (ts_tgt t) (ts_way t) (ts_sought t)) ok hP nd) (cwV 1 hT (gi_V m_376 m_373 m_374 m_375 m_24) rfl rfl rfl p_TR_hasNode ⟨Nat.le_of_ble_eq_true rfl, Nat.le_of_ble_eq_true rfl⟩) ⟨zP_blind, va_recv hK hP (ci := 2) (q0 := 0) rfl rfl, zP_pre hK⟩ rfl rfl hl.1 rfl (lv_room (Nat.le_of_ble_eq_true rfl)) d_TR_timesWritten_2 ⟨Nat.le_refl _, Nat.le_refl _⟩) hS (fun locs hS => ?_)
  refine lv_if_eq (tgt := 17) hx hb d_TR_timesWritten_5 (by decide) (fun c_1 => ?_) (fun c_1 => ?_)
  · refine lv_iconst (v := 0) hx hb d_TR_timesWritten_17 (by decide) ?_
    exact W.iret hx hb hr (fun t9 ht _ => zQi_end (by first | exact (if_pos (b2i_n.mp c_1)).symm | exact (if_neg (by rw [b2i_0.mp c_1]; decide)).symm) rfl ht) hS.2.2 d_TR_timesWritten_18 hlocks
  · refine lv_aload_n hx hb d_TR_timesWritten_8 rfl (lv_at hl 0 rfl) ?_
    refine va_get (D := (dC, dI)) (ci := 2) (v := .ref (ad 5)) (C := R_TR) (T := F_TR) (N := 12) hx hb hT i_TR hown hK hP 0 rfl rfl 5 (by decide) (hT _ m_104) (fun _ h9 => h9) rfl d_TR_timesWritten_9 ?_
    refine lv_iload_n hx hb d_TR_timesWritten_12 rfl (lv_at hl 1 rfl) ?_
    refine va_iald hx hb hK hP 5 0 rfl rfl (tr_nd_vp ok (b2i_n.mp c_1)) d_TR_timesWritten_13 ?_
    refine lv_goto (tgt := 18) hx hb d_TR_timesWritten_14 (by decide) ?_
    exact W.iret hx hb hr (fun t9 ht _ => zQi_end (by first | exact (if_pos (b2i_n.mp c_1)).symm | exact (if_neg (by rw [b2i_0.mp c_1]; decide)).symm) rfl ht) hS.2.2 d_TR_timesWritten_18 hlocks

set_option maxHeartbeats 4000000 in
set_option maxRecDepth 100000 in
/-- Tree.soughtValue -/
theorem c_TR_soughtValue {l : Launch} {dC : Nat → ClassId} {dI : Nat → Nat → Nat} {cI cJ : ClassId} {H : Heap} {ad : Nat → Nat} {L S C B : Nat} {t : Ts} (ok : tr_ok L S C B) (hP : va_P (dC, dI) kCl (tw_ cI cJ ad L S C B (ts_mk (ts_nodes t) (ts_cnts t) (ts_stash t) (ts_trail t) (ts_plan t) (ts_tgt t) (ts_way t) (ts_sought t))) H) : Met l y_TR_soughtValue (k_TR_soughtValue :: bw) { frames := 2, cells := 0, slots := 0, locals := 42 } (zP (dC, dI) kCl [(cI, .int), (cJ, .long)] [.ref (ad 0)] H) (zQl H (rw_atL B (ts_plan t).2.2.1 (ts_sought t))) 0 0 (fun _ => False) := by
  refine Met.ofZ (own := "CoinTree$Tree") (by decide) rfl [.ref (ad 0)] (Nat.le_of_ble_eq_true rfl) (fun _ _ h => h.1) ?_
  intro p e s m below meth c ls C0 hv hl
  obtain ⟨hx, hb, hr, hml, hown, hT, hlocks⟩ := C0
  obtain ⟨-, rfl, hK⟩ := hv
  have hS : va_S (fun _ => False) s.heap s.heap [] := va_S.rf
  have hl : lv_has ls 1 [(0, .ref (ad 0))] := hl
  refine lv_aload_n hx hb d_TR_soughtValue_0 rfl (lv_at hl 0 rfl) ?_
  refine va_get (D := (dC, dI)) (ci := 2) (v := .ref (ad 12)) (C := R_TR) (T := F_TR) (N := 12) hx hb hT i_TR hown hK hP 0 rfl rfl 8 (by decide) (hT _ m_109) (fun _ h9 => h9) rfl d_TR_soughtValue_1 ?_
  refine lv_aload_n hx hb d_TR_soughtValue_4 rfl (lv_at hl 0 rfl) ?_
  refine va_get (D := (dC, dI)) (ci := 2) (v := .int (ts_sought t)) (C := R_TR) (T := F_TR) (N := 12) hx hb hT i_TR hown hK hP 0 rfl rfl 11 (by decide) (hT _ m_112) (fun _ h9 => h9) rfl d_TR_soughtValue_5 ?_
  refine zc_l (va_runV (As := [.int (ts_sought t)]) (rest := []) ⟨hx, hb, hml, hown, hT⟩ (c_RW_valueAt hP (show rw_in (tw_ cI cJ ad L S C B (ts_mk (ts_nodes t) (ts_cnts t) (ts_stash t) (ts_trail t) (ts_plan t) (ts_tgt t) (ts_way t) (ts_sought t))) 12 (ad 12) (ad 13) (ad 14) (ad 15) B cI cJ (ts_plan t) from ⟨rfl, rfl, rfl, rfl⟩) (tr_B_lt ok) (ts_sought t)) (cwV 1 hT (gi_V m_299 m_325 m_297 m_298 m_26) rfl rfl rfl p_RW_valueAt ⟨Nat.le_of_ble_eq_true rfl, Nat.le_of_ble_eq_true rfl⟩) ⟨zP_blind, va_recv hK hP (ci := 0) (q0 := 12) rfl rfl, zP_pre hK⟩ rfl rfl hl.1 rfl (lv_room (Nat.le_of_ble_eq_true rfl)) d_TR_soughtValue_8 ⟨Nat.le_refl _, Nat.le_refl _⟩) hS (fun locs hS => ?_)
  exact W.lret hx hb hr (fun t9 ht _ => zQl_end (rfl) rfl ht) hS.2.2 d_TR_soughtValue_11 hlocks
end
section
set_option maxHeartbeats 4000000 in
set_option maxRecDepth 100000 in
/-- Tree.gatherNode -/
theorem c_TR_gatherNode {l : Launch} {dC : Nat → ClassId} {dI : Nat → Nat → Nat} {cI cJ : ClassId} {A : Nat → Prop} {ad : Nat → Nat} {L S C B : Nat} {t : Ts} (ok : tr_ok L S C B) (nd : Int32) : Met l y_TR_gatherNode (k_TR_gatherNode :: bw) { frames := 4, cells := 0, slots := 0, locals := 91 } (mP (dC, dI) kCl [(cI, .int), (cJ, .long)] [.ref (ad 0), .int nd] (tw_ cI cJ ad L S C B (ts_mk (ts_nodes t) (ts_cnts t) (ts_stash t) (ts_trail t) (ts_plan t) (ts_tgt t) (ts_way t) (ts_sought t))) A) (mQv (dC, dI) kCl (tw_ cI cJ ad L S C B (ts_mk (ts_nodes t) (ts_cnts t) (ts_stash t) (ts_trail t) (tr_gN L S B (ts_nodes t) nd (ts_plan t)) (ts_tgt t) (ts_way t) (ts_sought t))) A) 0 0 A := by
  refine Met.ofZ (own := "CoinTree$Tree") (by decide) rfl [.ref (ad 0), .int nd] (Nat.le_of_ble_eq_true rfl) (fun _ _ h => h.1) ?_
  intro p e s m below meth c ls C0 hv hl
  obtain ⟨hx, hb, hr, hml, hown, hT, hlocks⟩ := C0
  obtain ⟨-, hP, hK, hD⟩ := hv
  have hS : va_S A s.heap s.heap [] := va_S.rf
  have hl : lv_has ls 4 [(0, .ref (ad 0)), (1, .int nd)] := hl
  refine lv_iconst (v := 0) hx hb d_TR_gatherNode_0 (by decide) ?_
  refine lv_istore_n (lv' := [(2, .int 0), (0, .ref (ad 0)), (1, .int nd)]) hx hb d_TR_gatherNode_1 rfl hl (by decide) rfl (fun ls hl => ?_)
  have lp : ∀ (N k : Nat) (ls : Array Slot) (H : Heap) (locs : List Loc), S - k < N → k ≤ S → va_P (dC, dI) kCl (tw_ cI cJ ad L S C B (ts_mk (ts_nodes t) (ts_cnts t) (ts_stash t) (ts_trail t) (lp_ (tr_gNf L S B (ts_nodes t) nd) k (ts_plan t)) (ts_tgt t) (ts_way t) (ts_sought t))) H → va_D A (tw_ cI cJ ad L S C B (ts_mk (ts_nodes t) (ts_cnts t) (ts_stash t) (ts_trail t) (lp_ (tr_gNf L S B (ts_nodes t) nd) k (ts_plan t)) (ts_tgt t) (ts_way t) (ts_sought t))) → va_S A s.heap H locs → lv_has ls 4 [(2, .int (nI k)), (0, .ref (ad 0)), (1, .int nd)] → W p l e ({ frames := 4, cells := 0, slots := 0, locals := 91 } : Room) s m ([.ref (ad 0), .int nd] : List Value).toArray below meth c H locs 0 0 (MQ below (mQv (dC, dI) kCl (tw_ cI cJ ad L S C B (ts_mk (ts_nodes t) (ts_cnts t) (ts_stash t) (ts_trail t) (tr_gN L S B (ts_nodes t) nd (ts_plan t)) (ts_tgt t) (ts_way t) (ts_sought t))) A) ([.ref (ad 0), .int nd] : List Value).toArray s 0 0 A) (F0 m 2 ls []) := by
    intro N
    induction N with
    | zero => intro k ls H locs hN; omega
    | succ N ih =>
      intro k ls H locs hN hk hP hD hS hl
      refine lv_iload_n hx hb d_TR_gatherNode_2 rfl (lv_at hl 0 rfl) ?_
      refine lv_aload_n hx hb d_TR_gatherNode_3 rfl (lv_at hl 1 rfl) ?_
      refine va_get (D := (dC, dI)) (ci := 2) (v := .int (nI S)) (C := R_TR) (T := F_TR) (N := 12) hx hb hT i_TR hown hK hP 0 rfl rfl 2 (by decide) (hT _ m_101) (fun _ h9 => h9) rfl d_TR_gatherNode_4 ?_
      refine lv_icmp_ge (tgt := 48) hx hb d_TR_gatherNode_7 (by decide) (fun c_1 => ?_) (fun c_1 => ?_)
      · have hkS : k = S := Nat.le_antisymm hk ((nI_leI (tr_S_lt ok) (by have := tr_S_lt ok; omega)).mp c_1)
        subst hkS
        exact W.vret hx hb hr (fun t9 ht _ => mQv_end (rfl) hP hD hS ht) hS.2.2 d_TR_gatherNode_48 hlocks
      · have hlt : k < S := Nat.lt_of_not_le fun h9 => c_1 (nI_le h9 (by have := tr_S_lt ok; omega))
        refine lv_iload_n hx hb d_TR_gatherNode_10 rfl (lv_at hl 2 rfl) ?_
        refine lv_aload_n hx hb d_TR_gatherNode_11 rfl (lv_at hl 1 rfl) ?_
        refine va_get (D := (dC, dI)) (ci := 2) (v := .int (nI S)) (C := R_TR) (T := F_TR) (N := 12) hx hb hT i_TR hown hK hP 0 rfl rfl 2 (by decide) (hT _ m_101) (fun _ h9 => h9) rfl d_TR_gatherNode_12 ?_
        refine lv_imul hx hb d_TR_gatherNode_15 ?_
        refine lv_iload_n hx hb d_TR_gatherNode_16 rfl (lv_at hl 0 rfl) ?_
        refine lv_iadd hx hb d_TR_gatherNode_17 ?_
        refine lv_istore_n (lv' := [(3, .int ((nd * (nI S)) + (nI k))), (2, .int (nI k)), (0, .ref (ad 0)), (1, .int nd)]) hx hb d_TR_gatherNode_18 rfl hl (by decide) rfl (fun ls hl => ?_)
        refine lv_aload_n hx hb d_TR_gatherNode_19 rfl (lv_at hl 2 rfl) ?_
        refine va_get (D := (dC, dI)) (ci := 2) (v := .ref (ad 1)) (C := R_TR) (T := F_TR) (N := 12) hx hb hT i_TR hown hK hP 0 rfl rfl 4 (by decide) (hT _ m_103) (fun _ h9 => h9) rfl d_TR_gatherNode_20 ?_
        refine lv_iload_n hx hb d_TR_gatherNode_23 rfl (lv_at hl 0 rfl) ?_
        refine zc_i (va_runV (As := [.int ((nd * (nI S)) + (nI k))]) (rest := []) ⟨hx, hb, hml, hown, hT⟩ (c_RW_markAt hP (show rw_in (tw_ cI cJ ad L S C B (ts_mk (ts_nodes t) (ts_cnts t) (ts_stash t) (ts_trail t) (lp_ (tr_gNf L S B (ts_nodes t) nd) k (ts_plan t)) (ts_tgt t) (ts_way t) (ts_sought t))) 1 (ad 1) (ad 2) (ad 3) (ad 4) (tr_nN L S) cI cJ (ts_nodes t) from ⟨rfl, rfl, rfl, rfl⟩) (tr_nN_lt ok) ((nd * (nI S)) + (nI k))) (cwV 1 hT (gi_V m_291 m_312 m_289 m_290 m_26) rfl rfl rfl p_RW_markAt ⟨Nat.le_of_ble_eq_true rfl, Nat.le_of_ble_eq_true rfl⟩) ⟨zP_blind, va_recv hK hP (ci := 0) (q0 := 1) rfl rfl, zP_pre hK⟩ rfl rfl hl.1 rfl (lv_room (Nat.le_of_ble_eq_true rfl)) d_TR_gatherNode_24 ⟨Nat.le_refl _, Nat.le_refl _⟩) hS (fun locs hS => ?_)
        refine lv_if_eq (tgt := 42) hx hb d_TR_gatherNode_27 (by decide) (fun c_2 => ?_) (fun c_2 => ?_)
        · refine lv_iinc (v := nI (k + 1)) (lv' := [(2, .int (nI (k + 1))), (3, .int ((nd * (nI S)) + (nI k))), (0, .ref (ad 0)), (1, .int nd)]) hx hb d_TR_gatherNode_42 hl (k := 1) rfl (nI_1 k) (by decide) rfl (fun ls hl => ?_)
          refine lv_goto (tgt := 2) hx hb d_TR_gatherNode_45 (by decide) ?_
          exact ih (k + 1) ls H locs (by omega) (by omega) (show va_P (dC, dI) kCl (tw_ cI cJ ad L S C B (ts_mk (ts_nodes t) (ts_cnts t) (ts_stash t) (ts_trail t) (lp_ (tr_gNf L S B (ts_nodes t) nd) (k + 1) (ts_plan t)) (ts_tgt t) (ts_way t) (ts_sought t))) H by (try rw [show lp_ (tr_gNf L S B (ts_nodes t) nd) (k + 1) (ts_plan t) = lp_ (tr_gNf L S B (ts_nodes t) nd) k (ts_plan t) from if_pos c_2]); exact hP) (show va_D A (tw_ cI cJ ad L S C B (ts_mk (ts_nodes t) (ts_cnts t) (ts_stash t) (ts_trail t) (lp_ (tr_gNf L S B (ts_nodes t) nd) (k + 1) (ts_plan t)) (ts_tgt t) (ts_way t) (ts_sought t))) by (try rw [show lp_ (tr_gNf L S B (ts_nodes t) nd) (k + 1) (ts_plan t) = lp_ (tr_gNf L S B (ts_nodes t) nd) k (ts_plan t) from if_pos c_2]); exact hD) hS (show lv_has ls 4 [(2, .int (nI (k + 1))), (0, .ref (ad 0)), (1, .int nd)] by (try rw [show lp_ (tr_gNf L S B (ts_nodes t) nd) (k + 1) (ts_plan t) = lp_ (tr_gNf L S B (ts_nodes t) nd) k (ts_plan t) from if_pos c_2]); exact lv_sub hl [0, 2, 3] rfl)
        · refine lv_aload_n hx hb d_TR_gatherNode_30 rfl (lv_at hl 2 rfl) ?_
          refine va_get (D := (dC, dI)) (ci := 2) (v := .ref (ad 12)) (C := R_TR) (T := F_TR) (N := 12) hx hb hT i_TR hown hK hP 0 rfl rfl 8 (by decide) (hT _ m_109) (fun _ h9 => h9) rfl d_TR_gatherNode_31 ?_
          refine lv_aload_n hx hb d_TR_gatherNode_34 rfl (lv_at hl 2 rfl) ?_
          refine va_get (D := (dC, dI)) (ci := 2) (v := .ref (ad 1)) (C := R_TR) (T := F_TR) (N := 12) hx hb hT i_TR hown hK hP 0 rfl rfl 4 (by decide) (hT _ m_103) (fun _ h9 => h9) rfl d_TR_gatherNode_35 ?_
          refine lv_iload_n hx hb d_TR_gatherNode_38 rfl (lv_at hl 0 rfl) ?_
          refine mc_v (va_runV (As := [.ref (ad 1), .int ((nd * (nI S)) + (nI k))]) (rest := []) ⟨hx, hb, hml, hown, hT⟩ (c_RW_append (show rw_in (tw_ cI cJ ad L S C B (ts_mk (ts_nodes t) (ts_cnts t) (ts_stash t) (ts_trail t) (lp_ (tr_gNf L S B (ts_nodes t) nd) k (ts_plan t)) (ts_tgt t) (ts_way t) (ts_sought t))) 12 (ad 12) (ad 13) (ad 14) (ad 15) B cI cJ (lp_ (tr_gNf L S B (ts_nodes t) nd) k (ts_plan t)) from ⟨rfl, rfl, rfl, rfl⟩) (tr_B_lt ok) (show rw_in (tw_ cI cJ ad L S C B (ts_mk (ts_nodes t) (ts_cnts t) (ts_stash t) (ts_trail t) (lp_ (tr_gNf L S B (ts_nodes t) nd) k (ts_plan t)) (ts_tgt t) (ts_way t) (ts_sought t))) 1 (ad 1) (ad 2) (ad 3) (ad 4) (tr_nN L S) cI cJ (ts_nodes t) from ⟨rfl, rfl, rfl, rfl⟩) (tr_nN_lt ok) (by decide) ((nd * (nI S)) + (nI k))) (cwV 2 hT (gi_V m_279 m_276 m_277 m_278 m_26) rfl rfl rfl p_RW_append ⟨Nat.le_of_ble_eq_true rfl, Nat.le_of_ble_eq_true rfl⟩) ⟨mP_blind, va_recv hK hP (ci := 0) (q0 := 12) rfl rfl, mP_pre hK hP hD⟩ rfl rfl hl.1 rfl (lv_room (Nat.le_of_ble_eq_true rfl)) d_TR_gatherNode_39 ⟨Nat.le_refl _, Nat.le_refl _⟩) hS (fun H locs hP hD hS => ?_)
          have hP : va_P (dC, dI) kCl (tw_ cI cJ ad L S C B (ts_mk (ts_nodes t) (ts_cnts t) (ts_stash t) (ts_trail t) (rw_app B (lp_ (tr_gNf L S B (ts_nodes t) nd) k (ts_plan t)) (tr_nN L S) (ts_nodes t) ((nd * (nI S)) + (nI k))) (ts_tgt t) (ts_way t) (ts_sought t))) H := hP
          have hD : va_D A (tw_ cI cJ ad L S C B (ts_mk (ts_nodes t) (ts_cnts t) (ts_stash t) (ts_trail t) (rw_app B (lp_ (tr_gNf L S B (ts_nodes t) nd) k (ts_plan t)) (tr_nN L S) (ts_nodes t) ((nd * (nI S)) + (nI k))) (ts_tgt t) (ts_way t) (ts_sought t))) := hD
          refine lv_iinc (v := nI (k + 1)) (lv' := [(2, .int (nI (k + 1))), (3, .int ((nd * (nI S)) + (nI k))), (0, .ref (ad 0)), (1, .int nd)]) hx hb d_TR_gatherNode_42 hl (k := 1) rfl (nI_1 k) (by decide) rfl (fun ls hl => ?_)
          refine lv_goto (tgt := 2) hx hb d_TR_gatherNode_45 (by decide) ?_
          exact ih (k + 1) ls H locs (by omega) (by omega) (show va_P (dC, dI) kCl (tw_ cI cJ ad L S C B (ts_mk (ts_nodes t) (ts_cnts t) (ts_stash t) (ts_trail t) (lp_ (tr_gNf L S B (ts_nodes t) nd) (k + 1) (ts_plan t)) (ts_tgt t) (ts_way t) (ts_sought t))) H by (try rw [show lp_ (tr_gNf L S B (ts_nodes t) nd) (k + 1) (ts_plan t) = rw_app B (lp_ (tr_gNf L S B (ts_nodes t) nd) k (ts_plan t)) (tr_nN L S) (ts_nodes t) (nd * nI S + nI k) from if_neg c_2]); exact hP) (show va_D A (tw_ cI cJ ad L S C B (ts_mk (ts_nodes t) (ts_cnts t) (ts_stash t) (ts_trail t) (lp_ (tr_gNf L S B (ts_nodes t) nd) (k + 1) (ts_plan t)) (ts_tgt t) (ts_way t) (ts_sought t))) by (try rw [show lp_ (tr_gNf L S B (ts_nodes t) nd) (k + 1) (ts_plan t) = rw_app B (lp_ (tr_gNf L S B (ts_nodes t) nd) k (ts_plan t)) (tr_nN L S) (ts_nodes t) (nd * nI S + nI k) from if_neg c_2]); exact hD) hS (show lv_has ls 4 [(2, .int (nI (k + 1))), (0, .ref (ad 0)), (1, .int nd)] by (try rw [show lp_ (tr_gNf L S B (ts_nodes t) nd) (k + 1) (ts_plan t) = rw_app B (lp_ (tr_gNf L S B (ts_nodes t) nd) k (ts_plan t)) (tr_nN L S) (ts_nodes t) (nd * nI S + nI k) from if_neg c_2]); exact lv_sub hl [0, 2, 3] rfl)
  exact lp (S + 1) 0 ls _ _ (by omega) (Nat.zero_le _) hP hD hS (lv_sub hl [0, 1, 2] rfl)

set_option maxHeartbeats 4000000 in
set_option maxRecDepth 100000 in
/-- Tree.settle -/
theorem c_TR_settle {l : Launch} {dC : Nat → ClassId} {dI : Nat → Nat → Nat} {cI cJ : ClassId} {A : Nat → Prop} {ad : Nat → Nat} {L S C B : Nat} {t : Ts} (ok : tr_ok L S C B) (lf : Int32) (v : Int64) : Met l y_TR_settle (k_TR_settle :: bw) { frames := 2, cells := 0, slots := 0, locals := 46 } (mP (dC, dI) kCl [(cI, .int), (cJ, .long)] [.ref (ad 0), .int lf, .long v] (tw_ cI cJ ad L S C B (ts_mk (ts_nodes t) (ts_cnts t) (ts_stash t) (ts_trail t) (ts_plan t) (ts_tgt t) (ts_way t) (ts_sought t))) A) (mQv (dC, dI) kCl (tw_ cI cJ ad L S C B (tr_settle B t lf v)) A) 0 0 A := by
  refine Met.ofZ (own := "CoinTree$Tree") (by decide) rfl [.ref (ad 0), .int lf, .long v] (Nat.le_of_ble_eq_true rfl) (fun _ _ h => h.1) ?_
  intro p e s m below meth c ls C0 hv hl
  obtain ⟨hx, hb, hr, hml, hown, hT, hlocks⟩ := C0
  obtain ⟨-, hP, hK, hD⟩ := hv
  have hS : va_S A s.heap s.heap [] := va_S.rf
  have hl : lv_has ls 4 [(0, .ref (ad 0)), (1, .int lf), (2, .long v)] := hl
  refine lv_aload_n hx hb d_TR_settle_0 rfl (lv_at hl 0 rfl) ?_
  refine va_get (D := (dC, dI)) (ci := 2) (v := .ref (ad 12)) (C := R_TR) (T := F_TR) (N := 12) hx hb hT i_TR hown hK hP 0 rfl rfl 8 (by decide) (hT _ m_109) (fun _ h9 => h9) rfl d_TR_settle_1 ?_
  refine lv_aload_n hx hb d_TR_settle_4 rfl (lv_at hl 0 rfl) ?_
  refine va_get (D := (dC, dI)) (ci := 2) (v := .int (ts_sought t)) (C := R_TR) (T := F_TR) (N := 12) hx hb hT i_TR hown hK hP 0 rfl rfl 11 (by decide) (hT _ m_112) (fun _ h9 => h9) rfl d_TR_settle_5 ?_
  refine lv_aload_n hx hb d_TR_settle_8 rfl (lv_at hl 0 rfl) ?_
  refine va_get (D := (dC, dI)) (ci := 2) (v := .ref (ad 12)) (C := R_TR) (T := F_TR) (N := 12) hx hb hT i_TR hown hK hP 0 rfl rfl 8 (by decide) (hT _ m_109) (fun _ h9 => h9) rfl d_TR_settle_9 ?_
  refine lv_aload_n hx hb d_TR_settle_12 rfl (lv_at hl 0 rfl) ?_
  refine va_get (D := (dC, dI)) (ci := 2) (v := .int (ts_sought t)) (C := R_TR) (T := F_TR) (N := 12) hx hb hT i_TR hown hK hP 0 rfl rfl 11 (by decide) (hT _ m_112) (fun _ h9 => h9) rfl d_TR_settle_13 ?_
  refine zc_i (va_runV (As := [.int (ts_sought t)]) (rest := [.int (ts_sought t), .ref (ad 12)]) ⟨hx, hb, hml, hown, hT⟩ (c_RW_markAt hP (show rw_in (tw_ cI cJ ad L S C B (ts_mk (ts_nodes t) (ts_cnts t) (ts_stash t) (ts_trail t) (ts_plan t) (ts_tgt t) (ts_way t) (ts_sought t))) 12 (ad 12) (ad 13) (ad 14) (ad 15) B cI cJ (ts_plan t) from ⟨rfl, rfl, rfl, rfl⟩) (tr_B_lt ok) (ts_sought t)) (cwV 1 hT (gi_V m_291 m_312 m_289 m_290 m_26) rfl rfl rfl p_RW_markAt ⟨Nat.le_of_ble_eq_true rfl, Nat.le_of_ble_eq_true rfl⟩) ⟨zP_blind, va_recv hK hP (ci := 0) (q0 := 12) rfl rfl, zP_pre hK⟩ rfl rfl hl.1 rfl (lv_room (Nat.le_of_ble_eq_true rfl)) d_TR_settle_16 ⟨Nat.le_refl _, Nat.le_refl _⟩) hS (fun locs hS => ?_)
  refine lv_iload_n hx hb d_TR_settle_19 rfl (lv_at hl 1 rfl) ?_
  refine lv_lload_n hx hb d_TR_settle_20 rfl (lv_at hl 2 rfl) ?_
  refine mc_v (va_runV (As := [.int (ts_sought t), .int (rw_at B (ts_plan t).1 (ts_sought t)), .int lf, .long v]) (rest := []) ⟨hx, hb, hml, hown, hT⟩ (c_RW_put (show rw_in (tw_ cI cJ ad L S C B (ts_mk (ts_nodes t) (ts_cnts t) (ts_stash t) (ts_trail t) (ts_plan t) (ts_tgt t) (ts_way t) (ts_sought t))) 12 (ad 12) (ad 13) (ad 14) (ad 15) B cI cJ (ts_plan t) from ⟨rfl, rfl, rfl, rfl⟩) (tr_B_lt ok) (ts_sought t) (rw_at B (ts_plan t).1 (ts_sought t)) lf v) (cwV 4 hT (gi_V m_303 m_335 m_301 m_302 m_26) rfl rfl rfl p_RW_put ⟨Nat.le_of_ble_eq_true rfl, Nat.le_of_ble_eq_true rfl⟩) ⟨mP_blind, va_recv hK hP (ci := 0) (q0 := 12) rfl rfl, mP_pre hK hP hD⟩ rfl rfl hl.1 rfl (lv_room (Nat.le_of_ble_eq_true rfl)) d_TR_settle_21 ⟨Nat.le_refl _, Nat.le_refl _⟩) hS (fun H locs hP hD hS => ?_)
  have hP : va_P (dC, dI) kCl (tw_ cI cJ ad L S C B (ts_mk (ts_nodes t) (ts_cnts t) (ts_stash t) (ts_trail t) (rw_put B (ts_plan t) (ts_sought t) (rw_at B (ts_plan t).1 (ts_sought t)) lf v) (ts_tgt t) (ts_way t) (ts_sought t))) H := hP
  have hD : va_D A (tw_ cI cJ ad L S C B (ts_mk (ts_nodes t) (ts_cnts t) (ts_stash t) (ts_trail t) (rw_put B (ts_plan t) (ts_sought t) (rw_at B (ts_plan t).1 (ts_sought t)) lf v) (ts_tgt t) (ts_way t) (ts_sought t))) := hD
  exact W.vret hx hb hr (fun t9 ht _ => mQv_end (rfl) hP hD hS ht) hS.2.2 d_TR_settle_24 hlocks
end
section
set_option maxHeartbeats 4000000 in
set_option maxRecDepth 100000 in
/-- Trail.leafAt -/
theorem c_TL_leafAt {l : Launch} {dC : Nat → ClassId} {dI : Nat → Nat → Nat} {cI cJ : ClassId} {H : Heap} {ws : va_W} {i0 h a : Nat} {u : Tl} (hP : va_P (dC, dI) kCl ws H) (ht0 : tl_in ws i0 h a cI u) (hu : u.2 < 600) (j : Nat) (hj : j < 600) : Met l y_TL_leafAt (k_TL_leafAt :: bw) { frames := 0, cells := 0, slots := 0, locals := 0 } (zP (dC, dI) kCl [(cI, .int), (cJ, .long)] [.ref h, .int (nI j)] H) (zQi H (u.1 j)) 0 0 (fun _ => False) := by
  refine Met.ofZ (own := "CoinTree$Trail") (by decide) rfl [.ref h, .int (nI j)] (Nat.le_of_ble_eq_true rfl) (fun _ _ h => h.1) ?_
  intro p e s m below meth c ls C0 hv hl
  obtain ⟨hx, hb, hr, hml, hown, hT, hlocks⟩ := C0
  obtain ⟨-, rfl, hK⟩ := hv
  have hS : va_S (fun _ => False) s.heap s.heap [] := va_S.rf
  have hl : lv_has ls 4 [(0, .ref h), (1, .int (nI j))] := hl
  refine lv_aload_n hx hb d_TL_leafAt_0 rfl (lv_at hl 0 rfl) ?_
  refine va_get (D := (dC, dI)) (ci := 1) (v := .int (nI u.2)) (C := R_TL) (T := F_TL) (N := 3) hx hb hT i_TL hown hK hP i0 ht0.1 rfl 2 (by decide) (hT _ m_65) (fun _ h9 => h9) rfl d_TL_leafAt_1 ?_
  refine lv_sipush (v := 600) hx hb d_TL_leafAt_4 (by decide) ?_
  refine lv_icmp_ge (tgt := 14) hx hb d_TL_leafAt_7 (by decide) (fun c_1 => ?_) (fun c_1 => ?_)
  · exact absurd c_1 (by rw [show (600 : Int32) = nI 600 from rfl]; exact nI_ge hu (by omega))
  · refine lv_iconst (v := 0) hx hb d_TL_leafAt_10 (by decide) ?_
    refine lv_goto (tgt := 18) hx hb d_TL_leafAt_11 (by decide) ?_
    refine lv_istore_n (lv' := [(2, .int 0), (0, .ref h), (1, .int (nI j))]) hx hb d_TL_leafAt_18 rfl hl (by decide) rfl (fun ls hl => ?_)
    refine lv_iload_n hx hb d_TL_leafAt_19 rfl (lv_at hl 0 rfl) ?_
    refine lv_iload_n hx hb d_TL_leafAt_20 rfl (lv_at hl 2 rfl) ?_
    refine lv_iadd hx hb d_TL_leafAt_21 ?_
    refine lv_sipush (v := 600) hx hb d_TL_leafAt_22 (by decide) ?_
    refine lv_irem hx hb d_TL_leafAt_25 (by decide) ?_
    refine W.eq (g2 := F0 m 26 ls [.int (nI j)]) (by rw [tl_r600 j hj]) ?_
    refine lv_istore_n (lv' := [(3, .int (nI j)), (2, .int 0), (0, .ref h), (1, .int (nI j))]) hx hb d_TL_leafAt_26 rfl hl (by decide) rfl (fun ls hl => ?_)
    refine lv_iload_n hx hb d_TL_leafAt_27 rfl (lv_at hl 0 rfl) ?_
    refine lv_if_lt (tgt := 40) hx hb d_TL_leafAt_28 (by decide) (fun c_2 => ?_) (fun c_2 => ?_)
    · exact absurd c_2 (nI_pos (by omega))
    · refine lv_aload_n hx hb d_TL_leafAt_31 rfl (lv_at hl 2 rfl) ?_
      refine va_get (D := (dC, dI)) (ci := 1) (v := .ref a) (C := R_TL) (T := F_TL) (N := 3) hx hb hT i_TL hown hK hP i0 ht0.1 rfl 0 (by decide) (hT _ m_63) (fun _ h9 => h9) rfl d_TL_leafAt_32 ?_
      refine lv_iload_n hx hb d_TL_leafAt_35 rfl (lv_at hl 0 rfl) ?_
      refine va_iald hx hb hK hP (i0 + 1) 0 ht0.2 rfl (vp_in_nI hj (by omega)) d_TL_leafAt_36 ?_
      rw [nI_clamp (show j < 2 ^ 31 by omega)]
      refine lv_goto (tgt := 41) hx hb d_TL_leafAt_37 (by decide) ?_
      exact W.iret hx hb hr (fun t9 ht _ => zQi_end (rfl) rfl ht) hS.2.2 d_TL_leafAt_41 hlocks

set_option maxHeartbeats 4000000 in
set_option maxRecDepth 100000 in
/-- Trail.add -/
theorem c_TL_add {l : Launch} {dC : Nat → ClassId} {dI : Nat → Nat → Nat} {cI cJ : ClassId} {A : Nat → Prop} {ws : va_W} {i0 h a : Nat} {u : Tl} (ht0 : tl_in ws i0 h a cI u) (hu : u.2 < 600) (lf : Int32) : Met l y_TL_add (k_TL_add :: bw) { frames := 1, cells := 0, slots := 0, locals := 21 } (mP (dC, dI) kCl [(cI, .int), (cJ, .long)] [.ref h, .int lf] ws A) (mQv (dC, dI) kCl (tl_set ws i0 h a cI (tl_add u lf)) A) 0 0 A := by
  refine Met.ofZ (own := "CoinTree$Trail") (by decide) rfl [.ref h, .int lf] (Nat.le_of_ble_eq_true rfl) (fun _ _ h => h.1) ?_
  intro p e s m below meth c ls C0 hv hl
  obtain ⟨hx, hb, hr, hml, hown, hT, hlocks⟩ := C0
  obtain ⟨-, hP, hK, hD⟩ := hv
  have hS : va_S A s.heap s.heap [] := va_S.rf
  have hl : lv_has ls 2 [(0, .ref h), (1, .int lf)] := hl
  refine lv_aload_n hx hb d_TL_add_0 rfl (lv_at hl 0 rfl) ?_
  refine va_get (D := (dC, dI)) (ci := 1) (v := .int (nI u.2)) (C := R_TL) (T := F_TL) (N := 3) hx hb hT i_TL hown hK hP i0 ht0.1 rfl 1 (by decide) (hT _ m_64) (fun _ h9 => h9) rfl d_TL_add_1 ?_
  refine lv_if_lt (tgt := 17) hx hb d_TL_add_4 (by decide) (fun c_1 => ?_) (fun c_1 => ?_)
  · exact absurd c_1 (nI_pos (by omega))
  · refine lv_aload_n hx hb d_TL_add_7 rfl (lv_at hl 0 rfl) ?_
    refine va_get (D := (dC, dI)) (ci := 1) (v := .int (nI u.2)) (C := R_TL) (T := F_TL) (N := 3) hx hb hT i_TL hown hK hP i0 ht0.1 rfl 1 (by decide) (hT _ m_64) (fun _ h9 => h9) rfl d_TL_add_8 ?_
    refine lv_sipush (v := 600) hx hb d_TL_add_11 (by decide) ?_
    refine lv_icmp_lt (tgt := 22) hx hb d_TL_add_14 (by decide) (fun c_2 => ?_) (fun c_2 => ?_)
    · refine lv_aload_n hx hb d_TL_add_22 rfl (lv_at hl 0 rfl) ?_
      refine va_get (D := (dC, dI)) (ci := 1) (v := .ref a) (C := R_TL) (T := F_TL) (N := 3) hx hb hT i_TL hown hK hP i0 ht0.1 rfl 0 (by decide) (hT _ m_63) (fun _ h9 => h9) rfl d_TL_add_23 ?_
      refine lv_aload_n hx hb d_TL_add_26 rfl (lv_at hl 0 rfl) ?_
      refine va_get (D := (dC, dI)) (ci := 1) (v := .int (nI u.2)) (C := R_TL) (T := F_TL) (N := 3) hx hb hT i_TL hown hK hP i0 ht0.1 rfl 1 (by decide) (hT _ m_64) (fun _ h9 => h9) rfl d_TL_add_27 ?_
      refine lv_iload_n hx hb d_TL_add_30 rfl (lv_at hl 1 rfl) ?_
      refine va_iast hx hb hK hP hD hS (i0 + 1) 0 ht0.2 rfl (vp_in_nI hu (by omega)) d_TL_add_31 (fun H locs hP hD hS => ?_)
      rw [nI_clamp (show u.2 < 2 ^ 31 by omega)] at hP hD
      have e1 : (ws.set (i0 + 1) (a, .inl (cI, 600, .inl (upd u.1 u.2 lf))))[i0]? = some (h, .inr (1, [.ref a, .int (nI u.2), .int (nI u.2)])) := by rw [ls_ne (by omega)]; exact ht0.1
      refine lv_aload_n hx hb d_TL_add_32 rfl (lv_at hl 0 rfl) ?_
      refine lv_dup hx hb d_TL_add_33 rfl ?_
      refine va_get (D := (dC, dI)) (ci := 1) (v := .int (nI u.2)) (C := R_TL) (T := F_TL) (N := 3) hx hb hT i_TL hown hK hP i0 e1 rfl 1 (by decide) (hT _ m_64) (fun _ h9 => h9) rfl d_TL_add_34 ?_
      refine lv_iconst (v := 1) hx hb d_TL_add_37 (by decide) ?_
      refine lv_iadd hx hb d_TL_add_38 ?_
      refine va_put (D := (dC, dI)) (ci := 1) (v := .int ((nI u.2) + 1)) (ty := .int) (C := R_TL) (T := F_TL) (N := 3) hx hb hT i_TL t_TL t_TL_ok n_TL hown hK hP hD hS i0 e1 rfl 1 (by decide) (hT _ m_64) (fun _ h9 => h9) rfl (by decide +kernel) rfl rfl (Nat.le_of_ble_eq_true rfl) d_TL_add_39 (fun H locs hP hD hS => ?_)
      have e2 := ls_eq (x := ((h, .inr (1, [.ref a, .int (nI u.2 + 1), .int (nI u.2)])) : Nat × va_E)) e1
      refine lv_aload_n hx hb d_TL_add_42 rfl (lv_at hl 0 rfl) ?_
      refine lv_aload_n hx hb d_TL_add_43 rfl (lv_at hl 0 rfl) ?_
      refine va_get (D := (dC, dI)) (ci := 1) (v := .int (nI u.2)) (C := R_TL) (T := F_TL) (N := 3) hx hb hT i_TL hown hK hP i0 e2 rfl 2 (by decide) (hT _ m_65) (fun _ h9 => h9) rfl d_TL_add_44 ?_
      refine lv_iconst (v := 1) hx hb d_TL_add_47 (by decide) ?_
      refine lv_iadd hx hb d_TL_add_48 ?_
      refine lv_sipush (v := 600) hx hb d_TL_add_49 (by decide) ?_
      refine va_mmin hx hb (hml.trans hl.1.symm) hown (hT _ m_382) (hT _ m_46) (hT _ m_23) (hT _ m_47) (Nat.le_of_ble_eq_true rfl) (Nat.le_of_ble_eq_true rfl) (Nat.zero_le _) (Nat.zero_le _) d_TL_add_52 ?_
      refine W.eq (g2 := F0 m 55 ls [.int (nI (u.2 + 1)), .ref h]) (by rw [tl_min hu]) ?_
      refine va_put (D := (dC, dI)) (ci := 1) (v := .int (nI (u.2 + 1))) (ty := .int) (C := R_TL) (T := F_TL) (N := 3) hx hb hT i_TL t_TL t_TL_ok n_TL hown hK hP hD hS i0 e2 rfl 2 (by decide) (hT _ m_65) (fun _ h9 => h9) rfl (by decide +kernel) rfl rfl (Nat.le_of_ble_eq_true rfl) d_TL_add_55 (fun H locs hP hD hS => ?_)
      exact W.vret hx hb hr (fun t9 ht _ => mQv_end (by rw [List.set_set]; show ((ws.set (i0 + 1) (a, .inl (cI, 600, .inl (upd u.1 u.2 lf)))).set i0 (h, .inr (1, [.ref a, .int (nI u.2 + 1), .int (nI (u.2 + 1))]))) = _; rw [nI_1, tl_in_set ht0]; rfl) hP hD hS ht) hS.2.2 d_TL_add_58 hlocks
    · exact absurd (by rw [show (600 : Int32) = nI 600 from rfl]; exact nI_lt hu (by omega)) c_2
end
section
set_option maxHeartbeats 4000000 in
set_option maxRecDepth 100000 in
/-- Tree.gather -/
theorem c_TR_gather {l : Launch} {dC : Nat → ClassId} {dI : Nat → Nat → Nat} {cI cJ : ClassId} {A : Nat → Prop} {ad : Nat → Nat} {L S C B : Nat} {t : Ts} (ok : tr_ok L S C B) (blk lf : Int32) : Met l y_TR_gather (k_TR_gather :: bw) { frames := 5, cells := 0, slots := 0, locals := 114 } (mP (dC, dI) kCl [(cI, .int), (cJ, .long)] [.ref (ad 0), .int blk, .int lf] (tw_ cI cJ ad L S C B (ts_mk (ts_nodes t) (ts_cnts t) (ts_stash t) (ts_trail t) (ts_plan t) (ts_tgt t) (ts_way t) (ts_sought t))) A) (mQv (dC, dI) kCl (tw_ cI cJ ad L S C B (tr_gather L S C B t blk lf)) A) 0 0 A := by
  refine Met.ofZ (own := "CoinTree$Tree") (by decide) rfl [.ref (ad 0), .int blk, .int lf] (Nat.le_of_ble_eq_true rfl) (fun _ _ h => h.1) ?_
  intro p e s m below meth c ls C0 hv hl
  obtain ⟨hx, hb, hr, hml, hown, hT, hlocks⟩ := C0
  obtain ⟨-, hP, hK, hD⟩ := hv
  have hS : va_S A s.heap s.heap [] := va_S.rf
  have hl : lv_has ls 4 [(0, .ref (ad 0)), (1, .int blk), (2, .int lf)] := hl
  refine lv_aload_n hx hb d_TR_gather_0 rfl (lv_at hl 0 rfl) ?_
  refine lv_iload_n hx hb d_TR_gather_1 rfl (lv_at hl 2 rfl) ?_
  refine va_put (D := (dC, dI)) (ci := 2) (v := .int lf) (ty := .int) (C := R_TR) (T := F_TR) (N := 12) hx hb hT i_TR t_TR t_TR_ok n_TR hown hK hP hD hS 0 rfl rfl 10 (by decide) (hT _ m_111) (fun _ h9 => h9) rfl (by decide +kernel) rfl rfl (Nat.le_of_ble_eq_true rfl) d_TR_gather_2 (fun H locs hP hD hS => ?_)
  have hP : va_P (dC, dI) kCl (tw_ cI cJ ad L S C B (ts_mk (ts_nodes t) (ts_cnts t) (ts_stash t) (ts_trail t) (ts_plan t) (ts_tgt t) lf (ts_sought t))) H := hP
  have hD : va_D A (tw_ cI cJ ad L S C B (ts_mk (ts_nodes t) (ts_cnts t) (ts_stash t) (ts_trail t) (ts_plan t) (ts_tgt t) lf (ts_sought t))) := hD
  refine lv_aload_n hx hb d_TR_gather_5 rfl (lv_at hl 0 rfl) ?_
  refine va_get (D := (dC, dI)) (ci := 2) (v := .ref (ad 12)) (C := R_TR) (T := F_TR) (N := 12) hx hb hT i_TR hown hK hP 0 rfl rfl 8 (by decide) (hT _ m_109) (fun _ h9 => h9) rfl d_TR_gather_6 ?_
  refine lv_iconst (v := 0) hx hb d_TR_gather_9 (by decide) ?_
  refine va_put (D := (dC, dI)) (ci := 0) (v := .int 0) (ty := .int) (C := R_RW) (T := F_RW) (N := 4) hx hb hT i_RW t_RW t_RW_ok n_RW hown hK hP hD hS 12 rfl rfl 3 (by decide) (hT _ m_85) (fun _ h9 => h9) rfl (by decide +kernel) rfl rfl (Nat.le_of_ble_eq_true rfl) d_TR_gather_10 (fun H locs hP hD hS => ?_)
  have hP : va_P (dC, dI) kCl (tw_ cI cJ ad L S C B (ts_mk (ts_nodes t) (ts_cnts t) (ts_stash t) (ts_trail t) (rw_size (ts_plan t) 0) (ts_tgt t) lf (ts_sought t))) H := hP
  have hD : va_D A (tw_ cI cJ ad L S C B (ts_mk (ts_nodes t) (ts_cnts t) (ts_stash t) (ts_trail t) (rw_size (ts_plan t) 0) (ts_tgt t) lf (ts_sought t))) := hD
  refine lv_iconst (v := 0) hx hb d_TR_gather_13 (by decide) ?_
  refine lv_istore_n (lv' := [(3, .int 0), (0, .ref (ad 0)), (1, .int blk), (2, .int lf)]) hx hb d_TR_gather_14 rfl hl (by decide) rfl (fun ls hl => ?_)
  have lp : ∀ (N k : Nat) (ls : Array Slot) (H : Heap) (locs : List Loc), (ts_stash t).2.2.2.toNatClampNeg - k < N → k ≤ (ts_stash t).2.2.2.toNatClampNeg → va_P (dC, dI) kCl (tw_ cI cJ ad L S C B (ts_mk (ts_nodes t) (ts_cnts t) (ts_stash t) (ts_trail t) (lp_ (tr_gSf C B (ts_stash t)) k (rw_size (ts_plan t) 0)) (ts_tgt t) lf (ts_sought t))) H → va_D A (tw_ cI cJ ad L S C B (ts_mk (ts_nodes t) (ts_cnts t) (ts_stash t) (ts_trail t) (lp_ (tr_gSf C B (ts_stash t)) k (rw_size (ts_plan t) 0)) (ts_tgt t) lf (ts_sought t))) → va_S A s.heap H locs → lv_has ls 4 [(3, .int (nI k)), (0, .ref (ad 0)), (1, .int blk), (2, .int lf)] → W p l e ({ frames := 5, cells := 0, slots := 0, locals := 114 } : Room) s m ([.ref (ad 0), .int blk, .int lf] : List Value).toArray below meth c H locs 0 0 (MQ below (mQv (dC, dI) kCl (tw_ cI cJ ad L S C B (tr_gather L S C B t blk lf)) A) ([.ref (ad 0), .int blk, .int lf] : List Value).toArray s 0 0 A) (F0 m 15 ls []) := by
    intro N
    induction N with
    | zero => intro k ls H locs hN; omega
    | succ N ih =>
      intro k ls H locs hN hk hP hD hS hl
      refine lv_iload_n hx hb d_TR_gather_15 rfl (lv_at hl 0 rfl) ?_
      refine lv_aload_n hx hb d_TR_gather_16 rfl (lv_at hl 1 rfl) ?_
      refine va_get (D := (dC, dI)) (ci := 2) (v := .ref (ad 6)) (C := R_TR) (T := F_TR) (N := 12) hx hb hT i_TR hown hK hP 0 rfl rfl 6 (by decide) (hT _ m_105) (fun _ h9 => h9) rfl d_TR_gather_17 ?_
      refine va_get (D := (dC, dI)) (ci := 0) (v := .int (ts_stash t).2.2.2) (C := R_RW) (T := F_RW) (N := 4) hx hb hT i_RW hown hK hP 6 rfl rfl 3 (by decide) (hT _ m_85) (fun _ h9 => h9) rfl d_TR_gather_20 ?_
      refine lv_icmp_ge (tgt := 44) hx hb d_TR_gather_23 (by decide) (fun c_1 => ?_) (fun c_1 => ?_)
      · have hkS : k = (ts_stash t).2.2.2.toNatClampNeg := Nat.le_antisymm hk (le_clamp (by have := clamp_lt (ts_stash t).2.2.2; omega) c_1)
        subst hkS
        refine lv_iconst (v := 0) hx hb d_TR_gather_44 (by decide) ?_
        refine lv_istore_n (lv' := [(3, .int 0), (0, .ref (ad 0)), (1, .int blk), (2, .int lf)]) hx hb d_TR_gather_45 rfl hl (by decide) rfl (fun ls hl => ?_)
        have lp : ∀ (N k : Nat) (ls : Array Slot) (H : Heap) (locs : List Loc), (L + 1) - k < N → k ≤ (L + 1) → va_P (dC, dI) kCl (tw_ cI cJ ad L S C B (ts_mk (ts_nodes t) (ts_cnts t) (ts_stash t) (ts_trail t) (lp_ (tr_gWf L S B (ts_nodes t) lf) k (tr_gS C B (ts_stash t) (rw_size (ts_plan t) 0))) (ts_tgt t) lf (ts_sought t))) H → va_D A (tw_ cI cJ ad L S C B (ts_mk (ts_nodes t) (ts_cnts t) (ts_stash t) (ts_trail t) (lp_ (tr_gWf L S B (ts_nodes t) lf) k (tr_gS C B (ts_stash t) (rw_size (ts_plan t) 0))) (ts_tgt t) lf (ts_sought t))) → va_S A s.heap H locs → lv_has ls 4 [(3, .int (nI k)), (0, .ref (ad 0)), (1, .int blk), (2, .int lf)] → W p l e ({ frames := 5, cells := 0, slots := 0, locals := 114 } : Room) s m ([.ref (ad 0), .int blk, .int lf] : List Value).toArray below meth c H locs 0 0 (MQ below (mQv (dC, dI) kCl (tw_ cI cJ ad L S C B (tr_gather L S C B t blk lf)) A) ([.ref (ad 0), .int blk, .int lf] : List Value).toArray s 0 0 A) (F0 m 46 ls []) := by
          intro N
          induction N with
          | zero => intro k ls H locs hN; omega
          | succ N ih =>
            intro k ls H locs hN hk hP hD hS hl
            refine lv_iload_n hx hb d_TR_gather_46 rfl (lv_at hl 0 rfl) ?_
            refine lv_aload_n hx hb d_TR_gather_47 rfl (lv_at hl 1 rfl) ?_
            refine va_get (D := (dC, dI)) (ci := 2) (v := .int (nI L)) (C := R_TR) (T := F_TR) (N := 12) hx hb hT i_TR hown hK hP 0 rfl rfl 0 (by decide) (hT _ m_98) (fun _ h9 => h9) rfl d_TR_gather_48 ?_
            refine lv_icmp_gt (tgt := 70) hx hb d_TR_gather_51 (by decide) (fun c_2 => ?_) (fun c_2 => ?_)
            · have hkL : k = L + 1 := Nat.le_antisymm hk ((nI_ltI (tr_L_lt ok) (by have := tr_L_lt ok; have := ok.2.1; omega)).mp c_2)
              subst hkL
              refine lv_aload_n hx hb d_TR_gather_70 rfl (lv_at hl 1 rfl) ?_
              refine lv_aload_n hx hb d_TR_gather_71 rfl (lv_at hl 1 rfl) ?_
              refine va_get (D := (dC, dI)) (ci := 2) (v := .ref (ad 12)) (C := R_TR) (T := F_TR) (N := 12) hx hb hT i_TR hown hK hP 0 rfl rfl 8 (by decide) (hT _ m_109) (fun _ h9 => h9) rfl d_TR_gather_72 ?_
              refine lv_iload_n hx hb d_TR_gather_75 rfl (lv_at hl 2 rfl) ?_
              refine lv_iconst (v := 1) hx hb d_TR_gather_76 (by decide) ?_
              refine lv_iadd hx hb d_TR_gather_77 ?_
              refine zc_i (va_runV (As := [.int (blk + 1)]) (rest := [.ref (ad 0)]) ⟨hx, hb, hml, hown, hT⟩ (c_RW_find hP (show rw_in (tw_ cI cJ ad L S C B (ts_mk (ts_nodes t) (ts_cnts t) (ts_stash t) (ts_trail t) (lp_ (tr_gWf L S B (ts_nodes t) lf) (L + 1) (tr_gS C B (ts_stash t) (rw_size (ts_plan t) 0))) (ts_tgt t) lf (ts_sought t))) 12 (ad 12) (ad 13) (ad 14) (ad 15) B cI cJ (lp_ (tr_gWf L S B (ts_nodes t) lf) (L + 1) (tr_gS C B (ts_stash t) (rw_size (ts_plan t) 0))) from ⟨rfl, rfl, rfl, rfl⟩) (tr_B_lt ok) (blk + 1)) (cwV 1 hT (gi_V m_316 m_313 m_314 m_315 m_26) rfl rfl rfl p_RW_find ⟨Nat.le_of_ble_eq_true rfl, Nat.le_of_ble_eq_true rfl⟩) ⟨zP_blind, va_recv hK hP (ci := 0) (q0 := 12) rfl rfl, zP_pre hK⟩ rfl rfl hl.1 rfl (lv_room (Nat.le_of_ble_eq_true rfl)) d_TR_gather_78 ⟨Nat.le_refl _, Nat.le_refl _⟩) hS (fun locs hS => ?_)
              refine va_put (D := (dC, dI)) (ci := 2) (v := .int (rw_find (lp_ (tr_gWf L S B (ts_nodes t) lf) (L + 1) (tr_gS C B (ts_stash t) (rw_size (ts_plan t) 0))).1 (blk + 1) (rw_cnt B (lp_ (tr_gWf L S B (ts_nodes t) lf) (L + 1) (tr_gS C B (ts_stash t) (rw_size (ts_plan t) 0))).2.2.2) 0)) (ty := .int) (C := R_TR) (T := F_TR) (N := 12) hx hb hT i_TR t_TR t_TR_ok n_TR hown hK hP hD hS 0 rfl rfl 11 (by decide) (hT _ m_112) (fun _ h9 => h9) rfl (by decide +kernel) rfl rfl (Nat.le_of_ble_eq_true rfl) d_TR_gather_81 (fun H locs hP hD hS => ?_)
              have hP : va_P (dC, dI) kCl (tw_ cI cJ ad L S C B (ts_mk (ts_nodes t) (ts_cnts t) (ts_stash t) (ts_trail t) (lp_ (tr_gWf L S B (ts_nodes t) lf) (L + 1) (tr_gS C B (ts_stash t) (rw_size (ts_plan t) 0))) (ts_tgt t) lf (rw_find (lp_ (tr_gWf L S B (ts_nodes t) lf) (L + 1) (tr_gS C B (ts_stash t) (rw_size (ts_plan t) 0))).1 (blk + 1) (rw_cnt B (lp_ (tr_gWf L S B (ts_nodes t) lf) (L + 1) (tr_gS C B (ts_stash t) (rw_size (ts_plan t) 0))).2.2.2) 0))) H := hP
              have hD : va_D A (tw_ cI cJ ad L S C B (ts_mk (ts_nodes t) (ts_cnts t) (ts_stash t) (ts_trail t) (lp_ (tr_gWf L S B (ts_nodes t) lf) (L + 1) (tr_gS C B (ts_stash t) (rw_size (ts_plan t) 0))) (ts_tgt t) lf (rw_find (lp_ (tr_gWf L S B (ts_nodes t) lf) (L + 1) (tr_gS C B (ts_stash t) (rw_size (ts_plan t) 0))).1 (blk + 1) (rw_cnt B (lp_ (tr_gWf L S B (ts_nodes t) lf) (L + 1) (tr_gS C B (ts_stash t) (rw_size (ts_plan t) 0))).2.2.2) 0))) := hD
              refine lv_aload_n hx hb d_TR_gather_84 rfl (lv_at hl 1 rfl) ?_
              refine va_get (D := (dC, dI)) (ci := 2) (v := .int (rw_find (lp_ (tr_gWf L S B (ts_nodes t) lf) (L + 1) (tr_gS C B (ts_stash t) (rw_size (ts_plan t) 0))).1 (blk + 1) (rw_cnt B (lp_ (tr_gWf L S B (ts_nodes t) lf) (L + 1) (tr_gS C B (ts_stash t) (rw_size (ts_plan t) 0))).2.2.2) 0)) (C := R_TR) (T := F_TR) (N := 12) hx hb hT i_TR hown hK hP 0 rfl rfl 11 (by decide) (hT _ m_112) (fun _ h9 => h9) rfl d_TR_gather_85 ?_
              refine lv_iconst (v := (-1)) hx hb d_TR_gather_88 (by decide) ?_
              refine lv_icmp_ne (tgt := 113) hx hb d_TR_gather_89 (by decide) (fun c_3 => ?_) (fun c_3 => ?_)
              · exact W.vret hx hb hr (fun t9 ht _ => mQv_end (by first | exact (congrArg (tw_ cI cJ ad L S C B) (tr_gather_n c_3)).symm | exact (congrArg (tw_ cI cJ ad L S C B) (tr_gather_y c_3)).symm) hP hD hS ht) hS.2.2 d_TR_gather_113 hlocks
              · refine lv_aload_n hx hb d_TR_gather_92 rfl (lv_at hl 1 rfl) ?_
                refine lv_aload_n hx hb d_TR_gather_93 rfl (lv_at hl 1 rfl) ?_
                refine va_get (D := (dC, dI)) (ci := 2) (v := .ref (ad 12)) (C := R_TR) (T := F_TR) (N := 12) hx hb hT i_TR hown hK hP 0 rfl rfl 8 (by decide) (hT _ m_109) (fun _ h9 => h9) rfl d_TR_gather_94 ?_
                refine va_get (D := (dC, dI)) (ci := 0) (v := .int (lp_ (tr_gWf L S B (ts_nodes t) lf) (L + 1) (tr_gS C B (ts_stash t) (rw_size (ts_plan t) 0))).2.2.2) (C := R_RW) (T := F_RW) (N := 4) hx hb hT i_RW hown hK hP 12 rfl rfl 3 (by decide) (hT _ m_85) (fun _ h9 => h9) rfl d_TR_gather_97 ?_
                refine va_put (D := (dC, dI)) (ci := 2) (v := .int (lp_ (tr_gWf L S B (ts_nodes t) lf) (L + 1) (tr_gS C B (ts_stash t) (rw_size (ts_plan t) 0))).2.2.2) (ty := .int) (C := R_TR) (T := F_TR) (N := 12) hx hb hT i_TR t_TR t_TR_ok n_TR hown hK hP hD hS 0 rfl rfl 11 (by decide) (hT _ m_112) (fun _ h9 => h9) rfl (by decide +kernel) rfl rfl (Nat.le_of_ble_eq_true rfl) d_TR_gather_100 (fun H locs hP hD hS => ?_)
                have hP : va_P (dC, dI) kCl (tw_ cI cJ ad L S C B (ts_mk (ts_nodes t) (ts_cnts t) (ts_stash t) (ts_trail t) (lp_ (tr_gWf L S B (ts_nodes t) lf) (L + 1) (tr_gS C B (ts_stash t) (rw_size (ts_plan t) 0))) (ts_tgt t) lf ((lp_ (tr_gWf L S B (ts_nodes t) lf) (L + 1) (tr_gS C B (ts_stash t) (rw_size (ts_plan t) 0))).2.2.2))) H := hP
                have hD : va_D A (tw_ cI cJ ad L S C B (ts_mk (ts_nodes t) (ts_cnts t) (ts_stash t) (ts_trail t) (lp_ (tr_gWf L S B (ts_nodes t) lf) (L + 1) (tr_gS C B (ts_stash t) (rw_size (ts_plan t) 0))) (ts_tgt t) lf ((lp_ (tr_gWf L S B (ts_nodes t) lf) (L + 1) (tr_gS C B (ts_stash t) (rw_size (ts_plan t) 0))).2.2.2))) := hD
                refine lv_aload_n hx hb d_TR_gather_103 rfl (lv_at hl 1 rfl) ?_
                refine va_get (D := (dC, dI)) (ci := 2) (v := .ref (ad 12)) (C := R_TR) (T := F_TR) (N := 12) hx hb hT i_TR hown hK hP 0 rfl rfl 8 (by decide) (hT _ m_109) (fun _ h9 => h9) rfl d_TR_gather_104 ?_
                refine lv_iload_n hx hb d_TR_gather_107 rfl (lv_at hl 2 rfl) ?_
                refine lv_iconst (v := 1) hx hb d_TR_gather_108 (by decide) ?_
                refine lv_iadd hx hb d_TR_gather_109 ?_
                refine mc_v (va_runV (As := [.int (blk + 1)]) (rest := []) ⟨hx, hb, hml, hown, hT⟩ (c_RW_appendNew (show rw_in (tw_ cI cJ ad L S C B (ts_mk (ts_nodes t) (ts_cnts t) (ts_stash t) (ts_trail t) (lp_ (tr_gWf L S B (ts_nodes t) lf) (L + 1) (tr_gS C B (ts_stash t) (rw_size (ts_plan t) 0))) (ts_tgt t) lf ((lp_ (tr_gWf L S B (ts_nodes t) lf) (L + 1) (tr_gS C B (ts_stash t) (rw_size (ts_plan t) 0))).2.2.2))) 12 (ad 12) (ad 13) (ad 14) (ad 15) B cI cJ (lp_ (tr_gWf L S B (ts_nodes t) lf) (L + 1) (tr_gS C B (ts_stash t) (rw_size (ts_plan t) 0))) from ⟨rfl, rfl, rfl, rfl⟩) (tr_B_lt ok) (blk + 1)) (cwV 1 hT (gi_V m_320 m_317 m_318 m_319 m_26) rfl rfl rfl p_RW_appendNew ⟨Nat.le_of_ble_eq_true rfl, Nat.le_of_ble_eq_true rfl⟩) ⟨mP_blind, va_recv hK hP (ci := 0) (q0 := 12) rfl rfl, mP_pre hK hP hD⟩ rfl rfl hl.1 rfl (lv_room (Nat.le_of_ble_eq_true rfl)) d_TR_gather_110 ⟨Nat.le_refl _, Nat.le_refl _⟩) hS (fun H locs hP hD hS => ?_)
                have hP : va_P (dC, dI) kCl (tw_ cI cJ ad L S C B (ts_mk (ts_nodes t) (ts_cnts t) (ts_stash t) (ts_trail t) (rw_new B (lp_ (tr_gWf L S B (ts_nodes t) lf) (L + 1) (tr_gS C B (ts_stash t) (rw_size (ts_plan t) 0))) (blk + 1)) (ts_tgt t) lf ((lp_ (tr_gWf L S B (ts_nodes t) lf) (L + 1) (tr_gS C B (ts_stash t) (rw_size (ts_plan t) 0))).2.2.2))) H := hP
                have hD : va_D A (tw_ cI cJ ad L S C B (ts_mk (ts_nodes t) (ts_cnts t) (ts_stash t) (ts_trail t) (rw_new B (lp_ (tr_gWf L S B (ts_nodes t) lf) (L + 1) (tr_gS C B (ts_stash t) (rw_size (ts_plan t) 0))) (blk + 1)) (ts_tgt t) lf ((lp_ (tr_gWf L S B (ts_nodes t) lf) (L + 1) (tr_gS C B (ts_stash t) (rw_size (ts_plan t) 0))).2.2.2))) := hD
                exact W.vret hx hb hr (fun t9 ht _ => mQv_end (by first | exact (congrArg (tw_ cI cJ ad L S C B) (tr_gather_n c_3)).symm | exact (congrArg (tw_ cI cJ ad L S C B) (tr_gather_y c_3)).symm) hP hD hS ht) hS.2.2 d_TR_gather_113 hlocks
            · have hlt : k < L + 1 := Nat.lt_of_not_le fun h9 => c_2 (nI_lt h9 (by have := ok.2.1; omega))
              refine lv_aload_n hx hb d_TR_gather_54 rfl (lv_at hl 1 rfl) ?_
              refine lv_aload_n hx hb d_TR_gather_55 rfl (lv_at hl 1 rfl) ?_
              refine lv_iload_n hx hb d_TR_gather_56 rfl (lv_at hl 3 rfl) ?_
              refine lv_iload_n hx hb d_TR_gather_57 rfl (lv_at hl 0 rfl) ?_
              refine zc_i (va_runV (As := [.int lf, .int (nI k)]) (rest := [.ref (ad 0)]) ⟨hx, hb, hml, hown, hT⟩ (c_TR_nodeOnWay (t := ts_mk (ts_nodes t) (ts_cnts t) (ts_stash t) (ts_trail t) (lp_ (tr_gWf L S B (ts_nodes t) lf) k (tr_gS C B (ts_stash t) (rw_size (ts_plan t) 0))) (ts_tgt t) lf (ts_sought t)) ok hP lf (nI k)) (cwV 2 hT (gi_V m_307 m_304 m_306 m_3 m_24) rfl rfl rfl p_TR_nodeOnWay ⟨Nat.le_of_ble_eq_true rfl, Nat.le_of_ble_eq_true rfl⟩) ⟨zP_blind, va_recv hK hP (ci := 2) (q0 := 0) rfl rfl, zP_pre hK⟩ rfl rfl hl.1 rfl (lv_room (Nat.le_of_ble_eq_true rfl)) d_TR_gather_58 ⟨Nat.le_refl _, Nat.le_refl _⟩) hS (fun locs hS => ?_)
              refine mc_v (va_runV (As := [.int (tr_way L lf (nI k))]) (rest := []) ⟨hx, hb, hml, hown, hT⟩ (c_TR_gatherNode (t := ts_mk (ts_nodes t) (ts_cnts t) (ts_stash t) (ts_trail t) (lp_ (tr_gWf L S B (ts_nodes t) lf) k (tr_gS C B (ts_stash t) (rw_size (ts_plan t) 0))) (ts_tgt t) lf (ts_sought t)) ok (tr_way L lf (nI k))) (cwV 1 hT (gi_V m_311 m_308 m_310 m_4 m_24) rfl rfl rfl p_TR_gatherNode ⟨Nat.le_of_ble_eq_true rfl, Nat.le_of_ble_eq_true rfl⟩) ⟨mP_blind, va_recv hK hP (ci := 2) (q0 := 0) rfl rfl, mP_pre hK hP hD⟩ rfl rfl hl.1 rfl (lv_room (Nat.le_of_ble_eq_true rfl)) d_TR_gather_61 ⟨Nat.le_refl _, Nat.le_refl _⟩) hS (fun H locs hP hD hS => ?_)
              have hP : va_P (dC, dI) kCl (tw_ cI cJ ad L S C B (ts_mk (ts_nodes t) (ts_cnts t) (ts_stash t) (ts_trail t) (tr_gN L S B (ts_nodes t) (tr_way L lf (nI k)) (lp_ (tr_gWf L S B (ts_nodes t) lf) k (tr_gS C B (ts_stash t) (rw_size (ts_plan t) 0)))) (ts_tgt t) lf (ts_sought t))) H := hP
              have hD : va_D A (tw_ cI cJ ad L S C B (ts_mk (ts_nodes t) (ts_cnts t) (ts_stash t) (ts_trail t) (tr_gN L S B (ts_nodes t) (tr_way L lf (nI k)) (lp_ (tr_gWf L S B (ts_nodes t) lf) k (tr_gS C B (ts_stash t) (rw_size (ts_plan t) 0)))) (ts_tgt t) lf (ts_sought t))) := hD
              refine lv_iinc (v := nI (k + 1)) (lv' := [(3, .int (nI (k + 1))), (0, .ref (ad 0)), (1, .int blk), (2, .int lf)]) hx hb d_TR_gather_64 hl (k := 0) rfl (nI_1 k) (by decide) rfl (fun ls hl => ?_)
              refine lv_goto (tgt := 46) hx hb d_TR_gather_67 (by decide) ?_
              exact ih (k + 1) ls H locs (by omega) (by omega) (show va_P (dC, dI) kCl (tw_ cI cJ ad L S C B (ts_mk (ts_nodes t) (ts_cnts t) (ts_stash t) (ts_trail t) (lp_ (tr_gWf L S B (ts_nodes t) lf) (k + 1) (tr_gS C B (ts_stash t) (rw_size (ts_plan t) 0))) (ts_tgt t) lf (ts_sought t))) H by exact hP) (show va_D A (tw_ cI cJ ad L S C B (ts_mk (ts_nodes t) (ts_cnts t) (ts_stash t) (ts_trail t) (lp_ (tr_gWf L S B (ts_nodes t) lf) (k + 1) (tr_gS C B (ts_stash t) (rw_size (ts_plan t) 0))) (ts_tgt t) lf (ts_sought t))) by exact hD) hS (show lv_has ls 4 [(3, .int (nI (k + 1))), (0, .ref (ad 0)), (1, .int blk), (2, .int lf)] by exact lv_sub hl [0, 1, 2, 3] rfl)
        exact lp ((L + 1) + 1) 0 ls _ _ (by omega) (Nat.zero_le _) hP hD hS (lv_sub hl [0, 1, 2, 3] rfl)
      · have hlt : k < (ts_stash t).2.2.2.toNatClampNeg := lt_clamp (by have := clamp_lt (ts_stash t).2.2.2; omega) c_1
        refine lv_aload_n hx hb d_TR_gather_26 rfl (lv_at hl 1 rfl) ?_
        refine va_get (D := (dC, dI)) (ci := 2) (v := .ref (ad 12)) (C := R_TR) (T := F_TR) (N := 12) hx hb hT i_TR hown hK hP 0 rfl rfl 8 (by decide) (hT _ m_109) (fun _ h9 => h9) rfl d_TR_gather_27 ?_
        refine lv_aload_n hx hb d_TR_gather_30 rfl (lv_at hl 1 rfl) ?_
        refine va_get (D := (dC, dI)) (ci := 2) (v := .ref (ad 6)) (C := R_TR) (T := F_TR) (N := 12) hx hb hT i_TR hown hK hP 0 rfl rfl 6 (by decide) (hT _ m_105) (fun _ h9 => h9) rfl d_TR_gather_31 ?_
        refine lv_iload_n hx hb d_TR_gather_34 rfl (lv_at hl 0 rfl) ?_
        refine mc_v (va_runV (As := [.ref (ad 6), .int (nI k)]) (rest := []) ⟨hx, hb, hml, hown, hT⟩ (c_RW_append (show rw_in (tw_ cI cJ ad L S C B (ts_mk (ts_nodes t) (ts_cnts t) (ts_stash t) (ts_trail t) (lp_ (tr_gSf C B (ts_stash t)) k (rw_size (ts_plan t) 0)) (ts_tgt t) lf (ts_sought t))) 12 (ad 12) (ad 13) (ad 14) (ad 15) B cI cJ (lp_ (tr_gSf C B (ts_stash t)) k (rw_size (ts_plan t) 0)) from ⟨rfl, rfl, rfl, rfl⟩) (tr_B_lt ok) (show rw_in (tw_ cI cJ ad L S C B (ts_mk (ts_nodes t) (ts_cnts t) (ts_stash t) (ts_trail t) (lp_ (tr_gSf C B (ts_stash t)) k (rw_size (ts_plan t) 0)) (ts_tgt t) lf (ts_sought t))) 6 (ad 6) (ad 7) (ad 8) (ad 9) C cI cJ (ts_stash t) from ⟨rfl, rfl, rfl, rfl⟩) (tr_C_lt ok) (by decide) (nI k)) (cwV 2 hT (gi_V m_279 m_276 m_277 m_278 m_26) rfl rfl rfl p_RW_append ⟨Nat.le_of_ble_eq_true rfl, Nat.le_of_ble_eq_true rfl⟩) ⟨mP_blind, va_recv hK hP (ci := 0) (q0 := 12) rfl rfl, mP_pre hK hP hD⟩ rfl rfl hl.1 rfl (lv_room (Nat.le_of_ble_eq_true rfl)) d_TR_gather_35 ⟨Nat.le_refl _, Nat.le_refl _⟩) hS (fun H locs hP hD hS => ?_)
        have hP : va_P (dC, dI) kCl (tw_ cI cJ ad L S C B (ts_mk (ts_nodes t) (ts_cnts t) (ts_stash t) (ts_trail t) (rw_app B (lp_ (tr_gSf C B (ts_stash t)) k (rw_size (ts_plan t) 0)) C (ts_stash t) (nI k)) (ts_tgt t) lf (ts_sought t))) H := hP
        have hD : va_D A (tw_ cI cJ ad L S C B (ts_mk (ts_nodes t) (ts_cnts t) (ts_stash t) (ts_trail t) (rw_app B (lp_ (tr_gSf C B (ts_stash t)) k (rw_size (ts_plan t) 0)) C (ts_stash t) (nI k)) (ts_tgt t) lf (ts_sought t))) := hD
        refine lv_iinc (v := nI (k + 1)) (lv' := [(3, .int (nI (k + 1))), (0, .ref (ad 0)), (1, .int blk), (2, .int lf)]) hx hb d_TR_gather_38 hl (k := 0) rfl (nI_1 k) (by decide) rfl (fun ls hl => ?_)
        refine lv_goto (tgt := 15) hx hb d_TR_gather_41 (by decide) ?_
        exact ih (k + 1) ls H locs (by omega) (by omega) (show va_P (dC, dI) kCl (tw_ cI cJ ad L S C B (ts_mk (ts_nodes t) (ts_cnts t) (ts_stash t) (ts_trail t) (lp_ (tr_gSf C B (ts_stash t)) (k + 1) (rw_size (ts_plan t) 0)) (ts_tgt t) lf (ts_sought t))) H by exact hP) (show va_D A (tw_ cI cJ ad L S C B (ts_mk (ts_nodes t) (ts_cnts t) (ts_stash t) (ts_trail t) (lp_ (tr_gSf C B (ts_stash t)) (k + 1) (rw_size (ts_plan t) 0)) (ts_tgt t) lf (ts_sought t))) by exact hD) hS (show lv_has ls 4 [(3, .int (nI (k + 1))), (0, .ref (ad 0)), (1, .int blk), (2, .int lf)] by exact lv_sub hl [0, 1, 2, 3] rfl)
  exact lp ((ts_stash t).2.2.2.toNatClampNeg + 1) 0 ls _ _ (by omega) (Nat.zero_le _) hP hD hS (lv_sub hl [0, 1, 2, 3] rfl)
end
section
set_option maxHeartbeats 4000000 in
set_option maxRecDepth 100000 in
/-- Tree.fillNode -/
theorem c_TR_fillNode {l : Launch} {dC : Nat → ClassId} {dI : Nat → Nat → Nat} {cI cJ : ClassId} {A : Nat → Prop} {ad : Nat → Nat} {L S C B : Nat} {t : Ts} (ok : tr_ok L S C B) (nd lv : Int32) : Met l y_TR_fillNode (k_TR_fillNode :: bw) { frames := 2, cells := 0, slots := 0, locals := 42 } (mP (dC, dI) kCl [(cI, .int), (cJ, .long)] [.ref (ad 0), .int nd, .int lv] (tw_ cI cJ ad L S C B (ts_mk (ts_nodes t) (ts_cnts t) (ts_stash t) (ts_trail t) (ts_plan t) (ts_tgt t) (ts_way t) (ts_sought t))) A) (mQi (dC, dI) kCl (nI (tr_fN L S B (ts_plan t) nd lv (ts_tgt t)).2) (tw_ cI cJ ad L S C B (ts_mk (ts_nodes t) (ts_cnts t) (ts_stash t) (ts_trail t) (ts_plan t) ((tr_fN L S B (ts_plan t) nd lv (ts_tgt t)).1) (ts_way t) (ts_sought t))) A) 0 0 A := by
  refine Met.ofZ (own := "CoinTree$Tree") (by decide) rfl [.ref (ad 0), .int nd, .int lv] (Nat.le_of_ble_eq_true rfl) (fun _ _ h => h.1) ?_
  intro p e s m below meth c ls C0 hv hl
  obtain ⟨hx, hb, hr, hml, hown, hT, hlocks⟩ := C0
  obtain ⟨-, hP, hK, hD⟩ := hv
  have hS : va_S A s.heap s.heap [] := va_S.rf
  have hl : lv_has ls 5 [(0, .ref (ad 0)), (1, .int nd), (2, .int lv)] := hl
  refine lv_iconst (v := 0) hx hb d_TR_fillNode_0 (by decide) ?_
  refine lv_istore_n (lv' := [(3, .int 0), (0, .ref (ad 0)), (1, .int nd), (2, .int lv)]) hx hb d_TR_fillNode_1 rfl hl (by decide) rfl (fun ls hl => ?_)
  refine lv_iconst (v := 0) hx hb d_TR_fillNode_2 (by decide) ?_
  refine lv_istore (lv' := [(4, .int 0), (3, .int 0), (0, .ref (ad 0)), (1, .int nd), (2, .int lv)]) hx hb d_TR_fillNode_3 hl (by decide) rfl (fun ls hl => ?_)
  have lp : ∀ (N k : Nat) (ls : Array Slot) (H : Heap) (locs : List Loc), (rw_cnt B (ts_plan t).2.2.2) - k < N → k ≤ (rw_cnt B (ts_plan t).2.2.2) → va_P (dC, dI) kCl (tw_ cI cJ ad L S C B (ts_mk (ts_nodes t) (ts_cnts t) (ts_stash t) (ts_trail t) (ts_plan t) ((lp_ (tr_fNf L S B (ts_plan t) nd lv) k (ts_tgt t, 0)).1) (ts_way t) (ts_sought t))) H → va_D A (tw_ cI cJ ad L S C B (ts_mk (ts_nodes t) (ts_cnts t) (ts_stash t) (ts_trail t) (ts_plan t) ((lp_ (tr_fNf L S B (ts_plan t) nd lv) k (ts_tgt t, 0)).1) (ts_way t) (ts_sought t))) → va_S A s.heap H locs → lv_has ls 5 [(4, .int (nI k)), (3, .int (nI (lp_ (tr_fNf L S B (ts_plan t) nd lv) k (ts_tgt t, 0)).2)), (0, .ref (ad 0)), (1, .int nd), (2, .int lv)] → W p l e ({ frames := 2, cells := 0, slots := 0, locals := 42 } : Room) s m ([.ref (ad 0), .int nd, .int lv] : List Value).toArray below meth c H locs 0 0 (MQ below (mQi (dC, dI) kCl (nI (tr_fN L S B (ts_plan t) nd lv (ts_tgt t)).2) (tw_ cI cJ ad L S C B (ts_mk (ts_nodes t) (ts_cnts t) (ts_stash t) (ts_trail t) (ts_plan t) ((tr_fN L S B (ts_plan t) nd lv (ts_tgt t)).1) (ts_way t) (ts_sought t))) A) ([.ref (ad 0), .int nd, .int lv] : List Value).toArray s 0 0 A) (F0 m 5 ls []) := by
    intro N
    induction N with
    | zero => intro k ls H locs hN; omega
    | succ N ih =>
      intro k ls H locs hN hk hP hD hS hl
      refine lv_iload hx hb d_TR_fillNode_5 (lv_at hl 0 rfl) ?_
      refine lv_aload_n hx hb d_TR_fillNode_7 rfl (lv_at hl 2 rfl) ?_
      refine va_get (D := (dC, dI)) (ci := 2) (v := .ref (ad 12)) (C := R_TR) (T := F_TR) (N := 12) hx hb hT i_TR hown hK hP 0 rfl rfl 8 (by decide) (hT _ m_109) (fun _ h9 => h9) rfl d_TR_fillNode_8 ?_
      refine va_get (D := (dC, dI)) (ci := 0) (v := .int (ts_plan t).2.2.2) (C := R_RW) (T := F_RW) (N := 4) hx hb hT i_RW hown hK hP 12 rfl rfl 3 (by decide) (hT _ m_85) (fun _ h9 => h9) rfl d_TR_fillNode_11 ?_
      refine lv_icmp_ge (tgt := 88) hx hb d_TR_fillNode_14 (by decide) (fun c_1 => ?_) (fun c_1 => ?_)
      · have hq : (lp_ (tr_fNf L S B (ts_plan t) nd lv) k (ts_tgt t, 0)) = tr_fN L S B (ts_plan t) nd lv (ts_tgt t) := by rw [Nat.le_antisymm hk (rw_c1 (tr_B_lt ok) hk c_1)]; rfl
        refine lv_iload_n hx hb d_TR_fillNode_88 rfl (lv_at hl 1 rfl) ?_
        exact W.iret hx hb hr (fun t9 ht _ => mQi_end (by rw [hq]) (by rw [hq]) hP hD hS ht) hS.2.2 d_TR_fillNode_89 hlocks
      · refine lv_iload hx hb d_TR_fillNode_17 (lv_at hl 0 rfl) ?_
        refine lv_aload_n hx hb d_TR_fillNode_19 rfl (lv_at hl 2 rfl) ?_
        refine va_get (D := (dC, dI)) (ci := 2) (v := .ref (ad 16)) (C := R_TR) (T := F_TR) (N := 12) hx hb hT i_TR hown hK hP 0 rfl rfl 9 (by decide) (hT _ m_110) (fun _ h9 => h9) rfl d_TR_fillNode_20 ?_
        refine va_alen (v := nI B) hx hb hK hP 16 0 rfl rfl rfl d_TR_fillNode_23 ?_
        refine lv_icmp_ge (tgt := 88) hx hb d_TR_fillNode_24 (by decide) (fun c_2 => ?_) (fun c_2 => ?_)
        · have hq : (lp_ (tr_fNf L S B (ts_plan t) nd lv) k (ts_tgt t, 0)) = tr_fN L S B (ts_plan t) nd lv (ts_tgt t) := by rw [Nat.le_antisymm hk (rw_c2 (tr_B_lt ok) hk c_2)]; rfl
          refine lv_iload_n hx hb d_TR_fillNode_88 rfl (lv_at hl 1 rfl) ?_
          exact W.iret hx hb hr (fun t9 ht _ => mQi_end (by rw [hq]) (by rw [hq]) hP hD hS ht) hS.2.2 d_TR_fillNode_89 hlocks
        · have hlt := rw_c3 (tr_B_lt ok) hk c_1 c_2
          have hkB : k < B := Nat.lt_of_lt_of_le hlt (rw_cnt_le _ _)
          have hk31 : k < 2 ^ 31 := by have := tr_B_lt ok; omega
          have hqS := tr_fN_le (L := L) (S := S) (B := B) (pl := ts_plan t) (nd := nd) (lv := lv) (tg := ts_tgt t) k
          refine lv_iload_n hx hb d_TR_fillNode_27 rfl (lv_at hl 1 rfl) ?_
          refine lv_aload_n hx hb d_TR_fillNode_28 rfl (lv_at hl 2 rfl) ?_
          refine va_get (D := (dC, dI)) (ci := 2) (v := .int (nI S)) (C := R_TR) (T := F_TR) (N := 12) hx hb hT i_TR hown hK hP 0 rfl rfl 2 (by decide) (hT _ m_101) (fun _ h9 => h9) rfl d_TR_fillNode_29 ?_
          refine lv_icmp_ge (tgt := 88) hx hb d_TR_fillNode_32 (by decide) (fun c_3 => ?_) (fun c_3 => ?_)
          · have hq : (lp_ (tr_fNf L S B (ts_plan t) nd lv) k (ts_tgt t, 0)) = tr_fN L S B (ts_plan t) nd lv (ts_tgt t) := tr_fN_end hk (Nat.not_lt.mpr ((nI_leI (tr_S_lt ok) (by have := tr_S_lt ok; omega)).mp c_3))
            refine lv_iload_n hx hb d_TR_fillNode_88 rfl (lv_at hl 1 rfl) ?_
            exact W.iret hx hb hr (fun t9 ht _ => mQi_end (by rw [hq]) (by rw [hq]) hP hD hS ht) hS.2.2 d_TR_fillNode_89 hlocks
          · have hql : (lp_ (tr_fNf L S B (ts_plan t) nd lv) k (ts_tgt t, 0)).2 < S := Nat.lt_of_not_le fun h9 => c_3 (nI_le h9 (by have := tr_S_lt ok; omega))
            refine lv_aload_n hx hb d_TR_fillNode_35 rfl (lv_at hl 2 rfl) ?_
            refine va_get (D := (dC, dI)) (ci := 2) (v := .ref (ad 16)) (C := R_TR) (T := F_TR) (N := 12) hx hb hT i_TR hown hK hP 0 rfl rfl 9 (by decide) (hT _ m_110) (fun _ h9 => h9) rfl d_TR_fillNode_36 ?_
            refine lv_iload hx hb d_TR_fillNode_39 (lv_at hl 0 rfl) ?_
            refine va_iald hx hb hK hP 16 0 rfl rfl (vp_in_nI hkB (tr_B_lt ok)) d_TR_fillNode_41 ?_
            rw [nI_clamp hk31]
            refine lv_iconst (v := (-1)) hx hb d_TR_fillNode_42 (by decide) ?_
            refine lv_icmp_ne (tgt := 82) hx hb d_TR_fillNode_43 (by decide) (fun c_4 => ?_) (fun c_4 => ?_)
            · refine lv_iinc (v := nI (k + 1)) (lv' := [(4, .int (nI (k + 1))), (3, .int (nI (lp_ (tr_fNf L S B (ts_plan t) nd lv) k (ts_tgt t, 0)).2)), (0, .ref (ad 0)), (1, .int nd), (2, .int lv)]) hx hb d_TR_fillNode_82 hl (k := 0) rfl (nI_1 k) (by decide) rfl (fun ls hl => ?_)
              refine lv_goto (tgt := 5) hx hb d_TR_fillNode_85 (by decide) ?_
              exact ih (k + 1) ls H locs (by omega) (by omega) (show va_P (dC, dI) kCl (tw_ cI cJ ad L S C B (ts_mk (ts_nodes t) (ts_cnts t) (ts_stash t) (ts_trail t) (ts_plan t) ((lp_ (tr_fNf L S B (ts_plan t) nd lv) (k + 1) (ts_tgt t, 0)).1) (ts_way t) (ts_sought t))) H by (try rw [show (lp_ (tr_fNf L S B (ts_plan t) nd lv) (k + 1) (ts_tgt t, 0)) = (lp_ (tr_fNf L S B (ts_plan t) nd lv) k (ts_tgt t, 0)) from tr_fNf_a hql c_4]); exact hP) (show va_D A (tw_ cI cJ ad L S C B (ts_mk (ts_nodes t) (ts_cnts t) (ts_stash t) (ts_trail t) (ts_plan t) ((lp_ (tr_fNf L S B (ts_plan t) nd lv) (k + 1) (ts_tgt t, 0)).1) (ts_way t) (ts_sought t))) by (try rw [show (lp_ (tr_fNf L S B (ts_plan t) nd lv) (k + 1) (ts_tgt t, 0)) = (lp_ (tr_fNf L S B (ts_plan t) nd lv) k (ts_tgt t, 0)) from tr_fNf_a hql c_4]); exact hD) hS (show lv_has ls 5 [(4, .int (nI (k + 1))), (3, .int (nI (lp_ (tr_fNf L S B (ts_plan t) nd lv) (k + 1) (ts_tgt t, 0)).2)), (0, .ref (ad 0)), (1, .int nd), (2, .int lv)] by (try rw [show (lp_ (tr_fNf L S B (ts_plan t) nd lv) (k + 1) (ts_tgt t, 0)) = (lp_ (tr_fNf L S B (ts_plan t) nd lv) k (ts_tgt t, 0)) from tr_fNf_a hql c_4]); exact lv_sub hl [0, 1, 2, 3, 4] rfl)
            · refine lv_aload_n hx hb d_TR_fillNode_46 rfl (lv_at hl 2 rfl) ?_
              refine lv_aload_n hx hb d_TR_fillNode_47 rfl (lv_at hl 2 rfl) ?_
              refine va_get (D := (dC, dI)) (ci := 2) (v := .ref (ad 12)) (C := R_TR) (T := F_TR) (N := 12) hx hb hT i_TR hown hK hP 0 rfl rfl 8 (by decide) (hT _ m_109) (fun _ h9 => h9) rfl d_TR_fillNode_48 ?_
              refine lv_iload hx hb d_TR_fillNode_51 (lv_at hl 0 rfl) ?_
              refine zc_i (va_runV (As := [.int (nI k)]) (rest := [.ref (ad 0)]) ⟨hx, hb, hml, hown, hT⟩ (c_RW_leafAt hP (show rw_in (tw_ cI cJ ad L S C B (ts_mk (ts_nodes t) (ts_cnts t) (ts_stash t) (ts_trail t) (ts_plan t) ((lp_ (tr_fNf L S B (ts_plan t) nd lv) k (ts_tgt t, 0)).1) (ts_way t) (ts_sought t))) 12 (ad 12) (ad 13) (ad 14) (ad 15) B cI cJ (ts_plan t) from ⟨rfl, rfl, rfl, rfl⟩) (tr_B_lt ok) (nI k)) (cwV 1 hT (gi_V m_295 m_348 m_293 m_294 m_26) rfl rfl rfl p_RW_leafAt ⟨Nat.le_of_ble_eq_true rfl, Nat.le_of_ble_eq_true rfl⟩) ⟨zP_blind, va_recv hK hP (ci := 0) (q0 := 12) rfl rfl, zP_pre hK⟩ rfl rfl hl.1 rfl (lv_room (Nat.le_of_ble_eq_true rfl)) d_TR_fillNode_53 ⟨Nat.le_refl _, Nat.le_refl _⟩) hS (fun locs hS => ?_)
              refine lv_iload_n hx hb d_TR_fillNode_56 rfl (lv_at hl 4 rfl) ?_
              refine zc_i (va_runV (As := [.int (rw_at B (ts_plan t).2.1 (nI k)), .int lv]) (rest := []) ⟨hx, hb, hml, hown, hT⟩ (c_TR_nodeOnWay (t := ts_mk (ts_nodes t) (ts_cnts t) (ts_stash t) (ts_trail t) (ts_plan t) ((lp_ (tr_fNf L S B (ts_plan t) nd lv) k (ts_tgt t, 0)).1) (ts_way t) (ts_sought t)) ok hP (rw_at B (ts_plan t).2.1 (nI k)) lv) (cwV 2 hT (gi_V m_307 m_304 m_306 m_3 m_24) rfl rfl rfl p_TR_nodeOnWay ⟨Nat.le_of_ble_eq_true rfl, Nat.le_of_ble_eq_true rfl⟩) ⟨zP_blind, va_recv hK hP (ci := 2) (q0 := 0) rfl rfl, zP_pre hK⟩ rfl rfl hl.1 rfl (lv_room (Nat.le_of_ble_eq_true rfl)) d_TR_fillNode_57 ⟨Nat.le_refl _, Nat.le_refl _⟩) hS (fun locs hS => ?_)
              refine lv_iload_n hx hb d_TR_fillNode_60 rfl (lv_at hl 3 rfl) ?_
              refine lv_icmp_ne (tgt := 82) hx hb d_TR_fillNode_61 (by decide) (fun c_5 => ?_) (fun c_5 => ?_)
              · refine lv_iinc (v := nI (k + 1)) (lv' := [(4, .int (nI (k + 1))), (3, .int (nI (lp_ (tr_fNf L S B (ts_plan t) nd lv) k (ts_tgt t, 0)).2)), (0, .ref (ad 0)), (1, .int nd), (2, .int lv)]) hx hb d_TR_fillNode_82 hl (k := 0) rfl (nI_1 k) (by decide) rfl (fun ls hl => ?_)
                refine lv_goto (tgt := 5) hx hb d_TR_fillNode_85 (by decide) ?_
                exact ih (k + 1) ls H locs (by omega) (by omega) (show va_P (dC, dI) kCl (tw_ cI cJ ad L S C B (ts_mk (ts_nodes t) (ts_cnts t) (ts_stash t) (ts_trail t) (ts_plan t) ((lp_ (tr_fNf L S B (ts_plan t) nd lv) (k + 1) (ts_tgt t, 0)).1) (ts_way t) (ts_sought t))) H by (try rw [show (lp_ (tr_fNf L S B (ts_plan t) nd lv) (k + 1) (ts_tgt t, 0)) = (lp_ (tr_fNf L S B (ts_plan t) nd lv) k (ts_tgt t, 0)) from tr_fNf_b hql c_4 c_5]); exact hP) (show va_D A (tw_ cI cJ ad L S C B (ts_mk (ts_nodes t) (ts_cnts t) (ts_stash t) (ts_trail t) (ts_plan t) ((lp_ (tr_fNf L S B (ts_plan t) nd lv) (k + 1) (ts_tgt t, 0)).1) (ts_way t) (ts_sought t))) by (try rw [show (lp_ (tr_fNf L S B (ts_plan t) nd lv) (k + 1) (ts_tgt t, 0)) = (lp_ (tr_fNf L S B (ts_plan t) nd lv) k (ts_tgt t, 0)) from tr_fNf_b hql c_4 c_5]); exact hD) hS (show lv_has ls 5 [(4, .int (nI (k + 1))), (3, .int (nI (lp_ (tr_fNf L S B (ts_plan t) nd lv) (k + 1) (ts_tgt t, 0)).2)), (0, .ref (ad 0)), (1, .int nd), (2, .int lv)] by (try rw [show (lp_ (tr_fNf L S B (ts_plan t) nd lv) (k + 1) (ts_tgt t, 0)) = (lp_ (tr_fNf L S B (ts_plan t) nd lv) k (ts_tgt t, 0)) from tr_fNf_b hql c_4 c_5]); exact lv_sub hl [0, 1, 2, 3, 4] rfl)
              · refine lv_aload_n hx hb d_TR_fillNode_64 rfl (lv_at hl 2 rfl) ?_
                refine va_get (D := (dC, dI)) (ci := 2) (v := .ref (ad 16)) (C := R_TR) (T := F_TR) (N := 12) hx hb hT i_TR hown hK hP 0 rfl rfl 9 (by decide) (hT _ m_110) (fun _ h9 => h9) rfl d_TR_fillNode_65 ?_
                refine lv_iload hx hb d_TR_fillNode_68 (lv_at hl 0 rfl) ?_
                refine lv_iload_n hx hb d_TR_fillNode_70 rfl (lv_at hl 3 rfl) ?_
                refine lv_aload_n hx hb d_TR_fillNode_71 rfl (lv_at hl 2 rfl) ?_
                refine va_get (D := (dC, dI)) (ci := 2) (v := .int (nI S)) (C := R_TR) (T := F_TR) (N := 12) hx hb hT i_TR hown hK hP 0 rfl rfl 2 (by decide) (hT _ m_101) (fun _ h9 => h9) rfl d_TR_fillNode_72 ?_
                refine lv_imul hx hb d_TR_fillNode_75 ?_
                refine lv_iload_n hx hb d_TR_fillNode_76 rfl (lv_at hl 1 rfl) ?_
                refine lv_iadd hx hb d_TR_fillNode_77 ?_
                refine va_iast hx hb hK hP hD hS 16 0 rfl rfl (vp_in_nI hkB (tr_B_lt ok)) d_TR_fillNode_78 (fun H locs hP hD hS => ?_)
                rw [nI_clamp hk31] at hP hD
                have hP : va_P (dC, dI) kCl (tw_ cI cJ ad L S C B (ts_mk (ts_nodes t) (ts_cnts t) (ts_stash t) (ts_trail t) (ts_plan t) (upd ((lp_ (tr_fNf L S B (ts_plan t) nd lv) k (ts_tgt t, 0)).1) k ((nd * (nI S)) + (nI (lp_ (tr_fNf L S B (ts_plan t) nd lv) k (ts_tgt t, 0)).2))) (ts_way t) (ts_sought t))) H := hP
                have hD : va_D A (tw_ cI cJ ad L S C B (ts_mk (ts_nodes t) (ts_cnts t) (ts_stash t) (ts_trail t) (ts_plan t) (upd ((lp_ (tr_fNf L S B (ts_plan t) nd lv) k (ts_tgt t, 0)).1) k ((nd * (nI S)) + (nI (lp_ (tr_fNf L S B (ts_plan t) nd lv) k (ts_tgt t, 0)).2))) (ts_way t) (ts_sought t))) := hD
                refine lv_iinc (v := nI ((lp_ (tr_fNf L S B (ts_plan t) nd lv) k (ts_tgt t, 0)).2 + 1)) (lv' := [(3, .int (nI ((lp_ (tr_fNf L S B (ts_plan t) nd lv) k (ts_tgt t, 0)).2 + 1))), (4, .int (nI k)), (0, .ref (ad 0)), (1, .int nd), (2, .int lv)]) hx hb d_TR_fillNode_79 hl (k := 1) rfl (nI_1 _) (by decide) rfl (fun ls hl => ?_)
                refine lv_iinc (v := nI (k + 1)) (lv' := [(4, .int (nI (k + 1))), (3, .int (nI ((lp_ (tr_fNf L S B (ts_plan t) nd lv) k (ts_tgt t, 0)).2 + 1))), (0, .ref (ad 0)), (1, .int nd), (2, .int lv)]) hx hb d_TR_fillNode_82 hl (k := 1) rfl (nI_1 k) (by decide) rfl (fun ls hl => ?_)
                refine lv_goto (tgt := 5) hx hb d_TR_fillNode_85 (by decide) ?_
                exact ih (k + 1) ls H locs (by omega) (by omega) (show va_P (dC, dI) kCl (tw_ cI cJ ad L S C B (ts_mk (ts_nodes t) (ts_cnts t) (ts_stash t) (ts_trail t) (ts_plan t) ((lp_ (tr_fNf L S B (ts_plan t) nd lv) (k + 1) (ts_tgt t, 0)).1) (ts_way t) (ts_sought t))) H by (try rw [show (lp_ (tr_fNf L S B (ts_plan t) nd lv) (k + 1) (ts_tgt t, 0)) = (upd (lp_ (tr_fNf L S B (ts_plan t) nd lv) k (ts_tgt t, 0)).1 k (nd * nI S + nI (lp_ (tr_fNf L S B (ts_plan t) nd lv) k (ts_tgt t, 0)).2), (lp_ (tr_fNf L S B (ts_plan t) nd lv) k (ts_tgt t, 0)).2 + 1) from tr_fNf_c hql c_4 c_5]); exact hP) (show va_D A (tw_ cI cJ ad L S C B (ts_mk (ts_nodes t) (ts_cnts t) (ts_stash t) (ts_trail t) (ts_plan t) ((lp_ (tr_fNf L S B (ts_plan t) nd lv) (k + 1) (ts_tgt t, 0)).1) (ts_way t) (ts_sought t))) by (try rw [show (lp_ (tr_fNf L S B (ts_plan t) nd lv) (k + 1) (ts_tgt t, 0)) = (upd (lp_ (tr_fNf L S B (ts_plan t) nd lv) k (ts_tgt t, 0)).1 k (nd * nI S + nI (lp_ (tr_fNf L S B (ts_plan t) nd lv) k (ts_tgt t, 0)).2), (lp_ (tr_fNf L S B (ts_plan t) nd lv) k (ts_tgt t, 0)).2 + 1) from tr_fNf_c hql c_4 c_5]); exact hD) hS (show lv_has ls 5 [(4, .int (nI (k + 1))), (3, .int (nI (lp_ (tr_fNf L S B (ts_plan t) nd lv) (k + 1) (ts_tgt t, 0)).2)), (0, .ref (ad 0)), (1, .int nd), (2, .int lv)] by (try rw [show (lp_ (tr_fNf L S B (ts_plan t) nd lv) (k + 1) (ts_tgt t, 0)) = (upd (lp_ (tr_fNf L S B (ts_plan t) nd lv) k (ts_tgt t, 0)).1 k (nd * nI S + nI (lp_ (tr_fNf L S B (ts_plan t) nd lv) k (ts_tgt t, 0)).2), (lp_ (tr_fNf L S B (ts_plan t) nd lv) k (ts_tgt t, 0)).2 + 1) from tr_fNf_c hql c_4 c_5]); exact lv_sub hl [0, 1, 2, 3, 4] rfl)
  exact lp ((rw_cnt B (ts_plan t).2.2.2) + 1) 0 ls _ _ (by omega) (Nat.zero_le _) hP hD hS (lv_sub hl [0, 1, 2, 3, 4] rfl)
end
section
set_option maxHeartbeats 4000000 in
set_option maxRecDepth 100000 in
/-- Tree.emptyNode -/
theorem c_TR_emptyNode {l : Launch} {dC : Nat → ClassId} {dI : Nat → Nat → Nat} {cI cJ : ClassId} {A : Nat → Prop} {ad : Nat → Nat} {L S C B : Nat} {t : Ts} (ok : tr_ok L S C B) (nd : Int32) : Met l y_TR_emptyNode (k_TR_emptyNode :: bw) { frames := 2, cells := 0, slots := 0, locals := 46 } (mP (dC, dI) kCl [(cI, .int), (cJ, .long)] [.ref (ad 0), .int nd] (tw_ cI cJ ad L S C B (ts_mk (ts_nodes t) (ts_cnts t) (ts_stash t) (ts_trail t) (ts_plan t) (ts_tgt t) (ts_way t) (ts_sought t))) A) (mQv (dC, dI) kCl (tw_ cI cJ ad L S C B (ts_mk ((tr_eN L S nd (ts_nodes t, ts_cnts t)).1) ((tr_eN L S nd (ts_nodes t, ts_cnts t)).2) (ts_stash t) (ts_trail t) (ts_plan t) (ts_tgt t) (ts_way t) (ts_sought t))) A) 0 0 A := by
  refine Met.ofZ (own := "CoinTree$Tree") (by decide) rfl [.ref (ad 0), .int nd] (Nat.le_of_ble_eq_true rfl) (fun _ _ h => h.1) ?_
  intro p e s m below meth c ls C0 hv hl
  obtain ⟨hx, hb, hr, hml, hown, hT, hlocks⟩ := C0
  obtain ⟨-, hP, hK, hD⟩ := hv
  have hS : va_S A s.heap s.heap [] := va_S.rf
  have hl : lv_has ls 3 [(0, .ref (ad 0)), (1, .int nd)] := hl
  refine lv_iconst (v := 0) hx hb d_TR_emptyNode_0 (by decide) ?_
  refine lv_istore_n (lv' := [(2, .int 0), (0, .ref (ad 0)), (1, .int nd)]) hx hb d_TR_emptyNode_1 rfl hl (by decide) rfl (fun ls hl => ?_)
  have lp : ∀ (N k : Nat) (ls : Array Slot) (H : Heap) (locs : List Loc), S - k < N → k ≤ S → va_P (dC, dI) kCl (tw_ cI cJ ad L S C B (ts_mk (lp_ (tr_eNf L S nd) k (ts_nodes t)) (ts_cnts t) (ts_stash t) (ts_trail t) (ts_plan t) (ts_tgt t) (ts_way t) (ts_sought t))) H → va_D A (tw_ cI cJ ad L S C B (ts_mk (lp_ (tr_eNf L S nd) k (ts_nodes t)) (ts_cnts t) (ts_stash t) (ts_trail t) (ts_plan t) (ts_tgt t) (ts_way t) (ts_sought t))) → va_S A s.heap H locs → lv_has ls 3 [(2, .int (nI k)), (0, .ref (ad 0)), (1, .int nd)] → W p l e ({ frames := 2, cells := 0, slots := 0, locals := 46 } : Room) s m ([.ref (ad 0), .int nd] : List Value).toArray below meth c H locs 0 0 (MQ below (mQv (dC, dI) kCl (tw_ cI cJ ad L S C B (ts_mk ((tr_eN L S nd (ts_nodes t, ts_cnts t)).1) ((tr_eN L S nd (ts_nodes t, ts_cnts t)).2) (ts_stash t) (ts_trail t) (ts_plan t) (ts_tgt t) (ts_way t) (ts_sought t))) A) ([.ref (ad 0), .int nd] : List Value).toArray s 0 0 A) (F0 m 2 ls []) := by
    intro N
    induction N with
    | zero => intro k ls H locs hN; omega
    | succ N ih =>
      intro k ls H locs hN hk hP hD hS hl
      refine lv_iload_n hx hb d_TR_emptyNode_2 rfl (lv_at hl 0 rfl) ?_
      refine lv_aload_n hx hb d_TR_emptyNode_3 rfl (lv_at hl 1 rfl) ?_
      refine va_get (D := (dC, dI)) (ci := 2) (v := .int (nI S)) (C := R_TR) (T := F_TR) (N := 12) hx hb hT i_TR hown hK hP 0 rfl rfl 2 (by decide) (hT _ m_101) (fun _ h9 => h9) rfl d_TR_emptyNode_4 ?_
      refine lv_icmp_ge (tgt := 34) hx hb d_TR_emptyNode_7 (by decide) (fun c_1 => ?_) (fun c_1 => ?_)
      · have hkS : S = k := (Nat.le_antisymm hk ((nI_leI (tr_S_lt ok) (by have := tr_S_lt ok; omega)).mp c_1)).symm
        subst hkS
        refine lv_aload_n hx hb d_TR_emptyNode_34 rfl (lv_at hl 1 rfl) ?_
        refine lv_iload_n hx hb d_TR_emptyNode_35 rfl (lv_at hl 2 rfl) ?_
        refine zc_i (va_runV (As := [.int nd]) (rest := []) ⟨hx, hb, hml, hown, hT⟩ (c_TR_hasNode (t := ts_mk (lp_ (tr_eNf L S nd) S (ts_nodes t)) (ts_cnts t) (ts_stash t) (ts_trail t) (ts_plan t) (ts_tgt t) (ts_way t) (ts_sought t)) ok hP nd) (cwV 1 hT (gi_V m_376 m_373 m_374 m_375 m_24) rfl rfl rfl p_TR_hasNode ⟨Nat.le_of_ble_eq_true rfl, Nat.le_of_ble_eq_true rfl⟩) ⟨zP_blind, va_recv hK hP (ci := 2) (q0 := 0) rfl rfl, zP_pre hK⟩ rfl rfl hl.1 rfl (lv_room (Nat.le_of_ble_eq_true rfl)) d_TR_emptyNode_36 ⟨Nat.le_refl _, Nat.le_refl _⟩) hS (fun locs hS => ?_)
        refine lv_if_eq (tgt := 52) hx hb d_TR_emptyNode_39 (by decide) (fun c_2 => ?_) (fun c_2 => ?_)
        · exact W.vret hx hb hr (fun t9 ht _ => mQv_end (by first | exact congrArg (fun x => tw_ cI cJ ad L S C B (ts_mk (lp_ (tr_eNf L S nd) S (ts_nodes t)) x (ts_stash t) (ts_trail t) (ts_plan t) (ts_tgt t) (ts_way t) (ts_sought t))) (if_pos (b2i_n.mp c_2)).symm | exact congrArg (fun x => tw_ cI cJ ad L S C B (ts_mk (lp_ (tr_eNf L S nd) S (ts_nodes t)) x (ts_stash t) (ts_trail t) (ts_plan t) (ts_tgt t) (ts_way t) (ts_sought t))) (if_neg (by rw [b2i_0.mp c_2]; decide)).symm) hP hD hS ht) hS.2.2 d_TR_emptyNode_52 hlocks
        · refine lv_aload_n hx hb d_TR_emptyNode_42 rfl (lv_at hl 1 rfl) ?_
          refine va_get (D := (dC, dI)) (ci := 2) (v := .ref (ad 5)) (C := R_TR) (T := F_TR) (N := 12) hx hb hT i_TR hown hK hP 0 rfl rfl 5 (by decide) (hT _ m_104) (fun _ h9 => h9) rfl d_TR_emptyNode_43 ?_
          refine lv_iload_n hx hb d_TR_emptyNode_46 rfl (lv_at hl 2 rfl) ?_
          refine lv_dup2_11 hx hb d_TR_emptyNode_47 rfl rfl ?_
          refine va_iald hx hb hK hP 5 0 rfl rfl (tr_nd_vp ok (b2i_n.mp c_2)) d_TR_emptyNode_48 ?_
          refine lv_iconst (v := 1) hx hb d_TR_emptyNode_49 (by decide) ?_
          refine lv_iadd hx hb d_TR_emptyNode_50 ?_
          refine va_iast hx hb hK hP hD hS 5 0 rfl rfl (tr_nd_vp ok (b2i_n.mp c_2)) d_TR_emptyNode_51 (fun H locs hP hD hS => ?_)
          have hP : va_P (dC, dI) kCl (tw_ cI cJ ad L S C B (ts_mk (lp_ (tr_eNf L S nd) S (ts_nodes t)) (upd (ts_cnts t) nd.toNatClampNeg (((ts_cnts t) nd.toNatClampNeg) + 1)) (ts_stash t) (ts_trail t) (ts_plan t) (ts_tgt t) (ts_way t) (ts_sought t))) H := hP
          have hD : va_D A (tw_ cI cJ ad L S C B (ts_mk (lp_ (tr_eNf L S nd) S (ts_nodes t)) (upd (ts_cnts t) nd.toNatClampNeg (((ts_cnts t) nd.toNatClampNeg) + 1)) (ts_stash t) (ts_trail t) (ts_plan t) (ts_tgt t) (ts_way t) (ts_sought t))) := hD
          exact W.vret hx hb hr (fun t9 ht _ => mQv_end (by first | exact congrArg (fun x => tw_ cI cJ ad L S C B (ts_mk (lp_ (tr_eNf L S nd) S (ts_nodes t)) x (ts_stash t) (ts_trail t) (ts_plan t) (ts_tgt t) (ts_way t) (ts_sought t))) (if_pos (b2i_n.mp c_2)).symm | exact congrArg (fun x => tw_ cI cJ ad L S C B (ts_mk (lp_ (tr_eNf L S nd) S (ts_nodes t)) x (ts_stash t) (ts_trail t) (ts_plan t) (ts_tgt t) (ts_way t) (ts_sought t))) (if_neg (by rw [b2i_0.mp c_2]; decide)).symm) hP hD hS ht) hS.2.2 d_TR_emptyNode_52 hlocks
      · have hlt : k < S := Nat.lt_of_not_le fun h9 => c_1 (nI_le h9 (by have := tr_S_lt ok; omega))
        refine lv_aload_n hx hb d_TR_emptyNode_10 rfl (lv_at hl 1 rfl) ?_
        refine va_get (D := (dC, dI)) (ci := 2) (v := .ref (ad 1)) (C := R_TR) (T := F_TR) (N := 12) hx hb hT i_TR hown hK hP 0 rfl rfl 4 (by decide) (hT _ m_103) (fun _ h9 => h9) rfl d_TR_emptyNode_11 ?_
        refine lv_iload_n hx hb d_TR_emptyNode_14 rfl (lv_at hl 2 rfl) ?_
        refine lv_aload_n hx hb d_TR_emptyNode_15 rfl (lv_at hl 1 rfl) ?_
        refine va_get (D := (dC, dI)) (ci := 2) (v := .int (nI S)) (C := R_TR) (T := F_TR) (N := 12) hx hb hT i_TR hown hK hP 0 rfl rfl 2 (by decide) (hT _ m_101) (fun _ h9 => h9) rfl d_TR_emptyNode_16 ?_
        refine lv_imul hx hb d_TR_emptyNode_19 ?_
        refine lv_iload_n hx hb d_TR_emptyNode_20 rfl (lv_at hl 0 rfl) ?_
        refine lv_iadd hx hb d_TR_emptyNode_21 ?_
        refine lv_iconst (v := 0) hx hb d_TR_emptyNode_22 (by decide) ?_
        refine lv_iconst (v := 0) hx hb d_TR_emptyNode_23 (by decide) ?_
        refine lv_lconst (v := 0) hx hb d_TR_emptyNode_24 (by decide) ?_
        refine mc_v (va_runV (As := [.int ((nd * (nI S)) + (nI k)), .int 0, .int 0, .long 0]) (rest := []) ⟨hx, hb, hml, hown, hT⟩ (c_RW_put (show rw_in (tw_ cI cJ ad L S C B (ts_mk (lp_ (tr_eNf L S nd) k (ts_nodes t)) (ts_cnts t) (ts_stash t) (ts_trail t) (ts_plan t) (ts_tgt t) (ts_way t) (ts_sought t))) 1 (ad 1) (ad 2) (ad 3) (ad 4) (tr_nN L S) cI cJ (lp_ (tr_eNf L S nd) k (ts_nodes t)) from ⟨rfl, rfl, rfl, rfl⟩) (tr_nN_lt ok) ((nd * (nI S)) + (nI k)) 0 0 0) (cwV 4 hT (gi_V m_303 m_335 m_301 m_302 m_26) rfl rfl rfl p_RW_put ⟨Nat.le_of_ble_eq_true rfl, Nat.le_of_ble_eq_true rfl⟩) ⟨mP_blind, va_recv hK hP (ci := 0) (q0 := 1) rfl rfl, mP_pre hK hP hD⟩ rfl rfl hl.1 rfl (lv_room (Nat.le_of_ble_eq_true rfl)) d_TR_emptyNode_25 ⟨Nat.le_refl _, Nat.le_refl _⟩) hS (fun H locs hP hD hS => ?_)
        have hP : va_P (dC, dI) kCl (tw_ cI cJ ad L S C B (ts_mk (rw_put (tr_nN L S) (lp_ (tr_eNf L S nd) k (ts_nodes t)) ((nd * (nI S)) + (nI k)) 0 0 0) (ts_cnts t) (ts_stash t) (ts_trail t) (ts_plan t) (ts_tgt t) (ts_way t) (ts_sought t))) H := hP
        have hD : va_D A (tw_ cI cJ ad L S C B (ts_mk (rw_put (tr_nN L S) (lp_ (tr_eNf L S nd) k (ts_nodes t)) ((nd * (nI S)) + (nI k)) 0 0 0) (ts_cnts t) (ts_stash t) (ts_trail t) (ts_plan t) (ts_tgt t) (ts_way t) (ts_sought t))) := hD
        refine lv_iinc (v := nI (k + 1)) (lv' := [(2, .int (nI (k + 1))), (0, .ref (ad 0)), (1, .int nd)]) hx hb d_TR_emptyNode_28 hl (k := 0) rfl (nI_1 k) (by decide) rfl (fun ls hl => ?_)
        refine lv_goto (tgt := 2) hx hb d_TR_emptyNode_31 (by decide) ?_
        exact ih (k + 1) ls H locs (by omega) (by omega) (show va_P (dC, dI) kCl (tw_ cI cJ ad L S C B (ts_mk (lp_ (tr_eNf L S nd) (k + 1) (ts_nodes t)) (ts_cnts t) (ts_stash t) (ts_trail t) (ts_plan t) (ts_tgt t) (ts_way t) (ts_sought t))) H by exact hP) (show va_D A (tw_ cI cJ ad L S C B (ts_mk (lp_ (tr_eNf L S nd) (k + 1) (ts_nodes t)) (ts_cnts t) (ts_stash t) (ts_trail t) (ts_plan t) (ts_tgt t) (ts_way t) (ts_sought t))) by exact hD) hS (show lv_has ls 3 [(2, .int (nI (k + 1))), (0, .ref (ad 0)), (1, .int nd)] by exact lv_sub hl [0, 1, 2] rfl)
  exact lp (S + 1) 0 ls _ _ (by omega) (Nat.zero_le _) hP hD hS (lv_sub hl [0, 1, 2] rfl)
end
section
set_option maxHeartbeats 4000000 in
set_option maxRecDepth 100000 in
/-- Tree.fits -/
theorem c_TR_fits {l : Launch} {dC : Nat → ClassId} {dI : Nat → Nat → Nat} {cI cJ : ClassId} {A : Nat → Prop} {ad : Nat → Nat} {L S C B : Nat} {t : Ts} (ok : tr_ok L S C B) : Met l y_TR_fits (k_TR_fits :: bw) { frames := 3, cells := 0, slots := 0, locals := 66 } (mP (dC, dI) kCl [(cI, .int), (cJ, .long)] [.ref (ad 0)] (tw_ cI cJ ad L S C B (ts_mk (ts_nodes t) (ts_cnts t) (ts_stash t) (ts_trail t) (ts_plan t) (ts_tgt t) (ts_way t) (ts_sought t))) A) (mQi (dC, dI) kCl (b2i (decide ((tr_fit L S B t).2 ≤ nI C))) (tw_ cI cJ ad L S C B (tr_fits L S B t)) A) 0 0 A := by
  refine Met.ofZ (own := "CoinTree$Tree") (by decide) rfl [.ref (ad 0)] (Nat.le_of_ble_eq_true rfl) (fun _ _ h => h.1) ?_
  intro p e s m below meth c ls C0 hv hl
  obtain ⟨hx, hb, hr, hml, hown, hT, hlocks⟩ := C0
  obtain ⟨-, hP, hK, hD⟩ := hv
  have hS : va_S A s.heap s.heap [] := va_S.rf
  have hl : lv_has ls 3 [(0, .ref (ad 0))] := hl
  refine lv_aload_n hx hb d_TR_fits_0 rfl (lv_at hl 0 rfl) ?_
  refine va_get (D := (dC, dI)) (ci := 2) (v := .ref (ad 12)) (C := R_TR) (T := F_TR) (N := 12) hx hb hT i_TR hown hK hP 0 rfl rfl 8 (by decide) (hT _ m_109) (fun _ h9 => h9) rfl d_TR_fits_1 ?_
  refine va_get (D := (dC, dI)) (ci := 0) (v := .int (ts_plan t).2.2.2) (C := R_RW) (T := F_RW) (N := 4) hx hb hT i_RW hown hK hP 12 rfl rfl 3 (by decide) (hT _ m_85) (fun _ h9 => h9) rfl d_TR_fits_4 ?_
  refine lv_istore_n (lv' := [(1, .int (ts_plan t).2.2.2), (0, .ref (ad 0))]) hx hb d_TR_fits_7 rfl hl (by decide) rfl (fun ls hl => ?_)
  refine lv_iconst (v := 0) hx hb d_TR_fits_8 (by decide) ?_
  refine lv_istore_n (lv' := [(2, .int 0), (1, .int (ts_plan t).2.2.2), (0, .ref (ad 0))]) hx hb d_TR_fits_9 rfl hl (by decide) rfl (fun ls hl => ?_)
  have lp : ∀ (N k : Nat) (ls : Array Slot) (H : Heap) (locs : List Loc), (rw_cnt B (ts_plan t).2.2.2) - k < N → k ≤ (rw_cnt B (ts_plan t).2.2.2) → va_P (dC, dI) kCl (tw_ cI cJ ad L S C B (ts_mk (ts_nodes t) (ts_cnts t) (ts_stash t) (ts_trail t) (ts_plan t) (lp_ tr_f0f k (ts_tgt t)) (ts_way t) (ts_sought t))) H → va_D A (tw_ cI cJ ad L S C B (ts_mk (ts_nodes t) (ts_cnts t) (ts_stash t) (ts_trail t) (ts_plan t) (lp_ tr_f0f k (ts_tgt t)) (ts_way t) (ts_sought t))) → va_S A s.heap H locs → lv_has ls 3 [(2, .int (nI k)), (1, .int (ts_plan t).2.2.2), (0, .ref (ad 0))] → W p l e ({ frames := 3, cells := 0, slots := 0, locals := 66 } : Room) s m ([.ref (ad 0)] : List Value).toArray below meth c H locs 0 0 (MQ below (mQi (dC, dI) kCl (b2i (decide ((tr_fit L S B t).2 ≤ nI C))) (tw_ cI cJ ad L S C B (tr_fits L S B t)) A) ([.ref (ad 0)] : List Value).toArray s 0 0 A) (F0 m 10 ls []) := by
    intro N
    induction N with
    | zero => intro k ls H locs hN; omega
    | succ N ih =>
      intro k ls H locs hN hk hP hD hS hl
      refine lv_iload_n hx hb d_TR_fits_10 rfl (lv_at hl 0 rfl) ?_
      refine lv_aload_n hx hb d_TR_fits_11 rfl (lv_at hl 2 rfl) ?_
      refine va_get (D := (dC, dI)) (ci := 2) (v := .ref (ad 12)) (C := R_TR) (T := F_TR) (N := 12) hx hb hT i_TR hown hK hP 0 rfl rfl 8 (by decide) (hT _ m_109) (fun _ h9 => h9) rfl d_TR_fits_12 ?_
      refine va_get (D := (dC, dI)) (ci := 0) (v := .int (ts_plan t).2.2.2) (C := R_RW) (T := F_RW) (N := 4) hx hb hT i_RW hown hK hP 12 rfl rfl 3 (by decide) (hT _ m_85) (fun _ h9 => h9) rfl d_TR_fits_15 ?_
      refine lv_icmp_ge (tgt := 43) hx hb d_TR_fits_18 (by decide) (fun c_1 => ?_) (fun c_1 => ?_)
      · have hkN : k = (rw_cnt B (ts_plan t).2.2.2) := Nat.le_antisymm hk (rw_c1 (tr_B_lt ok) hk c_1)
        subst hkN
        refine lv_aload_n hx hb d_TR_fits_43 rfl (lv_at hl 2 rfl) ?_
        refine va_get (D := (dC, dI)) (ci := 2) (v := .int (nI L)) (C := R_TR) (T := F_TR) (N := 12) hx hb hT i_TR hown hK hP 0 rfl rfl 0 (by decide) (hT _ m_98) (fun _ h9 => h9) rfl d_TR_fits_44 ?_
        refine lv_istore_n (lv' := [(2, .int (nI L)), (1, .int (ts_plan t).2.2.2), (0, .ref (ad 0))]) hx hb d_TR_fits_47 rfl hl (by decide) rfl (fun ls hl => ?_)
        have lp : ∀ (N k : Nat) (ls : Array Slot) (H : Heap) (locs : List Loc), (L + 1) - k < N → k ≤ (L + 1) → va_P (dC, dI) kCl (tw_ cI cJ ad L S C B (ts_mk (ts_nodes t) (ts_cnts t) (ts_stash t) (ts_trail t) (ts_plan t) ((lp_ (tr_f1f L S B (ts_plan t) (ts_way t)) k (tr_f0 B (ts_plan t) (ts_tgt t), (ts_plan t).2.2.2)).1) (ts_way t) (ts_sought t))) H → va_D A (tw_ cI cJ ad L S C B (ts_mk (ts_nodes t) (ts_cnts t) (ts_stash t) (ts_trail t) (ts_plan t) ((lp_ (tr_f1f L S B (ts_plan t) (ts_way t)) k (tr_f0 B (ts_plan t) (ts_tgt t), (ts_plan t).2.2.2)).1) (ts_way t) (ts_sought t))) → va_S A s.heap H locs → lv_has ls 3 [(2, .int (nI L - nI k)), (1, .int (lp_ (tr_f1f L S B (ts_plan t) (ts_way t)) k (tr_f0 B (ts_plan t) (ts_tgt t), (ts_plan t).2.2.2)).2), (0, .ref (ad 0))] → W p l e ({ frames := 3, cells := 0, slots := 0, locals := 66 } : Room) s m ([.ref (ad 0)] : List Value).toArray below meth c H locs 0 0 (MQ below (mQi (dC, dI) kCl (b2i (decide ((tr_fit L S B t).2 ≤ nI C))) (tw_ cI cJ ad L S C B (tr_fits L S B t)) A) ([.ref (ad 0)] : List Value).toArray s 0 0 A) (F0 m 48 ls []) := by
          intro N
          induction N with
          | zero => intro k ls H locs hN; omega
          | succ N ih =>
            intro k ls H locs hN hk hP hD hS hl
            refine lv_iload_n hx hb d_TR_fits_48 rfl (lv_at hl 0 rfl) ?_
            refine lv_if_lt (tgt := 75) hx hb d_TR_fits_49 (by decide) (fun c_2 => ?_) (fun c_2 => ?_)
            · have hkL : k = L + 1 := Nat.le_antisymm hk (Nat.lt_of_not_le fun h9 => absurd c_2 (by rw [pk_sub h9]; exact nI_pos (by have := ok.2.1; omega)))
              subst hkL
              refine lv_iload_n hx hb d_TR_fits_75 rfl (lv_at hl 1 rfl) ?_
              refine lv_aload_n hx hb d_TR_fits_76 rfl (lv_at hl 2 rfl) ?_
              refine va_get (D := (dC, dI)) (ci := 2) (v := .int (nI C)) (C := R_TR) (T := F_TR) (N := 12) hx hb hT i_TR hown hK hP 0 rfl rfl 3 (by decide) (hT _ m_102) (fun _ h9 => h9) rfl d_TR_fits_77 ?_
              refine lv_icmp_gt (tgt := 87) hx hb d_TR_fits_80 (by decide) (fun c_3 => ?_) (fun c_3 => ?_)
              · refine lv_iconst (v := 0) hx hb d_TR_fits_87 (by decide) ?_
                exact W.zret (ty := .boolean) hx hb hr nar_0 (fun t9 ht _ => mQi_end (by first | exact b2i_t (decide_eq_true (Int32.not_lt.mp (by assumption))) | exact b2i_f (decide_eq_false (Int32.not_le.mpr (by assumption)))) (rfl) hP hD hS ht) hS.2.2 d_TR_fits_88 hlocks
              · refine lv_iconst (v := 1) hx hb d_TR_fits_83 (by decide) ?_
                refine lv_goto (tgt := 88) hx hb d_TR_fits_84 (by decide) ?_
                exact W.zret (ty := .boolean) hx hb hr nar_1 (fun t9 ht _ => mQi_end (by first | exact b2i_t (decide_eq_true (Int32.not_lt.mp (by assumption))) | exact b2i_f (decide_eq_false (Int32.not_le.mpr (by assumption)))) (rfl) hP hD hS ht) hS.2.2 d_TR_fits_88 hlocks
            · have hlt : k ≤ L := Nat.le_of_not_lt fun h9 => c_2 (by rw [Nat.le_antisymm hk h9]; exact fl_neg L)
              rw [pk_sub hlt] at hl
              refine lv_iload_n hx hb d_TR_fits_52 rfl (lv_at hl 1 rfl) ?_
              refine lv_aload_n hx hb d_TR_fits_53 rfl (lv_at hl 2 rfl) ?_
              refine lv_aload_n hx hb d_TR_fits_54 rfl (lv_at hl 2 rfl) ?_
              refine lv_aload_n hx hb d_TR_fits_55 rfl (lv_at hl 2 rfl) ?_
              refine va_get (D := (dC, dI)) (ci := 2) (v := .int (ts_way t)) (C := R_TR) (T := F_TR) (N := 12) hx hb hT i_TR hown hK hP 0 rfl rfl 10 (by decide) (hT _ m_111) (fun _ h9 => h9) rfl d_TR_fits_56 ?_
              refine lv_iload_n hx hb d_TR_fits_59 rfl (lv_at hl 0 rfl) ?_
              refine zc_i (va_runV (As := [.int (ts_way t), .int (nI (L - k))]) (rest := [.ref (ad 0), .int (lp_ (tr_f1f L S B (ts_plan t) (ts_way t)) k (tr_f0 B (ts_plan t) (ts_tgt t), (ts_plan t).2.2.2)).2]) ⟨hx, hb, hml, hown, hT⟩ (c_TR_nodeOnWay (t := ts_mk (ts_nodes t) (ts_cnts t) (ts_stash t) (ts_trail t) (ts_plan t) ((lp_ (tr_f1f L S B (ts_plan t) (ts_way t)) k (tr_f0 B (ts_plan t) (ts_tgt t), (ts_plan t).2.2.2)).1) (ts_way t) (ts_sought t)) ok hP (ts_way t) (nI (L - k))) (cwV 2 hT (gi_V m_307 m_304 m_306 m_3 m_24) rfl rfl rfl p_TR_nodeOnWay ⟨Nat.le_of_ble_eq_true rfl, Nat.le_of_ble_eq_true rfl⟩) ⟨zP_blind, va_recv hK hP (ci := 2) (q0 := 0) rfl rfl, zP_pre hK⟩ rfl rfl hl.1 rfl (lv_room (Nat.le_of_ble_eq_true rfl)) d_TR_fits_60 ⟨Nat.le_refl _, Nat.le_refl _⟩) hS (fun locs hS => ?_)
              refine lv_iload_n hx hb d_TR_fits_63 rfl (lv_at hl 0 rfl) ?_
              refine mc_i (va_runV (As := [.int (tr_way L (ts_way t) (nI (L - k))), .int (nI (L - k))]) (rest := [.int (lp_ (tr_f1f L S B (ts_plan t) (ts_way t)) k (tr_f0 B (ts_plan t) (ts_tgt t), (ts_plan t).2.2.2)).2]) ⟨hx, hb, hml, hown, hT⟩ (c_TR_fillNode (t := ts_mk (ts_nodes t) (ts_cnts t) (ts_stash t) (ts_trail t) (ts_plan t) ((lp_ (tr_f1f L S B (ts_plan t) (ts_way t)) k (tr_f0 B (ts_plan t) (ts_tgt t), (ts_plan t).2.2.2)).1) (ts_way t) (ts_sought t)) ok (tr_way L (ts_way t) (nI (L - k))) (nI (L - k))) (cwV 2 hT (gi_V m_347 m_344 m_346 m_6 m_24) rfl rfl rfl p_TR_fillNode ⟨Nat.le_of_ble_eq_true rfl, Nat.le_of_ble_eq_true rfl⟩) ⟨mP_blind, va_recv hK hP (ci := 2) (q0 := 0) rfl rfl, mP_pre hK hP hD⟩ rfl rfl hl.1 rfl (lv_room (Nat.le_of_ble_eq_true rfl)) d_TR_fits_64 ⟨Nat.le_refl _, Nat.le_refl _⟩) hS (fun H locs hP hD hS => ?_)
              have hP : va_P (dC, dI) kCl (tw_ cI cJ ad L S C B (ts_mk (ts_nodes t) (ts_cnts t) (ts_stash t) (ts_trail t) (ts_plan t) ((tr_fN L S B (ts_plan t) (tr_way L (ts_way t) (nI (L - k))) (nI (L - k)) ((lp_ (tr_f1f L S B (ts_plan t) (ts_way t)) k (tr_f0 B (ts_plan t) (ts_tgt t), (ts_plan t).2.2.2)).1)).1) (ts_way t) (ts_sought t))) H := hP
              have hD : va_D A (tw_ cI cJ ad L S C B (ts_mk (ts_nodes t) (ts_cnts t) (ts_stash t) (ts_trail t) (ts_plan t) ((tr_fN L S B (ts_plan t) (tr_way L (ts_way t) (nI (L - k))) (nI (L - k)) ((lp_ (tr_f1f L S B (ts_plan t) (ts_way t)) k (tr_f0 B (ts_plan t) (ts_tgt t), (ts_plan t).2.2.2)).1)).1) (ts_way t) (ts_sought t))) := hD
              refine lv_isub hx hb d_TR_fits_67 ?_
              refine lv_istore_n (lv' := [(1, .int ((lp_ (tr_f1f L S B (ts_plan t) (ts_way t)) k (tr_f0 B (ts_plan t) (ts_tgt t), (ts_plan t).2.2.2)).2 - (nI (tr_fN L S B (ts_plan t) (tr_way L (ts_way t) (nI (L - k))) (nI (L - k)) ((lp_ (tr_f1f L S B (ts_plan t) (ts_way t)) k (tr_f0 B (ts_plan t) (ts_tgt t), (ts_plan t).2.2.2)).1)).2))), (2, .int (nI (L - k))), (0, .ref (ad 0))]) hx hb d_TR_fits_68 rfl hl (by decide) rfl (fun ls hl => ?_)
              refine lv_iinc (v := nI L - nI (k + 1)) (lv' := [(2, .int (nI L - nI (k + 1))), (1, .int ((lp_ (tr_f1f L S B (ts_plan t) (ts_way t)) k (tr_f0 B (ts_plan t) (ts_tgt t), (ts_plan t).2.2.2)).2 - (nI (tr_fN L S B (ts_plan t) (tr_way L (ts_way t) (nI (L - k))) (nI (L - k)) ((lp_ (tr_f1f L S B (ts_plan t) (ts_way t)) k (tr_f0 B (ts_plan t) (ts_tgt t), (ts_plan t).2.2.2)).1)).2))), (0, .ref (ad 0))]) hx hb d_TR_fits_69 hl (k := 1) rfl (fl_step hlt) (by decide) rfl (fun ls hl => ?_)
              refine lv_goto (tgt := 48) hx hb d_TR_fits_72 (by decide) ?_
              exact ih (k + 1) ls H locs (by omega) (by omega) (show va_P (dC, dI) kCl (tw_ cI cJ ad L S C B (ts_mk (ts_nodes t) (ts_cnts t) (ts_stash t) (ts_trail t) (ts_plan t) ((lp_ (tr_f1f L S B (ts_plan t) (ts_way t)) (k + 1) (tr_f0 B (ts_plan t) (ts_tgt t), (ts_plan t).2.2.2)).1) (ts_way t) (ts_sought t))) H by exact hP) (show va_D A (tw_ cI cJ ad L S C B (ts_mk (ts_nodes t) (ts_cnts t) (ts_stash t) (ts_trail t) (ts_plan t) ((lp_ (tr_f1f L S B (ts_plan t) (ts_way t)) (k + 1) (tr_f0 B (ts_plan t) (ts_tgt t), (ts_plan t).2.2.2)).1) (ts_way t) (ts_sought t))) by exact hD) hS (show lv_has ls 3 [(2, .int (nI L - nI (k + 1))), (1, .int (lp_ (tr_f1f L S B (ts_plan t) (ts_way t)) (k + 1) (tr_f0 B (ts_plan t) (ts_tgt t), (ts_plan t).2.2.2)).2), (0, .ref (ad 0))] by exact lv_sub hl [0, 1, 2] rfl)
        exact lp ((L + 1) + 1) 0 ls _ _ (by omega) (Nat.zero_le _) hP hD hS (show lv_has ls 3 [(2, .int (nI L - nI 0)), (1, .int (lp_ (tr_f1f L S B (ts_plan t) (ts_way t)) 0 (tr_f0 B (ts_plan t) (ts_tgt t), (ts_plan t).2.2.2)).2), (0, .ref (ad 0))] by rw [nI_0, Int32.sub_zero]; exact lv_sub hl [0, 1, 2] rfl)
      · refine lv_iload_n hx hb d_TR_fits_21 rfl (lv_at hl 0 rfl) ?_
        refine lv_aload_n hx hb d_TR_fits_22 rfl (lv_at hl 2 rfl) ?_
        refine va_get (D := (dC, dI)) (ci := 2) (v := .ref (ad 16)) (C := R_TR) (T := F_TR) (N := 12) hx hb hT i_TR hown hK hP 0 rfl rfl 9 (by decide) (hT _ m_110) (fun _ h9 => h9) rfl d_TR_fits_23 ?_
        refine va_alen (v := nI B) hx hb hK hP 16 0 rfl rfl rfl d_TR_fits_26 ?_
        refine lv_icmp_ge (tgt := 43) hx hb d_TR_fits_27 (by decide) (fun c_4 => ?_) (fun c_4 => ?_)
        · have hkN : k = (rw_cnt B (ts_plan t).2.2.2) := Nat.le_antisymm hk (rw_c2 (tr_B_lt ok) hk c_4)
          subst hkN
          refine lv_aload_n hx hb d_TR_fits_43 rfl (lv_at hl 2 rfl) ?_
          refine va_get (D := (dC, dI)) (ci := 2) (v := .int (nI L)) (C := R_TR) (T := F_TR) (N := 12) hx hb hT i_TR hown hK hP 0 rfl rfl 0 (by decide) (hT _ m_98) (fun _ h9 => h9) rfl d_TR_fits_44 ?_
          refine lv_istore_n (lv' := [(2, .int (nI L)), (1, .int (ts_plan t).2.2.2), (0, .ref (ad 0))]) hx hb d_TR_fits_47 rfl hl (by decide) rfl (fun ls hl => ?_)
          have lp : ∀ (N k : Nat) (ls : Array Slot) (H : Heap) (locs : List Loc), (L + 1) - k < N → k ≤ (L + 1) → va_P (dC, dI) kCl (tw_ cI cJ ad L S C B (ts_mk (ts_nodes t) (ts_cnts t) (ts_stash t) (ts_trail t) (ts_plan t) ((lp_ (tr_f1f L S B (ts_plan t) (ts_way t)) k (tr_f0 B (ts_plan t) (ts_tgt t), (ts_plan t).2.2.2)).1) (ts_way t) (ts_sought t))) H → va_D A (tw_ cI cJ ad L S C B (ts_mk (ts_nodes t) (ts_cnts t) (ts_stash t) (ts_trail t) (ts_plan t) ((lp_ (tr_f1f L S B (ts_plan t) (ts_way t)) k (tr_f0 B (ts_plan t) (ts_tgt t), (ts_plan t).2.2.2)).1) (ts_way t) (ts_sought t))) → va_S A s.heap H locs → lv_has ls 3 [(2, .int (nI L - nI k)), (1, .int (lp_ (tr_f1f L S B (ts_plan t) (ts_way t)) k (tr_f0 B (ts_plan t) (ts_tgt t), (ts_plan t).2.2.2)).2), (0, .ref (ad 0))] → W p l e ({ frames := 3, cells := 0, slots := 0, locals := 66 } : Room) s m ([.ref (ad 0)] : List Value).toArray below meth c H locs 0 0 (MQ below (mQi (dC, dI) kCl (b2i (decide ((tr_fit L S B t).2 ≤ nI C))) (tw_ cI cJ ad L S C B (tr_fits L S B t)) A) ([.ref (ad 0)] : List Value).toArray s 0 0 A) (F0 m 48 ls []) := by
            intro N
            induction N with
            | zero => intro k ls H locs hN; omega
            | succ N ih =>
              intro k ls H locs hN hk hP hD hS hl
              refine lv_iload_n hx hb d_TR_fits_48 rfl (lv_at hl 0 rfl) ?_
              refine lv_if_lt (tgt := 75) hx hb d_TR_fits_49 (by decide) (fun c_5 => ?_) (fun c_5 => ?_)
              · have hkL : k = L + 1 := Nat.le_antisymm hk (Nat.lt_of_not_le fun h9 => absurd c_5 (by rw [pk_sub h9]; exact nI_pos (by have := ok.2.1; omega)))
                subst hkL
                refine lv_iload_n hx hb d_TR_fits_75 rfl (lv_at hl 1 rfl) ?_
                refine lv_aload_n hx hb d_TR_fits_76 rfl (lv_at hl 2 rfl) ?_
                refine va_get (D := (dC, dI)) (ci := 2) (v := .int (nI C)) (C := R_TR) (T := F_TR) (N := 12) hx hb hT i_TR hown hK hP 0 rfl rfl 3 (by decide) (hT _ m_102) (fun _ h9 => h9) rfl d_TR_fits_77 ?_
                refine lv_icmp_gt (tgt := 87) hx hb d_TR_fits_80 (by decide) (fun c_6 => ?_) (fun c_6 => ?_)
                · refine lv_iconst (v := 0) hx hb d_TR_fits_87 (by decide) ?_
                  exact W.zret (ty := .boolean) hx hb hr nar_0 (fun t9 ht _ => mQi_end (by first | exact b2i_t (decide_eq_true (Int32.not_lt.mp (by assumption))) | exact b2i_f (decide_eq_false (Int32.not_le.mpr (by assumption)))) (rfl) hP hD hS ht) hS.2.2 d_TR_fits_88 hlocks
                · refine lv_iconst (v := 1) hx hb d_TR_fits_83 (by decide) ?_
                  refine lv_goto (tgt := 88) hx hb d_TR_fits_84 (by decide) ?_
                  exact W.zret (ty := .boolean) hx hb hr nar_1 (fun t9 ht _ => mQi_end (by first | exact b2i_t (decide_eq_true (Int32.not_lt.mp (by assumption))) | exact b2i_f (decide_eq_false (Int32.not_le.mpr (by assumption)))) (rfl) hP hD hS ht) hS.2.2 d_TR_fits_88 hlocks
              · have hlt : k ≤ L := Nat.le_of_not_lt fun h9 => c_5 (by rw [Nat.le_antisymm hk h9]; exact fl_neg L)
                rw [pk_sub hlt] at hl
                refine lv_iload_n hx hb d_TR_fits_52 rfl (lv_at hl 1 rfl) ?_
                refine lv_aload_n hx hb d_TR_fits_53 rfl (lv_at hl 2 rfl) ?_
                refine lv_aload_n hx hb d_TR_fits_54 rfl (lv_at hl 2 rfl) ?_
                refine lv_aload_n hx hb d_TR_fits_55 rfl (lv_at hl 2 rfl) ?_
                refine va_get (D := (dC, dI)) (ci := 2) (v := .int (ts_way t)) (C := R_TR) (T := F_TR) (N := 12) hx hb hT i_TR hown hK hP 0 rfl rfl 10 (by decide) (hT _ m_111) (fun _ h9 => h9) rfl d_TR_fits_56 ?_
                refine lv_iload_n hx hb d_TR_fits_59 rfl (lv_at hl 0 rfl) ?_
                refine zc_i (va_runV (As := [.int (ts_way t), .int (nI (L - k))]) (rest := [.ref (ad 0), .int (lp_ (tr_f1f L S B (ts_plan t) (ts_way t)) k (tr_f0 B (ts_plan t) (ts_tgt t), (ts_plan t).2.2.2)).2]) ⟨hx, hb, hml, hown, hT⟩ (c_TR_nodeOnWay (t := ts_mk (ts_nodes t) (ts_cnts t) (ts_stash t) (ts_trail t) (ts_plan t) ((lp_ (tr_f1f L S B (ts_plan t) (ts_way t)) k (tr_f0 B (ts_plan t) (ts_tgt t), (ts_plan t).2.2.2)).1) (ts_way t) (ts_sought t)) ok hP (ts_way t) (nI (L - k))) (cwV 2 hT (gi_V m_307 m_304 m_306 m_3 m_24) rfl rfl rfl p_TR_nodeOnWay ⟨Nat.le_of_ble_eq_true rfl, Nat.le_of_ble_eq_true rfl⟩) ⟨zP_blind, va_recv hK hP (ci := 2) (q0 := 0) rfl rfl, zP_pre hK⟩ rfl rfl hl.1 rfl (lv_room (Nat.le_of_ble_eq_true rfl)) d_TR_fits_60 ⟨Nat.le_refl _, Nat.le_refl _⟩) hS (fun locs hS => ?_)
                refine lv_iload_n hx hb d_TR_fits_63 rfl (lv_at hl 0 rfl) ?_
                refine mc_i (va_runV (As := [.int (tr_way L (ts_way t) (nI (L - k))), .int (nI (L - k))]) (rest := [.int (lp_ (tr_f1f L S B (ts_plan t) (ts_way t)) k (tr_f0 B (ts_plan t) (ts_tgt t), (ts_plan t).2.2.2)).2]) ⟨hx, hb, hml, hown, hT⟩ (c_TR_fillNode (t := ts_mk (ts_nodes t) (ts_cnts t) (ts_stash t) (ts_trail t) (ts_plan t) ((lp_ (tr_f1f L S B (ts_plan t) (ts_way t)) k (tr_f0 B (ts_plan t) (ts_tgt t), (ts_plan t).2.2.2)).1) (ts_way t) (ts_sought t)) ok (tr_way L (ts_way t) (nI (L - k))) (nI (L - k))) (cwV 2 hT (gi_V m_347 m_344 m_346 m_6 m_24) rfl rfl rfl p_TR_fillNode ⟨Nat.le_of_ble_eq_true rfl, Nat.le_of_ble_eq_true rfl⟩) ⟨mP_blind, va_recv hK hP (ci := 2) (q0 := 0) rfl rfl, mP_pre hK hP hD⟩ rfl rfl hl.1 rfl (lv_room (Nat.le_of_ble_eq_true rfl)) d_TR_fits_64 ⟨Nat.le_refl _, Nat.le_refl _⟩) hS (fun H locs hP hD hS => ?_)
                have hP : va_P (dC, dI) kCl (tw_ cI cJ ad L S C B (ts_mk (ts_nodes t) (ts_cnts t) (ts_stash t) (ts_trail t) (ts_plan t) ((tr_fN L S B (ts_plan t) (tr_way L (ts_way t) (nI (L - k))) (nI (L - k)) ((lp_ (tr_f1f L S B (ts_plan t) (ts_way t)) k (tr_f0 B (ts_plan t) (ts_tgt t), (ts_plan t).2.2.2)).1)).1) (ts_way t) (ts_sought t))) H := hP
                have hD : va_D A (tw_ cI cJ ad L S C B (ts_mk (ts_nodes t) (ts_cnts t) (ts_stash t) (ts_trail t) (ts_plan t) ((tr_fN L S B (ts_plan t) (tr_way L (ts_way t) (nI (L - k))) (nI (L - k)) ((lp_ (tr_f1f L S B (ts_plan t) (ts_way t)) k (tr_f0 B (ts_plan t) (ts_tgt t), (ts_plan t).2.2.2)).1)).1) (ts_way t) (ts_sought t))) := hD
                refine lv_isub hx hb d_TR_fits_67 ?_
                refine lv_istore_n (lv' := [(1, .int ((lp_ (tr_f1f L S B (ts_plan t) (ts_way t)) k (tr_f0 B (ts_plan t) (ts_tgt t), (ts_plan t).2.2.2)).2 - (nI (tr_fN L S B (ts_plan t) (tr_way L (ts_way t) (nI (L - k))) (nI (L - k)) ((lp_ (tr_f1f L S B (ts_plan t) (ts_way t)) k (tr_f0 B (ts_plan t) (ts_tgt t), (ts_plan t).2.2.2)).1)).2))), (2, .int (nI (L - k))), (0, .ref (ad 0))]) hx hb d_TR_fits_68 rfl hl (by decide) rfl (fun ls hl => ?_)
                refine lv_iinc (v := nI L - nI (k + 1)) (lv' := [(2, .int (nI L - nI (k + 1))), (1, .int ((lp_ (tr_f1f L S B (ts_plan t) (ts_way t)) k (tr_f0 B (ts_plan t) (ts_tgt t), (ts_plan t).2.2.2)).2 - (nI (tr_fN L S B (ts_plan t) (tr_way L (ts_way t) (nI (L - k))) (nI (L - k)) ((lp_ (tr_f1f L S B (ts_plan t) (ts_way t)) k (tr_f0 B (ts_plan t) (ts_tgt t), (ts_plan t).2.2.2)).1)).2))), (0, .ref (ad 0))]) hx hb d_TR_fits_69 hl (k := 1) rfl (fl_step hlt) (by decide) rfl (fun ls hl => ?_)
                refine lv_goto (tgt := 48) hx hb d_TR_fits_72 (by decide) ?_
                exact ih (k + 1) ls H locs (by omega) (by omega) (show va_P (dC, dI) kCl (tw_ cI cJ ad L S C B (ts_mk (ts_nodes t) (ts_cnts t) (ts_stash t) (ts_trail t) (ts_plan t) ((lp_ (tr_f1f L S B (ts_plan t) (ts_way t)) (k + 1) (tr_f0 B (ts_plan t) (ts_tgt t), (ts_plan t).2.2.2)).1) (ts_way t) (ts_sought t))) H by exact hP) (show va_D A (tw_ cI cJ ad L S C B (ts_mk (ts_nodes t) (ts_cnts t) (ts_stash t) (ts_trail t) (ts_plan t) ((lp_ (tr_f1f L S B (ts_plan t) (ts_way t)) (k + 1) (tr_f0 B (ts_plan t) (ts_tgt t), (ts_plan t).2.2.2)).1) (ts_way t) (ts_sought t))) by exact hD) hS (show lv_has ls 3 [(2, .int (nI L - nI (k + 1))), (1, .int (lp_ (tr_f1f L S B (ts_plan t) (ts_way t)) (k + 1) (tr_f0 B (ts_plan t) (ts_tgt t), (ts_plan t).2.2.2)).2), (0, .ref (ad 0))] by exact lv_sub hl [0, 1, 2] rfl)
          exact lp ((L + 1) + 1) 0 ls _ _ (by omega) (Nat.zero_le _) hP hD hS (show lv_has ls 3 [(2, .int (nI L - nI 0)), (1, .int (lp_ (tr_f1f L S B (ts_plan t) (ts_way t)) 0 (tr_f0 B (ts_plan t) (ts_tgt t), (ts_plan t).2.2.2)).2), (0, .ref (ad 0))] by rw [nI_0, Int32.sub_zero]; exact lv_sub hl [0, 1, 2] rfl)
        · have hlt := rw_c3 (tr_B_lt ok) hk c_1 c_4
          have hkB : k < B := Nat.lt_of_lt_of_le hlt (rw_cnt_le _ _)
          have hk31 : k < 2 ^ 31 := by have := tr_B_lt ok; omega
          refine lv_aload_n hx hb d_TR_fits_30 rfl (lv_at hl 2 rfl) ?_
          refine va_get (D := (dC, dI)) (ci := 2) (v := .ref (ad 16)) (C := R_TR) (T := F_TR) (N := 12) hx hb hT i_TR hown hK hP 0 rfl rfl 9 (by decide) (hT _ m_110) (fun _ h9 => h9) rfl d_TR_fits_31 ?_
          refine lv_iload_n hx hb d_TR_fits_34 rfl (lv_at hl 0 rfl) ?_
          refine lv_iconst (v := (-1)) hx hb d_TR_fits_35 (by decide) ?_
          refine va_iast hx hb hK hP hD hS 16 0 rfl rfl (vp_in_nI hkB (tr_B_lt ok)) d_TR_fits_36 (fun H locs hP hD hS => ?_)
          rw [nI_clamp hk31] at hP hD
          have hP : va_P (dC, dI) kCl (tw_ cI cJ ad L S C B (ts_mk (ts_nodes t) (ts_cnts t) (ts_stash t) (ts_trail t) (ts_plan t) (upd (lp_ tr_f0f k (ts_tgt t)) k (-1)) (ts_way t) (ts_sought t))) H := hP
          have hD : va_D A (tw_ cI cJ ad L S C B (ts_mk (ts_nodes t) (ts_cnts t) (ts_stash t) (ts_trail t) (ts_plan t) (upd (lp_ tr_f0f k (ts_tgt t)) k (-1)) (ts_way t) (ts_sought t))) := hD
          refine lv_iinc (v := nI (k + 1)) (lv' := [(2, .int (nI (k + 1))), (1, .int (ts_plan t).2.2.2), (0, .ref (ad 0))]) hx hb d_TR_fits_37 hl (k := 0) rfl (nI_1 k) (by decide) rfl (fun ls hl => ?_)
          refine lv_goto (tgt := 10) hx hb d_TR_fits_40 (by decide) ?_
          exact ih (k + 1) ls H locs (by omega) (by omega) (show va_P (dC, dI) kCl (tw_ cI cJ ad L S C B (ts_mk (ts_nodes t) (ts_cnts t) (ts_stash t) (ts_trail t) (ts_plan t) (lp_ tr_f0f (k + 1) (ts_tgt t)) (ts_way t) (ts_sought t))) H by exact hP) (show va_D A (tw_ cI cJ ad L S C B (ts_mk (ts_nodes t) (ts_cnts t) (ts_stash t) (ts_trail t) (ts_plan t) (lp_ tr_f0f (k + 1) (ts_tgt t)) (ts_way t) (ts_sought t))) by exact hD) hS (show lv_has ls 3 [(2, .int (nI (k + 1))), (1, .int (ts_plan t).2.2.2), (0, .ref (ad 0))] by exact lv_sub hl [0, 1, 2] rfl)
  exact lp ((rw_cnt B (ts_plan t).2.2.2) + 1) 0 ls _ _ (by omega) (Nat.zero_le _) hP hD hS (lv_sub hl [0, 1, 2] rfl)
end
section
set_option maxHeartbeats 4000000 in
set_option maxRecDepth 100000 in
/-- Tree.carryOut -/
theorem c_TR_carryOut {l : Launch} {dC : Nat → ClassId} {dI : Nat → Nat → Nat} {cI cJ : ClassId} {A : Nat → Prop} {ad : Nat → Nat} {L S C B : Nat} {t : Ts} (ok : tr_ok L S C B) (htr : (ts_trail t).2 < 600) : Met l y_TR_carryOut (k_TR_carryOut :: bw) { frames := 4, cells := 0, slots := 0, locals := 91 } (mP (dC, dI) kCl [(cI, .int), (cJ, .long)] [.ref (ad 0)] (tw_ cI cJ ad L S C B (ts_mk (ts_nodes t) (ts_cnts t) (ts_stash t) (ts_trail t) (ts_plan t) (ts_tgt t) (ts_way t) (ts_sought t))) A) (mQv (dC, dI) kCl (tw_ cI cJ ad L S C B (tr_carry L S C B t)) A) 0 0 A := by
  refine Met.ofZ (own := "CoinTree$Tree") (by decide) rfl [.ref (ad 0)] (Nat.le_of_ble_eq_true rfl) (fun _ _ h => h.1) ?_
  intro p e s m below meth c ls C0 hv hl
  obtain ⟨hx, hb, hr, hml, hown, hT, hlocks⟩ := C0
  obtain ⟨-, hP, hK, hD⟩ := hv
  have hS : va_S A s.heap s.heap [] := va_S.rf
  have hl : lv_has ls 2 [(0, .ref (ad 0))] := hl
  refine lv_iconst (v := 0) hx hb d_TR_carryOut_0 (by decide) ?_
  refine lv_istore_n (lv' := [(1, .int 0), (0, .ref (ad 0))]) hx hb d_TR_carryOut_1 rfl hl (by decide) rfl (fun ls hl => ?_)
  have lp : ∀ (N k : Nat) (ls : Array Slot) (H : Heap) (locs : List Loc), (L + 1) - k < N → k ≤ (L + 1) → va_P (dC, dI) kCl (tw_ cI cJ ad L S C B (ts_mk ((lp_ (tr_cEf L S (ts_way t)) k (ts_nodes t, ts_cnts t)).1) ((lp_ (tr_cEf L S (ts_way t)) k (ts_nodes t, ts_cnts t)).2) (ts_stash t) (ts_trail t) (ts_plan t) (ts_tgt t) (ts_way t) (ts_sought t))) H → va_D A (tw_ cI cJ ad L S C B (ts_mk ((lp_ (tr_cEf L S (ts_way t)) k (ts_nodes t, ts_cnts t)).1) ((lp_ (tr_cEf L S (ts_way t)) k (ts_nodes t, ts_cnts t)).2) (ts_stash t) (ts_trail t) (ts_plan t) (ts_tgt t) (ts_way t) (ts_sought t))) → va_S A s.heap H locs → lv_has ls 2 [(1, .int (nI k)), (0, .ref (ad 0))] → W p l e ({ frames := 4, cells := 0, slots := 0, locals := 91 } : Room) s m ([.ref (ad 0)] : List Value).toArray below meth c H locs 0 0 (MQ below (mQv (dC, dI) kCl (tw_ cI cJ ad L S C B (tr_carry L S C B t)) A) ([.ref (ad 0)] : List Value).toArray s 0 0 A) (F0 m 2 ls []) := by
    intro N
    induction N with
    | zero => intro k ls H locs hN; omega
    | succ N ih =>
      intro k ls H locs hN hk hP hD hS hl
      refine lv_iload_n hx hb d_TR_carryOut_2 rfl (lv_at hl 0 rfl) ?_
      refine lv_aload_n hx hb d_TR_carryOut_3 rfl (lv_at hl 1 rfl) ?_
      refine va_get (D := (dC, dI)) (ci := 2) (v := .int (nI L)) (C := R_TR) (T := F_TR) (N := 12) hx hb hT i_TR hown hK hP 0 rfl rfl 0 (by decide) (hT _ m_98) (fun _ h9 => h9) rfl d_TR_carryOut_4 ?_
      refine lv_icmp_gt (tgt := 29) hx hb d_TR_carryOut_7 (by decide) (fun c_1 => ?_) (fun c_1 => ?_)
      · have hkL : k = L + 1 := Nat.le_antisymm hk ((nI_ltI (tr_L_lt ok) (by have := tr_L_lt ok; have := ok.2.1; omega)).mp c_1)
        subst hkL
        refine lv_aload_n hx hb d_TR_carryOut_29 rfl (lv_at hl 1 rfl) ?_
        refine va_get (D := (dC, dI)) (ci := 2) (v := .ref (ad 6)) (C := R_TR) (T := F_TR) (N := 12) hx hb hT i_TR hown hK hP 0 rfl rfl 6 (by decide) (hT _ m_105) (fun _ h9 => h9) rfl d_TR_carryOut_30 ?_
        refine lv_iconst (v := 0) hx hb d_TR_carryOut_33 (by decide) ?_
        refine va_put (D := (dC, dI)) (ci := 0) (v := .int 0) (ty := .int) (C := R_RW) (T := F_RW) (N := 4) hx hb hT i_RW t_RW t_RW_ok n_RW hown hK hP hD hS 6 rfl rfl 3 (by decide) (hT _ m_85) (fun _ h9 => h9) rfl (by decide +kernel) rfl rfl (Nat.le_of_ble_eq_true rfl) d_TR_carryOut_34 (fun H locs hP hD hS => ?_)
        have hP : va_P (dC, dI) kCl (tw_ cI cJ ad L S C B (ts_mk ((lp_ (tr_cEf L S (ts_way t)) (L + 1) (ts_nodes t, ts_cnts t)).1) ((lp_ (tr_cEf L S (ts_way t)) (L + 1) (ts_nodes t, ts_cnts t)).2) (rw_size (ts_stash t) 0) (ts_trail t) (ts_plan t) (ts_tgt t) (ts_way t) (ts_sought t))) H := hP
        have hD : va_D A (tw_ cI cJ ad L S C B (ts_mk ((lp_ (tr_cEf L S (ts_way t)) (L + 1) (ts_nodes t, ts_cnts t)).1) ((lp_ (tr_cEf L S (ts_way t)) (L + 1) (ts_nodes t, ts_cnts t)).2) (rw_size (ts_stash t) 0) (ts_trail t) (ts_plan t) (ts_tgt t) (ts_way t) (ts_sought t))) := hD
        refine lv_iconst (v := 0) hx hb d_TR_carryOut_37 (by decide) ?_
        refine lv_istore_n (lv' := [(1, .int 0), (0, .ref (ad 0))]) hx hb d_TR_carryOut_38 rfl hl (by decide) rfl (fun ls hl => ?_)
        have lp : ∀ (N k : Nat) (ls : Array Slot) (H : Heap) (locs : List Loc), (rw_cnt B (ts_plan t).2.2.2) - k < N → k ≤ (rw_cnt B (ts_plan t).2.2.2) → va_P (dC, dI) kCl (tw_ cI cJ ad L S C B (ts_mk ((lp_ (tr_cSf L S C B (ts_plan t) (ts_tgt t)) k ((tr_cE L S t).1, rw_size (ts_stash t) 0)).1) ((tr_cE L S t).2) ((lp_ (tr_cSf L S C B (ts_plan t) (ts_tgt t)) k ((tr_cE L S t).1, rw_size (ts_stash t) 0)).2) (ts_trail t) (ts_plan t) (ts_tgt t) (ts_way t) (ts_sought t))) H → va_D A (tw_ cI cJ ad L S C B (ts_mk ((lp_ (tr_cSf L S C B (ts_plan t) (ts_tgt t)) k ((tr_cE L S t).1, rw_size (ts_stash t) 0)).1) ((tr_cE L S t).2) ((lp_ (tr_cSf L S C B (ts_plan t) (ts_tgt t)) k ((tr_cE L S t).1, rw_size (ts_stash t) 0)).2) (ts_trail t) (ts_plan t) (ts_tgt t) (ts_way t) (ts_sought t))) → va_S A s.heap H locs → lv_has ls 2 [(1, .int (nI k)), (0, .ref (ad 0))] → W p l e ({ frames := 4, cells := 0, slots := 0, locals := 91 } : Room) s m ([.ref (ad 0)] : List Value).toArray below meth c H locs 0 0 (MQ below (mQv (dC, dI) kCl (tw_ cI cJ ad L S C B (tr_carry L S C B t)) A) ([.ref (ad 0)] : List Value).toArray s 0 0 A) (F0 m 39 ls []) := by
          intro N
          induction N with
          | zero => intro k ls H locs hN; omega
          | succ N ih =>
            intro k ls H locs hN hk hP hD hS hl
            refine lv_iload_n hx hb d_TR_carryOut_39 rfl (lv_at hl 0 rfl) ?_
            refine lv_aload_n hx hb d_TR_carryOut_40 rfl (lv_at hl 1 rfl) ?_
            refine va_get (D := (dC, dI)) (ci := 2) (v := .ref (ad 12)) (C := R_TR) (T := F_TR) (N := 12) hx hb hT i_TR hown hK hP 0 rfl rfl 8 (by decide) (hT _ m_109) (fun _ h9 => h9) rfl d_TR_carryOut_41 ?_
            refine va_get (D := (dC, dI)) (ci := 0) (v := .int (ts_plan t).2.2.2) (C := R_RW) (T := F_RW) (N := 4) hx hb hT i_RW hown hK hP 12 rfl rfl 3 (by decide) (hT _ m_85) (fun _ h9 => h9) rfl d_TR_carryOut_44 ?_
            refine lv_icmp_ge (tgt := 108) hx hb d_TR_carryOut_47 (by decide) (fun c_2 => ?_) (fun c_2 => ?_)
            · have hkN : k = (rw_cnt B (ts_plan t).2.2.2) := Nat.le_antisymm hk (rw_c1 (tr_B_lt ok) hk c_2)
              subst hkN
              refine lv_aload_n hx hb d_TR_carryOut_108 rfl (lv_at hl 1 rfl) ?_
              refine va_get (D := (dC, dI)) (ci := 2) (v := .ref (ad 10)) (C := R_TR) (T := F_TR) (N := 12) hx hb hT i_TR hown hK hP 0 rfl rfl 7 (by decide) (hT _ m_107) (fun _ h9 => h9) rfl d_TR_carryOut_109 ?_
              refine lv_aload_n hx hb d_TR_carryOut_112 rfl (lv_at hl 1 rfl) ?_
              refine va_get (D := (dC, dI)) (ci := 2) (v := .int (ts_way t)) (C := R_TR) (T := F_TR) (N := 12) hx hb hT i_TR hown hK hP 0 rfl rfl 10 (by decide) (hT _ m_111) (fun _ h9 => h9) rfl d_TR_carryOut_113 ?_
              refine mc_v (va_runV (As := [.int (ts_way t)]) (rest := []) ⟨hx, hb, hml, hown, hT⟩ (c_TL_add (show tl_in (tw_ cI cJ ad L S C B (ts_mk ((lp_ (tr_cSf L S C B (ts_plan t) (ts_tgt t)) (rw_cnt B (ts_plan t).2.2.2) ((tr_cE L S t).1, rw_size (ts_stash t) 0)).1) ((tr_cE L S t).2) ((lp_ (tr_cSf L S C B (ts_plan t) (ts_tgt t)) (rw_cnt B (ts_plan t).2.2.2) ((tr_cE L S t).1, rw_size (ts_stash t) 0)).2) (ts_trail t) (ts_plan t) (ts_tgt t) (ts_way t) (ts_sought t))) 10 (ad 10) (ad 11) cI (ts_trail t) from ⟨rfl, rfl⟩) htr (ts_way t)) (cwV 1 hT (gi_V m_381 m_378 m_379 m_380 m_25) rfl rfl rfl p_TL_add ⟨Nat.le_of_ble_eq_true rfl, Nat.le_of_ble_eq_true rfl⟩) ⟨mP_blind, va_recv hK hP (ci := 1) (q0 := 10) rfl rfl, mP_pre hK hP hD⟩ rfl rfl hl.1 rfl (lv_room (Nat.le_of_ble_eq_true rfl)) d_TR_carryOut_116 ⟨Nat.le_refl _, Nat.le_refl _⟩) hS (fun H locs hP hD hS => ?_)
              have hP : va_P (dC, dI) kCl (tw_ cI cJ ad L S C B (ts_mk ((lp_ (tr_cSf L S C B (ts_plan t) (ts_tgt t)) (rw_cnt B (ts_plan t).2.2.2) ((tr_cE L S t).1, rw_size (ts_stash t) 0)).1) ((tr_cE L S t).2) ((lp_ (tr_cSf L S C B (ts_plan t) (ts_tgt t)) (rw_cnt B (ts_plan t).2.2.2) ((tr_cE L S t).1, rw_size (ts_stash t) 0)).2) (tl_add (ts_trail t) (ts_way t)) (ts_plan t) (ts_tgt t) (ts_way t) (ts_sought t))) H := hP
              have hD : va_D A (tw_ cI cJ ad L S C B (ts_mk ((lp_ (tr_cSf L S C B (ts_plan t) (ts_tgt t)) (rw_cnt B (ts_plan t).2.2.2) ((tr_cE L S t).1, rw_size (ts_stash t) 0)).1) ((tr_cE L S t).2) ((lp_ (tr_cSf L S C B (ts_plan t) (ts_tgt t)) (rw_cnt B (ts_plan t).2.2.2) ((tr_cE L S t).1, rw_size (ts_stash t) 0)).2) (tl_add (ts_trail t) (ts_way t)) (ts_plan t) (ts_tgt t) (ts_way t) (ts_sought t))) := hD
              exact W.vret hx hb hr (fun t9 ht _ => mQv_end (rfl) hP hD hS ht) hS.2.2 d_TR_carryOut_119 hlocks
            · refine lv_iload_n hx hb d_TR_carryOut_50 rfl (lv_at hl 0 rfl) ?_
              refine lv_aload_n hx hb d_TR_carryOut_51 rfl (lv_at hl 1 rfl) ?_
              refine va_get (D := (dC, dI)) (ci := 2) (v := .ref (ad 16)) (C := R_TR) (T := F_TR) (N := 12) hx hb hT i_TR hown hK hP 0 rfl rfl 9 (by decide) (hT _ m_110) (fun _ h9 => h9) rfl d_TR_carryOut_52 ?_
              refine va_alen (v := nI B) hx hb hK hP 16 0 rfl rfl rfl d_TR_carryOut_55 ?_
              refine lv_icmp_ge (tgt := 108) hx hb d_TR_carryOut_56 (by decide) (fun c_3 => ?_) (fun c_3 => ?_)
              · have hkN : k = (rw_cnt B (ts_plan t).2.2.2) := Nat.le_antisymm hk (rw_c2 (tr_B_lt ok) hk c_3)
                subst hkN
                refine lv_aload_n hx hb d_TR_carryOut_108 rfl (lv_at hl 1 rfl) ?_
                refine va_get (D := (dC, dI)) (ci := 2) (v := .ref (ad 10)) (C := R_TR) (T := F_TR) (N := 12) hx hb hT i_TR hown hK hP 0 rfl rfl 7 (by decide) (hT _ m_107) (fun _ h9 => h9) rfl d_TR_carryOut_109 ?_
                refine lv_aload_n hx hb d_TR_carryOut_112 rfl (lv_at hl 1 rfl) ?_
                refine va_get (D := (dC, dI)) (ci := 2) (v := .int (ts_way t)) (C := R_TR) (T := F_TR) (N := 12) hx hb hT i_TR hown hK hP 0 rfl rfl 10 (by decide) (hT _ m_111) (fun _ h9 => h9) rfl d_TR_carryOut_113 ?_
                refine mc_v (va_runV (As := [.int (ts_way t)]) (rest := []) ⟨hx, hb, hml, hown, hT⟩ (c_TL_add (show tl_in (tw_ cI cJ ad L S C B (ts_mk ((lp_ (tr_cSf L S C B (ts_plan t) (ts_tgt t)) (rw_cnt B (ts_plan t).2.2.2) ((tr_cE L S t).1, rw_size (ts_stash t) 0)).1) ((tr_cE L S t).2) ((lp_ (tr_cSf L S C B (ts_plan t) (ts_tgt t)) (rw_cnt B (ts_plan t).2.2.2) ((tr_cE L S t).1, rw_size (ts_stash t) 0)).2) (ts_trail t) (ts_plan t) (ts_tgt t) (ts_way t) (ts_sought t))) 10 (ad 10) (ad 11) cI (ts_trail t) from ⟨rfl, rfl⟩) htr (ts_way t)) (cwV 1 hT (gi_V m_381 m_378 m_379 m_380 m_25) rfl rfl rfl p_TL_add ⟨Nat.le_of_ble_eq_true rfl, Nat.le_of_ble_eq_true rfl⟩) ⟨mP_blind, va_recv hK hP (ci := 1) (q0 := 10) rfl rfl, mP_pre hK hP hD⟩ rfl rfl hl.1 rfl (lv_room (Nat.le_of_ble_eq_true rfl)) d_TR_carryOut_116 ⟨Nat.le_refl _, Nat.le_refl _⟩) hS (fun H locs hP hD hS => ?_)
                have hP : va_P (dC, dI) kCl (tw_ cI cJ ad L S C B (ts_mk ((lp_ (tr_cSf L S C B (ts_plan t) (ts_tgt t)) (rw_cnt B (ts_plan t).2.2.2) ((tr_cE L S t).1, rw_size (ts_stash t) 0)).1) ((tr_cE L S t).2) ((lp_ (tr_cSf L S C B (ts_plan t) (ts_tgt t)) (rw_cnt B (ts_plan t).2.2.2) ((tr_cE L S t).1, rw_size (ts_stash t) 0)).2) (tl_add (ts_trail t) (ts_way t)) (ts_plan t) (ts_tgt t) (ts_way t) (ts_sought t))) H := hP
                have hD : va_D A (tw_ cI cJ ad L S C B (ts_mk ((lp_ (tr_cSf L S C B (ts_plan t) (ts_tgt t)) (rw_cnt B (ts_plan t).2.2.2) ((tr_cE L S t).1, rw_size (ts_stash t) 0)).1) ((tr_cE L S t).2) ((lp_ (tr_cSf L S C B (ts_plan t) (ts_tgt t)) (rw_cnt B (ts_plan t).2.2.2) ((tr_cE L S t).1, rw_size (ts_stash t) 0)).2) (tl_add (ts_trail t) (ts_way t)) (ts_plan t) (ts_tgt t) (ts_way t) (ts_sought t))) := hD
                exact W.vret hx hb hr (fun t9 ht _ => mQv_end (rfl) hP hD hS ht) hS.2.2 d_TR_carryOut_119 hlocks
              · have hlt := rw_c3 (tr_B_lt ok) hk c_2 c_3
                have hkB : k < B := Nat.lt_of_lt_of_le hlt (rw_cnt_le _ _)
                have hk31 : k < 2 ^ 31 := by have := tr_B_lt ok; omega
                refine lv_aload_n hx hb d_TR_carryOut_59 rfl (lv_at hl 1 rfl) ?_
                refine va_get (D := (dC, dI)) (ci := 2) (v := .ref (ad 16)) (C := R_TR) (T := F_TR) (N := 12) hx hb hT i_TR hown hK hP 0 rfl rfl 9 (by decide) (hT _ m_110) (fun _ h9 => h9) rfl d_TR_carryOut_60 ?_
                refine lv_iload_n hx hb d_TR_carryOut_63 rfl (lv_at hl 0 rfl) ?_
                refine va_iald hx hb hK hP 16 0 rfl rfl (vp_in_nI hkB (tr_B_lt ok)) d_TR_carryOut_64 ?_
                rw [nI_clamp hk31]
                refine lv_iconst (v := (-1)) hx hb d_TR_carryOut_65 (by decide) ?_
                refine lv_icmp_ne (tgt := 84) hx hb d_TR_carryOut_66 (by decide) (fun c_4 => ?_) (fun c_4 => ?_)
                · refine lv_aload_n hx hb d_TR_carryOut_84 rfl (lv_at hl 1 rfl) ?_
                  refine va_get (D := (dC, dI)) (ci := 2) (v := .ref (ad 1)) (C := R_TR) (T := F_TR) (N := 12) hx hb hT i_TR hown hK hP 0 rfl rfl 4 (by decide) (hT _ m_103) (fun _ h9 => h9) rfl d_TR_carryOut_85 ?_
                  refine lv_aload_n hx hb d_TR_carryOut_88 rfl (lv_at hl 1 rfl) ?_
                  refine va_get (D := (dC, dI)) (ci := 2) (v := .ref (ad 16)) (C := R_TR) (T := F_TR) (N := 12) hx hb hT i_TR hown hK hP 0 rfl rfl 9 (by decide) (hT _ m_110) (fun _ h9 => h9) rfl d_TR_carryOut_89 ?_
                  refine lv_iload_n hx hb d_TR_carryOut_92 rfl (lv_at hl 0 rfl) ?_
                  refine va_iald hx hb hK hP 16 0 rfl rfl (vp_in_nI hkB (tr_B_lt ok)) d_TR_carryOut_93 ?_
                  rw [nI_clamp hk31]
                  refine lv_aload_n hx hb d_TR_carryOut_94 rfl (lv_at hl 1 rfl) ?_
                  refine va_get (D := (dC, dI)) (ci := 2) (v := .ref (ad 12)) (C := R_TR) (T := F_TR) (N := 12) hx hb hT i_TR hown hK hP 0 rfl rfl 8 (by decide) (hT _ m_109) (fun _ h9 => h9) rfl d_TR_carryOut_95 ?_
                  refine lv_iload_n hx hb d_TR_carryOut_98 rfl (lv_at hl 0 rfl) ?_
                  refine mc_v (va_runV (As := [.int ((ts_tgt t) k), .ref (ad 12), .int (nI k)]) (rest := []) ⟨hx, hb, hml, hown, hT⟩ (c_RW_copy (show rw_in (tw_ cI cJ ad L S C B (ts_mk ((lp_ (tr_cSf L S C B (ts_plan t) (ts_tgt t)) k ((tr_cE L S t).1, rw_size (ts_stash t) 0)).1) ((tr_cE L S t).2) ((lp_ (tr_cSf L S C B (ts_plan t) (ts_tgt t)) k ((tr_cE L S t).1, rw_size (ts_stash t) 0)).2) (ts_trail t) (ts_plan t) (ts_tgt t) (ts_way t) (ts_sought t))) 1 (ad 1) (ad 2) (ad 3) (ad 4) (tr_nN L S) cI cJ ((lp_ (tr_cSf L S C B (ts_plan t) (ts_tgt t)) k ((tr_cE L S t).1, rw_size (ts_stash t) 0)).1) from ⟨rfl, rfl, rfl, rfl⟩) (tr_nN_lt ok) (show rw_in (tw_ cI cJ ad L S C B (ts_mk ((lp_ (tr_cSf L S C B (ts_plan t) (ts_tgt t)) k ((tr_cE L S t).1, rw_size (ts_stash t) 0)).1) ((tr_cE L S t).2) ((lp_ (tr_cSf L S C B (ts_plan t) (ts_tgt t)) k ((tr_cE L S t).1, rw_size (ts_stash t) 0)).2) (ts_trail t) (ts_plan t) (ts_tgt t) (ts_way t) (ts_sought t))) 12 (ad 12) (ad 13) (ad 14) (ad 15) B cI cJ (ts_plan t) from ⟨rfl, rfl, rfl, rfl⟩) (tr_B_lt ok) (by decide) ((ts_tgt t) k) (nI k)) (cwV 3 hT (gi_V m_287 m_377 m_285 m_286 m_26) rfl rfl rfl p_RW_copy ⟨Nat.le_of_ble_eq_true rfl, Nat.le_of_ble_eq_true rfl⟩) ⟨mP_blind, va_recv hK hP (ci := 0) (q0 := 1) rfl rfl, mP_pre hK hP hD⟩ rfl rfl hl.1 rfl (lv_room (Nat.le_of_ble_eq_true rfl)) d_TR_carryOut_99 ⟨Nat.le_refl _, Nat.le_refl _⟩) hS (fun H locs hP hD hS => ?_)
                  have hP : va_P (dC, dI) kCl (tw_ cI cJ ad L S C B (ts_mk (rw_copy (tr_nN L S) ((lp_ (tr_cSf L S C B (ts_plan t) (ts_tgt t)) k ((tr_cE L S t).1, rw_size (ts_stash t) 0)).1) ((ts_tgt t) k) B (ts_plan t) (nI k)) ((tr_cE L S t).2) ((lp_ (tr_cSf L S C B (ts_plan t) (ts_tgt t)) k ((tr_cE L S t).1, rw_size (ts_stash t) 0)).2) (ts_trail t) (ts_plan t) (ts_tgt t) (ts_way t) (ts_sought t))) H := hP
                  have hD : va_D A (tw_ cI cJ ad L S C B (ts_mk (rw_copy (tr_nN L S) ((lp_ (tr_cSf L S C B (ts_plan t) (ts_tgt t)) k ((tr_cE L S t).1, rw_size (ts_stash t) 0)).1) ((ts_tgt t) k) B (ts_plan t) (nI k)) ((tr_cE L S t).2) ((lp_ (tr_cSf L S C B (ts_plan t) (ts_tgt t)) k ((tr_cE L S t).1, rw_size (ts_stash t) 0)).2) (ts_trail t) (ts_plan t) (ts_tgt t) (ts_way t) (ts_sought t))) := hD
                  refine lv_iinc (v := nI (k + 1)) (lv' := [(1, .int (nI (k + 1))), (0, .ref (ad 0))]) hx hb d_TR_carryOut_102 hl (k := 0) rfl (nI_1 k) (by decide) rfl (fun ls hl => ?_)
                  refine lv_goto (tgt := 39) hx hb d_TR_carryOut_105 (by decide) ?_
                  exact ih (k + 1) ls H locs (by omega) (by omega) (show va_P (dC, dI) kCl (tw_ cI cJ ad L S C B (ts_mk ((lp_ (tr_cSf L S C B (ts_plan t) (ts_tgt t)) (k + 1) ((tr_cE L S t).1, rw_size (ts_stash t) 0)).1) ((tr_cE L S t).2) ((lp_ (tr_cSf L S C B (ts_plan t) (ts_tgt t)) (k + 1) ((tr_cE L S t).1, rw_size (ts_stash t) 0)).2) (ts_trail t) (ts_plan t) (ts_tgt t) (ts_way t) (ts_sought t))) H by (try rw [show (lp_ (tr_cSf L S C B (ts_plan t) (ts_tgt t)) (k + 1) ((tr_cE L S t).1, rw_size (ts_stash t) 0)) = (rw_copy (tr_nN L S) (lp_ (tr_cSf L S C B (ts_plan t) (ts_tgt t)) k ((tr_cE L S t).1, rw_size (ts_stash t) 0)).1 (ts_tgt t k) B (ts_plan t) (nI k), (lp_ (tr_cSf L S C B (ts_plan t) (ts_tgt t)) k ((tr_cE L S t).1, rw_size (ts_stash t) 0)).2) from if_neg c_4]); exact hP) (show va_D A (tw_ cI cJ ad L S C B (ts_mk ((lp_ (tr_cSf L S C B (ts_plan t) (ts_tgt t)) (k + 1) ((tr_cE L S t).1, rw_size (ts_stash t) 0)).1) ((tr_cE L S t).2) ((lp_ (tr_cSf L S C B (ts_plan t) (ts_tgt t)) (k + 1) ((tr_cE L S t).1, rw_size (ts_stash t) 0)).2) (ts_trail t) (ts_plan t) (ts_tgt t) (ts_way t) (ts_sought t))) by (try rw [show (lp_ (tr_cSf L S C B (ts_plan t) (ts_tgt t)) (k + 1) ((tr_cE L S t).1, rw_size (ts_stash t) 0)) = (rw_copy (tr_nN L S) (lp_ (tr_cSf L S C B (ts_plan t) (ts_tgt t)) k ((tr_cE L S t).1, rw_size (ts_stash t) 0)).1 (ts_tgt t k) B (ts_plan t) (nI k), (lp_ (tr_cSf L S C B (ts_plan t) (ts_tgt t)) k ((tr_cE L S t).1, rw_size (ts_stash t) 0)).2) from if_neg c_4]); exact hD) hS (show lv_has ls 2 [(1, .int (nI (k + 1))), (0, .ref (ad 0))] by (try rw [show (lp_ (tr_cSf L S C B (ts_plan t) (ts_tgt t)) (k + 1) ((tr_cE L S t).1, rw_size (ts_stash t) 0)) = (rw_copy (tr_nN L S) (lp_ (tr_cSf L S C B (ts_plan t) (ts_tgt t)) k ((tr_cE L S t).1, rw_size (ts_stash t) 0)).1 (ts_tgt t k) B (ts_plan t) (nI k), (lp_ (tr_cSf L S C B (ts_plan t) (ts_tgt t)) k ((tr_cE L S t).1, rw_size (ts_stash t) 0)).2) from if_neg c_4]); exact lv_sub hl [0, 1] rfl)
                · refine lv_aload_n hx hb d_TR_carryOut_69 rfl (lv_at hl 1 rfl) ?_
                  refine va_get (D := (dC, dI)) (ci := 2) (v := .ref (ad 6)) (C := R_TR) (T := F_TR) (N := 12) hx hb hT i_TR hown hK hP 0 rfl rfl 6 (by decide) (hT _ m_105) (fun _ h9 => h9) rfl d_TR_carryOut_70 ?_
                  refine lv_aload_n hx hb d_TR_carryOut_73 rfl (lv_at hl 1 rfl) ?_
                  refine va_get (D := (dC, dI)) (ci := 2) (v := .ref (ad 12)) (C := R_TR) (T := F_TR) (N := 12) hx hb hT i_TR hown hK hP 0 rfl rfl 8 (by decide) (hT _ m_109) (fun _ h9 => h9) rfl d_TR_carryOut_74 ?_
                  refine lv_iload_n hx hb d_TR_carryOut_77 rfl (lv_at hl 0 rfl) ?_
                  refine mc_v (va_runV (As := [.ref (ad 12), .int (nI k)]) (rest := []) ⟨hx, hb, hml, hown, hT⟩ (c_RW_append (show rw_in (tw_ cI cJ ad L S C B (ts_mk ((lp_ (tr_cSf L S C B (ts_plan t) (ts_tgt t)) k ((tr_cE L S t).1, rw_size (ts_stash t) 0)).1) ((tr_cE L S t).2) ((lp_ (tr_cSf L S C B (ts_plan t) (ts_tgt t)) k ((tr_cE L S t).1, rw_size (ts_stash t) 0)).2) (ts_trail t) (ts_plan t) (ts_tgt t) (ts_way t) (ts_sought t))) 6 (ad 6) (ad 7) (ad 8) (ad 9) C cI cJ ((lp_ (tr_cSf L S C B (ts_plan t) (ts_tgt t)) k ((tr_cE L S t).1, rw_size (ts_stash t) 0)).2) from ⟨rfl, rfl, rfl, rfl⟩) (tr_C_lt ok) (show rw_in (tw_ cI cJ ad L S C B (ts_mk ((lp_ (tr_cSf L S C B (ts_plan t) (ts_tgt t)) k ((tr_cE L S t).1, rw_size (ts_stash t) 0)).1) ((tr_cE L S t).2) ((lp_ (tr_cSf L S C B (ts_plan t) (ts_tgt t)) k ((tr_cE L S t).1, rw_size (ts_stash t) 0)).2) (ts_trail t) (ts_plan t) (ts_tgt t) (ts_way t) (ts_sought t))) 12 (ad 12) (ad 13) (ad 14) (ad 15) B cI cJ (ts_plan t) from ⟨rfl, rfl, rfl, rfl⟩) (tr_B_lt ok) (by decide) (nI k)) (cwV 2 hT (gi_V m_279 m_276 m_277 m_278 m_26) rfl rfl rfl p_RW_append ⟨Nat.le_of_ble_eq_true rfl, Nat.le_of_ble_eq_true rfl⟩) ⟨mP_blind, va_recv hK hP (ci := 0) (q0 := 6) rfl rfl, mP_pre hK hP hD⟩ rfl rfl hl.1 rfl (lv_room (Nat.le_of_ble_eq_true rfl)) d_TR_carryOut_78 ⟨Nat.le_refl _, Nat.le_refl _⟩) hS (fun H locs hP hD hS => ?_)
                  have hP : va_P (dC, dI) kCl (tw_ cI cJ ad L S C B (ts_mk ((lp_ (tr_cSf L S C B (ts_plan t) (ts_tgt t)) k ((tr_cE L S t).1, rw_size (ts_stash t) 0)).1) ((tr_cE L S t).2) (rw_app C ((lp_ (tr_cSf L S C B (ts_plan t) (ts_tgt t)) k ((tr_cE L S t).1, rw_size (ts_stash t) 0)).2) B (ts_plan t) (nI k)) (ts_trail t) (ts_plan t) (ts_tgt t) (ts_way t) (ts_sought t))) H := hP
                  have hD : va_D A (tw_ cI cJ ad L S C B (ts_mk ((lp_ (tr_cSf L S C B (ts_plan t) (ts_tgt t)) k ((tr_cE L S t).1, rw_size (ts_stash t) 0)).1) ((tr_cE L S t).2) (rw_app C ((lp_ (tr_cSf L S C B (ts_plan t) (ts_tgt t)) k ((tr_cE L S t).1, rw_size (ts_stash t) 0)).2) B (ts_plan t) (nI k)) (ts_trail t) (ts_plan t) (ts_tgt t) (ts_way t) (ts_sought t))) := hD
                  refine lv_goto (tgt := 102) hx hb d_TR_carryOut_81 (by decide) ?_
                  refine lv_iinc (v := nI (k + 1)) (lv' := [(1, .int (nI (k + 1))), (0, .ref (ad 0))]) hx hb d_TR_carryOut_102 hl (k := 0) rfl (nI_1 k) (by decide) rfl (fun ls hl => ?_)
                  refine lv_goto (tgt := 39) hx hb d_TR_carryOut_105 (by decide) ?_
                  exact ih (k + 1) ls H locs (by omega) (by omega) (show va_P (dC, dI) kCl (tw_ cI cJ ad L S C B (ts_mk ((lp_ (tr_cSf L S C B (ts_plan t) (ts_tgt t)) (k + 1) ((tr_cE L S t).1, rw_size (ts_stash t) 0)).1) ((tr_cE L S t).2) ((lp_ (tr_cSf L S C B (ts_plan t) (ts_tgt t)) (k + 1) ((tr_cE L S t).1, rw_size (ts_stash t) 0)).2) (ts_trail t) (ts_plan t) (ts_tgt t) (ts_way t) (ts_sought t))) H by (try rw [show (lp_ (tr_cSf L S C B (ts_plan t) (ts_tgt t)) (k + 1) ((tr_cE L S t).1, rw_size (ts_stash t) 0)) = ((lp_ (tr_cSf L S C B (ts_plan t) (ts_tgt t)) k ((tr_cE L S t).1, rw_size (ts_stash t) 0)).1, rw_app C (lp_ (tr_cSf L S C B (ts_plan t) (ts_tgt t)) k ((tr_cE L S t).1, rw_size (ts_stash t) 0)).2 B (ts_plan t) (nI k)) from if_pos c_4]); exact hP) (show va_D A (tw_ cI cJ ad L S C B (ts_mk ((lp_ (tr_cSf L S C B (ts_plan t) (ts_tgt t)) (k + 1) ((tr_cE L S t).1, rw_size (ts_stash t) 0)).1) ((tr_cE L S t).2) ((lp_ (tr_cSf L S C B (ts_plan t) (ts_tgt t)) (k + 1) ((tr_cE L S t).1, rw_size (ts_stash t) 0)).2) (ts_trail t) (ts_plan t) (ts_tgt t) (ts_way t) (ts_sought t))) by (try rw [show (lp_ (tr_cSf L S C B (ts_plan t) (ts_tgt t)) (k + 1) ((tr_cE L S t).1, rw_size (ts_stash t) 0)) = ((lp_ (tr_cSf L S C B (ts_plan t) (ts_tgt t)) k ((tr_cE L S t).1, rw_size (ts_stash t) 0)).1, rw_app C (lp_ (tr_cSf L S C B (ts_plan t) (ts_tgt t)) k ((tr_cE L S t).1, rw_size (ts_stash t) 0)).2 B (ts_plan t) (nI k)) from if_pos c_4]); exact hD) hS (show lv_has ls 2 [(1, .int (nI (k + 1))), (0, .ref (ad 0))] by (try rw [show (lp_ (tr_cSf L S C B (ts_plan t) (ts_tgt t)) (k + 1) ((tr_cE L S t).1, rw_size (ts_stash t) 0)) = ((lp_ (tr_cSf L S C B (ts_plan t) (ts_tgt t)) k ((tr_cE L S t).1, rw_size (ts_stash t) 0)).1, rw_app C (lp_ (tr_cSf L S C B (ts_plan t) (ts_tgt t)) k ((tr_cE L S t).1, rw_size (ts_stash t) 0)).2 B (ts_plan t) (nI k)) from if_pos c_4]); exact lv_sub hl [0, 1] rfl)
        exact lp ((rw_cnt B (ts_plan t).2.2.2) + 1) 0 ls _ _ (by omega) (Nat.zero_le _) hP hD hS (lv_sub hl [0, 1] rfl)
      · have hlt : k < L + 1 := Nat.lt_of_not_le fun h9 => c_1 (nI_lt h9 (by have := ok.2.1; omega))
        refine lv_aload_n hx hb d_TR_carryOut_10 rfl (lv_at hl 1 rfl) ?_
        refine lv_aload_n hx hb d_TR_carryOut_11 rfl (lv_at hl 1 rfl) ?_
        refine lv_aload_n hx hb d_TR_carryOut_12 rfl (lv_at hl 1 rfl) ?_
        refine va_get (D := (dC, dI)) (ci := 2) (v := .int (ts_way t)) (C := R_TR) (T := F_TR) (N := 12) hx hb hT i_TR hown hK hP 0 rfl rfl 10 (by decide) (hT _ m_111) (fun _ h9 => h9) rfl d_TR_carryOut_13 ?_
        refine lv_iload_n hx hb d_TR_carryOut_16 rfl (lv_at hl 0 rfl) ?_
        refine zc_i (va_runV (As := [.int (ts_way t), .int (nI k)]) (rest := [.ref (ad 0)]) ⟨hx, hb, hml, hown, hT⟩ (c_TR_nodeOnWay (t := ts_mk ((lp_ (tr_cEf L S (ts_way t)) k (ts_nodes t, ts_cnts t)).1) ((lp_ (tr_cEf L S (ts_way t)) k (ts_nodes t, ts_cnts t)).2) (ts_stash t) (ts_trail t) (ts_plan t) (ts_tgt t) (ts_way t) (ts_sought t)) ok hP (ts_way t) (nI k)) (cwV 2 hT (gi_V m_307 m_304 m_306 m_3 m_24) rfl rfl rfl p_TR_nodeOnWay ⟨Nat.le_of_ble_eq_true rfl, Nat.le_of_ble_eq_true rfl⟩) ⟨zP_blind, va_recv hK hP (ci := 2) (q0 := 0) rfl rfl, zP_pre hK⟩ rfl rfl hl.1 rfl (lv_room (Nat.le_of_ble_eq_true rfl)) d_TR_carryOut_17 ⟨Nat.le_refl _, Nat.le_refl _⟩) hS (fun locs hS => ?_)
        refine mc_v (va_runV (As := [.int (tr_way L (ts_way t) (nI k))]) (rest := []) ⟨hx, hb, hml, hown, hT⟩ (c_TR_emptyNode (t := ts_mk ((lp_ (tr_cEf L S (ts_way t)) k (ts_nodes t, ts_cnts t)).1) ((lp_ (tr_cEf L S (ts_way t)) k (ts_nodes t, ts_cnts t)).2) (ts_stash t) (ts_trail t) (ts_plan t) (ts_tgt t) (ts_way t) (ts_sought t)) ok (tr_way L (ts_way t) (nI k))) (cwV 1 hT (gi_V m_372 m_369 m_371 m_7 m_24) rfl rfl rfl p_TR_emptyNode ⟨Nat.le_of_ble_eq_true rfl, Nat.le_of_ble_eq_true rfl⟩) ⟨mP_blind, va_recv hK hP (ci := 2) (q0 := 0) rfl rfl, mP_pre hK hP hD⟩ rfl rfl hl.1 rfl (lv_room (Nat.le_of_ble_eq_true rfl)) d_TR_carryOut_20 ⟨Nat.le_refl _, Nat.le_refl _⟩) hS (fun H locs hP hD hS => ?_)
        have hP : va_P (dC, dI) kCl (tw_ cI cJ ad L S C B (ts_mk ((tr_eN L S (tr_way L (ts_way t) (nI k)) ((lp_ (tr_cEf L S (ts_way t)) k (ts_nodes t, ts_cnts t)).1, (lp_ (tr_cEf L S (ts_way t)) k (ts_nodes t, ts_cnts t)).2)).1) ((tr_eN L S (tr_way L (ts_way t) (nI k)) ((lp_ (tr_cEf L S (ts_way t)) k (ts_nodes t, ts_cnts t)).1, (lp_ (tr_cEf L S (ts_way t)) k (ts_nodes t, ts_cnts t)).2)).2) (ts_stash t) (ts_trail t) (ts_plan t) (ts_tgt t) (ts_way t) (ts_sought t))) H := hP
        have hD : va_D A (tw_ cI cJ ad L S C B (ts_mk ((tr_eN L S (tr_way L (ts_way t) (nI k)) ((lp_ (tr_cEf L S (ts_way t)) k (ts_nodes t, ts_cnts t)).1, (lp_ (tr_cEf L S (ts_way t)) k (ts_nodes t, ts_cnts t)).2)).1) ((tr_eN L S (tr_way L (ts_way t) (nI k)) ((lp_ (tr_cEf L S (ts_way t)) k (ts_nodes t, ts_cnts t)).1, (lp_ (tr_cEf L S (ts_way t)) k (ts_nodes t, ts_cnts t)).2)).2) (ts_stash t) (ts_trail t) (ts_plan t) (ts_tgt t) (ts_way t) (ts_sought t))) := hD
        refine lv_iinc (v := nI (k + 1)) (lv' := [(1, .int (nI (k + 1))), (0, .ref (ad 0))]) hx hb d_TR_carryOut_23 hl (k := 0) rfl (nI_1 k) (by decide) rfl (fun ls hl => ?_)
        refine lv_goto (tgt := 2) hx hb d_TR_carryOut_26 (by decide) ?_
        exact ih (k + 1) ls H locs (by omega) (by omega) (show va_P (dC, dI) kCl (tw_ cI cJ ad L S C B (ts_mk ((lp_ (tr_cEf L S (ts_way t)) (k + 1) (ts_nodes t, ts_cnts t)).1) ((lp_ (tr_cEf L S (ts_way t)) (k + 1) (ts_nodes t, ts_cnts t)).2) (ts_stash t) (ts_trail t) (ts_plan t) (ts_tgt t) (ts_way t) (ts_sought t))) H by exact hP) (show va_D A (tw_ cI cJ ad L S C B (ts_mk ((lp_ (tr_cEf L S (ts_way t)) (k + 1) (ts_nodes t, ts_cnts t)).1) ((lp_ (tr_cEf L S (ts_way t)) (k + 1) (ts_nodes t, ts_cnts t)).2) (ts_stash t) (ts_trail t) (ts_plan t) (ts_tgt t) (ts_way t) (ts_sought t))) by exact hD) hS (show lv_has ls 2 [(1, .int (nI (k + 1))), (0, .ref (ad 0))] by exact lv_sub hl [0, 1] rfl)
  exact lp ((L + 1) + 1) 0 ls _ _ (by omega) (Nat.zero_le _) hP hD hS (lv_sub hl [0, 1] rfl)
end
section
-- constructors
theorem va_ca {D : va_G} {cl : List vw_C} {tys : List (ClassId × FieldType)} {s : State} {c1 c2 : ClassId} (hK : va_K D cl tys s) {i j : Nat} (h1 : tys[i]? = some (c1, .int)) (h2 : tys[j]? = some (c2, .int)) : c1 = c2 := by
  have e1 : s.vm.findClass ("[" ++ FieldType.int.toString) = some c1 := (hK.2 i _ h1).2
  have e2 : s.vm.findClass ("[" ++ FieldType.int.toString) = some c2 := (hK.2 j _ h2).2
  exact Option.some.inj (e1.symm.trans e2)
theorem va_caL {D : va_G} {cl : List vw_C} {tys : List (ClassId × FieldType)} {s : State} {c1 c2 : ClassId} (hK : va_K D cl tys s) {i j : Nat} (h1 : tys[i]? = some (c1, .long)) (h2 : tys[j]? = some (c2, .long)) : c1 = c2 := by
  have e1 : s.vm.findClass ("[" ++ FieldType.long.toString) = some c1 := (hK.2 i _ h1).2
  have e2 : s.vm.findClass ("[" ++ FieldType.long.toString) = some c2 := (hK.2 j _ h2).2
  exact Option.some.inj (e1.symm.trans e2)
abbrev nestW : Cond := .methodLinkNest "CoinTree$Tree" 11 y_TL_init "CoinTree"
/-- the start of a constructor: the world, the heap's size -/
def iP (D : va_G) (cl : List vw_C) (tys : List (ClassId × FieldType)) (av : List Value) (ws : va_W) (sz : Nat) : Array Value → State → Prop := va_Pc av (fun U => U.heap.size = sz ∧ va_P D cl ws U.heap ∧ va_K D cl tys U ∧ va_D (fun _ => True) ws ∧ va_Nw nestW U)
theorem iP_blind {D : va_G} {cl : List vw_C} {tys : List (ClassId × FieldType)} {av : List Value} {ws : va_W} {sz : Nat} : FrameBlind (iP D cl tys av ws sz) := fun a U g mk q => by
  obtain ⟨q0, q1, q2, qK, qD, qN⟩ := q
  exact ⟨q0, q1, q2, va_K.moved (u := U) (U := U.calling g mk a) (Vm.Alike.refl U.vm) qK, qD, va_Nw.same rfl (u := U) (U := U.calling g mk a) rfl qN⟩
theorem iP_pre {D : va_G} {cl : List vw_C} {tys : List (ClassId × FieldType)} {av : List Value} {ws : va_W} {s : State} {H : Heap} {A : Nat → Prop} (hK : va_K D cl tys s) (hP : va_P D cl ws H) (hD : va_D A ws) (hN : va_Nw nestW s) : ∀ U : State, U.heap = H → s.WarmedH U.vm → iP D cl tys av ws H.size av.toArray U := fun _ hU hW => ⟨rfl, by rw [hU], by rw [hU]; exact hP, va_K.moved hW.alike hK, hD.weaken (fun _ _ _ _ => trivial), va_Nw.warmM hW hN⟩
/-- the end of a constructor: the world of some addresses u -/
def iQ (D : va_G) (cl : List vw_C) (f : (Nat → Nat) → va_W) (A : Nat → Prop) : Array Value → State → Outcome → State → Prop := va_Qv (fun (_ : Nat → Nat) => True) (fun u t => va_P D cl (f u) t.heap ∧ va_D A (f u)) A
theorem iQ_end {D : va_G} {cl : List vw_C} {f : (Nat → Nat) → va_W} {ws : va_W} {A : Nat → Prop} {a : Array Value} {s t : State} {H : Heap} {locs : List Loc} (u : Nat → Nat) (e : ws = f u) (hP : va_P D cl ws H) (hD : va_D A ws) (hS : va_S A s.heap H locs) (ht : t.heap = H) : iQ D cl f A a s (.returned none) t := by
  subst e
  exact ⟨⟨u, rfl, trivial, by rw [ht]; exact hP, hD⟩, hS.F ht⟩
theorem Met.ofI {l : Launch} {y : MethodName} {rm : Room} {Pc : Array Value → State → Prop} {Qc : Array Value → State → Outcome → State → Prop} {mc ms : Nat} {free : Addr → Prop} {cc : ByteArray} {maxL : Nat} {own : String} (hy : plainName y.cls = true) (ho : y.cls = own) (hn : y.name = "<init>") (av : List Value) (hav : (lg_sl av).length ≤ maxL)
    (hav2 : ∀ (v : Array Value) (U : State), Pc v U → v = av.toArray)
    (body : ∀ (p : Program) (e : Env) (s : State) (m : MethodId) (below : List Frame) (meth : Method) (c : Code) (ls : Array Slot), zAt p s m av.toArray meth c own cc maxL none → meth.name = "<init>" → Pc av.toArray s → lv_has ls maxL (lv_args 0 av) →
      W p l e rm s m av.toArray below meth c s.heap [] 0 0 (MQ below Qc av.toArray s mc ms free) (F0 m 0 ls [])) : Met l y (Cond.code y cc maxL none :: bw) rm Pc Qc mc ms free := by
  refine Met.ofW (cc := cc) (maxL := maxL) (ret := none) hy rfl ?_
  intro p e s m args below meth c s₁ B hml hv
  have h0 := hav2 _ _ hv
  subst h0
  rw [lg_entry_eq]
  have hT := atoms_spec (ws := Cond.code y cc maxL none :: bw) B.pre
  exact body p e s m below meth c _ ⟨B.exec, B.bytes, B.returns, hml, by rw [← ho]; exact findClass_of_methodNamed B.named, fun w h => hT w (.tail _ h), B.notSynchronized⟩ ((name_of_methodNamed B.named B.method).1.trans hn) hv (lv_entry av hav)
theorem max0_nI (n : Nat) (h : n < 2 ^ 31) : (if (0 : Int32) < nI n then nI n else 0) = nI n := by
  by_cases h0 : n = 0
  · subst h0; rfl
  · rw [if_pos]
    rw [← nI_0]
    exact nI_lt (by omega) h

def rw_z : Rw := (fun _ => 0, fun _ => 0, fun _ => 0, 0)
def ts_z : Ts := ts_mk rw_z (fun _ => 0) rw_z (fun _ => 0, 0) rw_z (fun _ => 0) 0 0
theorem tr_shl {L : Nat} (h : L ≤ 5) : (1 : Int32) <<< (nI L &&& 31) = nI (2 ^ L) := by
  rcases (show L = 0 ∨ L = 1 ∨ L = 2 ∨ L = 3 ∨ L = 4 ∨ L = 5 by omega) with rfl | rfl | rfl | rfl | rfl | rfl <;> decide +kernel
theorem tr_nNI (L S : Nat) : (2 : Int32) * nI (2 ^ L) * nI S = nI (tr_nN L S) := by rw [show (2 : Int32) = nI 2 from rfl, pk_mul, pk_mul]; rfl
theorem tr_2NI (L : Nat) : (2 : Int32) * nI (2 ^ L) = nI (2 * 2 ^ L) := by rw [show (2 : Int32) = nI 2 from rfl, pk_mul]
theorem tr_nN_le {L S C B : Nat} (h : tr_ok L S C B) : tr_nN L S ≤ 256 := by
  obtain ⟨-, h1, -, h2, -, -⟩ := h
  have h3 := tr_p2 h1
  exact Nat.mul_le_mul (show 2 * 2 ^ L ≤ 64 by omega) h2
end
section
set_option maxHeartbeats 4000000 in
set_option maxRecDepth 100000 in
/-- Row(length) -/
theorem c_RW_init {l : Launch} {dC : Nat → ClassId} {dI : Nat → Nat → Nat} {cI cJ : ClassId} (sz : Nat) (h n : Nat) (hn : n ≤ 256) : Met l y_RW_init (k_RW_init :: bw) { frames := 1, cells := 3, slots := 768, locals := 21 } (iP (dC, dI) kCl [(cI, .int), (cJ, .long)] [.ref h, .int (nI n)] [(h, .inr (0, [.null, .null, .null, .int 0]))] sz) (iQ (dC, dI) kCl (fun u => [(h, .inr (0, [.ref (u 1), .ref (u 2), .ref (u 3), .int 0])), (u 1, .inl (cI, n, .inl (fun _ => 0))), (u 2, .inl (cI, n, .inl (fun _ => 0))), (u 3, .inl (cJ, n, .inr (.inl (fun _ => 0))))]) (va_A [(h, .inr (0, [.null, .null, .null, .int 0]))] sz)) 3 768 (va_A [(h, .inr (0, [.null, .null, .null, .int 0]))] sz) := by
  refine Met.ofI (own := "CoinTree$Row") (by decide) rfl rfl [.ref h, .int (nI n)] (Nat.le_of_ble_eq_true rfl) (fun _ _ h => h.1) ?_
  intro p e s m below meth c ls C0 hin hv hl
  obtain ⟨hx, hb, hr, hml, hown, hT, hlocks⟩ := C0
  obtain ⟨-, hsz, hP, hK, hD0, hNw⟩ := hv
  subst hsz
  have hD := hD0.self (sz := s.heap.size)
  generalize hAe : va_A [(h, .inr (0, [.null, .null, .null, .int 0]))] s.heap.size = A at hD ⊢
  have hA : ∀ q : Nat, s.heap.size ≤ q → A q := fun q h => by rw [← hAe]; exact Or.inr h
  have hS : va_S A s.heap s.heap [] := va_S.rf
  have hl : lv_has ls 3 [(0, .ref h), (1, .int (nI n))] := hl
  refine lv_aload_n hx hb d_RW_init_0 rfl (lv_at hl 0 rfl) ?_
  refine W.objInit hx hb hown (hT _ m_80) (hT _ m_40) (hT _ m_41) rfl (by rw [hml]; exact hl.1) rfl d_RW_init_1 (Nat.le_of_ble_eq_true rfl) (Nat.le_of_ble_eq_true rfl) ?_
  refine W.eq (g2 := F0 m 4 ls []) rfl ?_
  refine lv_iconst (v := 0) hx hb d_RW_init_4 (by decide) ?_
  refine lv_iload_n hx hb d_RW_init_5 rfl (lv_at hl 1 rfl) ?_
  refine va_mmax hx hb (hml.trans hl.1.symm) hown (hT _ m_81) (hT _ m_49) (hT _ m_23) (hT _ m_50) (Nat.le_of_ble_eq_true rfl) (Nat.le_of_ble_eq_true rfl) (Nat.zero_le _) (Nat.zero_le _) d_RW_init_6 ?_
  refine W.eq (g2 := F0 m 9 ls [.int (nI n)]) (by rw [max0_nI n (show n < 2 ^ 31 by omega)]) ?_
  refine lv_istore_n (lv' := [(2, .int (nI n)), (0, .ref h), (1, .int (nI n))]) hx hb d_RW_init_9 rfl hl (by decide) rfl (fun ls hl => ?_)
  refine lv_aload_n hx hb d_RW_init_10 rfl (lv_at hl 1 rfl) ?_
  refine lv_iload_n hx hb d_RW_init_11 rfl (lv_at hl 0 rfl) ?_
  refine va_newa (atype := .int) (ty := .int) (a0 := (n, .inl (fun _ => 0))) (N' := n) hx hb (hT _ m_74) rfl hK hP hD hS hA (fun _ => rfl) (nI_pos (show n < 2 ^ 31 by omega)) (nI_clamp (show n < 2 ^ 31 by omega)) (by show _ * 4 ≤ 536870912; have := hn; omega) (by decide) (by show _ ≤ 768; have := hn; omega) d_RW_init_12 (fun q_1 cA H hK2 hP hD hS => ?_)
  have hc9 : cI = cA := va_ca hK2 (i := 0) (j := 2) rfl rfl
  subst hc9
  have hP : va_P (dC, dI) kCl [(h, .inr (0, [.null, .null, .null, .int 0])), (q_1, .inl (cI, n, .inl (fun _ => 0)))] H := hP
  have hD : va_D A [(h, .inr (0, [.null, .null, .null, .int 0])), (q_1, .inl (cI, n, .inl (fun _ => 0)))] := hD
  refine W.widen (k := 1) (n := 256) (by decide) (by have := hn; omega) ?_
  refine va_putF (D := (dC, dI)) (ci := 0) (v := .ref q_1) (ty := (.array .int)) (C := R_RW) (T := F_RW) (N := 4) hx hb hT i_RW t_RW t_RW_ok n_RW hown hK hP hD hS 0 rfl rfl 0 (by decide) (hT _ m_82) (fun _ h9 => h9) rfl hin rfl (by decide +kernel) rfl rfl (Nat.le_of_ble_eq_true rfl) d_RW_init_14 (fun H locs hP hD hS => ?_)
  have hP : va_P (dC, dI) kCl [(h, .inr (0, [.ref q_1, .null, .null, .int 0])), (q_1, .inl (cI, n, .inl (fun _ => 0)))] H := hP
  have hD : va_D A [(h, .inr (0, [.ref q_1, .null, .null, .int 0])), (q_1, .inl (cI, n, .inl (fun _ => 0)))] := hD
  refine lv_aload_n hx hb d_RW_init_17 rfl (lv_at hl 1 rfl) ?_
  refine lv_iload_n hx hb d_RW_init_18 rfl (lv_at hl 0 rfl) ?_
  refine va_newa (atype := .int) (ty := .int) (a0 := (n, .inl (fun _ => 0))) (N' := n) hx hb (hT _ m_74) rfl hK hP hD hS hA (fun _ => rfl) (nI_pos (show n < 2 ^ 31 by omega)) (nI_clamp (show n < 2 ^ 31 by omega)) (by show _ * 4 ≤ 536870912; have := hn; omega) (by decide) (by show _ ≤ 768; have := hn; omega) d_RW_init_19 (fun q_2 cA H hK2 hP hD hS => ?_)
  have hc9 : cI = cA := va_ca hK2 (i := 0) (j := 2) rfl rfl
  subst hc9
  have hP : va_P (dC, dI) kCl [(h, .inr (0, [.ref q_1, .null, .null, .int 0])), (q_1, .inl (cI, n, .inl (fun _ => 0))), (q_2, .inl (cI, n, .inl (fun _ => 0)))] H := hP
  have hD : va_D A [(h, .inr (0, [.ref q_1, .null, .null, .int 0])), (q_1, .inl (cI, n, .inl (fun _ => 0))), (q_2, .inl (cI, n, .inl (fun _ => 0)))] := hD
  refine W.widen (k := 2) (n := 512) (by decide) (by have := hn; omega) ?_
  refine va_putF (D := (dC, dI)) (ci := 0) (v := .ref q_2) (ty := (.array .int)) (C := R_RW) (T := F_RW) (N := 4) hx hb hT i_RW t_RW t_RW_ok n_RW hown hK hP hD hS 0 rfl rfl 1 (by decide) (hT _ m_83) (fun _ h9 => h9) rfl hin rfl (by decide +kernel) rfl rfl (Nat.le_of_ble_eq_true rfl) d_RW_init_21 (fun H locs hP hD hS => ?_)
  have hP : va_P (dC, dI) kCl [(h, .inr (0, [.ref q_1, .ref q_2, .null, .int 0])), (q_1, .inl (cI, n, .inl (fun _ => 0))), (q_2, .inl (cI, n, .inl (fun _ => 0)))] H := hP
  have hD : va_D A [(h, .inr (0, [.ref q_1, .ref q_2, .null, .int 0])), (q_1, .inl (cI, n, .inl (fun _ => 0))), (q_2, .inl (cI, n, .inl (fun _ => 0)))] := hD
  refine lv_aload_n hx hb d_RW_init_24 rfl (lv_at hl 1 rfl) ?_
  refine lv_iload_n hx hb d_RW_init_25 rfl (lv_at hl 0 rfl) ?_
  refine va_newa (atype := .long) (ty := .long) (a0 := (n, .inr (.inl (fun _ => 0)))) (N' := n) hx hb (hT _ m_97) rfl hK hP hD hS hA (fun _ => rfl) (nI_pos (show n < 2 ^ 31 by omega)) (nI_clamp (show n < 2 ^ 31 by omega)) (by show _ * 8 ≤ 536870912; have := hn; omega) (by decide) (by show _ ≤ 768; have := hn; omega) d_RW_init_26 (fun q_3 cA H hK2 hP hD hS => ?_)
  have hc9 : cJ = cA := va_caL hK2 (i := 1) (j := 2) rfl rfl
  subst hc9
  have hP : va_P (dC, dI) kCl [(h, .inr (0, [.ref q_1, .ref q_2, .null, .int 0])), (q_1, .inl (cI, n, .inl (fun _ => 0))), (q_2, .inl (cI, n, .inl (fun _ => 0))), (q_3, .inl (cJ, n, .inr (.inl (fun _ => 0))))] H := hP
  have hD : va_D A [(h, .inr (0, [.ref q_1, .ref q_2, .null, .int 0])), (q_1, .inl (cI, n, .inl (fun _ => 0))), (q_2, .inl (cI, n, .inl (fun _ => 0))), (q_3, .inl (cJ, n, .inr (.inl (fun _ => 0))))] := hD
  refine W.widen (k := 3) (n := 768) (by decide) (by have := hn; omega) ?_
  refine va_putF (D := (dC, dI)) (ci := 0) (v := .ref q_3) (ty := (.array .long)) (C := R_RW) (T := F_RW) (N := 4) hx hb hT i_RW t_RW t_RW_ok n_RW hown hK hP hD hS 0 rfl rfl 2 (by decide) (hT _ m_84) (fun _ h9 => h9) rfl hin rfl (by decide +kernel) rfl rfl (Nat.le_of_ble_eq_true rfl) d_RW_init_28 (fun H locs hP hD hS => ?_)
  have hP : va_P (dC, dI) kCl [(h, .inr (0, [.ref q_1, .ref q_2, .ref q_3, .int 0])), (q_1, .inl (cI, n, .inl (fun _ => 0))), (q_2, .inl (cI, n, .inl (fun _ => 0))), (q_3, .inl (cJ, n, .inr (.inl (fun _ => 0))))] H := hP
  have hD : va_D A [(h, .inr (0, [.ref q_1, .ref q_2, .ref q_3, .int 0])), (q_1, .inl (cI, n, .inl (fun _ => 0))), (q_2, .inl (cI, n, .inl (fun _ => 0))), (q_3, .inl (cJ, n, .inr (.inl (fun _ => 0))))] := hD
  have hP9 := hP.sub (ws' := [(h, .inr (0, [.ref q_1, .ref q_2, .ref q_3, .int 0])), (q_1, .inl (cI, n, .inl (fun _ => 0))), (q_2, .inl (cI, n, .inl (fun _ => 0))), (q_3, .inl (cJ, n, .inr (.inl (fun _ => 0))))]) [0, 1, 2, 3] rfl
  have hD9 := hD.sub (ws' := [(h, .inr (0, [.ref q_1, .ref q_2, .ref q_3, .int 0])), (q_1, .inl (cI, n, .inl (fun _ => 0))), (q_2, .inl (cI, n, .inl (fun _ => 0))), (q_3, .inl (cJ, n, .inr (.inl (fun _ => 0))))]) [0, 1, 2, 3] (by decide) rfl
  refine W.widen (k := 3) (n := 768) (by decide) (by first | exact Nat.le_refl _ | omega) ?_
  exact W.vret hx hb hr (fun t9 ht _ => iQ_end (fun k => if k = 1 then q_1 else if k = 2 then q_2 else q_3) rfl hP9 hD9 hS ht) hS.2.2 d_RW_init_31 hlocks

set_option maxHeartbeats 4000000 in
set_option maxRecDepth 100000 in
/-- Trail() -/
theorem c_TL_init {l : Launch} {dC : Nat → ClassId} {dI : Nat → Nat → Nat} {cI cJ : ClassId} (sz : Nat) (h n : Nat) (hn : n = 600) : Met l y_TL_init (k_TL_init :: bw) { frames := 1, cells := 1, slots := 600, locals := 20 } (iP (dC, dI) kCl [(cI, .int), (cJ, .long)] [.ref h] [(h, .inr (1, [.null, .int 0, .int 0]))] sz) (iQ (dC, dI) kCl (fun u => [(h, .inr (1, [.ref (u 1), .int 0, .int 0])), (u 1, .inl (cI, n, .inl (fun _ => 0)))]) (va_A [(h, .inr (1, [.null, .int 0, .int 0]))] sz)) 1 600 (va_A [(h, .inr (1, [.null, .int 0, .int 0]))] sz) := by
  refine Met.ofI (own := "CoinTree$Trail") (by decide) rfl rfl [.ref h] (Nat.le_of_ble_eq_true rfl) (fun _ _ h => h.1) ?_
  intro p e s m below meth c ls C0 hin hv hl
  obtain ⟨hx, hb, hr, hml, hown, hT, hlocks⟩ := C0
  obtain ⟨-, hsz, hP, hK, hD0, hNw⟩ := hv
  subst hsz
  have hD := hD0.self (sz := s.heap.size)
  generalize hAe : va_A [(h, .inr (1, [.null, .int 0, .int 0]))] s.heap.size = A at hD ⊢
  have hA : ∀ q : Nat, s.heap.size ≤ q → A q := fun q h => by rw [← hAe]; exact Or.inr h
  have hS : va_S A s.heap s.heap [] := va_S.rf
  have hl : lv_has ls 1 [(0, .ref h)] := hl
  refine lv_aload_n hx hb d_TL_init_0 rfl (lv_at hl 0 rfl) ?_
  refine W.objInit hx hb hown (hT _ m_62) (hT _ m_40) (hT _ m_41) rfl (by rw [hml]; exact hl.1) rfl d_TL_init_1 (Nat.le_of_ble_eq_true rfl) (Nat.le_of_ble_eq_true rfl) ?_
  refine W.eq (g2 := F0 m 4 ls []) rfl ?_
  refine lv_aload_n hx hb d_TL_init_4 rfl (lv_at hl 0 rfl) ?_
  refine lv_sipush (v := 600) hx hb d_TL_init_5 (by decide) ?_
  refine W.eq (g2 := F0 m 8 ls [.int (nI n), .ref h]) (by rw [hn]; rfl) ?_
  refine va_newa (atype := .int) (ty := .int) (a0 := (n, .inl (fun _ => 0))) (N' := n) hx hb (hT _ m_74) rfl hK hP hD hS hA (fun _ => rfl) (nI_pos (show n < 2 ^ 31 by omega)) (nI_clamp (show n < 2 ^ 31 by omega)) (by show _ * 4 ≤ 536870912; have := hn; omega) (by decide) (by show _ ≤ 600; have := hn; omega) d_TL_init_8 (fun q_1 cA H hK2 hP hD hS => ?_)
  have hc9 : cI = cA := va_ca hK2 (i := 0) (j := 2) rfl rfl
  subst hc9
  have hP : va_P (dC, dI) kCl [(h, .inr (1, [.null, .int 0, .int 0])), (q_1, .inl (cI, n, .inl (fun _ => 0)))] H := hP
  have hD : va_D A [(h, .inr (1, [.null, .int 0, .int 0])), (q_1, .inl (cI, n, .inl (fun _ => 0)))] := hD
  refine W.widen (k := 1) (n := 600) (by decide) (by have := hn; omega) ?_
  refine va_putF (D := (dC, dI)) (ci := 1) (v := .ref q_1) (ty := (.array .int)) (C := R_TL) (T := F_TL) (N := 3) hx hb hT i_TL t_TL t_TL_ok n_TL hown hK hP hD hS 0 rfl rfl 0 (by decide) (hT _ m_63) (fun _ h9 => h9) rfl hin rfl (by decide +kernel) rfl rfl (Nat.le_of_ble_eq_true rfl) d_TL_init_10 (fun H locs hP hD hS => ?_)
  have hP : va_P (dC, dI) kCl [(h, .inr (1, [.ref q_1, .int 0, .int 0])), (q_1, .inl (cI, n, .inl (fun _ => 0)))] H := hP
  have hD : va_D A [(h, .inr (1, [.ref q_1, .int 0, .int 0])), (q_1, .inl (cI, n, .inl (fun _ => 0)))] := hD
  have hP9 := hP.sub (ws' := [(h, .inr (1, [.ref q_1, .int 0, .int 0])), (q_1, .inl (cI, n, .inl (fun _ => 0)))]) [0, 1] rfl
  have hD9 := hD.sub (ws' := [(h, .inr (1, [.ref q_1, .int 0, .int 0])), (q_1, .inl (cI, n, .inl (fun _ => 0)))]) [0, 1] (by decide) rfl
  refine W.widen (k := 1) (n := 600) (by decide) (by first | exact Nat.le_refl _ | omega) ?_
  exact W.vret hx hb hr (fun t9 ht _ => iQ_end (fun _ => q_1) rfl hP9 hD9 hS ht) hS.2.2 d_TL_init_13 hlocks
end
section
set_option maxHeartbeats 4000000 in
set_option maxRecDepth 100000 in
/-- Tree(..) -/
theorem c_TR_init {l : Launch} {dC : Nat → ClassId} {dI : Nat → Nat → Nat} {cI cJ : ClassId} (sz : Nat) (h : Nat) {L S C B : Nat} (ok : tr_ok L S C B) : Met l y_TR_init (k_TR_init :: bw) { frames := 2, cells := 16, slots := 3047, locals := 43 } (iP (dC, dI) kCl [(cI, .int), (cJ, .long)] [.ref h, .int (nI L), .int (nI S), .int (nI C), .int (nI B)] [(h, .inr (2, [.int 0, .int 0, .int 0, .int 0, .null, .null, .null, .null, .null, .null, .int 0, .int 0]))] sz) (iQ (dC, dI) kCl (fun u => tw_ cI cJ (fun k => if k = 0 then h else u k) L S C B ts_z) (va_A [(h, .inr (2, [.int 0, .int 0, .int 0, .int 0, .null, .null, .null, .null, .null, .null, .int 0, .int 0]))] sz)) 16 3047 (va_A [(h, .inr (2, [.int 0, .int 0, .int 0, .int 0, .null, .null, .null, .null, .null, .null, .int 0, .int 0]))] sz) := by
  refine Met.ofI (own := "CoinTree$Tree") (by decide) rfl rfl [.ref h, .int (nI L), .int (nI S), .int (nI C), .int (nI B)] (Nat.le_of_ble_eq_true rfl) (fun _ _ h => h.1) ?_
  intro p e s m below meth c ls C0 hin hv hl
  obtain ⟨hx, hb, hr, hml, hown, hT, hlocks⟩ := C0
  obtain ⟨-, hsz, hP, hK, hD0, hNw⟩ := hv
  subst hsz
  have hD := hD0.self (sz := s.heap.size)
  generalize hAe : va_A [(h, .inr (2, [.int 0, .int 0, .int 0, .int 0, .null, .null, .null, .null, .null, .null, .int 0, .int 0]))] s.heap.size = A at hD ⊢
  have hA : ∀ q : Nat, s.heap.size ≤ q → A q := fun q h => by rw [← hAe]; exact Or.inr h
  have hS : va_S A s.heap s.heap [] := va_S.rf
  have hl : lv_has ls 5 [(0, .ref h), (1, .int (nI L)), (2, .int (nI S)), (3, .int (nI C)), (4, .int (nI B))] := hl
  have h2L : 2 * 2 ^ L ≤ 64 := by have := tr_p2 ok.2.1; omega
  have hB : B ≤ 64 := ok.2.2.2.2.2
  have hC : C ≤ 40 := ok.2.2.2.2.1
  refine lv_aload_n hx hb d_TR_init_0 rfl (lv_at hl 0 rfl) ?_
  refine W.objInit hx hb hown (hT _ m_56) (hT _ m_40) (hT _ m_41) rfl (by rw [hml]; exact hl.1) rfl d_TR_init_1 (Nat.le_of_ble_eq_true rfl) (Nat.le_of_ble_eq_true rfl) ?_
  refine W.eq (g2 := F0 m 4 ls []) rfl ?_
  refine lv_aload_n hx hb d_TR_init_4 rfl (lv_at hl 0 rfl) ?_
  refine va_new (ci := 1) (fs := [.null, .int 0, .int 0]) (C := R_TL) (T := F_TL) (N := 3) hx hb hT i_TL t_TL t_TL_ok hown (hT _ m_57) (hT _ m_58) (hT _ m_25) hK hP hD hS hA rfl (fun j hj => by rcases (show j = 0 ∨ j = 1 ∨ j = 2 by omega) with rfl | rfl | rfl <;> rfl) (by decide) (by decide) d_TR_init_5 (fun q_1 H hP hD hS => ?_)
  have hP : va_P (dC, dI) kCl [(h, .inr (2, [.int 0, .int 0, .int 0, .int 0, .null, .null, .null, .null, .null, .null, .int 0, .int 0])), (q_1, .inr (1, [.null, .int 0, .int 0]))] H := hP
  have hD : va_D A [(h, .inr (2, [.int 0, .int 0, .int 0, .int 0, .null, .null, .null, .null, .null, .null, .int 0, .int 0])), (q_1, .inr (1, [.null, .int 0, .int 0]))] := hD
  refine W.widen (k := 1) (n := 3) (by decide) (by decide) ?_
  refine lv_dup hx hb d_TR_init_8 rfl ?_
  have hPc := hP.sub (ws' := [(q_1, .inr (1, [.null, .int 0, .int 0]))]) [1] rfl
  have hDc := hD.sub (ws' := [(q_1, .inr (1, [.null, .int 0, .int 0]))]) [1] (by decide) rfl
  have hFc := va_free (wc := [(q_1, .inr (1, [.null, .int 0, .int 0]))]) hD hS hA [1] rfl
  refine va_callv (va_runIN (As := []) (rest := [.ref q_1, .ref h]) ⟨hx, hb, hml, hown, hT⟩ (c_TL_init H.size q_1 600 rfl) ⟨va_cnB 0 hT (gi_0 m_61) rfl rfl rfl hNw (hT _ m_25) p_TL_init.2 ⟨Nat.le_of_ble_eq_true rfl, Nat.le_of_ble_eq_true rfl⟩, rfl, hT _ m_60⟩ ⟨iP_blind, iP_pre hK hPc hDc hNw⟩ rfl rfl hl.1 rfl (lv_room (Nat.le_of_ble_eq_true rfl)) d_TR_init_9 ⟨by decide, by show _ ≤ 3047; have := Nat.zero_le 0; omega⟩) hS (fun q _ h => hFc q h) hFc (fun u_2 t9 H1 locs ht hvm hw hB hz1 hk1 hS => ?_)
  obtain ⟨hP1, hD1⟩ := hB
  rw [ht] at hP1
  obtain ⟨hP, hD⟩ := va_join (wr := [(h, .inr (2, [.int 0, .int 0, .int 0, .int 0, .null, .null, .null, .null, .null, .null, .int 0, .int 0]))]) (w1 := [(q_1, .inr (1, [.ref (u_2 1), .int 0, .int 0])), ((u_2 1), .inl (cI, 600, .inl (fun _ => 0)))]) hP hD [1] [0] rfl rfl (by decide) (by decide) hk1 hFc hP1 hD1
  generalize H1 = H at hP hS ⊢
  have hP : va_P (dC, dI) kCl [(h, .inr (2, [.int 0, .int 0, .int 0, .int 0, .null, .null, .null, .null, .null, .null, .int 0, .int 0])), (q_1, .inr (1, [.ref (u_2 1), .int 0, .int 0])), ((u_2 1), .inl (cI, 600, .inl (fun _ => 0)))] H := hP
  have hD : va_D A [(h, .inr (2, [.int 0, .int 0, .int 0, .int 0, .null, .null, .null, .null, .null, .null, .int 0, .int 0])), (q_1, .inr (1, [.ref (u_2 1), .int 0, .int 0])), ((u_2 1), .inl (cI, 600, .inl (fun _ => 0)))] := hD
  refine W.widen (k := 2) (n := 603) (by decide) (by have := Nat.zero_le 0; omega) ?_
  refine va_putF (D := (dC, dI)) (ci := 2) (v := .ref q_1) (ty := (.object "CoinTree$Trail")) (C := R_TR) (T := F_TR) (N := 12) hx hb hT i_TR t_TR t_TR_ok n_TR hown hK hP hD hS 0 rfl rfl 7 (by decide) (hT _ m_107) (fun _ h9 => h9) rfl hin rfl (by decide +kernel) rfl rfl (Nat.le_of_ble_eq_true rfl) d_TR_init_12 (fun H locs hP hD hS => ?_)
  have hP : va_P (dC, dI) kCl [(h, .inr (2, [.int 0, .int 0, .int 0, .int 0, .null, .null, .null, .ref q_1, .null, .null, .int 0, .int 0])), (q_1, .inr (1, [.ref (u_2 1), .int 0, .int 0])), ((u_2 1), .inl (cI, 600, .inl (fun _ => 0)))] H := hP
  have hD : va_D A [(h, .inr (2, [.int 0, .int 0, .int 0, .int 0, .null, .null, .null, .ref q_1, .null, .null, .int 0, .int 0])), (q_1, .inr (1, [.ref (u_2 1), .int 0, .int 0])), ((u_2 1), .inl (cI, 600, .inl (fun _ => 0)))] := hD
  refine lv_aload_n hx hb d_TR_init_15 rfl (lv_at hl 0 rfl) ?_
  refine lv_iload_n hx hb d_TR_init_16 rfl (lv_at hl 1 rfl) ?_
  refine va_putF (D := (dC, dI)) (ci := 2) (v := .int (nI L)) (ty := .int) (C := R_TR) (T := F_TR) (N := 12) hx hb hT i_TR t_TR t_TR_ok n_TR hown hK hP hD hS 0 rfl rfl 0 (by decide) (hT _ m_98) (fun _ h9 => h9) rfl hin rfl (by decide +kernel) rfl rfl (Nat.le_of_ble_eq_true rfl) d_TR_init_17 (fun H locs hP hD hS => ?_)
  have hP : va_P (dC, dI) kCl [(h, .inr (2, [.int (nI L), .int 0, .int 0, .int 0, .null, .null, .null, .ref q_1, .null, .null, .int 0, .int 0])), (q_1, .inr (1, [.ref (u_2 1), .int 0, .int 0])), ((u_2 1), .inl (cI, 600, .inl (fun _ => 0)))] H := hP
  have hD : va_D A [(h, .inr (2, [.int (nI L), .int 0, .int 0, .int 0, .null, .null, .null, .ref q_1, .null, .null, .int 0, .int 0])), (q_1, .inr (1, [.ref (u_2 1), .int 0, .int 0])), ((u_2 1), .inl (cI, 600, .inl (fun _ => 0)))] := hD
  refine lv_aload_n hx hb d_TR_init_20 rfl (lv_at hl 0 rfl) ?_
  refine lv_iconst (v := 1) hx hb d_TR_init_21 (by decide) ?_
  refine lv_iload_n hx hb d_TR_init_22 rfl (lv_at hl 1 rfl) ?_
  refine lv_ishl hx hb d_TR_init_23 ?_
  refine W.eq (g2 := F0 m 24 ls [.int (nI (2 ^ L)), .ref h]) (by rw [tr_shl ok.2.1]) ?_
  refine va_putF (D := (dC, dI)) (ci := 2) (v := .int (nI (2 ^ L))) (ty := .int) (C := R_TR) (T := F_TR) (N := 12) hx hb hT i_TR t_TR t_TR_ok n_TR hown hK hP hD hS 0 rfl rfl 1 (by decide) (hT _ m_99) (fun _ h9 => h9) rfl hin rfl (by decide +kernel) rfl rfl (Nat.le_of_ble_eq_true rfl) d_TR_init_24 (fun H locs hP hD hS => ?_)
  have hP : va_P (dC, dI) kCl [(h, .inr (2, [.int (nI L), .int (nI (2 ^ L)), .int 0, .int 0, .null, .null, .null, .ref q_1, .null, .null, .int 0, .int 0])), (q_1, .inr (1, [.ref (u_2 1), .int 0, .int 0])), ((u_2 1), .inl (cI, 600, .inl (fun _ => 0)))] H := hP
  have hD : va_D A [(h, .inr (2, [.int (nI L), .int (nI (2 ^ L)), .int 0, .int 0, .null, .null, .null, .ref q_1, .null, .null, .int 0, .int 0])), (q_1, .inr (1, [.ref (u_2 1), .int 0, .int 0])), ((u_2 1), .inl (cI, 600, .inl (fun _ => 0)))] := hD
  refine lv_aload_n hx hb d_TR_init_27 rfl (lv_at hl 0 rfl) ?_
  refine lv_iload_n hx hb d_TR_init_28 rfl (lv_at hl 2 rfl) ?_
  refine va_putF (D := (dC, dI)) (ci := 2) (v := .int (nI S)) (ty := .int) (C := R_TR) (T := F_TR) (N := 12) hx hb hT i_TR t_TR t_TR_ok n_TR hown hK hP hD hS 0 rfl rfl 2 (by decide) (hT _ m_101) (fun _ h9 => h9) rfl hin rfl (by decide +kernel) rfl rfl (Nat.le_of_ble_eq_true rfl) d_TR_init_29 (fun H locs hP hD hS => ?_)
  have hP : va_P (dC, dI) kCl [(h, .inr (2, [.int (nI L), .int (nI (2 ^ L)), .int (nI S), .int 0, .null, .null, .null, .ref q_1, .null, .null, .int 0, .int 0])), (q_1, .inr (1, [.ref (u_2 1), .int 0, .int 0])), ((u_2 1), .inl (cI, 600, .inl (fun _ => 0)))] H := hP
  have hD : va_D A [(h, .inr (2, [.int (nI L), .int (nI (2 ^ L)), .int (nI S), .int 0, .null, .null, .null, .ref q_1, .null, .null, .int 0, .int 0])), (q_1, .inr (1, [.ref (u_2 1), .int 0, .int 0])), ((u_2 1), .inl (cI, 600, .inl (fun _ => 0)))] := hD
  refine lv_aload_n hx hb d_TR_init_32 rfl (lv_at hl 0 rfl) ?_
  refine lv_iload_n hx hb d_TR_init_33 rfl (lv_at hl 3 rfl) ?_
  refine va_putF (D := (dC, dI)) (ci := 2) (v := .int (nI C)) (ty := .int) (C := R_TR) (T := F_TR) (N := 12) hx hb hT i_TR t_TR t_TR_ok n_TR hown hK hP hD hS 0 rfl rfl 3 (by decide) (hT _ m_102) (fun _ h9 => h9) rfl hin rfl (by decide +kernel) rfl rfl (Nat.le_of_ble_eq_true rfl) d_TR_init_34 (fun H locs hP hD hS => ?_)
  have hP : va_P (dC, dI) kCl [(h, .inr (2, [.int (nI L), .int (nI (2 ^ L)), .int (nI S), .int (nI C), .null, .null, .null, .ref q_1, .null, .null, .int 0, .int 0])), (q_1, .inr (1, [.ref (u_2 1), .int 0, .int 0])), ((u_2 1), .inl (cI, 600, .inl (fun _ => 0)))] H := hP
  have hD : va_D A [(h, .inr (2, [.int (nI L), .int (nI (2 ^ L)), .int (nI S), .int (nI C), .null, .null, .null, .ref q_1, .null, .null, .int 0, .int 0])), (q_1, .inr (1, [.ref (u_2 1), .int 0, .int 0])), ((u_2 1), .inl (cI, 600, .inl (fun _ => 0)))] := hD
  refine lv_aload_n hx hb d_TR_init_37 rfl (lv_at hl 0 rfl) ?_
  refine va_new (ci := 0) (fs := [.null, .null, .null, .int 0]) (C := R_RW) (T := F_RW) (N := 4) hx hb hT i_RW t_RW t_RW_ok hown (hT _ m_75) (hT _ m_76) (hT _ m_26) hK hP hD hS hA rfl (fun j hj => by rcases (show j = 0 ∨ j = 1 ∨ j = 2 ∨ j = 3 by omega) with rfl | rfl | rfl | rfl <;> rfl) (by decide) (by decide) d_TR_init_38 (fun q_3 H hP hD hS => ?_)
  have hP : va_P (dC, dI) kCl [(h, .inr (2, [.int (nI L), .int (nI (2 ^ L)), .int (nI S), .int (nI C), .null, .null, .null, .ref q_1, .null, .null, .int 0, .int 0])), (q_1, .inr (1, [.ref (u_2 1), .int 0, .int 0])), ((u_2 1), .inl (cI, 600, .inl (fun _ => 0))), (q_3, .inr (0, [.null, .null, .null, .int 0]))] H := hP
  have hD : va_D A [(h, .inr (2, [.int (nI L), .int (nI (2 ^ L)), .int (nI S), .int (nI C), .null, .null, .null, .ref q_1, .null, .null, .int 0, .int 0])), (q_1, .inr (1, [.ref (u_2 1), .int 0, .int 0])), ((u_2 1), .inl (cI, 600, .inl (fun _ => 0))), (q_3, .inr (0, [.null, .null, .null, .int 0]))] := hD
  refine W.widen (k := 3) (n := 607) (by decide) (by decide) ?_
  refine lv_dup hx hb d_TR_init_41 rfl ?_
  refine lv_iconst (v := 2) hx hb d_TR_init_42 (by decide) ?_
  refine lv_aload_n hx hb d_TR_init_43 rfl (lv_at hl 0 rfl) ?_
  refine va_get (D := (dC, dI)) (ci := 2) (v := .int (nI (2 ^ L))) (C := R_TR) (T := F_TR) (N := 12) hx hb hT i_TR hown hK hP 0 rfl rfl 1 (by decide) (hT _ m_99) (fun _ h9 => h9) rfl d_TR_init_44 ?_
  refine lv_imul hx hb d_TR_init_47 ?_
  refine lv_iload_n hx hb d_TR_init_48 rfl (lv_at hl 2 rfl) ?_
  refine lv_imul hx hb d_TR_init_49 ?_
  refine W.eq (g2 := F0 m 50 ls [.int (nI (tr_nN L S)), .ref q_3, .ref q_3, .ref h]) (by rw [tr_nNI]) ?_
  have hPc := hP.sub (ws' := [(q_3, .inr (0, [.null, .null, .null, .int 0]))]) [3] rfl
  have hDc := hD.sub (ws' := [(q_3, .inr (0, [.null, .null, .null, .int 0]))]) [3] (by decide) rfl
  have hFc := va_free (wc := [(q_3, .inr (0, [.null, .null, .null, .int 0]))]) hD hS hA [3] rfl
  refine va_callv (va_runI (As := [.int (nI (tr_nN L S))]) (rest := [.ref q_3, .ref h]) ⟨hx, hb, hml, hown, hT⟩ (c_RW_init H.size q_3 (tr_nN L S) (tr_nN_le ok)) (cwI 1 hT (gi_0 m_79) rfl rfl rfl (hT _ m_26) (hT _ m_77) (hT _ m_78) rfl p_RW_init.2 ⟨Nat.le_of_ble_eq_true rfl, Nat.le_of_ble_eq_true rfl⟩) ⟨iP_blind, iP_pre hK hPc hDc hNw⟩ rfl rfl hl.1 rfl (lv_room (Nat.le_of_ble_eq_true rfl)) d_TR_init_50 ⟨by decide, by show _ ≤ 3047; have := Nat.zero_le 0; omega⟩) hS (fun q _ h => hFc q h) hFc (fun u_4 t9 H1 locs ht hvm hw hB hz1 hk1 hS => ?_)
  obtain ⟨hP1, hD1⟩ := hB
  rw [ht] at hP1
  obtain ⟨hP, hD⟩ := va_join (wr := [(h, .inr (2, [.int (nI L), .int (nI (2 ^ L)), .int (nI S), .int (nI C), .null, .null, .null, .ref q_1, .null, .null, .int 0, .int 0])), (q_1, .inr (1, [.ref (u_2 1), .int 0, .int 0])), ((u_2 1), .inl (cI, 600, .inl (fun _ => 0)))]) (w1 := [(q_3, .inr (0, [.ref (u_4 1), .ref (u_4 2), .ref (u_4 3), .int 0])), ((u_4 1), .inl (cI, (tr_nN L S), .inl (fun _ => 0))), ((u_4 2), .inl (cI, (tr_nN L S), .inl (fun _ => 0))), ((u_4 3), .inl (cJ, (tr_nN L S), .inr (.inl (fun _ => 0))))]) hP hD [3] [0, 1, 2] rfl rfl (by decide) (by decide) hk1 hFc hP1 hD1
  generalize H1 = H at hP hS ⊢
  have hP : va_P (dC, dI) kCl [(h, .inr (2, [.int (nI L), .int (nI (2 ^ L)), .int (nI S), .int (nI C), .null, .null, .null, .ref q_1, .null, .null, .int 0, .int 0])), (q_1, .inr (1, [.ref (u_2 1), .int 0, .int 0])), ((u_2 1), .inl (cI, 600, .inl (fun _ => 0))), (q_3, .inr (0, [.ref (u_4 1), .ref (u_4 2), .ref (u_4 3), .int 0])), ((u_4 1), .inl (cI, (tr_nN L S), .inl (fun _ => 0))), ((u_4 2), .inl (cI, (tr_nN L S), .inl (fun _ => 0))), ((u_4 3), .inl (cJ, (tr_nN L S), .inr (.inl (fun _ => 0))))] H := hP
  have hD : va_D A [(h, .inr (2, [.int (nI L), .int (nI (2 ^ L)), .int (nI S), .int (nI C), .null, .null, .null, .ref q_1, .null, .null, .int 0, .int 0])), (q_1, .inr (1, [.ref (u_2 1), .int 0, .int 0])), ((u_2 1), .inl (cI, 600, .inl (fun _ => 0))), (q_3, .inr (0, [.ref (u_4 1), .ref (u_4 2), .ref (u_4 3), .int 0])), ((u_4 1), .inl (cI, (tr_nN L S), .inl (fun _ => 0))), ((u_4 2), .inl (cI, (tr_nN L S), .inl (fun _ => 0))), ((u_4 3), .inl (cJ, (tr_nN L S), .inr (.inl (fun _ => 0))))] := hD
  refine W.widen (k := 6) (n := 1375) (by decide) (by have := Nat.zero_le 0; omega) ?_
  refine va_putF (D := (dC, dI)) (ci := 2) (v := .ref q_3) (ty := (.object "CoinTree$Row")) (C := R_TR) (T := F_TR) (N := 12) hx hb hT i_TR t_TR t_TR_ok n_TR hown hK hP hD hS 0 rfl rfl 4 (by decide) (hT _ m_103) (fun _ h9 => h9) rfl hin rfl (by decide +kernel) rfl rfl (Nat.le_of_ble_eq_true rfl) d_TR_init_53 (fun H locs hP hD hS => ?_)
  have hP : va_P (dC, dI) kCl [(h, .inr (2, [.int (nI L), .int (nI (2 ^ L)), .int (nI S), .int (nI C), .ref q_3, .null, .null, .ref q_1, .null, .null, .int 0, .int 0])), (q_1, .inr (1, [.ref (u_2 1), .int 0, .int 0])), ((u_2 1), .inl (cI, 600, .inl (fun _ => 0))), (q_3, .inr (0, [.ref (u_4 1), .ref (u_4 2), .ref (u_4 3), .int 0])), ((u_4 1), .inl (cI, (tr_nN L S), .inl (fun _ => 0))), ((u_4 2), .inl (cI, (tr_nN L S), .inl (fun _ => 0))), ((u_4 3), .inl (cJ, (tr_nN L S), .inr (.inl (fun _ => 0))))] H := hP
  have hD : va_D A [(h, .inr (2, [.int (nI L), .int (nI (2 ^ L)), .int (nI S), .int (nI C), .ref q_3, .null, .null, .ref q_1, .null, .null, .int 0, .int 0])), (q_1, .inr (1, [.ref (u_2 1), .int 0, .int 0])), ((u_2 1), .inl (cI, 600, .inl (fun _ => 0))), (q_3, .inr (0, [.ref (u_4 1), .ref (u_4 2), .ref (u_4 3), .int 0])), ((u_4 1), .inl (cI, (tr_nN L S), .inl (fun _ => 0))), ((u_4 2), .inl (cI, (tr_nN L S), .inl (fun _ => 0))), ((u_4 3), .inl (cJ, (tr_nN L S), .inr (.inl (fun _ => 0))))] := hD
  refine lv_aload_n hx hb d_TR_init_56 rfl (lv_at hl 0 rfl) ?_
  refine lv_iconst (v := 2) hx hb d_TR_init_57 (by decide) ?_
  refine lv_aload_n hx hb d_TR_init_58 rfl (lv_at hl 0 rfl) ?_
  refine va_get (D := (dC, dI)) (ci := 2) (v := .int (nI (2 ^ L))) (C := R_TR) (T := F_TR) (N := 12) hx hb hT i_TR hown hK hP 0 rfl rfl 1 (by decide) (hT _ m_99) (fun _ h9 => h9) rfl d_TR_init_59 ?_
  refine lv_imul hx hb d_TR_init_62 ?_
  refine W.eq (g2 := F0 m 63 ls [.int (nI (2 * 2 ^ L)), .ref h]) (by rw [tr_2NI]) ?_
  refine va_newa (atype := .int) (ty := .int) (a0 := ((2 * 2 ^ L), .inl (fun _ => 0))) (N' := (2 * 2 ^ L)) hx hb (hT _ m_74) rfl hK hP hD hS hA (fun _ => rfl) (nI_pos (show 2 * 2 ^ L < 2 ^ 31 by omega)) (nI_clamp (show 2 * 2 ^ L < 2 ^ 31 by omega)) (by show _ * 4 ≤ 536870912; have := h2L; omega) (by decide) (by show _ ≤ 3047; have := h2L; omega) d_TR_init_63 (fun q_5 cA H hK2 hP hD hS => ?_)
  have hc9 : cI = cA := va_ca hK2 (i := 0) (j := 2) rfl rfl
  subst hc9
  have hP : va_P (dC, dI) kCl [(h, .inr (2, [.int (nI L), .int (nI (2 ^ L)), .int (nI S), .int (nI C), .ref q_3, .null, .null, .ref q_1, .null, .null, .int 0, .int 0])), (q_1, .inr (1, [.ref (u_2 1), .int 0, .int 0])), ((u_2 1), .inl (cI, 600, .inl (fun _ => 0))), (q_3, .inr (0, [.ref (u_4 1), .ref (u_4 2), .ref (u_4 3), .int 0])), ((u_4 1), .inl (cI, (tr_nN L S), .inl (fun _ => 0))), ((u_4 2), .inl (cI, (tr_nN L S), .inl (fun _ => 0))), ((u_4 3), .inl (cJ, (tr_nN L S), .inr (.inl (fun _ => 0)))), (q_5, .inl (cI, (2 * 2 ^ L), .inl (fun _ => 0)))] H := hP
  have hD : va_D A [(h, .inr (2, [.int (nI L), .int (nI (2 ^ L)), .int (nI S), .int (nI C), .ref q_3, .null, .null, .ref q_1, .null, .null, .int 0, .int 0])), (q_1, .inr (1, [.ref (u_2 1), .int 0, .int 0])), ((u_2 1), .inl (cI, 600, .inl (fun _ => 0))), (q_3, .inr (0, [.ref (u_4 1), .ref (u_4 2), .ref (u_4 3), .int 0])), ((u_4 1), .inl (cI, (tr_nN L S), .inl (fun _ => 0))), ((u_4 2), .inl (cI, (tr_nN L S), .inl (fun _ => 0))), ((u_4 3), .inl (cJ, (tr_nN L S), .inr (.inl (fun _ => 0)))), (q_5, .inl (cI, (2 * 2 ^ L), .inl (fun _ => 0)))] := hD
  refine W.widen (k := 7) (n := 1439) (by decide) (by have := h2L; omega) ?_
  refine va_putF (D := (dC, dI)) (ci := 2) (v := .ref q_5) (ty := (.array .int)) (C := R_TR) (T := F_TR) (N := 12) hx hb hT i_TR t_TR t_TR_ok n_TR hown hK hP hD hS 0 rfl rfl 5 (by decide) (hT _ m_104) (fun _ h9 => h9) rfl hin rfl (by decide +kernel) rfl rfl (Nat.le_of_ble_eq_true rfl) d_TR_init_65 (fun H locs hP hD hS => ?_)
  have hP : va_P (dC, dI) kCl [(h, .inr (2, [.int (nI L), .int (nI (2 ^ L)), .int (nI S), .int (nI C), .ref q_3, .ref q_5, .null, .ref q_1, .null, .null, .int 0, .int 0])), (q_1, .inr (1, [.ref (u_2 1), .int 0, .int 0])), ((u_2 1), .inl (cI, 600, .inl (fun _ => 0))), (q_3, .inr (0, [.ref (u_4 1), .ref (u_4 2), .ref (u_4 3), .int 0])), ((u_4 1), .inl (cI, (tr_nN L S), .inl (fun _ => 0))), ((u_4 2), .inl (cI, (tr_nN L S), .inl (fun _ => 0))), ((u_4 3), .inl (cJ, (tr_nN L S), .inr (.inl (fun _ => 0)))), (q_5, .inl (cI, (2 * 2 ^ L), .inl (fun _ => 0)))] H := hP
  have hD : va_D A [(h, .inr (2, [.int (nI L), .int (nI (2 ^ L)), .int (nI S), .int (nI C), .ref q_3, .ref q_5, .null, .ref q_1, .null, .null, .int 0, .int 0])), (q_1, .inr (1, [.ref (u_2 1), .int 0, .int 0])), ((u_2 1), .inl (cI, 600, .inl (fun _ => 0))), (q_3, .inr (0, [.ref (u_4 1), .ref (u_4 2), .ref (u_4 3), .int 0])), ((u_4 1), .inl (cI, (tr_nN L S), .inl (fun _ => 0))), ((u_4 2), .inl (cI, (tr_nN L S), .inl (fun _ => 0))), ((u_4 3), .inl (cJ, (tr_nN L S), .inr (.inl (fun _ => 0)))), (q_5, .inl (cI, (2 * 2 ^ L), .inl (fun _ => 0)))] := hD
  refine lv_aload_n hx hb d_TR_init_68 rfl (lv_at hl 0 rfl) ?_
  refine va_new (ci := 0) (fs := [.null, .null, .null, .int 0]) (C := R_RW) (T := F_RW) (N := 4) hx hb hT i_RW t_RW t_RW_ok hown (hT _ m_75) (hT _ m_76) (hT _ m_26) hK hP hD hS hA rfl (fun j hj => by rcases (show j = 0 ∨ j = 1 ∨ j = 2 ∨ j = 3 by omega) with rfl | rfl | rfl | rfl <;> rfl) (by decide) (by decide) d_TR_init_69 (fun q_6 H hP hD hS => ?_)
  have hP : va_P (dC, dI) kCl [(h, .inr (2, [.int (nI L), .int (nI (2 ^ L)), .int (nI S), .int (nI C), .ref q_3, .ref q_5, .null, .ref q_1, .null, .null, .int 0, .int 0])), (q_1, .inr (1, [.ref (u_2 1), .int 0, .int 0])), ((u_2 1), .inl (cI, 600, .inl (fun _ => 0))), (q_3, .inr (0, [.ref (u_4 1), .ref (u_4 2), .ref (u_4 3), .int 0])), ((u_4 1), .inl (cI, (tr_nN L S), .inl (fun _ => 0))), ((u_4 2), .inl (cI, (tr_nN L S), .inl (fun _ => 0))), ((u_4 3), .inl (cJ, (tr_nN L S), .inr (.inl (fun _ => 0)))), (q_5, .inl (cI, (2 * 2 ^ L), .inl (fun _ => 0))), (q_6, .inr (0, [.null, .null, .null, .int 0]))] H := hP
  have hD : va_D A [(h, .inr (2, [.int (nI L), .int (nI (2 ^ L)), .int (nI S), .int (nI C), .ref q_3, .ref q_5, .null, .ref q_1, .null, .null, .int 0, .int 0])), (q_1, .inr (1, [.ref (u_2 1), .int 0, .int 0])), ((u_2 1), .inl (cI, 600, .inl (fun _ => 0))), (q_3, .inr (0, [.ref (u_4 1), .ref (u_4 2), .ref (u_4 3), .int 0])), ((u_4 1), .inl (cI, (tr_nN L S), .inl (fun _ => 0))), ((u_4 2), .inl (cI, (tr_nN L S), .inl (fun _ => 0))), ((u_4 3), .inl (cJ, (tr_nN L S), .inr (.inl (fun _ => 0)))), (q_5, .inl (cI, (2 * 2 ^ L), .inl (fun _ => 0))), (q_6, .inr (0, [.null, .null, .null, .int 0]))] := hD
  refine W.widen (k := 8) (n := 1443) (by decide) (by decide) ?_
  refine lv_dup hx hb d_TR_init_72 rfl ?_
  refine lv_iload_n hx hb d_TR_init_73 rfl (lv_at hl 3 rfl) ?_
  have hPc := hP.sub (ws' := [(q_6, .inr (0, [.null, .null, .null, .int 0]))]) [8] rfl
  have hDc := hD.sub (ws' := [(q_6, .inr (0, [.null, .null, .null, .int 0]))]) [8] (by decide) rfl
  have hFc := va_free (wc := [(q_6, .inr (0, [.null, .null, .null, .int 0]))]) hD hS hA [8] rfl
  refine va_callv (va_runI (As := [.int (nI C)]) (rest := [.ref q_6, .ref h]) ⟨hx, hb, hml, hown, hT⟩ (c_RW_init H.size q_6 C (by omega)) (cwI 1 hT (gi_0 m_79) rfl rfl rfl (hT _ m_26) (hT _ m_77) (hT _ m_78) rfl p_RW_init.2 ⟨Nat.le_of_ble_eq_true rfl, Nat.le_of_ble_eq_true rfl⟩) ⟨iP_blind, iP_pre hK hPc hDc hNw⟩ rfl rfl hl.1 rfl (lv_room (Nat.le_of_ble_eq_true rfl)) d_TR_init_74 ⟨by decide, by show _ ≤ 3047; have := Nat.zero_le 0; omega⟩) hS (fun q _ h => hFc q h) hFc (fun u_7 t9 H1 locs ht hvm hw hB hz1 hk1 hS => ?_)
  obtain ⟨hP1, hD1⟩ := hB
  rw [ht] at hP1
  obtain ⟨hP, hD⟩ := va_join (wr := [(h, .inr (2, [.int (nI L), .int (nI (2 ^ L)), .int (nI S), .int (nI C), .ref q_3, .ref q_5, .null, .ref q_1, .null, .null, .int 0, .int 0])), (q_1, .inr (1, [.ref (u_2 1), .int 0, .int 0])), ((u_2 1), .inl (cI, 600, .inl (fun _ => 0))), (q_3, .inr (0, [.ref (u_4 1), .ref (u_4 2), .ref (u_4 3), .int 0])), ((u_4 1), .inl (cI, (tr_nN L S), .inl (fun _ => 0))), ((u_4 2), .inl (cI, (tr_nN L S), .inl (fun _ => 0))), ((u_4 3), .inl (cJ, (tr_nN L S), .inr (.inl (fun _ => 0)))), (q_5, .inl (cI, (2 * 2 ^ L), .inl (fun _ => 0)))]) (w1 := [(q_6, .inr (0, [.ref (u_7 1), .ref (u_7 2), .ref (u_7 3), .int 0])), ((u_7 1), .inl (cI, C, .inl (fun _ => 0))), ((u_7 2), .inl (cI, C, .inl (fun _ => 0))), ((u_7 3), .inl (cJ, C, .inr (.inl (fun _ => 0))))]) hP hD [8] [0, 1, 2, 3, 4, 5, 6, 7] rfl rfl (by decide) (by decide) hk1 hFc hP1 hD1
  generalize H1 = H at hP hS ⊢
  have hP : va_P (dC, dI) kCl [(h, .inr (2, [.int (nI L), .int (nI (2 ^ L)), .int (nI S), .int (nI C), .ref q_3, .ref q_5, .null, .ref q_1, .null, .null, .int 0, .int 0])), (q_1, .inr (1, [.ref (u_2 1), .int 0, .int 0])), ((u_2 1), .inl (cI, 600, .inl (fun _ => 0))), (q_3, .inr (0, [.ref (u_4 1), .ref (u_4 2), .ref (u_4 3), .int 0])), ((u_4 1), .inl (cI, (tr_nN L S), .inl (fun _ => 0))), ((u_4 2), .inl (cI, (tr_nN L S), .inl (fun _ => 0))), ((u_4 3), .inl (cJ, (tr_nN L S), .inr (.inl (fun _ => 0)))), (q_5, .inl (cI, (2 * 2 ^ L), .inl (fun _ => 0))), (q_6, .inr (0, [.ref (u_7 1), .ref (u_7 2), .ref (u_7 3), .int 0])), ((u_7 1), .inl (cI, C, .inl (fun _ => 0))), ((u_7 2), .inl (cI, C, .inl (fun _ => 0))), ((u_7 3), .inl (cJ, C, .inr (.inl (fun _ => 0))))] H := hP
  have hD : va_D A [(h, .inr (2, [.int (nI L), .int (nI (2 ^ L)), .int (nI S), .int (nI C), .ref q_3, .ref q_5, .null, .ref q_1, .null, .null, .int 0, .int 0])), (q_1, .inr (1, [.ref (u_2 1), .int 0, .int 0])), ((u_2 1), .inl (cI, 600, .inl (fun _ => 0))), (q_3, .inr (0, [.ref (u_4 1), .ref (u_4 2), .ref (u_4 3), .int 0])), ((u_4 1), .inl (cI, (tr_nN L S), .inl (fun _ => 0))), ((u_4 2), .inl (cI, (tr_nN L S), .inl (fun _ => 0))), ((u_4 3), .inl (cJ, (tr_nN L S), .inr (.inl (fun _ => 0)))), (q_5, .inl (cI, (2 * 2 ^ L), .inl (fun _ => 0))), (q_6, .inr (0, [.ref (u_7 1), .ref (u_7 2), .ref (u_7 3), .int 0])), ((u_7 1), .inl (cI, C, .inl (fun _ => 0))), ((u_7 2), .inl (cI, C, .inl (fun _ => 0))), ((u_7 3), .inl (cJ, C, .inr (.inl (fun _ => 0))))] := hD
  refine W.widen (k := 11) (n := 2211) (by decide) (by have := Nat.zero_le 0; omega) ?_
  refine va_putF (D := (dC, dI)) (ci := 2) (v := .ref q_6) (ty := (.object "CoinTree$Row")) (C := R_TR) (T := F_TR) (N := 12) hx hb hT i_TR t_TR t_TR_ok n_TR hown hK hP hD hS 0 rfl rfl 6 (by decide) (hT _ m_105) (fun _ h9 => h9) rfl hin rfl (by decide +kernel) rfl rfl (Nat.le_of_ble_eq_true rfl) d_TR_init_77 (fun H locs hP hD hS => ?_)
  have hP : va_P (dC, dI) kCl [(h, .inr (2, [.int (nI L), .int (nI (2 ^ L)), .int (nI S), .int (nI C), .ref q_3, .ref q_5, .ref q_6, .ref q_1, .null, .null, .int 0, .int 0])), (q_1, .inr (1, [.ref (u_2 1), .int 0, .int 0])), ((u_2 1), .inl (cI, 600, .inl (fun _ => 0))), (q_3, .inr (0, [.ref (u_4 1), .ref (u_4 2), .ref (u_4 3), .int 0])), ((u_4 1), .inl (cI, (tr_nN L S), .inl (fun _ => 0))), ((u_4 2), .inl (cI, (tr_nN L S), .inl (fun _ => 0))), ((u_4 3), .inl (cJ, (tr_nN L S), .inr (.inl (fun _ => 0)))), (q_5, .inl (cI, (2 * 2 ^ L), .inl (fun _ => 0))), (q_6, .inr (0, [.ref (u_7 1), .ref (u_7 2), .ref (u_7 3), .int 0])), ((u_7 1), .inl (cI, C, .inl (fun _ => 0))), ((u_7 2), .inl (cI, C, .inl (fun _ => 0))), ((u_7 3), .inl (cJ, C, .inr (.inl (fun _ => 0))))] H := hP
  have hD : va_D A [(h, .inr (2, [.int (nI L), .int (nI (2 ^ L)), .int (nI S), .int (nI C), .ref q_3, .ref q_5, .ref q_6, .ref q_1, .null, .null, .int 0, .int 0])), (q_1, .inr (1, [.ref (u_2 1), .int 0, .int 0])), ((u_2 1), .inl (cI, 600, .inl (fun _ => 0))), (q_3, .inr (0, [.ref (u_4 1), .ref (u_4 2), .ref (u_4 3), .int 0])), ((u_4 1), .inl (cI, (tr_nN L S), .inl (fun _ => 0))), ((u_4 2), .inl (cI, (tr_nN L S), .inl (fun _ => 0))), ((u_4 3), .inl (cJ, (tr_nN L S), .inr (.inl (fun _ => 0)))), (q_5, .inl (cI, (2 * 2 ^ L), .inl (fun _ => 0))), (q_6, .inr (0, [.ref (u_7 1), .ref (u_7 2), .ref (u_7 3), .int 0])), ((u_7 1), .inl (cI, C, .inl (fun _ => 0))), ((u_7 2), .inl (cI, C, .inl (fun _ => 0))), ((u_7 3), .inl (cJ, C, .inr (.inl (fun _ => 0))))] := hD
  refine lv_aload_n hx hb d_TR_init_80 rfl (lv_at hl 0 rfl) ?_
  refine va_new (ci := 0) (fs := [.null, .null, .null, .int 0]) (C := R_RW) (T := F_RW) (N := 4) hx hb hT i_RW t_RW t_RW_ok hown (hT _ m_75) (hT _ m_76) (hT _ m_26) hK hP hD hS hA rfl (fun j hj => by rcases (show j = 0 ∨ j = 1 ∨ j = 2 ∨ j = 3 by omega) with rfl | rfl | rfl | rfl <;> rfl) (by decide) (by decide) d_TR_init_81 (fun q_8 H hP hD hS => ?_)
  have hP : va_P (dC, dI) kCl [(h, .inr (2, [.int (nI L), .int (nI (2 ^ L)), .int (nI S), .int (nI C), .ref q_3, .ref q_5, .ref q_6, .ref q_1, .null, .null, .int 0, .int 0])), (q_1, .inr (1, [.ref (u_2 1), .int 0, .int 0])), ((u_2 1), .inl (cI, 600, .inl (fun _ => 0))), (q_3, .inr (0, [.ref (u_4 1), .ref (u_4 2), .ref (u_4 3), .int 0])), ((u_4 1), .inl (cI, (tr_nN L S), .inl (fun _ => 0))), ((u_4 2), .inl (cI, (tr_nN L S), .inl (fun _ => 0))), ((u_4 3), .inl (cJ, (tr_nN L S), .inr (.inl (fun _ => 0)))), (q_5, .inl (cI, (2 * 2 ^ L), .inl (fun _ => 0))), (q_6, .inr (0, [.ref (u_7 1), .ref (u_7 2), .ref (u_7 3), .int 0])), ((u_7 1), .inl (cI, C, .inl (fun _ => 0))), ((u_7 2), .inl (cI, C, .inl (fun _ => 0))), ((u_7 3), .inl (cJ, C, .inr (.inl (fun _ => 0)))), (q_8, .inr (0, [.null, .null, .null, .int 0]))] H := hP
  have hD : va_D A [(h, .inr (2, [.int (nI L), .int (nI (2 ^ L)), .int (nI S), .int (nI C), .ref q_3, .ref q_5, .ref q_6, .ref q_1, .null, .null, .int 0, .int 0])), (q_1, .inr (1, [.ref (u_2 1), .int 0, .int 0])), ((u_2 1), .inl (cI, 600, .inl (fun _ => 0))), (q_3, .inr (0, [.ref (u_4 1), .ref (u_4 2), .ref (u_4 3), .int 0])), ((u_4 1), .inl (cI, (tr_nN L S), .inl (fun _ => 0))), ((u_4 2), .inl (cI, (tr_nN L S), .inl (fun _ => 0))), ((u_4 3), .inl (cJ, (tr_nN L S), .inr (.inl (fun _ => 0)))), (q_5, .inl (cI, (2 * 2 ^ L), .inl (fun _ => 0))), (q_6, .inr (0, [.ref (u_7 1), .ref (u_7 2), .ref (u_7 3), .int 0])), ((u_7 1), .inl (cI, C, .inl (fun _ => 0))), ((u_7 2), .inl (cI, C, .inl (fun _ => 0))), ((u_7 3), .inl (cJ, C, .inr (.inl (fun _ => 0)))), (q_8, .inr (0, [.null, .null, .null, .int 0]))] := hD
  refine W.widen (k := 12) (n := 2215) (by decide) (by decide) ?_
  refine lv_dup hx hb d_TR_init_84 rfl ?_
  refine lv_iload hx hb d_TR_init_85 (lv_at hl 4 rfl) ?_
  have hPc := hP.sub (ws' := [(q_8, .inr (0, [.null, .null, .null, .int 0]))]) [12] rfl
  have hDc := hD.sub (ws' := [(q_8, .inr (0, [.null, .null, .null, .int 0]))]) [12] (by decide) rfl
  have hFc := va_free (wc := [(q_8, .inr (0, [.null, .null, .null, .int 0]))]) hD hS hA [12] rfl
  refine va_callv (va_runI (As := [.int (nI B)]) (rest := [.ref q_8, .ref h]) ⟨hx, hb, hml, hown, hT⟩ (c_RW_init H.size q_8 B (by omega)) (cwI 1 hT (gi_0 m_79) rfl rfl rfl (hT _ m_26) (hT _ m_77) (hT _ m_78) rfl p_RW_init.2 ⟨Nat.le_of_ble_eq_true rfl, Nat.le_of_ble_eq_true rfl⟩) ⟨iP_blind, iP_pre hK hPc hDc hNw⟩ rfl rfl hl.1 rfl (lv_room (Nat.le_of_ble_eq_true rfl)) d_TR_init_87 ⟨by decide, by show _ ≤ 3047; have := Nat.zero_le 0; omega⟩) hS (fun q _ h => hFc q h) hFc (fun u_9 t9 H1 locs ht hvm hw hB hz1 hk1 hS => ?_)
  obtain ⟨hP1, hD1⟩ := hB
  rw [ht] at hP1
  obtain ⟨hP, hD⟩ := va_join (wr := [(h, .inr (2, [.int (nI L), .int (nI (2 ^ L)), .int (nI S), .int (nI C), .ref q_3, .ref q_5, .ref q_6, .ref q_1, .null, .null, .int 0, .int 0])), (q_1, .inr (1, [.ref (u_2 1), .int 0, .int 0])), ((u_2 1), .inl (cI, 600, .inl (fun _ => 0))), (q_3, .inr (0, [.ref (u_4 1), .ref (u_4 2), .ref (u_4 3), .int 0])), ((u_4 1), .inl (cI, (tr_nN L S), .inl (fun _ => 0))), ((u_4 2), .inl (cI, (tr_nN L S), .inl (fun _ => 0))), ((u_4 3), .inl (cJ, (tr_nN L S), .inr (.inl (fun _ => 0)))), (q_5, .inl (cI, (2 * 2 ^ L), .inl (fun _ => 0))), (q_6, .inr (0, [.ref (u_7 1), .ref (u_7 2), .ref (u_7 3), .int 0])), ((u_7 1), .inl (cI, C, .inl (fun _ => 0))), ((u_7 2), .inl (cI, C, .inl (fun _ => 0))), ((u_7 3), .inl (cJ, C, .inr (.inl (fun _ => 0))))]) (w1 := [(q_8, .inr (0, [.ref (u_9 1), .ref (u_9 2), .ref (u_9 3), .int 0])), ((u_9 1), .inl (cI, B, .inl (fun _ => 0))), ((u_9 2), .inl (cI, B, .inl (fun _ => 0))), ((u_9 3), .inl (cJ, B, .inr (.inl (fun _ => 0))))]) hP hD [12] [0, 1, 2, 3, 4, 5, 6, 7, 8, 9, 10, 11] rfl rfl (by decide) (by decide) hk1 hFc hP1 hD1
  generalize H1 = H at hP hS ⊢
  have hP : va_P (dC, dI) kCl [(h, .inr (2, [.int (nI L), .int (nI (2 ^ L)), .int (nI S), .int (nI C), .ref q_3, .ref q_5, .ref q_6, .ref q_1, .null, .null, .int 0, .int 0])), (q_1, .inr (1, [.ref (u_2 1), .int 0, .int 0])), ((u_2 1), .inl (cI, 600, .inl (fun _ => 0))), (q_3, .inr (0, [.ref (u_4 1), .ref (u_4 2), .ref (u_4 3), .int 0])), ((u_4 1), .inl (cI, (tr_nN L S), .inl (fun _ => 0))), ((u_4 2), .inl (cI, (tr_nN L S), .inl (fun _ => 0))), ((u_4 3), .inl (cJ, (tr_nN L S), .inr (.inl (fun _ => 0)))), (q_5, .inl (cI, (2 * 2 ^ L), .inl (fun _ => 0))), (q_6, .inr (0, [.ref (u_7 1), .ref (u_7 2), .ref (u_7 3), .int 0])), ((u_7 1), .inl (cI, C, .inl (fun _ => 0))), ((u_7 2), .inl (cI, C, .inl (fun _ => 0))), ((u_7 3), .inl (cJ, C, .inr (.inl (fun _ => 0)))), (q_8, .inr (0, [.ref (u_9 1), .ref (u_9 2), .ref (u_9 3), .int 0])), ((u_9 1), .inl (cI, B, .inl (fun _ => 0))), ((u_9 2), .inl (cI, B, .inl (fun _ => 0))), ((u_9 3), .inl (cJ, B, .inr (.inl (fun _ => 0))))] H := hP
  have hD : va_D A [(h, .inr (2, [.int (nI L), .int (nI (2 ^ L)), .int (nI S), .int (nI C), .ref q_3, .ref q_5, .ref q_6, .ref q_1, .null, .null, .int 0, .int 0])), (q_1, .inr (1, [.ref (u_2 1), .int 0, .int 0])), ((u_2 1), .inl (cI, 600, .inl (fun _ => 0))), (q_3, .inr (0, [.ref (u_4 1), .ref (u_4 2), .ref (u_4 3), .int 0])), ((u_4 1), .inl (cI, (tr_nN L S), .inl (fun _ => 0))), ((u_4 2), .inl (cI, (tr_nN L S), .inl (fun _ => 0))), ((u_4 3), .inl (cJ, (tr_nN L S), .inr (.inl (fun _ => 0)))), (q_5, .inl (cI, (2 * 2 ^ L), .inl (fun _ => 0))), (q_6, .inr (0, [.ref (u_7 1), .ref (u_7 2), .ref (u_7 3), .int 0])), ((u_7 1), .inl (cI, C, .inl (fun _ => 0))), ((u_7 2), .inl (cI, C, .inl (fun _ => 0))), ((u_7 3), .inl (cJ, C, .inr (.inl (fun _ => 0)))), (q_8, .inr (0, [.ref (u_9 1), .ref (u_9 2), .ref (u_9 3), .int 0])), ((u_9 1), .inl (cI, B, .inl (fun _ => 0))), ((u_9 2), .inl (cI, B, .inl (fun _ => 0))), ((u_9 3), .inl (cJ, B, .inr (.inl (fun _ => 0))))] := hD
  refine W.widen (k := 15) (n := 2983) (by decide) (by have := Nat.zero_le 0; omega) ?_
  refine va_putF (D := (dC, dI)) (ci := 2) (v := .ref q_8) (ty := (.object "CoinTree$Row")) (C := R_TR) (T := F_TR) (N := 12) hx hb hT i_TR t_TR t_TR_ok n_TR hown hK hP hD hS 0 rfl rfl 8 (by decide) (hT _ m_109) (fun _ h9 => h9) rfl hin rfl (by decide +kernel) rfl rfl (Nat.le_of_ble_eq_true rfl) d_TR_init_90 (fun H locs hP hD hS => ?_)
  have hP : va_P (dC, dI) kCl [(h, .inr (2, [.int (nI L), .int (nI (2 ^ L)), .int (nI S), .int (nI C), .ref q_3, .ref q_5, .ref q_6, .ref q_1, .ref q_8, .null, .int 0, .int 0])), (q_1, .inr (1, [.ref (u_2 1), .int 0, .int 0])), ((u_2 1), .inl (cI, 600, .inl (fun _ => 0))), (q_3, .inr (0, [.ref (u_4 1), .ref (u_4 2), .ref (u_4 3), .int 0])), ((u_4 1), .inl (cI, (tr_nN L S), .inl (fun _ => 0))), ((u_4 2), .inl (cI, (tr_nN L S), .inl (fun _ => 0))), ((u_4 3), .inl (cJ, (tr_nN L S), .inr (.inl (fun _ => 0)))), (q_5, .inl (cI, (2 * 2 ^ L), .inl (fun _ => 0))), (q_6, .inr (0, [.ref (u_7 1), .ref (u_7 2), .ref (u_7 3), .int 0])), ((u_7 1), .inl (cI, C, .inl (fun _ => 0))), ((u_7 2), .inl (cI, C, .inl (fun _ => 0))), ((u_7 3), .inl (cJ, C, .inr (.inl (fun _ => 0)))), (q_8, .inr (0, [.ref (u_9 1), .ref (u_9 2), .ref (u_9 3), .int 0])), ((u_9 1), .inl (cI, B, .inl (fun _ => 0))), ((u_9 2), .inl (cI, B, .inl (fun _ => 0))), ((u_9 3), .inl (cJ, B, .inr (.inl (fun _ => 0))))] H := hP
  have hD : va_D A [(h, .inr (2, [.int (nI L), .int (nI (2 ^ L)), .int (nI S), .int (nI C), .ref q_3, .ref q_5, .ref q_6, .ref q_1, .ref q_8, .null, .int 0, .int 0])), (q_1, .inr (1, [.ref (u_2 1), .int 0, .int 0])), ((u_2 1), .inl (cI, 600, .inl (fun _ => 0))), (q_3, .inr (0, [.ref (u_4 1), .ref (u_4 2), .ref (u_4 3), .int 0])), ((u_4 1), .inl (cI, (tr_nN L S), .inl (fun _ => 0))), ((u_4 2), .inl (cI, (tr_nN L S), .inl (fun _ => 0))), ((u_4 3), .inl (cJ, (tr_nN L S), .inr (.inl (fun _ => 0)))), (q_5, .inl (cI, (2 * 2 ^ L), .inl (fun _ => 0))), (q_6, .inr (0, [.ref (u_7 1), .ref (u_7 2), .ref (u_7 3), .int 0])), ((u_7 1), .inl (cI, C, .inl (fun _ => 0))), ((u_7 2), .inl (cI, C, .inl (fun _ => 0))), ((u_7 3), .inl (cJ, C, .inr (.inl (fun _ => 0)))), (q_8, .inr (0, [.ref (u_9 1), .ref (u_9 2), .ref (u_9 3), .int 0])), ((u_9 1), .inl (cI, B, .inl (fun _ => 0))), ((u_9 2), .inl (cI, B, .inl (fun _ => 0))), ((u_9 3), .inl (cJ, B, .inr (.inl (fun _ => 0))))] := hD
  refine lv_aload_n hx hb d_TR_init_93 rfl (lv_at hl 0 rfl) ?_
  refine lv_iload hx hb d_TR_init_94 (lv_at hl 4 rfl) ?_
  refine va_newa (atype := .int) (ty := .int) (a0 := (B, .inl (fun _ => 0))) (N' := B) hx hb (hT _ m_74) rfl hK hP hD hS hA (fun _ => rfl) (nI_pos (show B < 2 ^ 31 by omega)) (nI_clamp (show B < 2 ^ 31 by omega)) (by show _ * 4 ≤ 536870912; have := hB; omega) (by decide) (by show _ ≤ 3047; have := hB; omega) d_TR_init_96 (fun q_10 cA H hK2 hP hD hS => ?_)
  have hc9 : cI = cA := va_ca hK2 (i := 0) (j := 2) rfl rfl
  subst hc9
  have hP : va_P (dC, dI) kCl [(h, .inr (2, [.int (nI L), .int (nI (2 ^ L)), .int (nI S), .int (nI C), .ref q_3, .ref q_5, .ref q_6, .ref q_1, .ref q_8, .null, .int 0, .int 0])), (q_1, .inr (1, [.ref (u_2 1), .int 0, .int 0])), ((u_2 1), .inl (cI, 600, .inl (fun _ => 0))), (q_3, .inr (0, [.ref (u_4 1), .ref (u_4 2), .ref (u_4 3), .int 0])), ((u_4 1), .inl (cI, (tr_nN L S), .inl (fun _ => 0))), ((u_4 2), .inl (cI, (tr_nN L S), .inl (fun _ => 0))), ((u_4 3), .inl (cJ, (tr_nN L S), .inr (.inl (fun _ => 0)))), (q_5, .inl (cI, (2 * 2 ^ L), .inl (fun _ => 0))), (q_6, .inr (0, [.ref (u_7 1), .ref (u_7 2), .ref (u_7 3), .int 0])), ((u_7 1), .inl (cI, C, .inl (fun _ => 0))), ((u_7 2), .inl (cI, C, .inl (fun _ => 0))), ((u_7 3), .inl (cJ, C, .inr (.inl (fun _ => 0)))), (q_8, .inr (0, [.ref (u_9 1), .ref (u_9 2), .ref (u_9 3), .int 0])), ((u_9 1), .inl (cI, B, .inl (fun _ => 0))), ((u_9 2), .inl (cI, B, .inl (fun _ => 0))), ((u_9 3), .inl (cJ, B, .inr (.inl (fun _ => 0)))), (q_10, .inl (cI, B, .inl (fun _ => 0)))] H := hP
  have hD : va_D A [(h, .inr (2, [.int (nI L), .int (nI (2 ^ L)), .int (nI S), .int (nI C), .ref q_3, .ref q_5, .ref q_6, .ref q_1, .ref q_8, .null, .int 0, .int 0])), (q_1, .inr (1, [.ref (u_2 1), .int 0, .int 0])), ((u_2 1), .inl (cI, 600, .inl (fun _ => 0))), (q_3, .inr (0, [.ref (u_4 1), .ref (u_4 2), .ref (u_4 3), .int 0])), ((u_4 1), .inl (cI, (tr_nN L S), .inl (fun _ => 0))), ((u_4 2), .inl (cI, (tr_nN L S), .inl (fun _ => 0))), ((u_4 3), .inl (cJ, (tr_nN L S), .inr (.inl (fun _ => 0)))), (q_5, .inl (cI, (2 * 2 ^ L), .inl (fun _ => 0))), (q_6, .inr (0, [.ref (u_7 1), .ref (u_7 2), .ref (u_7 3), .int 0])), ((u_7 1), .inl (cI, C, .inl (fun _ => 0))), ((u_7 2), .inl (cI, C, .inl (fun _ => 0))), ((u_7 3), .inl (cJ, C, .inr (.inl (fun _ => 0)))), (q_8, .inr (0, [.ref (u_9 1), .ref (u_9 2), .ref (u_9 3), .int 0])), ((u_9 1), .inl (cI, B, .inl (fun _ => 0))), ((u_9 2), .inl (cI, B, .inl (fun _ => 0))), ((u_9 3), .inl (cJ, B, .inr (.inl (fun _ => 0)))), (q_10, .inl (cI, B, .inl (fun _ => 0)))] := hD
  refine W.widen (k := 16) (n := 3047) (by decide) (by have := hB; omega) ?_
  refine va_putF (D := (dC, dI)) (ci := 2) (v := .ref q_10) (ty := (.array .int)) (C := R_TR) (T := F_TR) (N := 12) hx hb hT i_TR t_TR t_TR_ok n_TR hown hK hP hD hS 0 rfl rfl 9 (by decide) (hT _ m_110) (fun _ h9 => h9) rfl hin rfl (by decide +kernel) rfl rfl (Nat.le_of_ble_eq_true rfl) d_TR_init_98 (fun H locs hP hD hS => ?_)
  have hP : va_P (dC, dI) kCl [(h, .inr (2, [.int (nI L), .int (nI (2 ^ L)), .int (nI S), .int (nI C), .ref q_3, .ref q_5, .ref q_6, .ref q_1, .ref q_8, .ref q_10, .int 0, .int 0])), (q_1, .inr (1, [.ref (u_2 1), .int 0, .int 0])), ((u_2 1), .inl (cI, 600, .inl (fun _ => 0))), (q_3, .inr (0, [.ref (u_4 1), .ref (u_4 2), .ref (u_4 3), .int 0])), ((u_4 1), .inl (cI, (tr_nN L S), .inl (fun _ => 0))), ((u_4 2), .inl (cI, (tr_nN L S), .inl (fun _ => 0))), ((u_4 3), .inl (cJ, (tr_nN L S), .inr (.inl (fun _ => 0)))), (q_5, .inl (cI, (2 * 2 ^ L), .inl (fun _ => 0))), (q_6, .inr (0, [.ref (u_7 1), .ref (u_7 2), .ref (u_7 3), .int 0])), ((u_7 1), .inl (cI, C, .inl (fun _ => 0))), ((u_7 2), .inl (cI, C, .inl (fun _ => 0))), ((u_7 3), .inl (cJ, C, .inr (.inl (fun _ => 0)))), (q_8, .inr (0, [.ref (u_9 1), .ref (u_9 2), .ref (u_9 3), .int 0])), ((u_9 1), .inl (cI, B, .inl (fun _ => 0))), ((u_9 2), .inl (cI, B, .inl (fun _ => 0))), ((u_9 3), .inl (cJ, B, .inr (.inl (fun _ => 0)))), (q_10, .inl (cI, B, .inl (fun _ => 0)))] H := hP
  have hD : va_D A [(h, .inr (2, [.int (nI L), .int (nI (2 ^ L)), .int (nI S), .int (nI C), .ref q_3, .ref q_5, .ref q_6, .ref q_1, .ref q_8, .ref q_10, .int 0, .int 0])), (q_1, .inr (1, [.ref (u_2 1), .int 0, .int 0])), ((u_2 1), .inl (cI, 600, .inl (fun _ => 0))), (q_3, .inr (0, [.ref (u_4 1), .ref (u_4 2), .ref (u_4 3), .int 0])), ((u_4 1), .inl (cI, (tr_nN L S), .inl (fun _ => 0))), ((u_4 2), .inl (cI, (tr_nN L S), .inl (fun _ => 0))), ((u_4 3), .inl (cJ, (tr_nN L S), .inr (.inl (fun _ => 0)))), (q_5, .inl (cI, (2 * 2 ^ L), .inl (fun _ => 0))), (q_6, .inr (0, [.ref (u_7 1), .ref (u_7 2), .ref (u_7 3), .int 0])), ((u_7 1), .inl (cI, C, .inl (fun _ => 0))), ((u_7 2), .inl (cI, C, .inl (fun _ => 0))), ((u_7 3), .inl (cJ, C, .inr (.inl (fun _ => 0)))), (q_8, .inr (0, [.ref (u_9 1), .ref (u_9 2), .ref (u_9 3), .int 0])), ((u_9 1), .inl (cI, B, .inl (fun _ => 0))), ((u_9 2), .inl (cI, B, .inl (fun _ => 0))), ((u_9 3), .inl (cJ, B, .inr (.inl (fun _ => 0)))), (q_10, .inl (cI, B, .inl (fun _ => 0)))] := hD
  have hP9 := hP.sub (ws' := [(h, .inr (2, [.int (nI L), .int (nI (2 ^ L)), .int (nI S), .int (nI C), .ref q_3, .ref q_5, .ref q_6, .ref q_1, .ref q_8, .ref q_10, .int 0, .int 0])), (q_3, .inr (0, [.ref (u_4 1), .ref (u_4 2), .ref (u_4 3), .int 0])), ((u_4 1), .inl (cI, (tr_nN L S), .inl (fun _ => 0))), ((u_4 2), .inl (cI, (tr_nN L S), .inl (fun _ => 0))), ((u_4 3), .inl (cJ, (tr_nN L S), .inr (.inl (fun _ => 0)))), (q_5, .inl (cI, (2 * 2 ^ L), .inl (fun _ => 0))), (q_6, .inr (0, [.ref (u_7 1), .ref (u_7 2), .ref (u_7 3), .int 0])), ((u_7 1), .inl (cI, C, .inl (fun _ => 0))), ((u_7 2), .inl (cI, C, .inl (fun _ => 0))), ((u_7 3), .inl (cJ, C, .inr (.inl (fun _ => 0)))), (q_1, .inr (1, [.ref (u_2 1), .int 0, .int 0])), ((u_2 1), .inl (cI, 600, .inl (fun _ => 0))), (q_8, .inr (0, [.ref (u_9 1), .ref (u_9 2), .ref (u_9 3), .int 0])), ((u_9 1), .inl (cI, B, .inl (fun _ => 0))), ((u_9 2), .inl (cI, B, .inl (fun _ => 0))), ((u_9 3), .inl (cJ, B, .inr (.inl (fun _ => 0)))), (q_10, .inl (cI, B, .inl (fun _ => 0)))]) [0, 3, 4, 5, 6, 7, 8, 9, 10, 11, 1, 2, 12, 13, 14, 15, 16] rfl
  have hD9 := hD.sub (ws' := [(h, .inr (2, [.int (nI L), .int (nI (2 ^ L)), .int (nI S), .int (nI C), .ref q_3, .ref q_5, .ref q_6, .ref q_1, .ref q_8, .ref q_10, .int 0, .int 0])), (q_3, .inr (0, [.ref (u_4 1), .ref (u_4 2), .ref (u_4 3), .int 0])), ((u_4 1), .inl (cI, (tr_nN L S), .inl (fun _ => 0))), ((u_4 2), .inl (cI, (tr_nN L S), .inl (fun _ => 0))), ((u_4 3), .inl (cJ, (tr_nN L S), .inr (.inl (fun _ => 0)))), (q_5, .inl (cI, (2 * 2 ^ L), .inl (fun _ => 0))), (q_6, .inr (0, [.ref (u_7 1), .ref (u_7 2), .ref (u_7 3), .int 0])), ((u_7 1), .inl (cI, C, .inl (fun _ => 0))), ((u_7 2), .inl (cI, C, .inl (fun _ => 0))), ((u_7 3), .inl (cJ, C, .inr (.inl (fun _ => 0)))), (q_1, .inr (1, [.ref (u_2 1), .int 0, .int 0])), ((u_2 1), .inl (cI, 600, .inl (fun _ => 0))), (q_8, .inr (0, [.ref (u_9 1), .ref (u_9 2), .ref (u_9 3), .int 0])), ((u_9 1), .inl (cI, B, .inl (fun _ => 0))), ((u_9 2), .inl (cI, B, .inl (fun _ => 0))), ((u_9 3), .inl (cJ, B, .inr (.inl (fun _ => 0)))), (q_10, .inl (cI, B, .inl (fun _ => 0)))]) [0, 3, 4, 5, 6, 7, 8, 9, 10, 11, 1, 2, 12, 13, 14, 15, 16] (by decide) rfl
  refine W.widen (k := 16) (n := 3047) (by decide) (by first | exact Nat.le_refl _ | omega) ?_
  exact W.vret hx hb hr (fun t9 ht _ => iQ_end (fun k => if k = 1 then q_3 else if k = 2 then (u_4 1) else if k = 3 then (u_4 2) else if k = 4 then (u_4 3) else if k = 5 then q_5 else if k = 6 then q_6 else if k = 7 then (u_7 1) else if k = 8 then (u_7 2) else if k = 9 then (u_7 3) else if k = 10 then q_1 else if k = 11 then (u_2 1) else if k = 12 then q_8 else if k = 13 then (u_9 1) else if k = 14 then (u_9 2) else if k = 15 then (u_9 3) else q_10) rfl hP9 hD9 hS ht) hS.2.2 d_TR_init_101 hlocks
end
section
def tr_word (L S : Nat) (t : Ts) (nd sl : Int32) (k : Nat) : Int64 := if k = 0 then (rw_at (tr_nN L S) (ts_nodes t).1 (nd * nI S + sl)).toInt64 else if k = 1 then (rw_at (tr_nN L S) (ts_nodes t).2.1 (nd * nI S + sl)).toInt64 else rw_atL (tr_nN L S) (ts_nodes t).2.2.1 (nd * nI S + sl)

set_option maxHeartbeats 4000000 in
set_option maxRecDepth 100000 in
/-- Tree.wordAt -/
theorem c_TR_wordAt {l : Launch} {dC : Nat → ClassId} {dI : Nat → Nat → Nat} {cI cJ : ClassId} {H : Heap} {ad : Nat → Nat} {L S C B : Nat} {t : Ts} (ok : tr_ok L S C B) (hP : va_P (dC, dI) kCl (tw_ cI cJ ad L S C B (ts_mk (ts_nodes t) (ts_cnts t) (ts_stash t) (ts_trail t) (ts_plan t) (ts_tgt t) (ts_way t) (ts_sought t))) H) (nd sl : Int32) (k : Nat) (hk : k < 3) : Met l y_TR_wordAt (k_TR_wordAt :: bw) { frames := 2, cells := 0, slots := 0, locals := 42 } (zP (dC, dI) kCl [(cI, .int), (cJ, .long)] [.ref (ad 0), .int nd, .int sl, .int (nI k)] H) (zQl H (tr_word L S t nd sl k)) 0 0 (fun _ => False) := by
  refine Met.ofZ (own := "CoinTree$Tree") (by decide) rfl [.ref (ad 0), .int nd, .int sl, .int (nI k)] (Nat.le_of_ble_eq_true rfl) (fun _ _ h => h.1) ?_
  intro p e s m below meth c ls C0 hv hl
  obtain ⟨hx, hb, hr, hml, hown, hT, hlocks⟩ := C0
  obtain ⟨-, rfl, hK⟩ := hv
  have hS : va_S (fun _ => False) s.heap s.heap [] := va_S.rf
  have hl : lv_has ls 5 [(0, .ref (ad 0)), (1, .int nd), (2, .int sl), (3, .int (nI k))] := hl
  refine lv_iload_n hx hb d_TR_wordAt_0 rfl (lv_at hl 1 rfl) ?_
  refine lv_aload_n hx hb d_TR_wordAt_1 rfl (lv_at hl 0 rfl) ?_
  refine va_get (D := (dC, dI)) (ci := 2) (v := .int (nI S)) (C := R_TR) (T := F_TR) (N := 12) hx hb hT i_TR hown hK hP 0 rfl rfl 2 (by decide) (hT _ m_101) (fun _ h9 => h9) rfl d_TR_wordAt_2 ?_
  refine lv_imul hx hb d_TR_wordAt_5 ?_
  refine lv_iload_n hx hb d_TR_wordAt_6 rfl (lv_at hl 2 rfl) ?_
  refine lv_iadd hx hb d_TR_wordAt_7 ?_
  refine lv_istore (lv' := [(4, .int ((nd * (nI S)) + sl)), (0, .ref (ad 0)), (1, .int nd), (2, .int sl), (3, .int (nI k))]) hx hb d_TR_wordAt_8 hl (by decide) rfl (fun ls hl => ?_)
  refine lv_iload_n hx hb d_TR_wordAt_10 rfl (lv_at hl 4 rfl) ?_
  rcases (show k = 0 ∨ k = 1 ∨ k = 2 by omega) with rfl | rfl | rfl
  · refine lv_lookup (off := 25) (tgt := 36) hx hb d_TR_wordAt_11 (by decide +kernel) (by decide +kernel) (by decide) ?_
    refine lv_aload_n hx hb d_TR_wordAt_36 rfl (lv_at hl 1 rfl) ?_
    refine va_get (D := (dC, dI)) (ci := 2) (v := .ref (ad 1)) (C := R_TR) (T := F_TR) (N := 12) hx hb hT i_TR hown hK hP 0 rfl rfl 4 (by decide) (hT _ m_103) (fun _ h9 => h9) rfl d_TR_wordAt_37 ?_
    refine lv_iload hx hb d_TR_wordAt_40 (lv_at hl 0 rfl) ?_
    refine zc_i (va_runV (As := [.int ((nd * (nI S)) + sl)]) (rest := []) ⟨hx, hb, hml, hown, hT⟩ (c_RW_markAt hP (show rw_in (tw_ cI cJ ad L S C B (ts_mk (ts_nodes t) (ts_cnts t) (ts_stash t) (ts_trail t) (ts_plan t) (ts_tgt t) (ts_way t) (ts_sought t))) 1 (ad 1) (ad 2) (ad 3) (ad 4) (tr_nN L S) cI cJ (ts_nodes t) from ⟨rfl, rfl, rfl, rfl⟩) (tr_nN_lt ok) ((nd * (nI S)) + sl)) (cwV 1 hT (gi_V m_291 m_312 m_289 m_290 m_26) rfl rfl rfl p_RW_markAt ⟨Nat.le_of_ble_eq_true rfl, Nat.le_of_ble_eq_true rfl⟩) ⟨zP_blind, va_recv hK hP (ci := 0) (q0 := 1) rfl rfl, zP_pre hK⟩ rfl rfl hl.1 rfl (lv_room (Nat.le_of_ble_eq_true rfl)) d_TR_wordAt_42 ⟨Nat.le_refl _, Nat.le_refl _⟩) hS (fun locs hS => ?_)
    refine lv_i2l (v := (rw_at (tr_nN L S) (ts_nodes t).1 ((nd * (nI S)) + sl)).toInt64) hx hb d_TR_wordAt_45 rfl ?_
    exact W.lret hx hb hr (fun t9 ht _ => zQl_end (rfl) rfl ht) hS.2.2 d_TR_wordAt_46 hlocks
  · refine lv_lookup (off := 36) (tgt := 47) hx hb d_TR_wordAt_11 (by decide +kernel) (by decide +kernel) (by decide) ?_
    refine lv_aload_n hx hb d_TR_wordAt_47 rfl (lv_at hl 1 rfl) ?_
    refine va_get (D := (dC, dI)) (ci := 2) (v := .ref (ad 1)) (C := R_TR) (T := F_TR) (N := 12) hx hb hT i_TR hown hK hP 0 rfl rfl 4 (by decide) (hT _ m_103) (fun _ h9 => h9) rfl d_TR_wordAt_48 ?_
    refine lv_iload hx hb d_TR_wordAt_51 (lv_at hl 0 rfl) ?_
    refine zc_i (va_runV (As := [.int ((nd * (nI S)) + sl)]) (rest := []) ⟨hx, hb, hml, hown, hT⟩ (c_RW_leafAt hP (show rw_in (tw_ cI cJ ad L S C B (ts_mk (ts_nodes t) (ts_cnts t) (ts_stash t) (ts_trail t) (ts_plan t) (ts_tgt t) (ts_way t) (ts_sought t))) 1 (ad 1) (ad 2) (ad 3) (ad 4) (tr_nN L S) cI cJ (ts_nodes t) from ⟨rfl, rfl, rfl, rfl⟩) (tr_nN_lt ok) ((nd * (nI S)) + sl)) (cwV 1 hT (gi_V m_295 m_348 m_293 m_294 m_26) rfl rfl rfl p_RW_leafAt ⟨Nat.le_of_ble_eq_true rfl, Nat.le_of_ble_eq_true rfl⟩) ⟨zP_blind, va_recv hK hP (ci := 0) (q0 := 1) rfl rfl, zP_pre hK⟩ rfl rfl hl.1 rfl (lv_room (Nat.le_of_ble_eq_true rfl)) d_TR_wordAt_53 ⟨Nat.le_refl _, Nat.le_refl _⟩) hS (fun locs hS => ?_)
    refine lv_i2l (v := (rw_at (tr_nN L S) (ts_nodes t).2.1 ((nd * (nI S)) + sl)).toInt64) hx hb d_TR_wordAt_56 rfl ?_
    exact W.lret hx hb hr (fun t9 ht _ => zQl_end (rfl) rfl ht) hS.2.2 d_TR_wordAt_57 hlocks
  · refine lv_lookup (off := 47) (tgt := 58) hx hb d_TR_wordAt_11 (by decide +kernel) (by decide +kernel) (by decide) ?_
    refine lv_aload_n hx hb d_TR_wordAt_58 rfl (lv_at hl 1 rfl) ?_
    refine va_get (D := (dC, dI)) (ci := 2) (v := .ref (ad 1)) (C := R_TR) (T := F_TR) (N := 12) hx hb hT i_TR hown hK hP 0 rfl rfl 4 (by decide) (hT _ m_103) (fun _ h9 => h9) rfl d_TR_wordAt_59 ?_
    refine lv_iload hx hb d_TR_wordAt_62 (lv_at hl 0 rfl) ?_
    refine zc_l (va_runV (As := [.int ((nd * (nI S)) + sl)]) (rest := []) ⟨hx, hb, hml, hown, hT⟩ (c_RW_valueAt hP (show rw_in (tw_ cI cJ ad L S C B (ts_mk (ts_nodes t) (ts_cnts t) (ts_stash t) (ts_trail t) (ts_plan t) (ts_tgt t) (ts_way t) (ts_sought t))) 1 (ad 1) (ad 2) (ad 3) (ad 4) (tr_nN L S) cI cJ (ts_nodes t) from ⟨rfl, rfl, rfl, rfl⟩) (tr_nN_lt ok) ((nd * (nI S)) + sl)) (cwV 1 hT (gi_V m_299 m_325 m_297 m_298 m_26) rfl rfl rfl p_RW_valueAt ⟨Nat.le_of_ble_eq_true rfl, Nat.le_of_ble_eq_true rfl⟩) ⟨zP_blind, va_recv hK hP (ci := 0) (q0 := 1) rfl rfl, zP_pre hK⟩ rfl rfl hl.1 rfl (lv_room (Nat.le_of_ble_eq_true rfl)) d_TR_wordAt_64 ⟨Nat.le_refl _, Nat.le_refl _⟩) hS (fun locs hS => ?_)
    exact W.lret hx hb hr (fun t9 ht _ => zQl_end (rfl) rfl ht) hS.2.2 d_TR_wordAt_67 hlocks
end
section
-- CoinTree: its cells
abbrev Cs : Type := (Nat → Int32) × Int32 × Int32 × Ts × Ts
def cs_mk (a : Nat → Int32) (b c : Int32) (d e : Ts) : Cs := (a, b, c, d, e)
def cs_ml (c : Cs) : Nat → Int32 := c.1
def cs_asked (c : Cs) : Int32 := c.2.1
def cs_most (c : Cs) : Int32 := c.2.2.1
def cs_t0 (c : Cs) : Ts := c.2.2.2.1
def cs_t1 (c : Cs) : Ts := c.2.2.2.2
def cw_ (cI cJ : ClassId) (x ml : Nat) (a0 a1 : Nat → Nat) (L M S C : Nat) (key : Int64) (c : Cs) : va_W :=
  (x, .inr (3, [.int (nI S), .int (nI C), .long key, .ref (a0 0), .ref (a1 0), .ref ml, .int (cs_asked c), .int (cs_most c)])) :: (ml, .inl (cI, 16, .inl (cs_ml c))) :: (tw_ cI cJ a0 L S C 64 (cs_t0 c) ++ tw_ cI cJ a1 M S C 16 (cs_t1 c))
def ct_near (x lo hi : Int32) : Int32 := if lo < (if x < hi then x else hi) then (if x < hi then x else hi) else lo
def ct_mx1 (z : Int64) : Int64 := (z ^^^ (z.toUInt64 >>> ((30 : Int32).toInt64.toUInt64 &&& Int64.toUInt64 63)).toInt64) * (-4658895280553007687)
def ct_mx2 (z : Int64) : Int64 := (z ^^^ (z.toUInt64 >>> ((27 : Int32).toInt64.toUInt64 &&& Int64.toUInt64 63)).toInt64) * (-7723592293110705685)
def ct_mx3 (z : Int64) : Int64 := z ^^^ (z.toUInt64 >>> ((31 : Int32).toInt64.toUInt64 &&& Int64.toUInt64 63)).toInt64
def ct_mix (z : Int64) : Int64 := ct_mx3 (ct_mx2 (ct_mx1 z))
def ct_with (v : Int64) (sh n : Int32) : Int64 := (v &&& ((65535 <<< (sh.toInt64 &&& 63)) ^^^ (-1))) ||| (n.toInt64 <<< (sh.toInt64 &&& 63))
def ct_num (v : Int64) (sh : Int32) : Int32 := ((v.toUInt64 >>> (sh.toInt64.toUInt64 &&& Int64.toUInt64 63)).toInt64 &&& 65535).toInt32
def ct_told (L : Nat) (v : Int64) (sh b : Int32) : Int32 := (if ct_num v sh = 0 then b else ct_num v sh - 1) &&& (nI (2 ^ L) - 1)
end
section
set_option maxHeartbeats 4000000 in
set_option maxRecDepth 100000 in
/-- CoinTree.nearest -/
theorem c_CT_nearest {l : Launch} {dC : Nat → ClassId} {dI : Nat → Nat → Nat} {cI cJ : ClassId} {H : Heap} (x lo hi : Int32) : Met l y_CT_nearest (k_CT_nearest :: bw) { frames := 1, cells := 0, slots := 0, locals := 21 } (zP (dC, dI) kCl [(cI, .int), (cJ, .long)] [.int x, .int lo, .int hi] H) (zQi H (ct_near x lo hi)) 0 0 (fun _ => False) := by
  refine Met.ofZ (own := "CoinTree") (by decide) rfl [.int x, .int lo, .int hi] (Nat.le_of_ble_eq_true rfl) (fun _ _ h => h.1) ?_
  intro p e s m below meth c ls C0 hv hl
  obtain ⟨hx, hb, hr, hml, hown, hT, hlocks⟩ := C0
  obtain ⟨-, rfl, hK⟩ := hv
  have hS : va_S (fun _ => False) s.heap s.heap [] := va_S.rf
  have hl : lv_has ls 3 [(0, .int x), (1, .int lo), (2, .int hi)] := hl
  refine lv_iload_n hx hb d_CT_nearest_0 rfl (lv_at hl 1 rfl) ?_
  refine lv_iload_n hx hb d_CT_nearest_1 rfl (lv_at hl 2 rfl) ?_
  refine lv_iload_n hx hb d_CT_nearest_2 rfl (lv_at hl 0 rfl) ?_
  refine va_mmin hx hb (hml.trans hl.1.symm) hown (hT _ m_45) (hT _ m_46) (hT _ m_23) (hT _ m_47) (Nat.le_of_ble_eq_true rfl) (Nat.le_of_ble_eq_true rfl) (Nat.zero_le _) (Nat.zero_le _) d_CT_nearest_3 ?_
  refine va_mmax hx hb (hml.trans hl.1.symm) hown (hT _ m_48) (hT _ m_49) (hT _ m_23) (hT _ m_50) (Nat.le_of_ble_eq_true rfl) (Nat.le_of_ble_eq_true rfl) (Nat.zero_le _) (Nat.zero_le _) d_CT_nearest_6 ?_
  exact W.iret hx hb hr (fun t9 ht _ => zQi_end (rfl) rfl ht) hS.2.2 d_CT_nearest_9 hlocks

set_option maxHeartbeats 4000000 in
set_option maxRecDepth 100000 in
/-- CoinTree.mix -/
theorem c_CT_mix {l : Launch} {dC : Nat → ClassId} {dI : Nat → Nat → Nat} {cI cJ : ClassId} {H : Heap} (z : Int64) : Met l y_CT_mix (k_CT_mix :: bw) { frames := 0, cells := 0, slots := 0, locals := 0 } (zP (dC, dI) kCl [(cI, .int), (cJ, .long)] [.long z] H) (zQl H (ct_mix z)) 0 0 (fun _ => False) := by
  refine Met.ofZ (own := "CoinTree") (by decide) rfl [.long z] (Nat.le_of_ble_eq_true rfl) (fun _ _ h => h.1) ?_
  intro p e s m below meth c ls C0 hv hl
  obtain ⟨hx, hb, hr, hml, hown, hT, hlocks⟩ := C0
  obtain ⟨-, rfl, hK⟩ := hv
  have hS : va_S (fun _ => False) s.heap s.heap [] := va_S.rf
  have hl : lv_has ls 6 [(0, .long z)] := hl
  refine lv_lload_n hx hb d_CT_mix_0 rfl (lv_at hl 0 rfl) ?_
  refine lv_lload_n hx hb d_CT_mix_1 rfl (lv_at hl 0 rfl) ?_
  refine lv_bipush (v := 30) hx hb d_CT_mix_2 (by decide) ?_
  refine lv_lushr (v := (z.toUInt64 >>> ((30 : Int32).toInt64.toUInt64 &&& Int64.toUInt64 63)).toInt64) hx hb d_CT_mix_4 rfl ?_
  refine lv_lxor hx hb d_CT_mix_5 ?_
  refine lv_ldc2 (v := (-4658895280553007687)) hx hb hown (hT _ m_431) d_CT_mix_6 ?_
  refine lv_lmul hx hb d_CT_mix_9 ?_
  refine lv_lstore_n (lv' := [(2, .long ((z ^^^ ((z.toUInt64 >>> ((30 : Int32).toInt64.toUInt64 &&& Int64.toUInt64 63)).toInt64)) * (-4658895280553007687))), (0, .long z)]) hx hb d_CT_mix_10 rfl hl (by decide) rfl (fun ls hl => ?_)
  refine lv_lload_n hx hb d_CT_mix_11 rfl (lv_at hl 0 rfl) ?_
  refine lv_lload_n hx hb d_CT_mix_12 rfl (lv_at hl 0 rfl) ?_
  refine lv_bipush (v := 27) hx hb d_CT_mix_13 (by decide) ?_
  refine lv_lushr (v := (((z ^^^ ((z.toUInt64 >>> ((30 : Int32).toInt64.toUInt64 &&& Int64.toUInt64 63)).toInt64)) * (-4658895280553007687)).toUInt64 >>> ((27 : Int32).toInt64.toUInt64 &&& Int64.toUInt64 63)).toInt64) hx hb d_CT_mix_15 rfl ?_
  refine lv_lxor hx hb d_CT_mix_16 ?_
  refine lv_ldc2 (v := (-7723592293110705685)) hx hb hown (hT _ m_432) d_CT_mix_17 ?_
  refine lv_lmul hx hb d_CT_mix_20 ?_
  refine lv_lstore (lv' := [(4, .long ((((z ^^^ ((z.toUInt64 >>> ((30 : Int32).toInt64.toUInt64 &&& Int64.toUInt64 63)).toInt64)) * (-4658895280553007687)) ^^^ ((((z ^^^ ((z.toUInt64 >>> ((30 : Int32).toInt64.toUInt64 &&& Int64.toUInt64 63)).toInt64)) * (-4658895280553007687)).toUInt64 >>> ((27 : Int32).toInt64.toUInt64 &&& Int64.toUInt64 63)).toInt64)) * (-7723592293110705685))), (2, .long ((z ^^^ ((z.toUInt64 >>> ((30 : Int32).toInt64.toUInt64 &&& Int64.toUInt64 63)).toInt64)) * (-4658895280553007687))), (0, .long z)]) hx hb d_CT_mix_21 hl (by decide) rfl (fun ls hl => ?_)
  refine lv_lload hx hb d_CT_mix_23 (lv_at hl 0 rfl) ?_
  refine lv_lload hx hb d_CT_mix_25 (lv_at hl 0 rfl) ?_
  refine lv_bipush (v := 31) hx hb d_CT_mix_27 (by decide) ?_
  refine lv_lushr (v := (((((z ^^^ ((z.toUInt64 >>> ((30 : Int32).toInt64.toUInt64 &&& Int64.toUInt64 63)).toInt64)) * (-4658895280553007687)) ^^^ ((((z ^^^ ((z.toUInt64 >>> ((30 : Int32).toInt64.toUInt64 &&& Int64.toUInt64 63)).toInt64)) * (-4658895280553007687)).toUInt64 >>> ((27 : Int32).toInt64.toUInt64 &&& Int64.toUInt64 63)).toInt64)) * (-7723592293110705685)).toUInt64 >>> ((31 : Int32).toInt64.toUInt64 &&& Int64.toUInt64 63)).toInt64) hx hb d_CT_mix_29 rfl ?_
  refine lv_lxor hx hb d_CT_mix_30 ?_
  exact W.lret hx hb hr (fun t9 ht _ => zQl_end (rfl) rfl ht) hS.2.2 d_CT_mix_31 hlocks

set_option maxHeartbeats 4000000 in
set_option maxRecDepth 100000 in
/-- CoinTree.withNumber -/
theorem c_CT_withNumber {l : Launch} {dC : Nat → ClassId} {dI : Nat → Nat → Nat} {cI cJ : ClassId} {H : Heap} (v : Int64) (sh n : Int32) : Met l y_CT_withNumber (k_CT_withNumber :: bw) { frames := 0, cells := 0, slots := 0, locals := 0 } (zP (dC, dI) kCl [(cI, .int), (cJ, .long)] [.long v, .int sh, .int n] H) (zQl H (ct_with v sh n)) 0 0 (fun _ => False) := by
  refine Met.ofZ (own := "CoinTree") (by decide) rfl [.long v, .int sh, .int n] (Nat.le_of_ble_eq_true rfl) (fun _ _ h => h.1) ?_
  intro p e s m below meth c ls C0 hv hl
  obtain ⟨hx, hb, hr, hml, hown, hT, hlocks⟩ := C0
  obtain ⟨-, rfl, hK⟩ := hv
  have hS : va_S (fun _ => False) s.heap s.heap [] := va_S.rf
  have hl : lv_has ls 4 [(0, .long v), (2, .int sh), (3, .int n)] := hl
  refine lv_lload_n hx hb d_CT_withNumber_0 rfl (lv_at hl 0 rfl) ?_
  refine lv_ldc2 (v := 65535) hx hb hown (hT _ m_329) d_CT_withNumber_1 ?_
  refine lv_iload_n hx hb d_CT_withNumber_4 rfl (lv_at hl 1 rfl) ?_
  refine lv_lshl (v := (65535 <<< (sh.toInt64 &&& 63))) hx hb d_CT_withNumber_5 rfl ?_
  refine lv_ldc2 (v := (-1)) hx hb hown (hT _ m_330) d_CT_withNumber_6 ?_
  refine lv_lxor hx hb d_CT_withNumber_9 ?_
  refine lv_land hx hb d_CT_withNumber_10 ?_
  refine lv_iload_n hx hb d_CT_withNumber_11 rfl (lv_at hl 2 rfl) ?_
  refine lv_i2l (v := n.toInt64) hx hb d_CT_withNumber_12 rfl ?_
  refine lv_iload_n hx hb d_CT_withNumber_13 rfl (lv_at hl 1 rfl) ?_
  refine lv_lshl (v := ((n.toInt64) <<< (sh.toInt64 &&& 63))) hx hb d_CT_withNumber_14 rfl ?_
  refine lv_lor hx hb d_CT_withNumber_15 ?_
  exact W.lret hx hb hr (fun t9 ht _ => zQl_end (rfl) rfl ht) hS.2.2 d_CT_withNumber_16 hlocks

set_option maxHeartbeats 4000000 in
set_option maxRecDepth 100000 in
/-- CoinTree.leafTold -/
theorem c_CT_leafTold {l : Launch} {dC : Nat → ClassId} {dI : Nat → Nat → Nat} {cI cJ : ClassId} {H : Heap} {x ml : Nat} {a0 a1 : Nat → Nat} {L M S C : Nat} {key : Int64} {z : Cs} (ok0 : tr_ok L S C 64) (ok1 : tr_ok M S C 16) (hP : va_P (dC, dI) kCl (cw_ cI cJ x ml a0 a1 L M S C key (cs_mk (cs_ml z) (cs_asked z) (cs_most z) (ts_mk (ts_nodes (cs_t0 z)) (ts_cnts (cs_t0 z)) (ts_stash (cs_t0 z)) (ts_trail (cs_t0 z)) (ts_plan (cs_t0 z)) (ts_tgt (cs_t0 z)) (ts_way (cs_t0 z)) (ts_sought (cs_t0 z))) (ts_mk (ts_nodes (cs_t1 z)) (ts_cnts (cs_t1 z)) (ts_stash (cs_t1 z)) (ts_trail (cs_t1 z)) (ts_plan (cs_t1 z)) (ts_tgt (cs_t1 z)) (ts_way (cs_t1 z)) (ts_sought (cs_t1 z))))) H) (v : Int64) (sh b : Int32) : Met l y_CT_leafTold (k_CT_leafTold :: bw) { frames := 1, cells := 0, slots := 0, locals := 21 } (zP (dC, dI) kCl [(cI, .int), (cJ, .long)] [.ref x, .long v, .int sh, .int b] H) (zQi H (ct_told L v sh b)) 0 0 (fun _ => False) := by
  refine Met.ofZ (own := "CoinTree") (by decide) rfl [.ref x, .long v, .int sh, .int b] (Nat.le_of_ble_eq_true rfl) (fun _ _ h => h.1) ?_
  intro p e s m below meth c ls C0 hv hl
  obtain ⟨hx, hb, hr, hml, hown, hT, hlocks⟩ := C0
  obtain ⟨-, rfl, hK⟩ := hv
  have hS : va_S (fun _ => False) s.heap s.heap [] := va_S.rf
  have hl : lv_has ls 6 [(0, .ref x), (1, .long v), (3, .int sh), (4, .int b)] := hl
  refine lv_lload_n hx hb d_CT_leafTold_0 rfl (lv_at hl 1 rfl) ?_
  refine lv_iload_n hx hb d_CT_leafTold_1 rfl (lv_at hl 2 rfl) ?_
  refine lv_lushr (v := (v.toUInt64 >>> (sh.toInt64.toUInt64 &&& Int64.toUInt64 63)).toInt64) hx hb d_CT_leafTold_2 rfl ?_
  refine lv_ldc2 (v := 65535) hx hb hown (hT _ m_329) d_CT_leafTold_3 ?_
  refine lv_land hx hb d_CT_leafTold_6 ?_
  refine lv_l2i (v := (((v.toUInt64 >>> (sh.toInt64.toUInt64 &&& Int64.toUInt64 63)).toInt64) &&& 65535).toInt32) hx hb d_CT_leafTold_7 rfl ?_
  refine lv_istore (lv' := [(5, .int ((((v.toUInt64 >>> (sh.toInt64.toUInt64 &&& Int64.toUInt64 63)).toInt64) &&& 65535).toInt32)), (0, .ref x), (1, .long v), (3, .int sh), (4, .int b)]) hx hb d_CT_leafTold_8 hl (by decide) rfl (fun ls hl => ?_)
  refine lv_aload_n hx hb d_CT_leafTold_10 rfl (lv_at hl 1 rfl) ?_
  refine va_get (D := (dC, dI)) (ci := 3) (v := .ref (a0 0)) (C := R_CT) (T := F_CT) (N := 8) hx hb hT i_CT hown hK hP 0 rfl rfl 3 (by decide) (hT _ m_145) (fun _ h9 => h9) rfl d_CT_leafTold_11 ?_
  refine lv_iload hx hb d_CT_leafTold_14 (lv_at hl 0 rfl) ?_
  refine lv_if_ne (tgt := 24) hx hb d_CT_leafTold_16 (by decide) (fun c_1 => ?_) (fun c_1 => ?_)
  · refine lv_iload hx hb d_CT_leafTold_24 (lv_at hl 0 rfl) ?_
    refine lv_iconst (v := 1) hx hb d_CT_leafTold_26 (by decide) ?_
    refine lv_isub hx hb d_CT_leafTold_27 ?_
    refine zc_i (va_runV (As := [.int (((((v.toUInt64 >>> (sh.toInt64.toUInt64 &&& Int64.toUInt64 63)).toInt64) &&& 65535).toInt32) - 1)]) (rest := []) ⟨hx, hb, hml, hown, hT⟩ (c_TR_leafModulo (t := ts_mk (ts_nodes (cs_t0 z)) (ts_cnts (cs_t0 z)) (ts_stash (cs_t0 z)) (ts_trail (cs_t0 z)) (ts_plan (cs_t0 z)) (ts_tgt (cs_t0 z)) (ts_way (cs_t0 z)) (ts_sought (cs_t0 z))) ok0 (hP.sub (ws' := tw_ cI cJ a0 L S C 64 (ts_mk (ts_nodes (cs_t0 z)) (ts_cnts (cs_t0 z)) (ts_stash (cs_t0 z)) (ts_trail (cs_t0 z)) (ts_plan (cs_t0 z)) (ts_tgt (cs_t0 z)) (ts_way (cs_t0 z)) (ts_sought (cs_t0 z)))) [2, 3, 4, 5, 6, 7, 8, 9, 10, 11, 12, 13, 14, 15, 16, 17, 18] rfl) (((((v.toUInt64 >>> (sh.toInt64.toUInt64 &&& Int64.toUInt64 63)).toInt64) &&& 65535).toInt32) - 1)) (cwV 1 hT (gi_V m_141 m_138 m_139 m_140 m_24) rfl rfl rfl p_TR_leafModulo ⟨Nat.le_of_ble_eq_true rfl, Nat.le_of_ble_eq_true rfl⟩) ⟨zP_blind, va_recv hK hP (ci := 2) (q0 := 2) rfl rfl, zP_pre hK⟩ rfl rfl hl.1 rfl (lv_room (Nat.le_of_ble_eq_true rfl)) d_CT_leafTold_28 ⟨Nat.le_refl _, Nat.le_refl _⟩) hS (fun locs hS => ?_)
    exact W.iret hx hb hr (fun t9 ht _ => zQi_end (by first | exact congrArg (fun q => q &&& (nI (2 ^ L) - 1)) (if_pos (by assumption)).symm | exact congrArg (fun q => q &&& (nI (2 ^ L) - 1)) (if_neg (by assumption)).symm) rfl ht) hS.2.2 d_CT_leafTold_31 hlocks
  · refine lv_iload hx hb d_CT_leafTold_19 (lv_at hl 4 rfl) ?_
    refine lv_goto (tgt := 28) hx hb d_CT_leafTold_21 (by decide) ?_
    refine zc_i (va_runV (As := [.int b]) (rest := []) ⟨hx, hb, hml, hown, hT⟩ (c_TR_leafModulo (t := ts_mk (ts_nodes (cs_t0 z)) (ts_cnts (cs_t0 z)) (ts_stash (cs_t0 z)) (ts_trail (cs_t0 z)) (ts_plan (cs_t0 z)) (ts_tgt (cs_t0 z)) (ts_way (cs_t0 z)) (ts_sought (cs_t0 z))) ok0 (hP.sub (ws' := tw_ cI cJ a0 L S C 64 (ts_mk (ts_nodes (cs_t0 z)) (ts_cnts (cs_t0 z)) (ts_stash (cs_t0 z)) (ts_trail (cs_t0 z)) (ts_plan (cs_t0 z)) (ts_tgt (cs_t0 z)) (ts_way (cs_t0 z)) (ts_sought (cs_t0 z)))) [2, 3, 4, 5, 6, 7, 8, 9, 10, 11, 12, 13, 14, 15, 16, 17, 18] rfl) b) (cwV 1 hT (gi_V m_141 m_138 m_139 m_140 m_24) rfl rfl rfl p_TR_leafModulo ⟨Nat.le_of_ble_eq_true rfl, Nat.le_of_ble_eq_true rfl⟩) ⟨zP_blind, va_recv hK hP (ci := 2) (q0 := 2) rfl rfl, zP_pre hK⟩ rfl rfl hl.1 rfl (lv_room (Nat.le_of_ble_eq_true rfl)) d_CT_leafTold_28 ⟨Nat.le_refl _, Nat.le_refl _⟩) hS (fun locs hS => ?_)
    exact W.iret hx hb hr (fun t9 ht _ => zQi_end (by first | exact congrArg (fun q => q &&& (nI (2 ^ L) - 1)) (if_pos (by assumption)).symm | exact congrArg (fun q => q &&& (nI (2 ^ L) - 1)) (if_neg (by assumption)).symm) rfl ht) hS.2.2 d_CT_leafTold_31 hlocks
end
section
-- what a throw of the class needs beside bw: words that the tables alone decide, two statics of Throwable, the texts
abbrev xIO : String := "java/lang/IndexOutOfBoundsException"
abbrev xIA : String := "java/lang/IllegalArgumentException"
abbrev xUO : String := "java/lang/UnsupportedOperationException"
abbrev xN : List String := ["java/lang/RuntimeException", "java/lang/Exception"]
def xB : List Cond := [.declares ⟨"java/lang/RuntimeException", "<init>", "(Ljava/lang/String;)V"⟩, .declares ⟨"java/lang/Exception", "<init>", "(Ljava/lang/String;)V"⟩, .declares ⟨"java/lang/Throwable", "<init>", "(Ljava/lang/String;)V"⟩, .castable xIO xIO, .castable xIA xIA, .castable xUO xUO]
def xS : List (Nat × String) := [(127, "no such block"), (134, "a coin is no leaf of its tree"), (163, "a tree would be full"), (171, "no such tree"), (69, "no such trace"), (81, "no such node"), (83, "no such slot"), (85, "no such word"), (106, "no such place"), (125, "no such what")]
def xE (A : Nat → Prop) (U : State) (H : Heap) : Prop := vx_Zq Bundle.tN "UNASSIGNED_STACK" Bundle.steD A U H ∧ vx_Zq Bundle.tN "SUPPRESSED_SENTINEL" Bundle.listD A U H ∧ (∀ w ∈ xB, va_Nw w U) ∧ (∀ q ∈ xS, ∃ sa, vk_R "CoinTree" q.1 q.2 sa U)
theorem xB_warm {s U : State} (hW : s.WarmedH U.vm) (h : ∀ w ∈ xB, va_Nw w s) : ∀ w ∈ xB, va_Nw w U := by
  intro w hw
  have h9 := h w hw
  simp only [xB, List.mem_cons, List.not_mem_nil, or_false] at hw
  rcases hw with rfl | rfl | rfl | rfl | rfl | rfl
  · exact va_Nw.warmD hW h9
  · exact va_Nw.warmD hW h9
  · exact va_Nw.warmD hW h9
  · exact va_Nw.warmC hW h9
  · exact va_Nw.warmC hW h9
  · exact va_Nw.warmC hW h9
theorem xE.warm {A : Nat → Prop} {s U : State} {H : Heap} (hW : s.WarmedH U.vm) (h : xE A s H) : xE A U H := ⟨vx_Zq.moved hW.alike h.1, vx_Zq.moved hW.alike h.2.1, xB_warm hW h.2.2.1, fun q hq => (h.2.2.2 q hq).imp fun _ h9 => vk_R.warm hW h9⟩
theorem xE.kept {A : Nat → Prop} {s : State} {H H1 : Heap} (h : xE A s H) (hq : ∀ a : Nat, a < H.size → ¬ A a → H1[a]? = H[a]?) : xE A s H1 := ⟨h.1.kept hq, h.2.1.kept hq, h.2.2⟩
theorem xE.narrow {A B : Nat → Prop} {s : State} {H : Heap} (h : xE A s H) (hAB : ∀ q, B q → A q) : xE B s H := ⟨h.1.narrow hAB, h.2.1.narrow hAB, h.2.2⟩
theorem xE.same {A : Nat → Prop} {u U : State} {H : Heap} (hv : U.vm = u.vm) (h : xE A u H) : xE A U H := by
  have hW : u.WarmedH U.vm := by rw [hv]; exact State.WarmedH.refl u
  exact h.warm hW
section XG
theorem xg_io1 : ∀ w ∈ (vx_atS "CoinTree" 71 xIO xN).filter goodWord, w ∈ lw_tbl := by decide +kernel
theorem xg_ia1 : ∀ w ∈ (vx_atS "CoinTree" 136 xIA xN).filter goodWord, w ∈ lw_tbl := by decide +kernel
theorem xg_uo1 : ∀ w ∈ (vx_atS "CoinTree" 165 xUO xN).filter goodWord, w ∈ lw_tbl := by decide +kernel
theorem xg_io2 : ∀ w ∈ (vx_atS "CoinTree" 71 xIO xN).filter (fun w => !goodWord w), w ∈ xB := by decide +kernel
theorem xg_ia2 : ∀ w ∈ (vx_atS "CoinTree" 136 xIA xN).filter (fun w => !goodWord w), w ∈ xB := by decide +kernel
theorem xg_uo2 : ∀ w ∈ (vx_atS "CoinTree" 165 xUO xN).filter (fun w => !goodWord w), w ∈ xB := by decide +kernel
theorem xg_io3 : ∀ w ∈ Cond.classLink "CoinTree" 67 xIO :: Cond.initialized xIO :: vx_atS "CoinTree" 71 xIO xN, vx_ot w = true := by decide +kernel
theorem xg_ia3 : ∀ w ∈ Cond.classLink "CoinTree" 132 xIA :: Cond.initialized xIA :: vx_atS "CoinTree" 136 xIA xN, vx_ot w = true := by decide +kernel
theorem xg_uo3 : ∀ w ∈ Cond.classLink "CoinTree" 161 xUO :: Cond.initialized xUO :: vx_atS "CoinTree" 165 xUO xN, vx_ot w = true := by decide +kernel
theorem xB_tabs : ∀ w ∈ xB, w.onTables = true := by decide +kernel
end XG
theorem xg_hat {args : Array Value} {s : State} {L : List Cond} (hT : ∀ w ∈ bw, w.before args s = true) (h1 : ∀ w ∈ L.filter goodWord, w ∈ lw_tbl) (h2 : ∀ w ∈ L.filter (fun w => !goodWord w), w ∈ xB) (h3 : ∀ w ∈ xB, va_Nw w s) : ∀ w ∈ L, w.before args s = true :=
  vx_hat (B := xB) (fun w hw => hT w (List.mem_filter.mpr ⟨h1 w hw, (List.mem_filter.mp hw).2⟩)) h2 (fun w hw => va_Nw.use (xB_tabs w hw) (h3 w hw))
end
section
section XK
variable {p : Program} {l : Launch} {e : Env} {R : Room} {s : State} {m : MethodId} {args : Array Value} {below : List Frame} {meth : Method} {c : Code} {H : Heap} {locs : List Loc} {cells slots : Nat} {Q : State → Prop}
variable {ls : Array Slot} {rest st0 : List Value} {a : Array Value} {A0 : Nat → Prop} {H0 : Heap} {D : va_G} {cl : List vw_C} {tys : List (ClassId × FieldType)}
theorem Met.ofX {y : MethodName} {rm : Room} {Pc : Array Value → State → Prop} {Qc : Array Value → State → Outcome → State → Prop} {XC : String → State → State → Prop} {mc ms : Nat} {free : Addr → Prop} {cc : ByteArray} {maxL : Nat} {ret : Option FieldType} {own : String} (hy : plainName y.cls = true) (ho : y.cls = own) (av : List Value) (hav : (lg_sl av).length ≤ maxL)
    (hav2 : ∀ (v : Array Value) (U : State), Pc v U → v = av.toArray)
    (body : ∀ (p : Program) (e : Env) (s : State) (m : MethodId) (below : List Frame) (meth : Method) (c : Code) (ls : Array Slot), zAt p s m av.toArray meth c own cc maxL ret → (∀ x ∈ c.exceptionTable.toList, False) → Pc av.toArray s → lv_has ls maxL (lv_args 0 av) →
      W p l e rm s m av.toArray below meth c s.heap [] 0 0 (vx_MQ below Qc XC av.toArray s mc ms free) (F0 m 0 ls [])) : vx_Met l y (Cond.code y cc maxL ret :: bw) rm Pc Qc XC mc ms free := by
  refine vx_ofW (cc := cc) (maxL := maxL) (ret := ret) hy rfl ?_
  intro p e s m args below meth c s₁ B hml hex hv
  have h0 := hav2 _ _ hv
  subst h0
  rw [lg_entry_eq]
  have hT := atoms_spec (ws := Cond.code y cc maxL ret :: bw) B.pre
  exact body p e s m below meth c _ ⟨B.exec, B.bytes, B.returns, hml, by rw [← ho]; exact findClass_of_methodNamed B.named, fun w h => hT w (.tail _ h), B.notSynchronized⟩ hex hv (lv_entry av hav)
section XT
variable {Qc : Array Value → State → Outcome → State → Prop} {XC : String → State → State → Prop} {free : Addr → Prop} {cc : ByteArray} {pc is mc ms : Nat} {tx : String} {A : Nat → Prop}
theorem xt_io (hx : p.tables.exec = Jvm.exec) (hb : c.code = cc) (hl9 : l.stackTraces = false) (hown : s.vm.findClass "CoinTree" = some m.cls) (hT : ∀ w ∈ bw, w.before args s = true) (xe : xE A s s.heap) (hS : va_S A s.heap H locs) (hsize : ls.size = c.maxLocals) (hi : (is, tx) ∈ xS)
    (d0 : decode cc pc = .ok (.new 67, 3)) (d3 : decode cc (pc + 3) = .ok (.dup, 1)) (d4 : decode cc (pc + 4) = .ok (.ldc is, 2)) (d6 : decode cc (pc + 6) = .ok (.invokespecial 71, 3)) (d9 : decode cc (pc + 9) = .ok (.athrow, 1)) (hex : ∀ x ∈ c.exceptionTable.toList, False)
    (hRf : 5 < R.frames) (hRl : (rest.map fun v => v.category).sum + 82 ≤ R.locals) (hRc : cells + 1 ≤ R.cells) (hRs : slots + 6 ≤ R.slots) (hlocks : meth.locks = false) (hf : ∀ z ∈ locs, free z.base) (hc : cells + 1 ≤ mc) (hs : slots + 6 ≤ ms)
    (hxc : ∀ t : State, s.vm.Alike t.vm → H.size ≤ t.heap.size → (∀ q : Nat, q < H.size → t.heap[q]? = H[q]?) → XC xIO s t) : W p l e R s m args below meth c H locs cells slots (vx_MQ below Qc XC args s mc ms free) (F0 m pc ls rest) := by
  obtain ⟨sa, hsa⟩ := xe.2.2.2 _ hi
  exact vx_throwS (names := xN) hx hb hl9 hown (by decide) (by decide) (hT _ m_184) (hT _ m_31) hsa (xg_hat hT xg_io1 xg_io2 xe.2.2.1) xg_io3 xe.1 xe.2.1 hS hsize d0 d3 d4 d6 d9 (fun x h => (hex x h).elim) hRf hRl hRc hRs hlocks hxc hf hc hs
theorem xt_ia (hx : p.tables.exec = Jvm.exec) (hb : c.code = cc) (hl9 : l.stackTraces = false) (hown : s.vm.findClass "CoinTree" = some m.cls) (hT : ∀ w ∈ bw, w.before args s = true) (xe : xE A s s.heap) (hS : va_S A s.heap H locs) (hsize : ls.size = c.maxLocals) (hi : (is, tx) ∈ xS)
    (d0 : decode cc pc = .ok (.new 132, 3)) (d3 : decode cc (pc + 3) = .ok (.dup, 1)) (d4 : decode cc (pc + 4) = .ok (.ldc is, 2)) (d6 : decode cc (pc + 6) = .ok (.invokespecial 136, 3)) (d9 : decode cc (pc + 9) = .ok (.athrow, 1)) (hex : ∀ x ∈ c.exceptionTable.toList, False)
    (hRf : 5 < R.frames) (hRl : (rest.map fun v => v.category).sum + 82 ≤ R.locals) (hRc : cells + 1 ≤ R.cells) (hRs : slots + 6 ≤ R.slots) (hlocks : meth.locks = false) (hf : ∀ z ∈ locs, free z.base) (hc : cells + 1 ≤ mc) (hs : slots + 6 ≤ ms)
    (hxc : ∀ t : State, s.vm.Alike t.vm → H.size ≤ t.heap.size → (∀ q : Nat, q < H.size → t.heap[q]? = H[q]?) → XC xIA s t) : W p l e R s m args below meth c H locs cells slots (vx_MQ below Qc XC args s mc ms free) (F0 m pc ls rest) := by
  obtain ⟨sa, hsa⟩ := xe.2.2.2 _ hi
  exact vx_throwS (names := xN) hx hb hl9 hown (by decide) (by decide) (hT _ m_256) (hT _ m_32) hsa (xg_hat hT xg_ia1 xg_ia2 xe.2.2.1) xg_ia3 xe.1 xe.2.1 hS hsize d0 d3 d4 d6 d9 (fun x h => (hex x h).elim) hRf hRl hRc hRs hlocks hxc hf hc hs
theorem xt_uo (hx : p.tables.exec = Jvm.exec) (hb : c.code = cc) (hl9 : l.stackTraces = false) (hown : s.vm.findClass "CoinTree" = some m.cls) (hT : ∀ w ∈ bw, w.before args s = true) (xe : xE A s s.heap) (hS : va_S A s.heap H locs) (hsize : ls.size = c.maxLocals) (hi : (is, tx) ∈ xS)
    (d0 : decode cc pc = .ok (.new 161, 3)) (d3 : decode cc (pc + 3) = .ok (.dup, 1)) (d4 : decode cc (pc + 4) = .ok (.ldc is, 2)) (d6 : decode cc (pc + 6) = .ok (.invokespecial 165, 3)) (d9 : decode cc (pc + 9) = .ok (.athrow, 1)) (hex : ∀ x ∈ c.exceptionTable.toList, False)
    (hRf : 5 < R.frames) (hRl : (rest.map fun v => v.category).sum + 82 ≤ R.locals) (hRc : cells + 1 ≤ R.cells) (hRs : slots + 6 ≤ R.slots) (hlocks : meth.locks = false) (hf : ∀ z ∈ locs, free z.base) (hc : cells + 1 ≤ mc) (hs : slots + 6 ≤ ms)
    (hxc : ∀ t : State, s.vm.Alike t.vm → H.size ≤ t.heap.size → (∀ q : Nat, q < H.size → t.heap[q]? = H[q]?) → XC xUO s t) : W p l e R s m args below meth c H locs cells slots (vx_MQ below Qc XC args s mc ms free) (F0 m pc ls rest) := by
  obtain ⟨sa, hsa⟩ := xe.2.2.2 _ hi
  exact vx_throwS (names := xN) hx hb hl9 hown (by decide) (by decide) (hT _ m_349) (hT _ m_33) hsa (xg_hat hT xg_uo1 xg_uo2 xe.2.2.1) xg_uo3 xe.1 xe.2.1 hS hsize d0 d3 d4 d6 d9 (fun x h => (hex x h).elim) hRf hRl hRc hRs hlocks hxc hf hc hs
end XT
/-- the start of a method that leaves the heap or throws -/
def xP (D : va_G) (cl : List vw_C) (tys : List (ClassId × FieldType)) (av : List Value) (H : Heap) : Array Value → State → Prop := va_Pc av (fun U => U.heap = H ∧ va_K D cl tys U ∧ xE (fun _ => False) U H)
theorem xP_blind {av : List Value} : FrameBlind (xP D cl tys av H) := fun a U g mk q => by
  obtain ⟨q0, q1, qK, qE⟩ := q
  exact ⟨q0, q1, va_K.moved (u := U) (U := U.calling g mk a) (Vm.Alike.refl U.vm) qK, xE.same (u := U) (U := U.calling g mk a) rfl qE⟩
theorem xP_pre {av : List Value} (hK : va_K D cl tys s) (xe : xE (fun _ => False) s H) : ∀ U : State, U.heap = H → s.WarmedH U.vm → xP D cl tys av H av.toArray U := fun _ hU hW => ⟨rfl, hU, va_K.moved hW.alike hK, xe.warm hW⟩
def xQi (H : Heap) (cond : Prop) (r : Int32) : Array Value → State → Outcome → State → Prop := va_Qi (fun x (_ : Unit) => ¬ cond ∧ x = r) (fun _ t => t.heap = H) (fun _ => False)
def xQl (H : Heap) (cond : Prop) (r : Int64) : Array Value → State → Outcome → State → Prop := va_Ql (fun x (_ : Unit) => ¬ cond ∧ x = r) (fun _ t => t.heap = H) (fun _ => False)
def xQr (H : Heap) (cond : Prop) (r : Nat) : Array Value → State → Outcome → State → Prop := va_Qr (fun (_ : Unit) => ¬ cond) (fun _ x t => x = r ∧ t.heap = H) (fun _ => False)
def xX (cond : Prop) (E : String) : String → State → State → Prop := vx_X (fun (_ : Unit) => cond) (fun E' _ _ => E' = E) (fun _ => False)
theorem xX_end {cond : Prop} {E : String} {t : State} (h : cond) (h1 : s.heap.size ≤ t.heap.size) (h2 : ∀ q : Nat, q < s.heap.size → t.heap[q]? = s.heap[q]?) : xX cond E E s t := ⟨(), h, rfl, h1, fun q hq _ => h2 q hq⟩
theorem xQi_end {cond : Prop} {v r : Int32} {t : State} (hc : ¬ cond) (e : v = r) (hs : s.heap = H) (ht : t.heap = H) : xQi H cond r a s (.returned (some (.int v))) t := ⟨⟨v, (), rfl, ⟨hc, e⟩, ht⟩, by rw [hs, ht]; exact Nat.le_refl _, fun q _ _ => by rw [hs, ht]⟩
theorem xQl_end {cond : Prop} {v r : Int64} {t : State} (hc : ¬ cond) (e : v = r) (hs : s.heap = H) (ht : t.heap = H) : xQl H cond r a s (.returned (some (.long v))) t := ⟨⟨v, (), rfl, ⟨hc, e⟩, ht⟩, by rw [hs, ht]; exact Nat.le_refl _, fun q _ _ => by rw [hs, ht]⟩
theorem xQr_end {cond : Prop} {v r : Nat} {t : State} (hc : ¬ cond) (e : v = r) (hs : s.heap = H) (ht : t.heap = H) : xQr H cond r a s (.returned (some (.ref v))) t := ⟨⟨(), v, rfl, hc, e, ht⟩, by rw [hs, ht]; exact Nat.le_refl _, fun q _ _ => by rw [hs, ht]⟩
/-- a call that gives a reference or throws; what it throws isn't caught here -/
theorem xc_r {cond : Prop} {r mc ms pc : Nat} {E0 : String} (hr : vx_Run p l e R s m args below meth c H locs cells slots mc ms (F0 m pc ls st0) rest (xQr H cond r a) (xX cond E0) (fun _ => False)) (hS : va_S A0 H0 H locs)
    (kx : ∀ (ce : Cell) (q9 : Addr) (H1 : Heap) (locs1 : List Loc), cond → H.size ≤ H1.size → (∀ q : Nat, q < H.size → H1[q]? = H[q]?) → va_S A0 H0 H1 locs1 → H1[q9]? = some ce → ce.vm = .none → s.vm.findClass E0 = some ce.cls → vx_W p l e R s m args below meth c H1 locs1 (cells + mc) (slots + ms) Q (F0 m pc ls rest) q9)
    (kk : ∀ locs1 : List Loc, ¬ cond → va_S A0 H0 H locs1 → W p l e R s m args below meth c H locs1 (cells + mc) (slots + ms) Q (F0 m (pc + 3) ls (.ref r :: rest))) : W p l e R s m args below meth c H locs cells slots Q (F0 m pc ls st0) := by
  intro T hT X
  rcases hr T hT X with ⟨v, st₀, t, T', L, h0, X', hL, e1, e2, ⟨⟨u, ra, hv, hp, hb⟩, hF⟩, st⟩ | ⟨q, st₀, t, T', L, E, ce, h0, X', hL, e1, e2, ⟨u, hp, hb, hF⟩, hce, hcv, hcl, st⟩
  · cases hv
    obtain ⟨rfl, hb2⟩ := hb
    obtain ⟨k1, k2, k3⟩ := vx_keep (A1 := fun _ => False) (free := fun _ => False) h0 e1 hS (fun q _ h => False.elim h) (fun q h => False.elim h) hL hF
    have e3 : T'.heap = H := e1.trans hb2
    rw [e3] at k3
    obtain ⟨t2, a1, b1⟩ := kk (locs ++ L) hp k3 T' e3 X'
    exact ⟨t2, st t2 a1, b1⟩
  · obtain ⟨k1, k2, k3⟩ := vx_keep (A1 := fun _ => False) (free := fun _ => False) h0 e1 hS (fun q _ h => False.elim h) (fun q h => False.elim h) hL hF
    cases hb
    obtain ⟨t2, a1, b1⟩ := kx ce q T'.heap (locs ++ L) hp k1 (fun q hq => k2 q hq (fun h => h)) k3 (by rw [e1]; exact hce) hcv hcl T' rfl X'
    exact ⟨t2, st.trans a1, b1⟩
end XK
end
section
set_option maxHeartbeats 4000000 in
set_option maxRecDepth 100000 in
/-- CoinTree.treeNumbered -/
theorem c_CT_treeNumbered {l : Launch} (hl9 : l.stackTraces = false) {dC : Nat → ClassId} {dI : Nat → Nat → Nat} {cI cJ : ClassId} {H : Heap} {x ml : Nat} {a0 a1 : Nat → Nat} {L M S C : Nat} {key : Int64} {z : Cs} (ok0 : tr_ok L S C 64) (ok1 : tr_ok M S C 16) (hP : va_P (dC, dI) kCl (cw_ cI cJ x ml a0 a1 L M S C key (cs_mk (cs_ml z) (cs_asked z) (cs_most z) (ts_mk (ts_nodes (cs_t0 z)) (ts_cnts (cs_t0 z)) (ts_stash (cs_t0 z)) (ts_trail (cs_t0 z)) (ts_plan (cs_t0 z)) (ts_tgt (cs_t0 z)) (ts_way (cs_t0 z)) (ts_sought (cs_t0 z))) (ts_mk (ts_nodes (cs_t1 z)) (ts_cnts (cs_t1 z)) (ts_stash (cs_t1 z)) (ts_trail (cs_t1 z)) (ts_plan (cs_t1 z)) (ts_tgt (cs_t1 z)) (ts_way (cs_t1 z)) (ts_sought (cs_t1 z))))) H) (tr : Int32) : vx_Met l y_CT_treeNumbered (k_CT_treeNumbered :: bw) { frames := 6, cells := 1, slots := 6, locals := 100 } (xP (dC, dI) kCl [(cI, .int), (cJ, .long)] [.ref x, .int tr] H) (xQr H (tr < 0 ∨ 1 < tr) (if tr = 0 then a0 0 else a1 0)) (xX (tr < 0 ∨ 1 < tr) xIO) 1 6 (fun _ => False) := by
  refine Met.ofX (own := "CoinTree") (by decide) rfl [.ref x, .int tr] (Nat.le_of_ble_eq_true rfl) (fun _ _ h => h.1) ?_
  intro p e s m below meth c ls C0 hex hv hl
  obtain ⟨hx, hb, hr, hml, hown, hT, hlocks⟩ := C0
  obtain ⟨-, rfl, hK, xe⟩ := hv
  have hS : va_S (fun _ => False) s.heap s.heap [] := va_S.rf
  have hl : lv_has ls 2 [(0, .ref x), (1, .int tr)] := hl
  refine lv_iload_n hx hb d_CT_treeNumbered_0 rfl (lv_at hl 1 rfl) ?_
  refine lv_if_lt (tgt := 9) hx hb d_CT_treeNumbered_1 (by decide) (fun c_1 => ?_) (fun c_1 => ?_)
  · exact xt_io hx hb hl9 hown hT xe hS (hl.1.trans hml.symm) (is := 171) (tx := "no such tree") (by decide) d_CT_treeNumbered_9 d_CT_treeNumbered_12 d_CT_treeNumbered_13 d_CT_treeNumbered_15 d_CT_treeNumbered_18 hex (Nat.le_of_ble_eq_true rfl) (Nat.le_of_ble_eq_true rfl) (by decide) (by decide) hlocks hS.2.2 (by decide) (by decide) (fun t9 _ h1 h2 => xX_end (by first | exact Or.inl (by assumption) | exact Or.inr (Int32.not_le.mp (by assumption))) h1 h2)
  · refine lv_iload_n hx hb d_CT_treeNumbered_4 rfl (lv_at hl 1 rfl) ?_
    refine lv_iconst (v := 1) hx hb d_CT_treeNumbered_5 (by decide) ?_
    refine lv_icmp_le (tgt := 19) hx hb d_CT_treeNumbered_6 (by decide) (fun c_2 => ?_) (fun c_2 => ?_)
    · refine lv_iload_n hx hb d_CT_treeNumbered_19 rfl (lv_at hl 1 rfl) ?_
      refine lv_if_ne (tgt := 30) hx hb d_CT_treeNumbered_20 (by decide) (fun c_3 => ?_) (fun c_3 => ?_)
      · refine lv_aload_n hx hb d_CT_treeNumbered_30 rfl (lv_at hl 0 rfl) ?_
        refine va_get (D := (dC, dI)) (ci := 3) (v := .ref (a1 0)) (C := R_CT) (T := F_CT) (N := 8) hx hb hT i_CT hown hK hP 0 rfl rfl 4 (by decide) (hT _ m_146) (fun _ h9 => h9) rfl d_CT_treeNumbered_31 ?_
        refine vx_ret ?_
        refine W.widen (k := 1) (n := 6) (by decide) (by decide) ?_
        exact W.aret hx hb hr (Or.inl ⟨_, rfl⟩) (Or.inr ⟨_, rfl⟩) (fun t9 ht _ => xQr_end (fun h => h.elim c_1 (fun h9 => Int32.not_lt.mpr c_2 h9)) (by first | exact (if_pos (by assumption)).symm | exact (if_neg (by assumption)).symm) rfl ht) hS.2.2 d_CT_treeNumbered_34 hlocks
      · refine lv_aload_n hx hb d_CT_treeNumbered_23 rfl (lv_at hl 0 rfl) ?_
        refine va_get (D := (dC, dI)) (ci := 3) (v := .ref (a0 0)) (C := R_CT) (T := F_CT) (N := 8) hx hb hT i_CT hown hK hP 0 rfl rfl 3 (by decide) (hT _ m_145) (fun _ h9 => h9) rfl d_CT_treeNumbered_24 ?_
        refine lv_goto (tgt := 34) hx hb d_CT_treeNumbered_27 (by decide) ?_
        refine vx_ret ?_
        refine W.widen (k := 1) (n := 6) (by decide) (by decide) ?_
        exact W.aret hx hb hr (Or.inl ⟨_, rfl⟩) (Or.inr ⟨_, rfl⟩) (fun t9 ht _ => xQr_end (fun h => h.elim c_1 (fun h9 => Int32.not_lt.mpr c_2 h9)) (by first | exact (if_pos (by assumption)).symm | exact (if_neg (by assumption)).symm) rfl ht) hS.2.2 d_CT_treeNumbered_34 hlocks
    · exact xt_io hx hb hl9 hown hT xe hS (hl.1.trans hml.symm) (is := 171) (tx := "no such tree") (by decide) d_CT_treeNumbered_9 d_CT_treeNumbered_12 d_CT_treeNumbered_13 d_CT_treeNumbered_15 d_CT_treeNumbered_18 hex (Nat.le_of_ble_eq_true rfl) (Nat.le_of_ble_eq_true rfl) (by decide) (by decide) hlocks hS.2.2 (by decide) (by decide) (fun t9 _ h1 h2 => xX_end (by first | exact Or.inl (by assumption) | exact Or.inr (Int32.not_le.mp (by assumption))) h1 h2)
end
section
def cs_t (tr : Int32) (z : Cs) : Ts := if tr = 0 then cs_t0 z else cs_t1 z
def cs_L (tr : Int32) (L M : Nat) : Nat := if tr = 0 then L else M
theorem cs_t_0 {z : Cs} : cs_t 0 z = cs_t0 z := if_pos rfl
theorem cs_t_1 {z : Cs} : cs_t 1 z = cs_t1 z := if_neg (by decide)
theorem cs_L_0 {L M : Nat} : cs_L 0 L M = L := if_pos rfl
theorem cs_L_1 {L M : Nat} : cs_L 1 L M = M := if_neg (by decide)
theorem tr_01 {x : Int32} (h : ¬ (x < 0 ∨ 1 < x)) : x = 0 ∨ x = 1 := by
  have h1 : ¬ x < 0 := fun q => h (Or.inl q)
  have h2 : ¬ 1 < x := fun q => h (Or.inr q)
  rw [Int32.lt_iff_toInt_lt] at h1 h2
  rw [show (0 : Int32).toInt = 0 from rfl] at h1
  rw [show (1 : Int32).toInt = 1 from rfl] at h2
  rcases (show x.toInt = 0 ∨ x.toInt = 1 by omega) with q | q
  · exact Or.inl (Int32.toInt_inj.mp q)
  · exact Or.inr (Int32.toInt_inj.mp q)
def ct_stash (C : Nat) (t : Ts) (k : Int32) : Int32 := if (ts_stash t).2.2.2 ≤ k then -1 else rw_at C (ts_stash t).1 k - 1
def ct_seal (key : Int64) (tr nd sl wd : Int32) (cnt : Int32) : Int64 := ct_mix (key + 1000003 * ((((tr * 64 + nd) * 4 + sl) * 4 + wd).toInt64) + (-7046029254386353131) * cnt.toInt64)
theorem nd_tf {L : Nat} {x : Int32} (h : b2i (tr_nd L x) = 0) : tr_nd L x = false := b2i_0.mp h
end
section
set_option maxHeartbeats 4000000 in
set_option maxRecDepth 100000 in
/-- CoinTree.trace -/
theorem c_CT_trace {l : Launch} (hl9 : l.stackTraces = false) {dC : Nat → ClassId} {dI : Nat → Nat → Nat} {cI cJ : ClassId} {H : Heap} {x ml : Nat} {a0 a1 : Nat → Nat} {L M S C : Nat} {key : Int64} {z : Cs} (ok0 : tr_ok L S C 64) (ok1 : tr_ok M S C 16) (hP : va_P (dC, dI) kCl (cw_ cI cJ x ml a0 a1 L M S C key (cs_mk (cs_ml z) (cs_asked z) (cs_most z) (ts_mk (ts_nodes (cs_t0 z)) (ts_cnts (cs_t0 z)) (ts_stash (cs_t0 z)) (ts_trail (cs_t0 z)) (ts_plan (cs_t0 z)) (ts_tgt (cs_t0 z)) (ts_way (cs_t0 z)) (ts_sought (cs_t0 z))) (ts_mk (ts_nodes (cs_t1 z)) (ts_cnts (cs_t1 z)) (ts_stash (cs_t1 z)) (ts_trail (cs_t1 z)) (ts_plan (cs_t1 z)) (ts_tgt (cs_t1 z)) (ts_way (cs_t1 z)) (ts_sought (cs_t1 z))))) H) (ht0 : (ts_trail (cs_t0 z)).2 < 600) (ht1 : (ts_trail (cs_t1 z)).2 < 600) (tr k : Int32) : vx_Met l y_CT_trace (k_CT_trace :: bw) { frames := 7, cells := 2, slots := 12, locals := 121 } (xP (dC, dI) kCl [(cI, .int), (cJ, .long)] [.ref x, .int tr, .int k] H) (xQi H ((tr < 0 ∨ 1 < tr) ∨ k < 0 ∨ nI (ts_trail (cs_t tr z)).2 ≤ k) ((ts_trail (cs_t tr z)).1 k.toNatClampNeg)) (xX ((tr < 0 ∨ 1 < tr) ∨ k < 0 ∨ nI (ts_trail (cs_t tr z)).2 ≤ k) xIO) 2 12 (fun _ => False) := by
  refine Met.ofX (own := "CoinTree") (by decide) rfl [.ref x, .int tr, .int k] (Nat.le_of_ble_eq_true rfl) (fun _ _ h => h.1) ?_
  intro p e s m below meth c ls C0 hex hv hl
  obtain ⟨hx, hb, hr, hml, hown, hT, hlocks⟩ := C0
  obtain ⟨-, rfl, hK, xe⟩ := hv
  have hS : va_S (fun _ => False) s.heap s.heap [] := va_S.rf
  have hl : lv_has ls 4 [(0, .ref x), (1, .int tr), (2, .int k)] := hl
  refine lv_aload_n hx hb d_CT_trace_0 rfl (lv_at hl 0 rfl) ?_
  refine lv_iload_n hx hb d_CT_trace_1 rfl (lv_at hl 1 rfl) ?_
  refine xc_r (vx_runV (As := [.int tr]) (rest := []) ⟨hx, hb, hml, hown, hT⟩ (c_CT_treeNumbered hl9 ok0 ok1 hP tr) (cwV 1 hT (gi_V m_400 m_397 m_399 m_8 m_22) rfl rfl rfl p_CT_treeNumbered ⟨Nat.le_of_ble_eq_true rfl, Nat.le_of_ble_eq_true rfl⟩) ⟨xP_blind, va_recv hK hP (ci := 3) (q0 := 0) rfl rfl, xP_pre hK xe⟩ rfl rfl hl.1 rfl (lv_room (Nat.le_of_ble_eq_true rfl)) d_CT_trace_2 ⟨by decide, by decide⟩) hS (fun ce q9 H1 locs1 hcd hz hk hS9 hcell hcv hcl => vx_out (fun x9 h9 => (hex x9 h9).elim) hlocks hcell hcv hcl (fun t9 ht _ => xX_end (Or.inl hcd) (by rw [ht]; exact hz) (fun q hq => by rw [ht]; exact hk q hq)) hS9.2.2 (by decide) (by decide)) (fun locs hnc hS => ?_)
  rcases tr_01 hnc with rfl | rfl
  · rw [show (if (0 : Int32) = 0 then a0 0 else a1 0) = a0 0 from if_pos rfl]
    refine va_get (D := (dC, dI)) (ci := 2) (v := .ref (a0 10)) (C := R_TR) (T := F_TR) (N := 12) hx hb hT i_TR hown hK hP 2 rfl rfl 7 (by decide) (hT _ m_108) (fun _ h9 => h9) rfl d_CT_trace_5 ?_
    refine lv_astore_n (lv' := [(3, .ref (a0 10)), (0, .ref x), (1, .int 0), (2, .int k)]) hx hb d_CT_trace_8 rfl hl (by decide) rfl (fun ls hl => ?_)
    refine lv_iload_n hx hb d_CT_trace_9 rfl (lv_at hl 3 rfl) ?_
    refine lv_if_lt (tgt := 21) hx hb d_CT_trace_10 (by decide) (fun c_1 => ?_) (fun c_1 => ?_)
    · exact xt_io hx hb hl9 hown hT xe hS (hl.1.trans hml.symm) (is := 69) (tx := "no such trace") (by decide) d_CT_trace_21 d_CT_trace_24 d_CT_trace_25 d_CT_trace_27 d_CT_trace_30 hex (Nat.le_of_ble_eq_true rfl) (Nat.le_of_ble_eq_true rfl) (by decide) (by decide) hlocks hS.2.2 (by decide) (by decide) (fun t9 _ h1 h2 => xX_end (by rw [cs_t_0]; exact by first | exact Or.inr (Or.inl c_1) | exact Or.inr (Or.inr (Int32.not_lt.mp c_2))) h1 h2)
    · refine lv_iload_n hx hb d_CT_trace_13 rfl (lv_at hl 3 rfl) ?_
      refine lv_aload_n hx hb d_CT_trace_14 rfl (lv_at hl 0 rfl) ?_
      refine va_get (D := (dC, dI)) (ci := 1) (v := .int (nI (ts_trail (cs_t0 z)).2)) (C := R_TL) (T := F_TL) (N := 3) hx hb hT i_TL hown hK hP 12 rfl rfl 2 (by decide) (hT _ m_66) (fun _ h9 => h9) rfl d_CT_trace_15 ?_
      refine lv_icmp_lt (tgt := 31) hx hb d_CT_trace_18 (by decide) (fun c_2 => ?_) (fun c_2 => ?_)
      · refine lv_aload_n hx hb d_CT_trace_31 rfl (lv_at hl 0 rfl) ?_
        refine lv_iload_n hx hb d_CT_trace_32 rfl (lv_at hl 3 rfl) ?_
        obtain ⟨j, hj31, rfl⟩ := nI_of c_1
        have hj : j < (ts_trail (cs_t0 z)).2 := (nI_ltI hj31 (by omega)).mp c_2
        refine zc_i (va_runV (As := [.int (nI j)]) (rest := []) ⟨hx, hb, hml, hown, hT⟩ (c_TL_leafAt hP (i0 := 12) (show tl_in (cw_ cI cJ x ml a0 a1 L M S C key (cs_mk (cs_ml z) (cs_asked z) (cs_most z) (ts_mk (ts_nodes (cs_t0 z)) (ts_cnts (cs_t0 z)) (ts_stash (cs_t0 z)) (ts_trail (cs_t0 z)) (ts_plan (cs_t0 z)) (ts_tgt (cs_t0 z)) (ts_way (cs_t0 z)) (ts_sought (cs_t0 z))) (ts_mk (ts_nodes (cs_t1 z)) (ts_cnts (cs_t1 z)) (ts_stash (cs_t1 z)) (ts_trail (cs_t1 z)) (ts_plan (cs_t1 z)) (ts_tgt (cs_t1 z)) (ts_way (cs_t1 z)) (ts_sought (cs_t1 z))))) 12 (a0 10) (a0 11) cI (ts_trail (cs_t0 z)) from ⟨rfl, rfl⟩) (by omega) j (by omega)) (cwV 1 hT (gi_V m_406 m_403 m_404 m_405 m_25) rfl rfl rfl p_TL_leafAt ⟨Nat.le_of_ble_eq_true rfl, Nat.le_of_ble_eq_true rfl⟩) ⟨zP_blind, va_recv hK hP (ci := 1) (q0 := 12) rfl rfl, zP_pre hK⟩ rfl rfl hl.1 rfl (lv_room (Nat.le_of_ble_eq_true rfl)) d_CT_trace_33 ⟨by decide, by decide⟩) hS (fun locs hS => ?_)
        refine vx_ret ?_
        refine W.widen (k := 2) (n := 12) (by decide) (by decide) ?_
        exact W.iret hx hb hr (fun t9 ht _ => xQi_end (by rw [cs_t_0]; exact fun h => h.elim hnc (fun h => h.elim (nI_pos hj31) (fun h => absurd c_2 (Int32.not_lt.mpr h)))) (by rw [cs_t_0, nI_clamp hj31]) rfl ht) hS.2.2 d_CT_trace_36 hlocks
      · exact xt_io hx hb hl9 hown hT xe hS (hl.1.trans hml.symm) (is := 69) (tx := "no such trace") (by decide) d_CT_trace_21 d_CT_trace_24 d_CT_trace_25 d_CT_trace_27 d_CT_trace_30 hex (Nat.le_of_ble_eq_true rfl) (Nat.le_of_ble_eq_true rfl) (by decide) (by decide) hlocks hS.2.2 (by decide) (by decide) (fun t9 _ h1 h2 => xX_end (by rw [cs_t_0]; exact by first | exact Or.inr (Or.inl c_1) | exact Or.inr (Or.inr (Int32.not_lt.mp c_2))) h1 h2)
  · rw [show (if (1 : Int32) = 0 then a0 0 else a1 0) = a1 0 from if_neg (by decide)]
    refine va_get (D := (dC, dI)) (ci := 2) (v := .ref (a1 10)) (C := R_TR) (T := F_TR) (N := 12) hx hb hT i_TR hown hK hP 19 rfl rfl 7 (by decide) (hT _ m_108) (fun _ h9 => h9) rfl d_CT_trace_5 ?_
    refine lv_astore_n (lv' := [(3, .ref (a1 10)), (0, .ref x), (1, .int 1), (2, .int k)]) hx hb d_CT_trace_8 rfl hl (by decide) rfl (fun ls hl => ?_)
    refine lv_iload_n hx hb d_CT_trace_9 rfl (lv_at hl 3 rfl) ?_
    refine lv_if_lt (tgt := 21) hx hb d_CT_trace_10 (by decide) (fun c_1 => ?_) (fun c_1 => ?_)
    · exact xt_io hx hb hl9 hown hT xe hS (hl.1.trans hml.symm) (is := 69) (tx := "no such trace") (by decide) d_CT_trace_21 d_CT_trace_24 d_CT_trace_25 d_CT_trace_27 d_CT_trace_30 hex (Nat.le_of_ble_eq_true rfl) (Nat.le_of_ble_eq_true rfl) (by decide) (by decide) hlocks hS.2.2 (by decide) (by decide) (fun t9 _ h1 h2 => xX_end (by rw [cs_t_1]; exact by first | exact Or.inr (Or.inl c_1) | exact Or.inr (Or.inr (Int32.not_lt.mp c_2))) h1 h2)
    · refine lv_iload_n hx hb d_CT_trace_13 rfl (lv_at hl 3 rfl) ?_
      refine lv_aload_n hx hb d_CT_trace_14 rfl (lv_at hl 0 rfl) ?_
      refine va_get (D := (dC, dI)) (ci := 1) (v := .int (nI (ts_trail (cs_t1 z)).2)) (C := R_TL) (T := F_TL) (N := 3) hx hb hT i_TL hown hK hP 29 rfl rfl 2 (by decide) (hT _ m_66) (fun _ h9 => h9) rfl d_CT_trace_15 ?_
      refine lv_icmp_lt (tgt := 31) hx hb d_CT_trace_18 (by decide) (fun c_2 => ?_) (fun c_2 => ?_)
      · refine lv_aload_n hx hb d_CT_trace_31 rfl (lv_at hl 0 rfl) ?_
        refine lv_iload_n hx hb d_CT_trace_32 rfl (lv_at hl 3 rfl) ?_
        obtain ⟨j, hj31, rfl⟩ := nI_of c_1
        have hj : j < (ts_trail (cs_t1 z)).2 := (nI_ltI hj31 (by omega)).mp c_2
        refine zc_i (va_runV (As := [.int (nI j)]) (rest := []) ⟨hx, hb, hml, hown, hT⟩ (c_TL_leafAt hP (i0 := 29) (show tl_in (cw_ cI cJ x ml a0 a1 L M S C key (cs_mk (cs_ml z) (cs_asked z) (cs_most z) (ts_mk (ts_nodes (cs_t0 z)) (ts_cnts (cs_t0 z)) (ts_stash (cs_t0 z)) (ts_trail (cs_t0 z)) (ts_plan (cs_t0 z)) (ts_tgt (cs_t0 z)) (ts_way (cs_t0 z)) (ts_sought (cs_t0 z))) (ts_mk (ts_nodes (cs_t1 z)) (ts_cnts (cs_t1 z)) (ts_stash (cs_t1 z)) (ts_trail (cs_t1 z)) (ts_plan (cs_t1 z)) (ts_tgt (cs_t1 z)) (ts_way (cs_t1 z)) (ts_sought (cs_t1 z))))) 29 (a1 10) (a1 11) cI (ts_trail (cs_t1 z)) from ⟨rfl, rfl⟩) (by omega) j (by omega)) (cwV 1 hT (gi_V m_406 m_403 m_404 m_405 m_25) rfl rfl rfl p_TL_leafAt ⟨Nat.le_of_ble_eq_true rfl, Nat.le_of_ble_eq_true rfl⟩) ⟨zP_blind, va_recv hK hP (ci := 1) (q0 := 29) rfl rfl, zP_pre hK⟩ rfl rfl hl.1 rfl (lv_room (Nat.le_of_ble_eq_true rfl)) d_CT_trace_33 ⟨by decide, by decide⟩) hS (fun locs hS => ?_)
        refine vx_ret ?_
        refine W.widen (k := 2) (n := 12) (by decide) (by decide) ?_
        exact W.iret hx hb hr (fun t9 ht _ => xQi_end (by rw [cs_t_1]; exact fun h => h.elim hnc (fun h => h.elim (nI_pos hj31) (fun h => absurd c_2 (Int32.not_lt.mpr h)))) (by rw [cs_t_1, nI_clamp hj31]) rfl ht) hS.2.2 d_CT_trace_36 hlocks
      · exact xt_io hx hb hl9 hown hT xe hS (hl.1.trans hml.symm) (is := 69) (tx := "no such trace") (by decide) d_CT_trace_21 d_CT_trace_24 d_CT_trace_25 d_CT_trace_27 d_CT_trace_30 hex (Nat.le_of_ble_eq_true rfl) (Nat.le_of_ble_eq_true rfl) (by decide) (by decide) hlocks hS.2.2 (by decide) (by decide) (fun t9 _ h1 h2 => xX_end (by rw [cs_t_1]; exact by first | exact Or.inr (Or.inl c_1) | exact Or.inr (Or.inr (Int32.not_lt.mp c_2))) h1 h2)

set_option maxHeartbeats 4000000 in
set_option maxRecDepth 100000 in
/-- CoinTree.written -/
theorem c_CT_written {l : Launch} (hl9 : l.stackTraces = false) {dC : Nat → ClassId} {dI : Nat → Nat → Nat} {cI cJ : ClassId} {H : Heap} {x ml : Nat} {a0 a1 : Nat → Nat} {L M S C : Nat} {key : Int64} {z : Cs} (ok0 : tr_ok L S C 64) (ok1 : tr_ok M S C 16) (hP : va_P (dC, dI) kCl (cw_ cI cJ x ml a0 a1 L M S C key (cs_mk (cs_ml z) (cs_asked z) (cs_most z) (ts_mk (ts_nodes (cs_t0 z)) (ts_cnts (cs_t0 z)) (ts_stash (cs_t0 z)) (ts_trail (cs_t0 z)) (ts_plan (cs_t0 z)) (ts_tgt (cs_t0 z)) (ts_way (cs_t0 z)) (ts_sought (cs_t0 z))) (ts_mk (ts_nodes (cs_t1 z)) (ts_cnts (cs_t1 z)) (ts_stash (cs_t1 z)) (ts_trail (cs_t1 z)) (ts_plan (cs_t1 z)) (ts_tgt (cs_t1 z)) (ts_way (cs_t1 z)) (ts_sought (cs_t1 z))))) H) (tr nd : Int32) : vx_Met l y_CT_written (k_CT_written :: bw) { frames := 7, cells := 2, slots := 12, locals := 121 } (xP (dC, dI) kCl [(cI, .int), (cJ, .long)] [.ref x, .int tr, .int nd] H) (xQi H ((tr < 0 ∨ 1 < tr) ∨ tr_nd (cs_L tr L M) nd = false) (ts_cnts (cs_t tr z) nd.toNatClampNeg)) (xX ((tr < 0 ∨ 1 < tr) ∨ tr_nd (cs_L tr L M) nd = false) xIO) 2 12 (fun _ => False) := by
  refine Met.ofX (own := "CoinTree") (by decide) rfl [.ref x, .int tr, .int nd] (Nat.le_of_ble_eq_true rfl) (fun _ _ h => h.1) ?_
  intro p e s m below meth c ls C0 hex hv hl
  obtain ⟨hx, hb, hr, hml, hown, hT, hlocks⟩ := C0
  obtain ⟨-, rfl, hK, xe⟩ := hv
  have hS : va_S (fun _ => False) s.heap s.heap [] := va_S.rf
  have hl : lv_has ls 4 [(0, .ref x), (1, .int tr), (2, .int nd)] := hl
  refine lv_aload_n hx hb d_CT_written_0 rfl (lv_at hl 0 rfl) ?_
  refine lv_iload_n hx hb d_CT_written_1 rfl (lv_at hl 1 rfl) ?_
  refine xc_r (vx_runV (As := [.int tr]) (rest := []) ⟨hx, hb, hml, hown, hT⟩ (c_CT_treeNumbered hl9 ok0 ok1 hP tr) (cwV 1 hT (gi_V m_400 m_397 m_399 m_8 m_22) rfl rfl rfl p_CT_treeNumbered ⟨Nat.le_of_ble_eq_true rfl, Nat.le_of_ble_eq_true rfl⟩) ⟨xP_blind, va_recv hK hP (ci := 3) (q0 := 0) rfl rfl, xP_pre hK xe⟩ rfl rfl hl.1 rfl (lv_room (Nat.le_of_ble_eq_true rfl)) d_CT_written_2 ⟨by decide, by decide⟩) hS (fun ce q9 H1 locs1 hcd hz hk hS9 hcell hcv hcl => vx_out (fun x9 h9 => (hex x9 h9).elim) hlocks hcell hcv hcl (fun t9 ht _ => xX_end (Or.inl hcd) (by rw [ht]; exact hz) (fun q hq => by rw [ht]; exact hk q hq)) hS9.2.2 (by decide) (by decide)) (fun locs hnc hS => ?_)
  rcases tr_01 hnc with rfl | rfl
  · rw [show (if (0 : Int32) = 0 then a0 0 else a1 0) = a0 0 from if_pos rfl]
    refine lv_astore_n (lv' := [(3, .ref (a0 0)), (0, .ref x), (1, .int 0), (2, .int nd)]) hx hb d_CT_written_5 rfl hl (by decide) rfl (fun ls hl => ?_)
    refine lv_aload_n hx hb d_CT_written_6 rfl (lv_at hl 0 rfl) ?_
    refine lv_iload_n hx hb d_CT_written_7 rfl (lv_at hl 3 rfl) ?_
    refine zc_i (va_runV (As := [.int nd]) (rest := []) ⟨hx, hb, hml, hown, hT⟩ (c_TR_hasNode (t := ts_mk (ts_nodes (cs_t0 z)) (ts_cnts (cs_t0 z)) (ts_stash (cs_t0 z)) (ts_trail (cs_t0 z)) (ts_plan (cs_t0 z)) (ts_tgt (cs_t0 z)) (ts_way (cs_t0 z)) (ts_sought (cs_t0 z))) ok0 (hP.sub (ws' := tw_ cI cJ a0 L S C 64 (ts_mk (ts_nodes (cs_t0 z)) (ts_cnts (cs_t0 z)) (ts_stash (cs_t0 z)) (ts_trail (cs_t0 z)) (ts_plan (cs_t0 z)) (ts_tgt (cs_t0 z)) (ts_way (cs_t0 z)) (ts_sought (cs_t0 z)))) [2, 3, 4, 5, 6, 7, 8, 9, 10, 11, 12, 13, 14, 15, 16, 17, 18] rfl) nd) (cwV 1 hT (gi_V m_376 m_414 m_374 m_375 m_24) rfl rfl rfl p_TR_hasNode ⟨Nat.le_of_ble_eq_true rfl, Nat.le_of_ble_eq_true rfl⟩) ⟨zP_blind, va_recv hK hP (ci := 2) (q0 := 2) rfl rfl, zP_pre hK⟩ rfl rfl hl.1 rfl (lv_room (Nat.le_of_ble_eq_true rfl)) d_CT_written_8 ⟨by decide, by decide⟩) hS (fun locs hS => ?_)
    refine lv_if_ne (tgt := 24) hx hb d_CT_written_11 (by decide) (fun c_1 => ?_) (fun c_1 => ?_)
    · refine lv_aload_n hx hb d_CT_written_24 rfl (lv_at hl 0 rfl) ?_
      refine lv_iload_n hx hb d_CT_written_25 rfl (lv_at hl 3 rfl) ?_
      refine zc_i (va_runV (As := [.int nd]) (rest := []) ⟨hx, hb, hml, hown, hT⟩ (c_TR_timesWritten (t := ts_mk (ts_nodes (cs_t0 z)) (ts_cnts (cs_t0 z)) (ts_stash (cs_t0 z)) (ts_trail (cs_t0 z)) (ts_plan (cs_t0 z)) (ts_tgt (cs_t0 z)) (ts_way (cs_t0 z)) (ts_sought (cs_t0 z))) ok0 (hP.sub (ws' := tw_ cI cJ a0 L S C 64 (ts_mk (ts_nodes (cs_t0 z)) (ts_cnts (cs_t0 z)) (ts_stash (cs_t0 z)) (ts_trail (cs_t0 z)) (ts_plan (cs_t0 z)) (ts_tgt (cs_t0 z)) (ts_way (cs_t0 z)) (ts_sought (cs_t0 z)))) [2, 3, 4, 5, 6, 7, 8, 9, 10, 11, 12, 13, 14, 15, 16, 17, 18] rfl) nd) (cwV 1 hT (gi_V m_427 m_424 m_425 m_426 m_24) rfl rfl rfl p_TR_timesWritten ⟨Nat.le_of_ble_eq_true rfl, Nat.le_of_ble_eq_true rfl⟩) ⟨zP_blind, va_recv hK hP (ci := 2) (q0 := 2) rfl rfl, zP_pre hK⟩ rfl rfl hl.1 rfl (lv_room (Nat.le_of_ble_eq_true rfl)) d_CT_written_26 ⟨by decide, by decide⟩) hS (fun locs hS => ?_)
      refine vx_ret ?_
      refine W.widen (k := 2) (n := 12) (by decide) (by decide) ?_
      exact W.iret hx hb hr (fun t9 ht _ => xQi_end (by rw [cs_L_0]; exact fun h => h.elim hnc (fun h => absurd (b2i_n.mp c_1) (by rw [h]; decide))) (by rw [cs_t_0]; exact if_pos (b2i_n.mp c_1)) rfl ht) hS.2.2 d_CT_written_29 hlocks
    · exact xt_io hx hb hl9 hown hT xe hS (hl.1.trans hml.symm) (is := 81) (tx := "no such node") (by decide) d_CT_written_14 d_CT_written_17 d_CT_written_18 d_CT_written_20 d_CT_written_23 hex (Nat.le_of_ble_eq_true rfl) (Nat.le_of_ble_eq_true rfl) (by decide) (by decide) hlocks hS.2.2 (by decide) (by decide) (fun t9 _ h1 h2 => xX_end (by rw [cs_L_0]; exact Or.inr (b2i_0.mp c_1)) h1 h2)
  · rw [show (if (1 : Int32) = 0 then a0 0 else a1 0) = a1 0 from if_neg (by decide)]
    refine lv_astore_n (lv' := [(3, .ref (a1 0)), (0, .ref x), (1, .int 1), (2, .int nd)]) hx hb d_CT_written_5 rfl hl (by decide) rfl (fun ls hl => ?_)
    refine lv_aload_n hx hb d_CT_written_6 rfl (lv_at hl 0 rfl) ?_
    refine lv_iload_n hx hb d_CT_written_7 rfl (lv_at hl 3 rfl) ?_
    refine zc_i (va_runV (As := [.int nd]) (rest := []) ⟨hx, hb, hml, hown, hT⟩ (c_TR_hasNode (t := ts_mk (ts_nodes (cs_t1 z)) (ts_cnts (cs_t1 z)) (ts_stash (cs_t1 z)) (ts_trail (cs_t1 z)) (ts_plan (cs_t1 z)) (ts_tgt (cs_t1 z)) (ts_way (cs_t1 z)) (ts_sought (cs_t1 z))) ok1 (hP.sub (ws' := tw_ cI cJ a1 M S C 16 (ts_mk (ts_nodes (cs_t1 z)) (ts_cnts (cs_t1 z)) (ts_stash (cs_t1 z)) (ts_trail (cs_t1 z)) (ts_plan (cs_t1 z)) (ts_tgt (cs_t1 z)) (ts_way (cs_t1 z)) (ts_sought (cs_t1 z)))) [19, 20, 21, 22, 23, 24, 25, 26, 27, 28, 29, 30, 31, 32, 33, 34, 35] rfl) nd) (cwV 1 hT (gi_V m_376 m_414 m_374 m_375 m_24) rfl rfl rfl p_TR_hasNode ⟨Nat.le_of_ble_eq_true rfl, Nat.le_of_ble_eq_true rfl⟩) ⟨zP_blind, va_recv hK hP (ci := 2) (q0 := 19) rfl rfl, zP_pre hK⟩ rfl rfl hl.1 rfl (lv_room (Nat.le_of_ble_eq_true rfl)) d_CT_written_8 ⟨by decide, by decide⟩) hS (fun locs hS => ?_)
    refine lv_if_ne (tgt := 24) hx hb d_CT_written_11 (by decide) (fun c_1 => ?_) (fun c_1 => ?_)
    · refine lv_aload_n hx hb d_CT_written_24 rfl (lv_at hl 0 rfl) ?_
      refine lv_iload_n hx hb d_CT_written_25 rfl (lv_at hl 3 rfl) ?_
      refine zc_i (va_runV (As := [.int nd]) (rest := []) ⟨hx, hb, hml, hown, hT⟩ (c_TR_timesWritten (t := ts_mk (ts_nodes (cs_t1 z)) (ts_cnts (cs_t1 z)) (ts_stash (cs_t1 z)) (ts_trail (cs_t1 z)) (ts_plan (cs_t1 z)) (ts_tgt (cs_t1 z)) (ts_way (cs_t1 z)) (ts_sought (cs_t1 z))) ok1 (hP.sub (ws' := tw_ cI cJ a1 M S C 16 (ts_mk (ts_nodes (cs_t1 z)) (ts_cnts (cs_t1 z)) (ts_stash (cs_t1 z)) (ts_trail (cs_t1 z)) (ts_plan (cs_t1 z)) (ts_tgt (cs_t1 z)) (ts_way (cs_t1 z)) (ts_sought (cs_t1 z)))) [19, 20, 21, 22, 23, 24, 25, 26, 27, 28, 29, 30, 31, 32, 33, 34, 35] rfl) nd) (cwV 1 hT (gi_V m_427 m_424 m_425 m_426 m_24) rfl rfl rfl p_TR_timesWritten ⟨Nat.le_of_ble_eq_true rfl, Nat.le_of_ble_eq_true rfl⟩) ⟨zP_blind, va_recv hK hP (ci := 2) (q0 := 19) rfl rfl, zP_pre hK⟩ rfl rfl hl.1 rfl (lv_room (Nat.le_of_ble_eq_true rfl)) d_CT_written_26 ⟨by decide, by decide⟩) hS (fun locs hS => ?_)
      refine vx_ret ?_
      refine W.widen (k := 2) (n := 12) (by decide) (by decide) ?_
      exact W.iret hx hb hr (fun t9 ht _ => xQi_end (by rw [cs_L_1]; exact fun h => h.elim hnc (fun h => absurd (b2i_n.mp c_1) (by rw [h]; decide))) (by rw [cs_t_1]; exact if_pos (b2i_n.mp c_1)) rfl ht) hS.2.2 d_CT_written_29 hlocks
    · exact xt_io hx hb hl9 hown hT xe hS (hl.1.trans hml.symm) (is := 81) (tx := "no such node") (by decide) d_CT_written_14 d_CT_written_17 d_CT_written_18 d_CT_written_20 d_CT_written_23 hex (Nat.le_of_ble_eq_true rfl) (Nat.le_of_ble_eq_true rfl) (by decide) (by decide) hlocks hS.2.2 (by decide) (by decide) (fun t9 _ h1 h2 => xX_end (by rw [cs_L_1]; exact Or.inr (b2i_0.mp c_1)) h1 h2)

set_option maxHeartbeats 4000000 in
set_option maxRecDepth 100000 in
/-- CoinTree.stash -/
theorem c_CT_stash {l : Launch} (hl9 : l.stackTraces = false) {dC : Nat → ClassId} {dI : Nat → Nat → Nat} {cI cJ : ClassId} {H : Heap} {x ml : Nat} {a0 a1 : Nat → Nat} {L M S C : Nat} {key : Int64} {z : Cs} (ok0 : tr_ok L S C 64) (ok1 : tr_ok M S C 16) (hP : va_P (dC, dI) kCl (cw_ cI cJ x ml a0 a1 L M S C key (cs_mk (cs_ml z) (cs_asked z) (cs_most z) (ts_mk (ts_nodes (cs_t0 z)) (ts_cnts (cs_t0 z)) (ts_stash (cs_t0 z)) (ts_trail (cs_t0 z)) (ts_plan (cs_t0 z)) (ts_tgt (cs_t0 z)) (ts_way (cs_t0 z)) (ts_sought (cs_t0 z))) (ts_mk (ts_nodes (cs_t1 z)) (ts_cnts (cs_t1 z)) (ts_stash (cs_t1 z)) (ts_trail (cs_t1 z)) (ts_plan (cs_t1 z)) (ts_tgt (cs_t1 z)) (ts_way (cs_t1 z)) (ts_sought (cs_t1 z))))) H) (tr k : Int32) : vx_Met l y_CT_stash (k_CT_stash :: bw) { frames := 7, cells := 2, slots := 12, locals := 121 } (xP (dC, dI) kCl [(cI, .int), (cJ, .long)] [.ref x, .int tr, .int k] H) (xQi H ((tr < 0 ∨ 1 < tr) ∨ k < 0) (ct_stash C (cs_t tr z) k)) (xX ((tr < 0 ∨ 1 < tr) ∨ k < 0) xIO) 2 12 (fun _ => False) := by
  refine Met.ofX (own := "CoinTree") (by decide) rfl [.ref x, .int tr, .int k] (Nat.le_of_ble_eq_true rfl) (fun _ _ h => h.1) ?_
  intro p e s m below meth c ls C0 hex hv hl
  obtain ⟨hx, hb, hr, hml, hown, hT, hlocks⟩ := C0
  obtain ⟨-, rfl, hK, xe⟩ := hv
  have hS : va_S (fun _ => False) s.heap s.heap [] := va_S.rf
  have hl : lv_has ls 4 [(0, .ref x), (1, .int tr), (2, .int k)] := hl
  refine lv_aload_n hx hb d_CT_stash_0 rfl (lv_at hl 0 rfl) ?_
  refine lv_iload_n hx hb d_CT_stash_1 rfl (lv_at hl 1 rfl) ?_
  refine xc_r (vx_runV (As := [.int tr]) (rest := []) ⟨hx, hb, hml, hown, hT⟩ (c_CT_treeNumbered hl9 ok0 ok1 hP tr) (cwV 1 hT (gi_V m_400 m_397 m_399 m_8 m_22) rfl rfl rfl p_CT_treeNumbered ⟨Nat.le_of_ble_eq_true rfl, Nat.le_of_ble_eq_true rfl⟩) ⟨xP_blind, va_recv hK hP (ci := 3) (q0 := 0) rfl rfl, xP_pre hK xe⟩ rfl rfl hl.1 rfl (lv_room (Nat.le_of_ble_eq_true rfl)) d_CT_stash_2 ⟨by decide, by decide⟩) hS (fun ce q9 H1 locs1 hcd hz hk hS9 hcell hcv hcl => vx_out (fun x9 h9 => (hex x9 h9).elim) hlocks hcell hcv hcl (fun t9 ht _ => xX_end (Or.inl hcd) (by rw [ht]; exact hz) (fun q hq => by rw [ht]; exact hk q hq)) hS9.2.2 (by decide) (by decide)) (fun locs hnc hS => ?_)
  rcases tr_01 hnc with rfl | rfl
  · rw [show (if (0 : Int32) = 0 then a0 0 else a1 0) = a0 0 from if_pos rfl]
    refine va_get (D := (dC, dI)) (ci := 2) (v := .ref (a0 6)) (C := R_TR) (T := F_TR) (N := 12) hx hb hT i_TR hown hK hP 2 rfl rfl 6 (by decide) (hT _ m_106) (fun _ h9 => h9) rfl d_CT_stash_5 ?_
    refine lv_astore_n (lv' := [(3, .ref (a0 6)), (0, .ref x), (1, .int 0), (2, .int k)]) hx hb d_CT_stash_8 rfl hl (by decide) rfl (fun ls hl => ?_)
    refine lv_iload_n hx hb d_CT_stash_9 rfl (lv_at hl 3 rfl) ?_
    refine lv_if_ge (tgt := 23) hx hb d_CT_stash_10 (by decide) (fun c_1 => ?_) (fun c_1 => ?_)
    · refine lv_iload_n hx hb d_CT_stash_23 rfl (lv_at hl 3 rfl) ?_
      refine lv_aload_n hx hb d_CT_stash_24 rfl (lv_at hl 0 rfl) ?_
      refine va_get (D := (dC, dI)) (ci := 0) (v := .int (ts_stash (cs_t0 z)).2.2.2) (C := R_RW) (T := F_RW) (N := 4) hx hb hT i_RW hown hK hP 8 rfl rfl 3 (by decide) (hT _ m_86) (fun _ h9 => h9) rfl d_CT_stash_25 ?_
      refine lv_icmp_ge (tgt := 41) hx hb d_CT_stash_28 (by decide) (fun c_2 => ?_) (fun c_2 => ?_)
      · refine lv_iconst (v := (-1)) hx hb d_CT_stash_41 (by decide) ?_
        refine vx_ret ?_
        refine W.widen (k := 2) (n := 12) (by decide) (by decide) ?_
        exact W.iret hx hb hr (fun t9 ht _ => xQi_end (fun h => h.elim hnc (fun h => absurd c_1 (Int32.not_le.mpr h))) (by rw [cs_t_0]; first | exact (if_pos c_2).symm | exact (if_neg c_2).symm) rfl ht) hS.2.2 d_CT_stash_42 hlocks
      · refine lv_aload_n hx hb d_CT_stash_31 rfl (lv_at hl 0 rfl) ?_
        refine lv_iload_n hx hb d_CT_stash_32 rfl (lv_at hl 3 rfl) ?_
        refine zc_i (va_runV (As := [.int k]) (rest := []) ⟨hx, hb, hml, hown, hT⟩ (c_RW_markAt hP (show rw_in (cw_ cI cJ x ml a0 a1 L M S C key (cs_mk (cs_ml z) (cs_asked z) (cs_most z) (ts_mk (ts_nodes (cs_t0 z)) (ts_cnts (cs_t0 z)) (ts_stash (cs_t0 z)) (ts_trail (cs_t0 z)) (ts_plan (cs_t0 z)) (ts_tgt (cs_t0 z)) (ts_way (cs_t0 z)) (ts_sought (cs_t0 z))) (ts_mk (ts_nodes (cs_t1 z)) (ts_cnts (cs_t1 z)) (ts_stash (cs_t1 z)) (ts_trail (cs_t1 z)) (ts_plan (cs_t1 z)) (ts_tgt (cs_t1 z)) (ts_way (cs_t1 z)) (ts_sought (cs_t1 z))))) 8 (a0 6) (a0 7) (a0 8) (a0 9) C cI cJ (ts_stash (cs_t0 z)) from ⟨rfl, rfl, rfl, rfl⟩) (tr_C_lt ok0) k) (cwV 1 hT (gi_V m_291 m_448 m_289 m_290 m_26) rfl rfl rfl p_RW_markAt ⟨Nat.le_of_ble_eq_true rfl, Nat.le_of_ble_eq_true rfl⟩) ⟨zP_blind, va_recv hK hP (ci := 0) (q0 := 8) rfl rfl, zP_pre hK⟩ rfl rfl hl.1 rfl (lv_room (Nat.le_of_ble_eq_true rfl)) d_CT_stash_33 ⟨by decide, by decide⟩) hS (fun locs hS => ?_)
        refine lv_iconst (v := 1) hx hb d_CT_stash_36 (by decide) ?_
        refine lv_isub hx hb d_CT_stash_37 ?_
        refine lv_goto (tgt := 42) hx hb d_CT_stash_38 (by decide) ?_
        refine vx_ret ?_
        refine W.widen (k := 2) (n := 12) (by decide) (by decide) ?_
        exact W.iret hx hb hr (fun t9 ht _ => xQi_end (fun h => h.elim hnc (fun h => absurd c_1 (Int32.not_le.mpr h))) (by rw [cs_t_0]; first | exact (if_pos c_2).symm | exact (if_neg c_2).symm) rfl ht) hS.2.2 d_CT_stash_42 hlocks
    · exact xt_io hx hb hl9 hown hT xe hS (hl.1.trans hml.symm) (is := 106) (tx := "no such place") (by decide) d_CT_stash_13 d_CT_stash_16 d_CT_stash_17 d_CT_stash_19 d_CT_stash_22 hex (Nat.le_of_ble_eq_true rfl) (Nat.le_of_ble_eq_true rfl) (by decide) (by decide) hlocks hS.2.2 (by decide) (by decide) (fun t9 _ h1 h2 => xX_end (Or.inr (Int32.not_le.mp c_1)) h1 h2)
  · rw [show (if (1 : Int32) = 0 then a0 0 else a1 0) = a1 0 from if_neg (by decide)]
    refine va_get (D := (dC, dI)) (ci := 2) (v := .ref (a1 6)) (C := R_TR) (T := F_TR) (N := 12) hx hb hT i_TR hown hK hP 19 rfl rfl 6 (by decide) (hT _ m_106) (fun _ h9 => h9) rfl d_CT_stash_5 ?_
    refine lv_astore_n (lv' := [(3, .ref (a1 6)), (0, .ref x), (1, .int 1), (2, .int k)]) hx hb d_CT_stash_8 rfl hl (by decide) rfl (fun ls hl => ?_)
    refine lv_iload_n hx hb d_CT_stash_9 rfl (lv_at hl 3 rfl) ?_
    refine lv_if_ge (tgt := 23) hx hb d_CT_stash_10 (by decide) (fun c_1 => ?_) (fun c_1 => ?_)
    · refine lv_iload_n hx hb d_CT_stash_23 rfl (lv_at hl 3 rfl) ?_
      refine lv_aload_n hx hb d_CT_stash_24 rfl (lv_at hl 0 rfl) ?_
      refine va_get (D := (dC, dI)) (ci := 0) (v := .int (ts_stash (cs_t1 z)).2.2.2) (C := R_RW) (T := F_RW) (N := 4) hx hb hT i_RW hown hK hP 25 rfl rfl 3 (by decide) (hT _ m_86) (fun _ h9 => h9) rfl d_CT_stash_25 ?_
      refine lv_icmp_ge (tgt := 41) hx hb d_CT_stash_28 (by decide) (fun c_2 => ?_) (fun c_2 => ?_)
      · refine lv_iconst (v := (-1)) hx hb d_CT_stash_41 (by decide) ?_
        refine vx_ret ?_
        refine W.widen (k := 2) (n := 12) (by decide) (by decide) ?_
        exact W.iret hx hb hr (fun t9 ht _ => xQi_end (fun h => h.elim hnc (fun h => absurd c_1 (Int32.not_le.mpr h))) (by rw [cs_t_1]; first | exact (if_pos c_2).symm | exact (if_neg c_2).symm) rfl ht) hS.2.2 d_CT_stash_42 hlocks
      · refine lv_aload_n hx hb d_CT_stash_31 rfl (lv_at hl 0 rfl) ?_
        refine lv_iload_n hx hb d_CT_stash_32 rfl (lv_at hl 3 rfl) ?_
        refine zc_i (va_runV (As := [.int k]) (rest := []) ⟨hx, hb, hml, hown, hT⟩ (c_RW_markAt hP (show rw_in (cw_ cI cJ x ml a0 a1 L M S C key (cs_mk (cs_ml z) (cs_asked z) (cs_most z) (ts_mk (ts_nodes (cs_t0 z)) (ts_cnts (cs_t0 z)) (ts_stash (cs_t0 z)) (ts_trail (cs_t0 z)) (ts_plan (cs_t0 z)) (ts_tgt (cs_t0 z)) (ts_way (cs_t0 z)) (ts_sought (cs_t0 z))) (ts_mk (ts_nodes (cs_t1 z)) (ts_cnts (cs_t1 z)) (ts_stash (cs_t1 z)) (ts_trail (cs_t1 z)) (ts_plan (cs_t1 z)) (ts_tgt (cs_t1 z)) (ts_way (cs_t1 z)) (ts_sought (cs_t1 z))))) 25 (a1 6) (a1 7) (a1 8) (a1 9) C cI cJ (ts_stash (cs_t1 z)) from ⟨rfl, rfl, rfl, rfl⟩) (tr_C_lt ok0) k) (cwV 1 hT (gi_V m_291 m_448 m_289 m_290 m_26) rfl rfl rfl p_RW_markAt ⟨Nat.le_of_ble_eq_true rfl, Nat.le_of_ble_eq_true rfl⟩) ⟨zP_blind, va_recv hK hP (ci := 0) (q0 := 25) rfl rfl, zP_pre hK⟩ rfl rfl hl.1 rfl (lv_room (Nat.le_of_ble_eq_true rfl)) d_CT_stash_33 ⟨by decide, by decide⟩) hS (fun locs hS => ?_)
        refine lv_iconst (v := 1) hx hb d_CT_stash_36 (by decide) ?_
        refine lv_isub hx hb d_CT_stash_37 ?_
        refine lv_goto (tgt := 42) hx hb d_CT_stash_38 (by decide) ?_
        refine vx_ret ?_
        refine W.widen (k := 2) (n := 12) (by decide) (by decide) ?_
        exact W.iret hx hb hr (fun t9 ht _ => xQi_end (fun h => h.elim hnc (fun h => absurd c_1 (Int32.not_le.mpr h))) (by rw [cs_t_1]; first | exact (if_pos c_2).symm | exact (if_neg c_2).symm) rfl ht) hS.2.2 d_CT_stash_42 hlocks
    · exact xt_io hx hb hl9 hown hT xe hS (hl.1.trans hml.symm) (is := 106) (tx := "no such place") (by decide) d_CT_stash_13 d_CT_stash_16 d_CT_stash_17 d_CT_stash_19 d_CT_stash_22 hex (Nat.le_of_ble_eq_true rfl) (Nat.le_of_ble_eq_true rfl) (by decide) (by decide) hlocks hS.2.2 (by decide) (by decide) (fun t9 _ h1 h2 => xX_end (Or.inr (Int32.not_le.mp c_1)) h1 h2)
end
section
def ct_cnt (L M S C : Nat) (z : Cs) (k : Nat) : Int32 := match k with
  | 0 => nI (2 ^ L)
  | 1 => nI (2 ^ M)
  | 2 => nI S
  | 3 => nI C
  | 4 => (ts_stash (cs_t0 z)).2.2.2
  | 5 => (ts_stash (cs_t1 z)).2.2.2
  | 6 => cs_most z
  | 7 => cs_asked z
  | _ => nI (ts_trail (cs_t0 z)).2
theorem sw_out {x : Int32} (h : x < 0 ∨ 8 < x) : x.toInt < 0 ∨ 8 < x.toInt := by
  rcases h with h | h
  · exact Or.inl (by rw [Int32.lt_iff_toInt_lt] at h; exact h)
  · exact Or.inr (by rw [Int32.lt_iff_toInt_lt] at h; exact h)
theorem sw_in {x : Int32} (h : ¬ (x < 0 ∨ 8 < x)) : ∃ k : Nat, k < 9 ∧ x = nI k := by
  obtain ⟨k, hk, rfl⟩ := nI_of (x := x) (fun q => h (Or.inl q))
  refine ⟨k, Nat.lt_of_not_le fun q => h (Or.inr ?_), rfl⟩
  rw [show (8 : Int32) = nI 8 from rfl]
  exact nI_lt (by omega) hk
theorem wd_in {x : Int32} (h1 : ¬ x < 0) (h2 : x < 3) : ∃ k : Nat, k < 3 ∧ x = nI k := by
  obtain ⟨k, hk, rfl⟩ := nI_of h1
  rw [show (3 : Int32) = nI 3 from rfl, nI_ltI hk (by omega)] at h2
  exact ⟨k, h2, rfl⟩
end
section
set_option maxHeartbeats 4000000 in
set_option maxRecDepth 100000 in
/-- CoinTree.stored -/
theorem c_CT_stored {l : Launch} (hl9 : l.stackTraces = false) {dC : Nat → ClassId} {dI : Nat → Nat → Nat} {cI cJ : ClassId} {H : Heap} {x ml : Nat} {a0 a1 : Nat → Nat} {L M S C : Nat} {key : Int64} {z : Cs} (ok0 : tr_ok L S C 64) (ok1 : tr_ok M S C 16) (hP : va_P (dC, dI) kCl (cw_ cI cJ x ml a0 a1 L M S C key (cs_mk (cs_ml z) (cs_asked z) (cs_most z) (ts_mk (ts_nodes (cs_t0 z)) (ts_cnts (cs_t0 z)) (ts_stash (cs_t0 z)) (ts_trail (cs_t0 z)) (ts_plan (cs_t0 z)) (ts_tgt (cs_t0 z)) (ts_way (cs_t0 z)) (ts_sought (cs_t0 z))) (ts_mk (ts_nodes (cs_t1 z)) (ts_cnts (cs_t1 z)) (ts_stash (cs_t1 z)) (ts_trail (cs_t1 z)) (ts_plan (cs_t1 z)) (ts_tgt (cs_t1 z)) (ts_way (cs_t1 z)) (ts_sought (cs_t1 z))))) H) (tr nd sl wd : Int32) : vx_Met l y_CT_stored (k_CT_stored :: bw) { frames := 7, cells := 2, slots := 12, locals := 121 } (xP (dC, dI) kCl [(cI, .int), (cJ, .long)] [.ref x, .int tr, .int nd, .int sl, .int wd] H) (xQl H ((tr < 0 ∨ 1 < tr) ∨ tr_nd (cs_L tr L M) nd = false ∨ (sl < 0 ∨ nI S ≤ sl) ∨ (wd < 0 ∨ 3 ≤ wd)) (tr_word (cs_L tr L M) S (cs_t tr z) nd sl wd.toNatClampNeg ^^^ ct_seal key tr nd sl wd (ts_cnts (cs_t tr z) nd.toNatClampNeg))) (xX ((tr < 0 ∨ 1 < tr) ∨ tr_nd (cs_L tr L M) nd = false ∨ (sl < 0 ∨ nI S ≤ sl) ∨ (wd < 0 ∨ 3 ≤ wd)) xIO) 2 12 (fun _ => False) := by
  refine Met.ofX (own := "CoinTree") (by decide) rfl [.ref x, .int tr, .int nd, .int sl, .int wd] (Nat.le_of_ble_eq_true rfl) (fun _ _ h => h.1) ?_
  intro p e s m below meth c ls C0 hex hv hl
  obtain ⟨hx, hb, hr, hml, hown, hT, hlocks⟩ := C0
  obtain ⟨-, rfl, hK, xe⟩ := hv
  have hS : va_S (fun _ => False) s.heap s.heap [] := va_S.rf
  have hl : lv_has ls 8 [(0, .ref x), (1, .int tr), (2, .int nd), (3, .int sl), (4, .int wd)] := hl
  refine lv_aload_n hx hb d_CT_stored_0 rfl (lv_at hl 0 rfl) ?_
  refine lv_iload_n hx hb d_CT_stored_1 rfl (lv_at hl 1 rfl) ?_
  refine xc_r (vx_runV (As := [.int tr]) (rest := []) ⟨hx, hb, hml, hown, hT⟩ (c_CT_treeNumbered hl9 ok0 ok1 hP tr) (cwV 1 hT (gi_V m_400 m_397 m_399 m_8 m_22) rfl rfl rfl p_CT_treeNumbered ⟨Nat.le_of_ble_eq_true rfl, Nat.le_of_ble_eq_true rfl⟩) ⟨xP_blind, va_recv hK hP (ci := 3) (q0 := 0) rfl rfl, xP_pre hK xe⟩ rfl rfl hl.1 rfl (lv_room (Nat.le_of_ble_eq_true rfl)) d_CT_stored_2 ⟨by decide, by decide⟩) hS (fun ce q9 H1 locs1 hcd hz hk hS9 hcell hcv hcl => vx_out (fun x9 h9 => (hex x9 h9).elim) hlocks hcell hcv hcl (fun t9 ht _ => xX_end (Or.inl hcd) (by rw [ht]; exact hz) (fun q hq => by rw [ht]; exact hk q hq)) hS9.2.2 (by decide) (by decide)) (fun locs hnc hS => ?_)
  rcases tr_01 hnc with rfl | rfl
  · rw [show (if (0 : Int32) = 0 then a0 0 else a1 0) = a0 0 from if_pos rfl]
    refine lv_astore (lv' := [(5, .ref (a0 0)), (0, .ref x), (1, .int 0), (2, .int nd), (3, .int sl), (4, .int wd)]) hx hb d_CT_stored_5 hl (by decide) rfl (fun ls hl => ?_)
    refine lv_aload hx hb d_CT_stored_7 (lv_at hl 0 rfl) ?_
    refine lv_iload_n hx hb d_CT_stored_9 rfl (lv_at hl 3 rfl) ?_
    refine zc_i (va_runV (As := [.int nd]) (rest := []) ⟨hx, hb, hml, hown, hT⟩ (c_TR_hasNode (t := ts_mk (ts_nodes (cs_t0 z)) (ts_cnts (cs_t0 z)) (ts_stash (cs_t0 z)) (ts_trail (cs_t0 z)) (ts_plan (cs_t0 z)) (ts_tgt (cs_t0 z)) (ts_way (cs_t0 z)) (ts_sought (cs_t0 z))) ok0 (hP.sub (ws' := tw_ cI cJ a0 L S C 64 (ts_mk (ts_nodes (cs_t0 z)) (ts_cnts (cs_t0 z)) (ts_stash (cs_t0 z)) (ts_trail (cs_t0 z)) (ts_plan (cs_t0 z)) (ts_tgt (cs_t0 z)) (ts_way (cs_t0 z)) (ts_sought (cs_t0 z)))) [2, 3, 4, 5, 6, 7, 8, 9, 10, 11, 12, 13, 14, 15, 16, 17, 18] rfl) nd) (cwV 1 hT (gi_V m_376 m_414 m_374 m_375 m_24) rfl rfl rfl p_TR_hasNode ⟨Nat.le_of_ble_eq_true rfl, Nat.le_of_ble_eq_true rfl⟩) ⟨zP_blind, va_recv hK hP (ci := 2) (q0 := 2) rfl rfl, zP_pre hK⟩ rfl rfl hl.1 rfl (lv_room (Nat.le_of_ble_eq_true rfl)) d_CT_stored_10 ⟨by decide, by decide⟩) hS (fun locs hS => ?_)
    refine lv_if_ne (tgt := 26) hx hb d_CT_stored_13 (by decide) (fun c_1 => ?_) (fun c_1 => ?_)
    · refine lv_iload_n hx hb d_CT_stored_26 rfl (lv_at hl 4 rfl) ?_
      refine lv_if_lt (tgt := 38) hx hb d_CT_stored_27 (by decide) (fun c_2 => ?_) (fun c_2 => ?_)
      · exact xt_io hx hb hl9 hown hT xe hS (hl.1.trans hml.symm) (is := 83) (tx := "no such slot") (by decide) d_CT_stored_38 d_CT_stored_41 d_CT_stored_42 d_CT_stored_44 d_CT_stored_47 hex (Nat.le_of_ble_eq_true rfl) (Nat.le_of_ble_eq_true rfl) (by decide) (by decide) hlocks hS.2.2 (by decide) (by decide) (fun t9 _ h1 h2 => xX_end (by rw [cs_L_0]; exact by first | exact Or.inr (Or.inr (Or.inl (Or.inl c_2))) | exact Or.inr (Or.inr (Or.inl (Or.inr (Int32.not_lt.mp c_3))))) h1 h2)
      · refine lv_iload_n hx hb d_CT_stored_30 rfl (lv_at hl 4 rfl) ?_
        refine lv_aload_n hx hb d_CT_stored_31 rfl (lv_at hl 1 rfl) ?_
        refine va_get (D := (dC, dI)) (ci := 3) (v := .int (nI S)) (C := R_CT) (T := F_CT) (N := 8) hx hb hT i_CT hown hK hP 0 rfl rfl 0 (by decide) (hT _ m_142) (fun _ h9 => h9) rfl d_CT_stored_32 ?_
        refine lv_icmp_lt (tgt := 48) hx hb d_CT_stored_35 (by decide) (fun c_3 => ?_) (fun c_3 => ?_)
        · refine lv_iload hx hb d_CT_stored_48 (lv_at hl 5 rfl) ?_
          refine lv_if_lt (tgt := 59) hx hb d_CT_stored_50 (by decide) (fun c_4 => ?_) (fun c_4 => ?_)
          · exact xt_io hx hb hl9 hown hT xe hS (hl.1.trans hml.symm) (is := 85) (tx := "no such word") (by decide) d_CT_stored_59 d_CT_stored_62 d_CT_stored_63 d_CT_stored_65 d_CT_stored_68 hex (Nat.le_of_ble_eq_true rfl) (Nat.le_of_ble_eq_true rfl) (by decide) (by decide) hlocks hS.2.2 (by decide) (by decide) (fun t9 _ h1 h2 => xX_end (by rw [cs_L_0]; exact by first | exact Or.inr (Or.inr (Or.inr (Or.inl c_4))) | exact Or.inr (Or.inr (Or.inr (Or.inr (Int32.not_lt.mp c_5))))) h1 h2)
          · refine lv_iload hx hb d_CT_stored_53 (lv_at hl 5 rfl) ?_
            refine lv_iconst (v := 3) hx hb d_CT_stored_55 (by decide) ?_
            refine lv_icmp_lt (tgt := 69) hx hb d_CT_stored_56 (by decide) (fun c_5 => ?_) (fun c_5 => ?_)
            · obtain ⟨k, hk3, rfl⟩ := wd_in c_4 c_5
              refine lv_iload_n hx hb d_CT_stored_69 rfl (lv_at hl 2 rfl) ?_
              refine lv_bipush (v := 64) hx hb d_CT_stored_70 (by decide) ?_
              refine lv_imul hx hb d_CT_stored_72 ?_
              refine lv_iload_n hx hb d_CT_stored_73 rfl (lv_at hl 3 rfl) ?_
              refine lv_iadd hx hb d_CT_stored_74 ?_
              refine lv_iconst (v := 4) hx hb d_CT_stored_75 (by decide) ?_
              refine lv_imul hx hb d_CT_stored_76 ?_
              refine lv_iload_n hx hb d_CT_stored_77 rfl (lv_at hl 4 rfl) ?_
              refine lv_iadd hx hb d_CT_stored_78 ?_
              refine lv_iconst (v := 4) hx hb d_CT_stored_79 (by decide) ?_
              refine lv_imul hx hb d_CT_stored_80 ?_
              refine lv_iload hx hb d_CT_stored_81 (lv_at hl 5 rfl) ?_
              refine lv_iadd hx hb d_CT_stored_83 ?_
              refine lv_i2l (v := ((((((0 * 64) + nd) * 4) + sl) * 4) + (nI k)).toInt64) hx hb d_CT_stored_84 rfl ?_
              refine lv_lstore (lv' := [(6, .long (((((((0 * 64) + nd) * 4) + sl) * 4) + (nI k)).toInt64)), (5, .ref (a0 0)), (0, .ref x), (1, .int 0), (2, .int nd), (3, .int sl), (4, .int (nI k))]) hx hb d_CT_stored_85 hl (by decide) rfl (fun ls hl => ?_)
              refine lv_aload hx hb d_CT_stored_87 (lv_at hl 1 rfl) ?_
              refine lv_iload_n hx hb d_CT_stored_89 rfl (lv_at hl 4 rfl) ?_
              refine lv_iload_n hx hb d_CT_stored_90 rfl (lv_at hl 5 rfl) ?_
              refine lv_iload hx hb d_CT_stored_91 (lv_at hl 6 rfl) ?_
              refine zc_l (va_runV (As := [.int nd, .int sl, .int (nI k)]) (rest := []) ⟨hx, hb, hml, hown, hT⟩ (c_TR_wordAt (t := ts_mk (ts_nodes (cs_t0 z)) (ts_cnts (cs_t0 z)) (ts_stash (cs_t0 z)) (ts_trail (cs_t0 z)) (ts_plan (cs_t0 z)) (ts_tgt (cs_t0 z)) (ts_way (cs_t0 z)) (ts_sought (cs_t0 z))) ok0 (hP.sub (ws' := tw_ cI cJ a0 L S C 64 (ts_mk (ts_nodes (cs_t0 z)) (ts_cnts (cs_t0 z)) (ts_stash (cs_t0 z)) (ts_trail (cs_t0 z)) (ts_plan (cs_t0 z)) (ts_tgt (cs_t0 z)) (ts_way (cs_t0 z)) (ts_sought (cs_t0 z)))) [2, 3, 4, 5, 6, 7, 8, 9, 10, 11, 12, 13, 14, 15, 16, 17, 18] rfl) nd sl k hk3) (cwV 3 hT (gi_V m_421 m_418 m_419 m_420 m_24) rfl rfl rfl p_TR_wordAt ⟨Nat.le_of_ble_eq_true rfl, Nat.le_of_ble_eq_true rfl⟩) ⟨zP_blind, va_recv hK hP (ci := 2) (q0 := 2) rfl rfl, zP_pre hK⟩ rfl rfl hl.1 rfl (lv_room (Nat.le_of_ble_eq_true rfl)) d_CT_stored_93 ⟨by decide, by decide⟩) hS (fun locs hS => ?_)
              refine lv_aload_n hx hb d_CT_stored_96 rfl (lv_at hl 2 rfl) ?_
              refine va_get (D := (dC, dI)) (ci := 3) (v := .long key) (C := R_CT) (T := F_CT) (N := 8) hx hb hT i_CT hown hK hP 0 rfl rfl 2 (by decide) (hT _ m_144) (fun _ h9 => h9) rfl d_CT_stored_97 ?_
              refine lv_ldc2 (v := 1000003) hx hb hown (hT _ m_422) d_CT_stored_100 ?_
              refine lv_lload hx hb d_CT_stored_103 (lv_at hl 0 rfl) ?_
              refine lv_lmul hx hb d_CT_stored_105 ?_
              refine lv_ladd hx hb d_CT_stored_106 ?_
              refine lv_ldc2 (v := (-7046029254386353131)) hx hb hown (hT _ m_423) d_CT_stored_107 ?_
              refine lv_aload hx hb d_CT_stored_110 (lv_at hl 1 rfl) ?_
              refine lv_iload_n hx hb d_CT_stored_112 rfl (lv_at hl 4 rfl) ?_
              refine zc_i (va_runV (As := [.int nd]) (rest := [.long (-7046029254386353131), .long (key + (1000003 * (((((((0 * 64) + nd) * 4) + sl) * 4) + (nI k)).toInt64))), .long (tr_word L S (cs_t0 z) nd sl k)]) ⟨hx, hb, hml, hown, hT⟩ (c_TR_timesWritten (t := ts_mk (ts_nodes (cs_t0 z)) (ts_cnts (cs_t0 z)) (ts_stash (cs_t0 z)) (ts_trail (cs_t0 z)) (ts_plan (cs_t0 z)) (ts_tgt (cs_t0 z)) (ts_way (cs_t0 z)) (ts_sought (cs_t0 z))) ok0 (hP.sub (ws' := tw_ cI cJ a0 L S C 64 (ts_mk (ts_nodes (cs_t0 z)) (ts_cnts (cs_t0 z)) (ts_stash (cs_t0 z)) (ts_trail (cs_t0 z)) (ts_plan (cs_t0 z)) (ts_tgt (cs_t0 z)) (ts_way (cs_t0 z)) (ts_sought (cs_t0 z)))) [2, 3, 4, 5, 6, 7, 8, 9, 10, 11, 12, 13, 14, 15, 16, 17, 18] rfl) nd) (cwV 1 hT (gi_V m_427 m_424 m_425 m_426 m_24) rfl rfl rfl p_TR_timesWritten ⟨Nat.le_of_ble_eq_true rfl, Nat.le_of_ble_eq_true rfl⟩) ⟨zP_blind, va_recv hK hP (ci := 2) (q0 := 2) rfl rfl, zP_pre hK⟩ rfl rfl hl.1 rfl (lv_room (Nat.le_of_ble_eq_true rfl)) d_CT_stored_113 ⟨by decide, by decide⟩) hS (fun locs hS => ?_)
              refine lv_i2l (v := (if tr_nd L nd = true then ts_cnts (cs_t0 z) nd.toNatClampNeg else 0).toInt64) hx hb d_CT_stored_116 rfl ?_
              refine lv_lmul hx hb d_CT_stored_117 ?_
              refine lv_ladd hx hb d_CT_stored_118 ?_
              refine zc_l (va_runS (As := [.long ((key + (1000003 * (((((((0 * 64) + nd) * 4) + sl) * 4) + (nI k)).toInt64))) + ((-7046029254386353131) * ((if tr_nd L nd = true then ts_cnts (cs_t0 z) nd.toNatClampNeg else 0).toInt64)))]) (rest := [.long (tr_word L S (cs_t0 z) nd sl k)]) ⟨hx, hb, hml, hown, hT⟩ (c_CT_mix ((key + (1000003 * (((((((0 * 64) + nd) * 4) + sl) * 4) + (nI k)).toInt64))) + ((-7046029254386353131) * ((if tr_nd L nd = true then ts_cnts (cs_t0 z) nd.toNatClampNeg else 0).toInt64)))) (cwS 1 hT (gi_S m_430 m_428 m_429 m_22) rfl rfl rfl p_CT_mix ⟨Nat.le_of_ble_eq_true rfl, Nat.le_of_ble_eq_true rfl⟩) ⟨zP_blind, zP_pre hK⟩ rfl rfl hl.1 rfl (lv_room (Nat.le_of_ble_eq_true rfl)) d_CT_stored_119 ⟨by decide, by decide⟩) hS (fun locs hS => ?_)
              refine lv_lxor hx hb d_CT_stored_122 ?_
              refine vx_ret ?_
              refine W.widen (k := 2) (n := 12) (by decide) (by decide) ?_
              exact W.lret hx hb hr (fun t9 ht _ => xQl_end (by rw [cs_L_0]; exact fun h => h.elim hnc (fun h => h.elim (fun h => absurd (b2i_n.mp c_1) (by rw [h]; decide)) (fun h => h.elim (fun h => h.elim c_2 (fun h => absurd c_3 (Int32.not_lt.mpr h))) (fun h => h.elim c_4 (fun h => absurd c_5 (Int32.not_lt.mpr h)))))) (by rw [cs_t_0, cs_L_0, nI_clamp (show k < 2 ^ 31 by omega), if_pos (b2i_n.mp c_1)]; rfl) rfl ht) hS.2.2 d_CT_stored_123 hlocks
            · exact xt_io hx hb hl9 hown hT xe hS (hl.1.trans hml.symm) (is := 85) (tx := "no such word") (by decide) d_CT_stored_59 d_CT_stored_62 d_CT_stored_63 d_CT_stored_65 d_CT_stored_68 hex (Nat.le_of_ble_eq_true rfl) (Nat.le_of_ble_eq_true rfl) (by decide) (by decide) hlocks hS.2.2 (by decide) (by decide) (fun t9 _ h1 h2 => xX_end (by rw [cs_L_0]; exact by first | exact Or.inr (Or.inr (Or.inr (Or.inl c_4))) | exact Or.inr (Or.inr (Or.inr (Or.inr (Int32.not_lt.mp c_5))))) h1 h2)
        · exact xt_io hx hb hl9 hown hT xe hS (hl.1.trans hml.symm) (is := 83) (tx := "no such slot") (by decide) d_CT_stored_38 d_CT_stored_41 d_CT_stored_42 d_CT_stored_44 d_CT_stored_47 hex (Nat.le_of_ble_eq_true rfl) (Nat.le_of_ble_eq_true rfl) (by decide) (by decide) hlocks hS.2.2 (by decide) (by decide) (fun t9 _ h1 h2 => xX_end (by rw [cs_L_0]; exact by first | exact Or.inr (Or.inr (Or.inl (Or.inl c_2))) | exact Or.inr (Or.inr (Or.inl (Or.inr (Int32.not_lt.mp c_3))))) h1 h2)
    · exact xt_io hx hb hl9 hown hT xe hS (hl.1.trans hml.symm) (is := 81) (tx := "no such node") (by decide) d_CT_stored_16 d_CT_stored_19 d_CT_stored_20 d_CT_stored_22 d_CT_stored_25 hex (Nat.le_of_ble_eq_true rfl) (Nat.le_of_ble_eq_true rfl) (by decide) (by decide) hlocks hS.2.2 (by decide) (by decide) (fun t9 _ h1 h2 => xX_end (by rw [cs_L_0]; exact Or.inr (Or.inl (b2i_0.mp c_1))) h1 h2)
  · rw [show (if (1 : Int32) = 0 then a0 0 else a1 0) = a1 0 from if_neg (by decide)]
    refine lv_astore (lv' := [(5, .ref (a1 0)), (0, .ref x), (1, .int 1), (2, .int nd), (3, .int sl), (4, .int wd)]) hx hb d_CT_stored_5 hl (by decide) rfl (fun ls hl => ?_)
    refine lv_aload hx hb d_CT_stored_7 (lv_at hl 0 rfl) ?_
    refine lv_iload_n hx hb d_CT_stored_9 rfl (lv_at hl 3 rfl) ?_
    refine zc_i (va_runV (As := [.int nd]) (rest := []) ⟨hx, hb, hml, hown, hT⟩ (c_TR_hasNode (t := ts_mk (ts_nodes (cs_t1 z)) (ts_cnts (cs_t1 z)) (ts_stash (cs_t1 z)) (ts_trail (cs_t1 z)) (ts_plan (cs_t1 z)) (ts_tgt (cs_t1 z)) (ts_way (cs_t1 z)) (ts_sought (cs_t1 z))) ok1 (hP.sub (ws' := tw_ cI cJ a1 M S C 16 (ts_mk (ts_nodes (cs_t1 z)) (ts_cnts (cs_t1 z)) (ts_stash (cs_t1 z)) (ts_trail (cs_t1 z)) (ts_plan (cs_t1 z)) (ts_tgt (cs_t1 z)) (ts_way (cs_t1 z)) (ts_sought (cs_t1 z)))) [19, 20, 21, 22, 23, 24, 25, 26, 27, 28, 29, 30, 31, 32, 33, 34, 35] rfl) nd) (cwV 1 hT (gi_V m_376 m_414 m_374 m_375 m_24) rfl rfl rfl p_TR_hasNode ⟨Nat.le_of_ble_eq_true rfl, Nat.le_of_ble_eq_true rfl⟩) ⟨zP_blind, va_recv hK hP (ci := 2) (q0 := 19) rfl rfl, zP_pre hK⟩ rfl rfl hl.1 rfl (lv_room (Nat.le_of_ble_eq_true rfl)) d_CT_stored_10 ⟨by decide, by decide⟩) hS (fun locs hS => ?_)
    refine lv_if_ne (tgt := 26) hx hb d_CT_stored_13 (by decide) (fun c_1 => ?_) (fun c_1 => ?_)
    · refine lv_iload_n hx hb d_CT_stored_26 rfl (lv_at hl 4 rfl) ?_
      refine lv_if_lt (tgt := 38) hx hb d_CT_stored_27 (by decide) (fun c_2 => ?_) (fun c_2 => ?_)
      · exact xt_io hx hb hl9 hown hT xe hS (hl.1.trans hml.symm) (is := 83) (tx := "no such slot") (by decide) d_CT_stored_38 d_CT_stored_41 d_CT_stored_42 d_CT_stored_44 d_CT_stored_47 hex (Nat.le_of_ble_eq_true rfl) (Nat.le_of_ble_eq_true rfl) (by decide) (by decide) hlocks hS.2.2 (by decide) (by decide) (fun t9 _ h1 h2 => xX_end (by rw [cs_L_1]; exact by first | exact Or.inr (Or.inr (Or.inl (Or.inl c_2))) | exact Or.inr (Or.inr (Or.inl (Or.inr (Int32.not_lt.mp c_3))))) h1 h2)
      · refine lv_iload_n hx hb d_CT_stored_30 rfl (lv_at hl 4 rfl) ?_
        refine lv_aload_n hx hb d_CT_stored_31 rfl (lv_at hl 1 rfl) ?_
        refine va_get (D := (dC, dI)) (ci := 3) (v := .int (nI S)) (C := R_CT) (T := F_CT) (N := 8) hx hb hT i_CT hown hK hP 0 rfl rfl 0 (by decide) (hT _ m_142) (fun _ h9 => h9) rfl d_CT_stored_32 ?_
        refine lv_icmp_lt (tgt := 48) hx hb d_CT_stored_35 (by decide) (fun c_3 => ?_) (fun c_3 => ?_)
        · refine lv_iload hx hb d_CT_stored_48 (lv_at hl 5 rfl) ?_
          refine lv_if_lt (tgt := 59) hx hb d_CT_stored_50 (by decide) (fun c_4 => ?_) (fun c_4 => ?_)
          · exact xt_io hx hb hl9 hown hT xe hS (hl.1.trans hml.symm) (is := 85) (tx := "no such word") (by decide) d_CT_stored_59 d_CT_stored_62 d_CT_stored_63 d_CT_stored_65 d_CT_stored_68 hex (Nat.le_of_ble_eq_true rfl) (Nat.le_of_ble_eq_true rfl) (by decide) (by decide) hlocks hS.2.2 (by decide) (by decide) (fun t9 _ h1 h2 => xX_end (by rw [cs_L_1]; exact by first | exact Or.inr (Or.inr (Or.inr (Or.inl c_4))) | exact Or.inr (Or.inr (Or.inr (Or.inr (Int32.not_lt.mp c_5))))) h1 h2)
          · refine lv_iload hx hb d_CT_stored_53 (lv_at hl 5 rfl) ?_
            refine lv_iconst (v := 3) hx hb d_CT_stored_55 (by decide) ?_
            refine lv_icmp_lt (tgt := 69) hx hb d_CT_stored_56 (by decide) (fun c_5 => ?_) (fun c_5 => ?_)
            · obtain ⟨k, hk3, rfl⟩ := wd_in c_4 c_5
              refine lv_iload_n hx hb d_CT_stored_69 rfl (lv_at hl 2 rfl) ?_
              refine lv_bipush (v := 64) hx hb d_CT_stored_70 (by decide) ?_
              refine lv_imul hx hb d_CT_stored_72 ?_
              refine lv_iload_n hx hb d_CT_stored_73 rfl (lv_at hl 3 rfl) ?_
              refine lv_iadd hx hb d_CT_stored_74 ?_
              refine lv_iconst (v := 4) hx hb d_CT_stored_75 (by decide) ?_
              refine lv_imul hx hb d_CT_stored_76 ?_
              refine lv_iload_n hx hb d_CT_stored_77 rfl (lv_at hl 4 rfl) ?_
              refine lv_iadd hx hb d_CT_stored_78 ?_
              refine lv_iconst (v := 4) hx hb d_CT_stored_79 (by decide) ?_
              refine lv_imul hx hb d_CT_stored_80 ?_
              refine lv_iload hx hb d_CT_stored_81 (lv_at hl 5 rfl) ?_
              refine lv_iadd hx hb d_CT_stored_83 ?_
              refine lv_i2l (v := ((((((1 * 64) + nd) * 4) + sl) * 4) + (nI k)).toInt64) hx hb d_CT_stored_84 rfl ?_
              refine lv_lstore (lv' := [(6, .long (((((((1 * 64) + nd) * 4) + sl) * 4) + (nI k)).toInt64)), (5, .ref (a1 0)), (0, .ref x), (1, .int 1), (2, .int nd), (3, .int sl), (4, .int (nI k))]) hx hb d_CT_stored_85 hl (by decide) rfl (fun ls hl => ?_)
              refine lv_aload hx hb d_CT_stored_87 (lv_at hl 1 rfl) ?_
              refine lv_iload_n hx hb d_CT_stored_89 rfl (lv_at hl 4 rfl) ?_
              refine lv_iload_n hx hb d_CT_stored_90 rfl (lv_at hl 5 rfl) ?_
              refine lv_iload hx hb d_CT_stored_91 (lv_at hl 6 rfl) ?_
              refine zc_l (va_runV (As := [.int nd, .int sl, .int (nI k)]) (rest := []) ⟨hx, hb, hml, hown, hT⟩ (c_TR_wordAt (t := ts_mk (ts_nodes (cs_t1 z)) (ts_cnts (cs_t1 z)) (ts_stash (cs_t1 z)) (ts_trail (cs_t1 z)) (ts_plan (cs_t1 z)) (ts_tgt (cs_t1 z)) (ts_way (cs_t1 z)) (ts_sought (cs_t1 z))) ok1 (hP.sub (ws' := tw_ cI cJ a1 M S C 16 (ts_mk (ts_nodes (cs_t1 z)) (ts_cnts (cs_t1 z)) (ts_stash (cs_t1 z)) (ts_trail (cs_t1 z)) (ts_plan (cs_t1 z)) (ts_tgt (cs_t1 z)) (ts_way (cs_t1 z)) (ts_sought (cs_t1 z)))) [19, 20, 21, 22, 23, 24, 25, 26, 27, 28, 29, 30, 31, 32, 33, 34, 35] rfl) nd sl k hk3) (cwV 3 hT (gi_V m_421 m_418 m_419 m_420 m_24) rfl rfl rfl p_TR_wordAt ⟨Nat.le_of_ble_eq_true rfl, Nat.le_of_ble_eq_true rfl⟩) ⟨zP_blind, va_recv hK hP (ci := 2) (q0 := 19) rfl rfl, zP_pre hK⟩ rfl rfl hl.1 rfl (lv_room (Nat.le_of_ble_eq_true rfl)) d_CT_stored_93 ⟨by decide, by decide⟩) hS (fun locs hS => ?_)
              refine lv_aload_n hx hb d_CT_stored_96 rfl (lv_at hl 2 rfl) ?_
              refine va_get (D := (dC, dI)) (ci := 3) (v := .long key) (C := R_CT) (T := F_CT) (N := 8) hx hb hT i_CT hown hK hP 0 rfl rfl 2 (by decide) (hT _ m_144) (fun _ h9 => h9) rfl d_CT_stored_97 ?_
              refine lv_ldc2 (v := 1000003) hx hb hown (hT _ m_422) d_CT_stored_100 ?_
              refine lv_lload hx hb d_CT_stored_103 (lv_at hl 0 rfl) ?_
              refine lv_lmul hx hb d_CT_stored_105 ?_
              refine lv_ladd hx hb d_CT_stored_106 ?_
              refine lv_ldc2 (v := (-7046029254386353131)) hx hb hown (hT _ m_423) d_CT_stored_107 ?_
              refine lv_aload hx hb d_CT_stored_110 (lv_at hl 1 rfl) ?_
              refine lv_iload_n hx hb d_CT_stored_112 rfl (lv_at hl 4 rfl) ?_
              refine zc_i (va_runV (As := [.int nd]) (rest := [.long (-7046029254386353131), .long (key + (1000003 * (((((((1 * 64) + nd) * 4) + sl) * 4) + (nI k)).toInt64))), .long (tr_word M S (cs_t1 z) nd sl k)]) ⟨hx, hb, hml, hown, hT⟩ (c_TR_timesWritten (t := ts_mk (ts_nodes (cs_t1 z)) (ts_cnts (cs_t1 z)) (ts_stash (cs_t1 z)) (ts_trail (cs_t1 z)) (ts_plan (cs_t1 z)) (ts_tgt (cs_t1 z)) (ts_way (cs_t1 z)) (ts_sought (cs_t1 z))) ok1 (hP.sub (ws' := tw_ cI cJ a1 M S C 16 (ts_mk (ts_nodes (cs_t1 z)) (ts_cnts (cs_t1 z)) (ts_stash (cs_t1 z)) (ts_trail (cs_t1 z)) (ts_plan (cs_t1 z)) (ts_tgt (cs_t1 z)) (ts_way (cs_t1 z)) (ts_sought (cs_t1 z)))) [19, 20, 21, 22, 23, 24, 25, 26, 27, 28, 29, 30, 31, 32, 33, 34, 35] rfl) nd) (cwV 1 hT (gi_V m_427 m_424 m_425 m_426 m_24) rfl rfl rfl p_TR_timesWritten ⟨Nat.le_of_ble_eq_true rfl, Nat.le_of_ble_eq_true rfl⟩) ⟨zP_blind, va_recv hK hP (ci := 2) (q0 := 19) rfl rfl, zP_pre hK⟩ rfl rfl hl.1 rfl (lv_room (Nat.le_of_ble_eq_true rfl)) d_CT_stored_113 ⟨by decide, by decide⟩) hS (fun locs hS => ?_)
              refine lv_i2l (v := (if tr_nd M nd = true then ts_cnts (cs_t1 z) nd.toNatClampNeg else 0).toInt64) hx hb d_CT_stored_116 rfl ?_
              refine lv_lmul hx hb d_CT_stored_117 ?_
              refine lv_ladd hx hb d_CT_stored_118 ?_
              refine zc_l (va_runS (As := [.long ((key + (1000003 * (((((((1 * 64) + nd) * 4) + sl) * 4) + (nI k)).toInt64))) + ((-7046029254386353131) * ((if tr_nd M nd = true then ts_cnts (cs_t1 z) nd.toNatClampNeg else 0).toInt64)))]) (rest := [.long (tr_word M S (cs_t1 z) nd sl k)]) ⟨hx, hb, hml, hown, hT⟩ (c_CT_mix ((key + (1000003 * (((((((1 * 64) + nd) * 4) + sl) * 4) + (nI k)).toInt64))) + ((-7046029254386353131) * ((if tr_nd M nd = true then ts_cnts (cs_t1 z) nd.toNatClampNeg else 0).toInt64)))) (cwS 1 hT (gi_S m_430 m_428 m_429 m_22) rfl rfl rfl p_CT_mix ⟨Nat.le_of_ble_eq_true rfl, Nat.le_of_ble_eq_true rfl⟩) ⟨zP_blind, zP_pre hK⟩ rfl rfl hl.1 rfl (lv_room (Nat.le_of_ble_eq_true rfl)) d_CT_stored_119 ⟨by decide, by decide⟩) hS (fun locs hS => ?_)
              refine lv_lxor hx hb d_CT_stored_122 ?_
              refine vx_ret ?_
              refine W.widen (k := 2) (n := 12) (by decide) (by decide) ?_
              exact W.lret hx hb hr (fun t9 ht _ => xQl_end (by rw [cs_L_1]; exact fun h => h.elim hnc (fun h => h.elim (fun h => absurd (b2i_n.mp c_1) (by rw [h]; decide)) (fun h => h.elim (fun h => h.elim c_2 (fun h => absurd c_3 (Int32.not_lt.mpr h))) (fun h => h.elim c_4 (fun h => absurd c_5 (Int32.not_lt.mpr h)))))) (by rw [cs_t_1, cs_L_1, nI_clamp (show k < 2 ^ 31 by omega), if_pos (b2i_n.mp c_1)]; rfl) rfl ht) hS.2.2 d_CT_stored_123 hlocks
            · exact xt_io hx hb hl9 hown hT xe hS (hl.1.trans hml.symm) (is := 85) (tx := "no such word") (by decide) d_CT_stored_59 d_CT_stored_62 d_CT_stored_63 d_CT_stored_65 d_CT_stored_68 hex (Nat.le_of_ble_eq_true rfl) (Nat.le_of_ble_eq_true rfl) (by decide) (by decide) hlocks hS.2.2 (by decide) (by decide) (fun t9 _ h1 h2 => xX_end (by rw [cs_L_1]; exact by first | exact Or.inr (Or.inr (Or.inr (Or.inl c_4))) | exact Or.inr (Or.inr (Or.inr (Or.inr (Int32.not_lt.mp c_5))))) h1 h2)
        · exact xt_io hx hb hl9 hown hT xe hS (hl.1.trans hml.symm) (is := 83) (tx := "no such slot") (by decide) d_CT_stored_38 d_CT_stored_41 d_CT_stored_42 d_CT_stored_44 d_CT_stored_47 hex (Nat.le_of_ble_eq_true rfl) (Nat.le_of_ble_eq_true rfl) (by decide) (by decide) hlocks hS.2.2 (by decide) (by decide) (fun t9 _ h1 h2 => xX_end (by rw [cs_L_1]; exact by first | exact Or.inr (Or.inr (Or.inl (Or.inl c_2))) | exact Or.inr (Or.inr (Or.inl (Or.inr (Int32.not_lt.mp c_3))))) h1 h2)
    · exact xt_io hx hb hl9 hown hT xe hS (hl.1.trans hml.symm) (is := 81) (tx := "no such node") (by decide) d_CT_stored_16 d_CT_stored_19 d_CT_stored_20 d_CT_stored_22 d_CT_stored_25 hex (Nat.le_of_ble_eq_true rfl) (Nat.le_of_ble_eq_true rfl) (by decide) (by decide) hlocks hS.2.2 (by decide) (by decide) (fun t9 _ h1 h2 => xX_end (by rw [cs_L_1]; exact Or.inr (Or.inl (b2i_0.mp c_1))) h1 h2)

set_option maxHeartbeats 4000000 in
set_option maxRecDepth 100000 in
/-- CoinTree.count -/
theorem c_CT_count {l : Launch} (hl9 : l.stackTraces = false) {dC : Nat → ClassId} {dI : Nat → Nat → Nat} {cI cJ : ClassId} {H : Heap} {x ml : Nat} {a0 a1 : Nat → Nat} {L M S C : Nat} {key : Int64} {z : Cs} (ok0 : tr_ok L S C 64) (ok1 : tr_ok M S C 16) (hP : va_P (dC, dI) kCl (cw_ cI cJ x ml a0 a1 L M S C key (cs_mk (cs_ml z) (cs_asked z) (cs_most z) (ts_mk (ts_nodes (cs_t0 z)) (ts_cnts (cs_t0 z)) (ts_stash (cs_t0 z)) (ts_trail (cs_t0 z)) (ts_plan (cs_t0 z)) (ts_tgt (cs_t0 z)) (ts_way (cs_t0 z)) (ts_sought (cs_t0 z))) (ts_mk (ts_nodes (cs_t1 z)) (ts_cnts (cs_t1 z)) (ts_stash (cs_t1 z)) (ts_trail (cs_t1 z)) (ts_plan (cs_t1 z)) (ts_tgt (cs_t1 z)) (ts_way (cs_t1 z)) (ts_sought (cs_t1 z))))) H) (wh : Int32) : vx_Met l y_CT_count (k_CT_count :: bw) { frames := 6, cells := 1, slots := 6, locals := 100 } (xP (dC, dI) kCl [(cI, .int), (cJ, .long)] [.ref x, .int wh] H) (xQi H (wh < 0 ∨ 8 < wh) (ct_cnt L M S C z wh.toNatClampNeg)) (xX (wh < 0 ∨ 8 < wh) xIO) 1 6 (fun _ => False) := by
  refine Met.ofX (own := "CoinTree") (by decide) rfl [.ref x, .int wh] (Nat.le_of_ble_eq_true rfl) (fun _ _ h => h.1) ?_
  intro p e s m below meth c ls C0 hex hv hl
  obtain ⟨hx, hb, hr, hml, hown, hT, hlocks⟩ := C0
  obtain ⟨-, rfl, hK, xe⟩ := hv
  have hS : va_S (fun _ => False) s.heap s.heap [] := va_S.rf
  have hl : lv_has ls 2 [(0, .ref x), (1, .int wh)] := hl
  refine lv_iload_n hx hb d_CT_count_0 rfl (lv_at hl 1 rfl) ?_
  by_cases hw : wh < 0 ∨ 8 < wh
  · refine lv_tableOut (tgt := 121) hx hb d_CT_count_1 (sw_out hw) (by decide) ?_
    exact xt_io hx hb hl9 hown hT xe hS (hl.1.trans hml.symm) (is := 125) (tx := "no such what") (by decide) d_CT_count_121 d_CT_count_124 d_CT_count_125 d_CT_count_127 d_CT_count_130 hex (Nat.le_of_ble_eq_true rfl) (Nat.le_of_ble_eq_true rfl) (by decide) (by decide) hlocks hS.2.2 (by decide) (by decide) (fun t9 _ h1 h2 => xX_end (hw) h1 h2)
  · obtain ⟨k, hk, rfl⟩ := sw_in hw
    rcases (show k = 0 ∨ k = 1 ∨ k = 2 ∨ k = 3 ∨ k = 4 ∨ k = 5 ∨ k = 6 ∨ k = 7 ∨ k = 8 by omega) with rfl | rfl | rfl | rfl | rfl | rfl | rfl | rfl | rfl
    · refine lv_tableIn (off := 51) (tgt := 52) hx hb d_CT_count_1 (by decide +kernel) (by decide +kernel) (by decide +kernel) (by decide) ?_
      refine lv_aload_n hx hb d_CT_count_52 rfl (lv_at hl 0 rfl) ?_
      refine va_get (D := (dC, dI)) (ci := 3) (v := .ref (a0 0)) (C := R_CT) (T := F_CT) (N := 8) hx hb hT i_CT hown hK hP 0 rfl rfl 3 (by decide) (hT _ m_145) (fun _ h9 => h9) rfl d_CT_count_53 ?_
      refine va_get (D := (dC, dI)) (ci := 2) (v := .int (nI (2 ^ L))) (C := R_TR) (T := F_TR) (N := 12) hx hb hT i_TR hown hK hP 2 rfl rfl 1 (by decide) (hT _ m_100) (fun _ h9 => h9) rfl d_CT_count_56 ?_
      refine vx_ret ?_
      refine W.widen (k := 1) (n := 6) (by decide) (by decide) ?_
      exact W.iret hx hb hr (fun t9 ht _ => xQi_end (hw) (rfl) rfl ht) hS.2.2 d_CT_count_59 hlocks
    · refine lv_tableIn (off := 59) (tgt := 60) hx hb d_CT_count_1 (by decide +kernel) (by decide +kernel) (by decide +kernel) (by decide) ?_
      refine lv_aload_n hx hb d_CT_count_60 rfl (lv_at hl 0 rfl) ?_
      refine va_get (D := (dC, dI)) (ci := 3) (v := .ref (a1 0)) (C := R_CT) (T := F_CT) (N := 8) hx hb hT i_CT hown hK hP 0 rfl rfl 4 (by decide) (hT _ m_146) (fun _ h9 => h9) rfl d_CT_count_61 ?_
      refine va_get (D := (dC, dI)) (ci := 2) (v := .int (nI (2 ^ M))) (C := R_TR) (T := F_TR) (N := 12) hx hb hT i_TR hown hK hP 19 rfl rfl 1 (by decide) (hT _ m_100) (fun _ h9 => h9) rfl d_CT_count_64 ?_
      refine vx_ret ?_
      refine W.widen (k := 1) (n := 6) (by decide) (by decide) ?_
      exact W.iret hx hb hr (fun t9 ht _ => xQi_end (hw) (rfl) rfl ht) hS.2.2 d_CT_count_67 hlocks
    · refine lv_tableIn (off := 67) (tgt := 68) hx hb d_CT_count_1 (by decide +kernel) (by decide +kernel) (by decide +kernel) (by decide) ?_
      refine lv_aload_n hx hb d_CT_count_68 rfl (lv_at hl 0 rfl) ?_
      refine va_get (D := (dC, dI)) (ci := 3) (v := .int (nI S)) (C := R_CT) (T := F_CT) (N := 8) hx hb hT i_CT hown hK hP 0 rfl rfl 0 (by decide) (hT _ m_142) (fun _ h9 => h9) rfl d_CT_count_69 ?_
      refine vx_ret ?_
      refine W.widen (k := 1) (n := 6) (by decide) (by decide) ?_
      exact W.iret hx hb hr (fun t9 ht _ => xQi_end (hw) (rfl) rfl ht) hS.2.2 d_CT_count_72 hlocks
    · refine lv_tableIn (off := 72) (tgt := 73) hx hb d_CT_count_1 (by decide +kernel) (by decide +kernel) (by decide +kernel) (by decide) ?_
      refine lv_aload_n hx hb d_CT_count_73 rfl (lv_at hl 0 rfl) ?_
      refine va_get (D := (dC, dI)) (ci := 3) (v := .int (nI C)) (C := R_CT) (T := F_CT) (N := 8) hx hb hT i_CT hown hK hP 0 rfl rfl 1 (by decide) (hT _ m_143) (fun _ h9 => h9) rfl d_CT_count_74 ?_
      refine vx_ret ?_
      refine W.widen (k := 1) (n := 6) (by decide) (by decide) ?_
      exact W.iret hx hb hr (fun t9 ht _ => xQi_end (hw) (rfl) rfl ht) hS.2.2 d_CT_count_77 hlocks
    · refine lv_tableIn (off := 77) (tgt := 78) hx hb d_CT_count_1 (by decide +kernel) (by decide +kernel) (by decide +kernel) (by decide) ?_
      refine lv_aload_n hx hb d_CT_count_78 rfl (lv_at hl 0 rfl) ?_
      refine va_get (D := (dC, dI)) (ci := 3) (v := .ref (a0 0)) (C := R_CT) (T := F_CT) (N := 8) hx hb hT i_CT hown hK hP 0 rfl rfl 3 (by decide) (hT _ m_145) (fun _ h9 => h9) rfl d_CT_count_79 ?_
      refine va_get (D := (dC, dI)) (ci := 2) (v := .ref (a0 6)) (C := R_TR) (T := F_TR) (N := 12) hx hb hT i_TR hown hK hP 2 rfl rfl 6 (by decide) (hT _ m_106) (fun _ h9 => h9) rfl d_CT_count_82 ?_
      refine va_get (D := (dC, dI)) (ci := 0) (v := .int (ts_stash (cs_t0 z)).2.2.2) (C := R_RW) (T := F_RW) (N := 4) hx hb hT i_RW hown hK hP 8 rfl rfl 3 (by decide) (hT _ m_86) (fun _ h9 => h9) rfl d_CT_count_85 ?_
      refine vx_ret ?_
      refine W.widen (k := 1) (n := 6) (by decide) (by decide) ?_
      exact W.iret hx hb hr (fun t9 ht _ => xQi_end (hw) (rfl) rfl ht) hS.2.2 d_CT_count_88 hlocks
    · refine lv_tableIn (off := 88) (tgt := 89) hx hb d_CT_count_1 (by decide +kernel) (by decide +kernel) (by decide +kernel) (by decide) ?_
      refine lv_aload_n hx hb d_CT_count_89 rfl (lv_at hl 0 rfl) ?_
      refine va_get (D := (dC, dI)) (ci := 3) (v := .ref (a1 0)) (C := R_CT) (T := F_CT) (N := 8) hx hb hT i_CT hown hK hP 0 rfl rfl 4 (by decide) (hT _ m_146) (fun _ h9 => h9) rfl d_CT_count_90 ?_
      refine va_get (D := (dC, dI)) (ci := 2) (v := .ref (a1 6)) (C := R_TR) (T := F_TR) (N := 12) hx hb hT i_TR hown hK hP 19 rfl rfl 6 (by decide) (hT _ m_106) (fun _ h9 => h9) rfl d_CT_count_93 ?_
      refine va_get (D := (dC, dI)) (ci := 0) (v := .int (ts_stash (cs_t1 z)).2.2.2) (C := R_RW) (T := F_RW) (N := 4) hx hb hT i_RW hown hK hP 25 rfl rfl 3 (by decide) (hT _ m_86) (fun _ h9 => h9) rfl d_CT_count_96 ?_
      refine vx_ret ?_
      refine W.widen (k := 1) (n := 6) (by decide) (by decide) ?_
      exact W.iret hx hb hr (fun t9 ht _ => xQi_end (hw) (rfl) rfl ht) hS.2.2 d_CT_count_99 hlocks
    · refine lv_tableIn (off := 99) (tgt := 100) hx hb d_CT_count_1 (by decide +kernel) (by decide +kernel) (by decide +kernel) (by decide) ?_
      refine lv_aload_n hx hb d_CT_count_100 rfl (lv_at hl 0 rfl) ?_
      refine va_get (D := (dC, dI)) (ci := 3) (v := .int (cs_most z)) (C := R_CT) (T := F_CT) (N := 8) hx hb hT i_CT hown hK hP 0 rfl rfl 7 (by decide) (hT _ m_149) (fun _ h9 => h9) rfl d_CT_count_101 ?_
      refine vx_ret ?_
      refine W.widen (k := 1) (n := 6) (by decide) (by decide) ?_
      exact W.iret hx hb hr (fun t9 ht _ => xQi_end (hw) (rfl) rfl ht) hS.2.2 d_CT_count_104 hlocks
    · refine lv_tableIn (off := 104) (tgt := 105) hx hb d_CT_count_1 (by decide +kernel) (by decide +kernel) (by decide +kernel) (by decide) ?_
      refine lv_aload_n hx hb d_CT_count_105 rfl (lv_at hl 0 rfl) ?_
      refine va_get (D := (dC, dI)) (ci := 3) (v := .int (cs_asked z)) (C := R_CT) (T := F_CT) (N := 8) hx hb hT i_CT hown hK hP 0 rfl rfl 6 (by decide) (hT _ m_148) (fun _ h9 => h9) rfl d_CT_count_106 ?_
      refine vx_ret ?_
      refine W.widen (k := 1) (n := 6) (by decide) (by decide) ?_
      exact W.iret hx hb hr (fun t9 ht _ => xQi_end (hw) (rfl) rfl ht) hS.2.2 d_CT_count_109 hlocks
    · refine lv_tableIn (off := 109) (tgt := 110) hx hb d_CT_count_1 (by decide +kernel) (by decide +kernel) (by decide +kernel) (by decide) ?_
      refine lv_aload_n hx hb d_CT_count_110 rfl (lv_at hl 0 rfl) ?_
      refine va_get (D := (dC, dI)) (ci := 3) (v := .ref (a0 0)) (C := R_CT) (T := F_CT) (N := 8) hx hb hT i_CT hown hK hP 0 rfl rfl 3 (by decide) (hT _ m_145) (fun _ h9 => h9) rfl d_CT_count_111 ?_
      refine va_get (D := (dC, dI)) (ci := 2) (v := .ref (a0 10)) (C := R_TR) (T := F_TR) (N := 12) hx hb hT i_TR hown hK hP 2 rfl rfl 7 (by decide) (hT _ m_108) (fun _ h9 => h9) rfl d_CT_count_114 ?_
      refine va_get (D := (dC, dI)) (ci := 1) (v := .int (nI (ts_trail (cs_t0 z)).2)) (C := R_TL) (T := F_TL) (N := 3) hx hb hT i_TL hown hK hP 12 rfl rfl 2 (by decide) (hT _ m_66) (fun _ h9 => h9) rfl d_CT_count_117 ?_
      refine vx_ret ?_
      refine W.widen (k := 1) (n := 6) (by decide) (by decide) ?_
      exact W.iret hx hb hr (fun t9 ht _ => xQi_end (hw) (rfl) rfl ht) hS.2.2 d_CT_count_120 hlocks
end
section
-- CoinTree.ask: what becomes of the two trees, as the Java text has it
def ak_t1a (M S C : Nat) (z : Cs) (j : Nat) : Ts := tr_gather M S C 16 (cs_t1 z) (nI (j / 4)) (cs_ml z (j / 4))
def ak_num (M S C : Nat) (z : Cs) (j : Nat) : Int64 := rw_atL 16 (ts_plan (ak_t1a M S C z j)).2.2.1 (ts_sought (ak_t1a M S C z j))
def ak_t1b (M S C : Nat) (z : Cs) (j : Nat) (co mc : Int32) : Ts := tr_settle 16 (ak_t1a M S C z j) mc (ct_with (ak_num M S C z j) (nI (j % 4 * 16)) (co + 1))
def ak_t0a (L M S C : Nat) (z : Cs) (j : Nat) : Ts := tr_gather L S C 64 (cs_t0 z) (nI j) (ct_told L (ak_num M S C z j) (nI (j % 4 * 16)) (nI j))
def ak_val (L M S C : Nat) (z : Cs) (j : Nat) : Int64 := rw_atL 64 (ts_plan (ak_t0a L M S C z j)).2.2.1 (ts_sought (ak_t0a L M S C z j))
def ak_t0b (L M S C : Nat) (z : Cs) (j : Nat) (nw : Bool) (nv : Int64) (co : Int32) : Ts := tr_settle 64 (ak_t0a L M S C z j) co (if nw = true then nv else ak_val L M S C z j)
def ak_t1c (M S C : Nat) (z : Cs) (j : Nat) (co mc : Int32) : Ts := tr_fits M S 16 (ak_t1b M S C z j co mc)
def ak_f1 (M S C : Nat) (z : Cs) (j : Nat) (co mc : Int32) : Bool := decide ((tr_fit M S 16 (ak_t1b M S C z j co mc)).2 ≤ nI C)
def ak_t0c (L M S C : Nat) (z : Cs) (j : Nat) (nw : Bool) (nv : Int64) (co : Int32) : Ts := tr_fits L S 64 (ak_t0b L M S C z j nw nv co)
def ak_f0 (L M S C : Nat) (z : Cs) (j : Nat) (nw : Bool) (nv : Int64) (co : Int32) : Bool := decide ((tr_fit L S 64 (ak_t0b L M S C z j nw nv co)).2 ≤ nI C)
def ak_t1d (M S C : Nat) (z : Cs) (j : Nat) (co mc : Int32) : Ts := tr_carry M S C 16 (ak_t1c M S C z j co mc)
def ak_t0d (L M S C : Nat) (z : Cs) (j : Nat) (nw : Bool) (nv : Int64) (co : Int32) : Ts := tr_carry L S C 64 (ak_t0c L M S C z j nw nv co)
def ak_z (L M S C : Nat) (z : Cs) (j : Nat) (nw : Bool) (nv : Int64) (co mc : Int32) : Cs :=
  cs_mk (upd (cs_ml z) (j / 4) mc) (cs_asked z + 1) (if cs_most z < (ts_stash (ak_t0d L M S C z j nw nv co)).2.2.2 then (ts_stash (ak_t0d L M S C z j nw nv co)).2.2.2 else cs_most z) (ak_t0d L M S C z j nw nv co) (ak_t1d M S C z j co mc)
def ak_ret (L M S C : Nat) (z : Cs) (b : Int32) (nw : Bool) (nv : Int64) (co mc : Int32) (r : Int64) (u : Cs) : Prop :=
  ∃ j : Nat, b = nI j ∧ j < 64 ∧ rw_has (2 ^ L) co = true ∧ rw_has (2 ^ M) mc = true ∧ ak_f1 M S C z j co mc = true ∧ ak_f0 L M S C z j nw nv co = true ∧ r = ak_val L M S C z j ∧ u = ak_z L M S C z j nw nv co mc
def ak_thr (L M S C : Nat) (z : Cs) (b : Int32) (nw : Bool) (nv : Int64) (co mc : Int32) (E : String) (u : Cs) : Prop :=
  (E = xIO ∧ (b < 0 ∨ 64 ≤ b) ∧ u = z) ∨
  (E = xIA ∧ (∃ j : Nat, b = nI j ∧ j < 64) ∧ (rw_has (2 ^ L) co = false ∨ rw_has (2 ^ M) mc = false) ∧ u = z) ∨
  (E = xUO ∧ ∃ j : Nat, b = nI j ∧ j < 64 ∧ rw_has (2 ^ L) co = true ∧ rw_has (2 ^ M) mc = true ∧
    ((ak_f1 M S C z j co mc = false ∧ u = cs_mk (cs_ml z) (cs_asked z) (cs_most z) (ak_t0b L M S C z j nw nv co) (ak_t1c M S C z j co mc)) ∨
     (ak_f1 M S C z j co mc = true ∧ ak_f0 L M S C z j nw nv co = false ∧ u = cs_mk (cs_ml z) (cs_asked z) (cs_most z) (ak_t0c L M S C z j nw nv co) (ak_t1c M S C z j co mc))))
theorem tr_gather_trail {L S C B : Nat} {t : Ts} {blk lf : Int32} : ts_trail (tr_gather L S C B t blk lf) = ts_trail t := by
  unfold tr_gather
  show ts_trail (if _ then _ else _) = _
  split <;> rfl
theorem tr_fits_trail {L S B : Nat} {t : Ts} : ts_trail (tr_fits L S B t) = ts_trail t := rfl
theorem tr_settle_trail {B : Nat} {t : Ts} {lf : Int32} {v : Int64} : ts_trail (tr_settle B t lf v) = ts_trail t := rfl
theorem ak_b {b : Int32} (h1 : ¬ b < 0) (h2 : b < 64) : ∃ j : Nat, j < 64 ∧ b = nI j := by
  obtain ⟨j, hj, rfl⟩ := nI_of h1
  rw [show (64 : Int32) = nI 64 from rfl, nI_ltI hj (by omega)] at h2
  exact ⟨j, h2, rfl⟩
theorem ak_div {j : Nat} (h : j < 64) : nI j / 4 = nI (j / 4) := by rw [show (4 : Int32) = nI 4 from rfl, pk_div (by omega) (by omega) (by omega)]
theorem ak_rem {j : Nat} (h : j < 64) : (nI j - nI j / 4 * 4) * 16 = nI (j % 4 * 16) := by rw [show (4 : Int32) = nI 4 from rfl, pk_rem (by omega) (by omega) (by omega), show (16 : Int32) = nI 16 from rfl, pk_mul]
section YK
variable {p : Program} {l : Launch} {e : Env} {R : Room} {s : State} {m : MethodId} {args : Array Value} {below : List Frame} {meth : Method} {c : Code} {H : Heap} {locs : List Loc} {cells slots : Nat} {Q : State → Prop}
variable {pc : Nat} {ls : Array Slot} {rest st0 : List Value} {a : Array Value} {A : Nat → Prop} {H0 : Heap} {D : va_G} {cl : List vw_C} {tys : List (ClassId × FieldType)}
/-- a call of a method that writes in a part wc of the caller's world -/
theorem tj_v {wc wr w1 ws : va_W} (hr : va_Run p l e R s m args below meth c H locs cells slots 0 0 (F0 m pc ls st0) rest (mQv D cl w1 (va_A wc H.size) a) (va_A wc H.size)) (hS : va_S A H0 H locs) (hA : ∀ q, H0.size ≤ q → A q) (hP : va_P D cl ws H) (hD : va_D A ws) (isC isR : List Nat) (hC : isC.map (fun i => ws[i]?) = wc.map some) (hR : isR.map (fun i => ws[i]?) = wr.map some) (hn : va_nd isR = true) (hdis : ∀ i ∈ isR, i ∉ isC)
    (kk : ∀ (H1 : Heap) (locs1 : List Loc), va_P D cl (wr ++ w1) H1 → va_D A (wr ++ w1) → va_S A H0 H1 locs1 → W p l e R s m args below meth c H1 locs1 cells slots Q (F0 m (pc + 3) ls rest)) : W p l e R s m args below meth c H locs cells slots Q (F0 m pc ls st0) := by
  have hF := va_free (wc := wc) hD hS hA isC hC
  refine va_callv hr hS (fun q _ h => hF q h) hF (fun u t H1 locs1 ht _ _ hb _ hk hS1 => ?_)
  obtain ⟨h1, h2⟩ := va_join (wr := wr) (w1 := w1) hP hD isC isR hC hR hn hdis hk hF (by rw [← ht]; exact hb.1) hb.2
  exact kk H1 locs1 h1 h2 hS1
theorem tj_i {wc wr w1 ws : va_W} {r : Int32} (hr : va_Run p l e R s m args below meth c H locs cells slots 0 0 (F0 m pc ls st0) rest (mQi D cl r w1 (va_A wc H.size) a) (va_A wc H.size)) (hS : va_S A H0 H locs) (hA : ∀ q, H0.size ≤ q → A q) (hP : va_P D cl ws H) (hD : va_D A ws) (isC isR : List Nat) (hC : isC.map (fun i => ws[i]?) = wc.map some) (hR : isR.map (fun i => ws[i]?) = wr.map some) (hn : va_nd isR = true) (hdis : ∀ i ∈ isR, i ∉ isC)
    (kk : ∀ (H1 : Heap) (locs1 : List Loc), va_P D cl (wr ++ w1) H1 → va_D A (wr ++ w1) → va_S A H0 H1 locs1 → W p l e R s m args below meth c H1 locs1 cells slots Q (F0 m (pc + 3) ls (.int r :: rest))) : W p l e R s m args below meth c H locs cells slots Q (F0 m pc ls st0) := by
  have hF := va_free (wc := wc) hD hS hA isC hC
  refine va_calli hr hS (fun q _ h => hF q h) hF (fun r1 u t H1 locs1 ht _ hp hb _ hk hS1 => ?_)
  subst hp
  obtain ⟨h1, h2⟩ := va_join (wr := wr) (w1 := w1) hP hD isC isR hC hR hn hdis hk hF (by rw [← ht]; exact hb.1) hb.2
  exact kk H1 locs1 h1 h2 hS1
def yP (D : va_G) (cl : List vw_C) (tys : List (ClassId × FieldType)) (av : List Value) (ws : va_W) (A : Nat → Prop) : Array Value → State → Prop := va_Pc av (fun U => va_P D cl ws U.heap ∧ va_K D cl tys U ∧ va_D A ws ∧ xE A U U.heap ∧ ∀ q, U.heap.size ≤ q → A q)
theorem yP_blind {av : List Value} {ws : va_W} : FrameBlind (yP D cl tys av ws A) := fun a U g mk q => by
  obtain ⟨q0, q1, qK, qD, qE, qA⟩ := q
  exact ⟨q0, q1, va_K.moved (u := U) (U := U.calling g mk a) (Vm.Alike.refl U.vm) qK, qD, xE.same (u := U) (U := U.calling g mk a) rfl qE, qA⟩
theorem yP_pre {av : List Value} {ws : va_W} (hK : va_K D cl tys s) (hP : va_P D cl ws H) (hD : va_D A ws) (xe : xE A s H) (hA : ∀ q, H.size ≤ q → A q) : ∀ U : State, U.heap = H → s.WarmedH U.vm → yP D cl tys av ws A av.toArray U := fun _ hU hW => ⟨rfl, by rw [hU]; exact hP, va_K.moved hW.alike hK, hD, by rw [hU]; exact xe.warm hW, by rw [hU]; exact hA⟩
def yQl (D : va_G) (cl : List vw_C) (f : Cs → va_W) (ret : Int64 → Cs → Prop) (A : Nat → Prop) : Array Value → State → Outcome → State → Prop := va_Ql ret (fun u t => va_P D cl (f u) t.heap ∧ va_D A (f u)) A
def yX (D : va_G) (cl : List vw_C) (f : Cs → va_W) (thr : String → Cs → Prop) (A : Nat → Prop) : String → State → State → Prop := vx_X (fun (_ : Cs) => True) (fun E u t => thr E u ∧ va_P D cl (f u) t.heap ∧ va_D A (f u)) A
theorem yQl_end {f : Cs → va_W} {ret : Int64 → Cs → Prop} {ws : va_W} {t : State} {v : Int64} (u : Cs) (h : ret v u) (e : ws = f u) (hP : va_P D cl ws H) (hD : va_D A ws) (hS : va_S A s.heap H locs) (ht : t.heap = H) : yQl D cl f ret A a s (.returned (some (.long v))) t := by
  subst e
  exact ⟨⟨v, u, rfl, h, by rw [ht]; exact hP, hD⟩, hS.F ht⟩
theorem yX_end {f : Cs → va_W} {thr : String → Cs → Prop} {ws : va_W} {t : State} {E : String} (u : Cs) (h : thr E u) (e : ws = f u) (hP : va_P D cl ws H) (hD : va_D A ws) (hS : va_S A s.heap H locs) (h1 : H.size ≤ t.heap.size) (h2 : ∀ q : Nat, q < H.size → t.heap[q]? = H[q]?) : yX D cl f thr A E s t := by
  subst e
  refine ⟨u, trivial, ⟨h, hP.kept (fun k q hk => h2 q.1 (hP k q hk).lt), hD⟩, Nat.le_trans hS.1 h1, fun q hq hn => ?_⟩
  rw [h2 q (Nat.lt_of_lt_of_le hq hS.1)]
  exact hS.2.1 q hq hn
end YK
end
section
set_option maxHeartbeats 8000000 in
set_option maxRecDepth 100000 in
/-- CoinTree.ask -/
theorem c_CT_ask {l : Launch} (hl9 : l.stackTraces = false) {dC : Nat → ClassId} {dI : Nat → Nat → Nat} {cI cJ : ClassId} {A : Nat → Prop} {x ml : Nat} {a0 a1 : Nat → Nat} {L M S C : Nat} {key : Int64} {z : Cs} (ok0 : tr_ok L S C 64) (ok1 : tr_ok M S C 16) (ht0 : (ts_trail (cs_t0 z)).2 < 600) (ht1 : (ts_trail (cs_t1 z)).2 < 600) (b : Int32) (nw : Bool) (nv : Int64) (co mc : Int32) : vx_Met l y_CT_ask (k_CT_ask :: bw) { frames := 6, cells := 1, slots := 6, locals := 137 } (yP (dC, dI) kCl [(cI, .int), (cJ, .long)] [.ref x, .int b, .int (b2i nw), .long nv, .int co, .int mc] (cw_ cI cJ x ml a0 a1 L M S C key (cs_mk (cs_ml z) (cs_asked z) (cs_most z) (cs_t0 z) (cs_t1 z))) A) (yQl (dC, dI) kCl (fun u => cw_ cI cJ x ml a0 a1 L M S C key u) (ak_ret L M S C z b nw nv co mc) A) (yX (dC, dI) kCl (fun u => cw_ cI cJ x ml a0 a1 L M S C key u) (ak_thr L M S C z b nw nv co mc) A) 1 6 A := by
  refine Met.ofX (own := "CoinTree") (by decide) rfl [.ref x, .int b, .int (b2i nw), .long nv, .int co, .int mc] (Nat.le_of_ble_eq_true rfl) (fun _ _ h => h.1) ?_
  intro p e s m below meth c ls C0 hex hv hl
  obtain ⟨hx, hb, hr, hml, hown, hT, hlocks⟩ := C0
  obtain ⟨-, hP, hK, hD, xe, hA⟩ := hv
  have hS : va_S A s.heap s.heap [] := va_S.rf
  have hl : lv_has ls 13 [(0, .ref x), (1, .int b), (2, .int (b2i nw)), (3, .long nv), (5, .int co), (6, .int mc)] := hl
  refine lv_iload_n hx hb d_CT_ask_0 rfl (lv_at hl 1 rfl) ?_
  refine lv_if_lt (tgt := 10) hx hb d_CT_ask_1 (by decide) (fun c_1 => ?_) (fun c_1 => ?_)
  · exact xt_io hx hb hl9 hown hT xe hS (hl.1.trans hml.symm) (is := 127) (tx := "no such block") (by decide) d_CT_ask_10 d_CT_ask_13 d_CT_ask_14 d_CT_ask_16 d_CT_ask_19 hex (Nat.le_of_ble_eq_true rfl) (Nat.le_of_ble_eq_true rfl) (by decide) (by decide) hlocks hS.2.2 (by decide) (by decide) (fun t9 _ h1 h2 => yX_end (z) (Or.inl ⟨rfl, by first | exact Or.inl c_1 | exact Or.inr (Int32.not_lt.mp c_2), rfl⟩) rfl hP hD hS h1 h2)
  · refine lv_iload_n hx hb d_CT_ask_4 rfl (lv_at hl 1 rfl) ?_
    refine lv_bipush (v := 64) hx hb d_CT_ask_5 (by decide) ?_
    refine lv_icmp_lt (tgt := 20) hx hb d_CT_ask_7 (by decide) (fun c_2 => ?_) (fun c_2 => ?_)
    · obtain ⟨j, hj, rfl⟩ := ak_b c_1 c_2
      refine lv_aload_n hx hb d_CT_ask_20 rfl (lv_at hl 0 rfl) ?_
      refine va_get (D := (dC, dI)) (ci := 3) (v := .ref (a0 0)) (C := R_CT) (T := F_CT) (N := 8) hx hb hT i_CT hown hK hP 0 rfl rfl 3 (by decide) (hT _ m_145) (fun _ h9 => h9) rfl d_CT_ask_21 ?_
      refine lv_iload hx hb d_CT_ask_24 (lv_at hl 4 rfl) ?_
      refine zc_i (va_runV (As := [.int co]) (rest := []) ⟨hx, hb, hml, hown, hT⟩ (c_TR_hasLeaf (t := cs_t0 z) ok0 (hP.sub (ws' := tw_ cI cJ a0 L S C 64 (cs_t0 z)) [2, 3, 4, 5, 6, 7, 8, 9, 10, 11, 12, 13, 14, 15, 16, 17, 18] rfl) co) (cwV 1 hT (gi_V m_255 m_252 m_253 m_254 m_24) rfl rfl rfl p_TR_hasLeaf ⟨Nat.le_of_ble_eq_true rfl, Nat.le_of_ble_eq_true rfl⟩) ⟨zP_blind, va_recv hK hP (ci := 2) (q0 := 2) rfl rfl, zP_pre hK⟩ rfl rfl hl.1 rfl (lv_room (Nat.le_of_ble_eq_true rfl)) d_CT_ask_26 ⟨by decide, by decide⟩) hS (fun locs hS => ?_)
      refine lv_if_eq (tgt := 44) hx hb d_CT_ask_29 (by decide) (fun c_3 => ?_) (fun c_3 => ?_)
      · have hc0 := c_3
        exact xt_ia hx hb hl9 hown hT xe hS (hl.1.trans hml.symm) (is := 134) (tx := "a coin is no leaf of its tree") (by decide) d_CT_ask_44 d_CT_ask_47 d_CT_ask_48 d_CT_ask_50 d_CT_ask_53 hex (Nat.le_of_ble_eq_true rfl) (Nat.le_of_ble_eq_true rfl) (by decide) (by decide) hlocks hS.2.2 (by decide) (by decide) (fun t9 _ h1 h2 => yX_end (z) (Or.inr (Or.inl ⟨rfl, ⟨j, rfl, hj⟩, by first | exact Or.inl (b2i_0.mp hc0) | exact Or.inr (b2i_0.mp hc1), rfl⟩)) rfl hP hD hS h1 h2)
      · have hc0 := c_3
        refine lv_aload_n hx hb d_CT_ask_32 rfl (lv_at hl 0 rfl) ?_
        refine va_get (D := (dC, dI)) (ci := 3) (v := .ref (a1 0)) (C := R_CT) (T := F_CT) (N := 8) hx hb hT i_CT hown hK hP 0 rfl rfl 4 (by decide) (hT _ m_146) (fun _ h9 => h9) rfl d_CT_ask_33 ?_
        refine lv_iload hx hb d_CT_ask_36 (lv_at hl 5 rfl) ?_
        refine zc_i (va_runV (As := [.int mc]) (rest := []) ⟨hx, hb, hml, hown, hT⟩ (c_TR_hasLeaf (t := cs_t1 z) ok1 (hP.sub (ws' := tw_ cI cJ a1 M S C 16 (cs_t1 z)) [19, 20, 21, 22, 23, 24, 25, 26, 27, 28, 29, 30, 31, 32, 33, 34, 35] rfl) mc) (cwV 1 hT (gi_V m_255 m_252 m_253 m_254 m_24) rfl rfl rfl p_TR_hasLeaf ⟨Nat.le_of_ble_eq_true rfl, Nat.le_of_ble_eq_true rfl⟩) ⟨zP_blind, va_recv hK hP (ci := 2) (q0 := 19) rfl rfl, zP_pre hK⟩ rfl rfl hl.1 rfl (lv_room (Nat.le_of_ble_eq_true rfl)) d_CT_ask_38 ⟨by decide, by decide⟩) hS (fun locs hS => ?_)
        refine lv_if_ne (tgt := 54) hx hb d_CT_ask_41 (by decide) (fun c_4 => ?_) (fun c_4 => ?_)
        · have hc1 := c_4
          refine lv_iload_n hx hb d_CT_ask_54 rfl (lv_at hl 1 rfl) ?_
          refine lv_iconst (v := 4) hx hb d_CT_ask_55 (by decide) ?_
          refine lv_idiv hx hb d_CT_ask_56 (by decide) ?_
          refine W.eq (g2 := F0 m 57 ls [.int (nI (j / 4))]) (by rw [ak_div hj]) ?_
          refine lv_istore (lv' := [(7, .int (nI (j / 4))), (0, .ref x), (1, .int (nI j)), (2, .int (b2i nw)), (3, .long nv), (5, .int co), (6, .int mc)]) hx hb d_CT_ask_57 hl (by decide) rfl (fun ls hl => ?_)
          refine lv_iload_n hx hb d_CT_ask_59 rfl (lv_at hl 2 rfl) ?_
          refine lv_iconst (v := 4) hx hb d_CT_ask_60 (by decide) ?_
          refine lv_irem hx hb d_CT_ask_61 (by decide) ?_
          refine lv_bipush (v := 16) hx hb d_CT_ask_62 (by decide) ?_
          refine lv_imul hx hb d_CT_ask_64 ?_
          refine W.eq (g2 := F0 m 65 ls [.int (nI (j % 4 * 16))]) (by rw [ak_rem hj]) ?_
          refine lv_istore (lv' := [(8, .int (nI (j % 4 * 16))), (7, .int (nI (j / 4))), (0, .ref x), (1, .int (nI j)), (2, .int (b2i nw)), (3, .long nv), (5, .int co), (6, .int mc)]) hx hb d_CT_ask_65 hl (by decide) rfl (fun ls hl => ?_)
          refine lv_aload_n hx hb d_CT_ask_67 rfl (lv_at hl 2 rfl) ?_
          refine va_get (D := (dC, dI)) (ci := 3) (v := .ref (a1 0)) (C := R_CT) (T := F_CT) (N := 8) hx hb hT i_CT hown hK hP 0 rfl rfl 4 (by decide) (hT _ m_146) (fun _ h9 => h9) rfl d_CT_ask_68 ?_
          refine lv_iload hx hb d_CT_ask_71 (lv_at hl 1 rfl) ?_
          refine lv_aload_n hx hb d_CT_ask_73 rfl (lv_at hl 2 rfl) ?_
          refine va_get (D := (dC, dI)) (ci := 3) (v := .ref ml) (C := R_CT) (T := F_CT) (N := 8) hx hb hT i_CT hown hK hP 0 rfl rfl 5 (by decide) (hT _ m_147) (fun _ h9 => h9) rfl d_CT_ask_74 ?_
          refine lv_iload hx hb d_CT_ask_77 (lv_at hl 1 rfl) ?_
          refine va_iald hx hb hK hP 1 0 rfl rfl (vp_in_nI (by omega) (by omega)) d_CT_ask_79 ?_
          rw [nI_clamp (show j / 4 < 2 ^ 31 by omega)]
          refine tj_v (wr := (x, .inr (3, [.int (nI S), .int (nI C), .long key, .ref (a0 0), .ref (a1 0), .ref ml, .int (cs_asked z), .int (cs_most z)])) :: (ml, .inl (cI, 16, .inl (cs_ml z))) :: tw_ cI cJ a0 L S C 64 (cs_t0 z)) (va_runV (As := [.int (nI (j / 4)), .int ((cs_ml z) (j / 4))]) (rest := []) ⟨hx, hb, hml, hown, hT⟩ (c_TR_gather (A := va_A (tw_ cI cJ a1 M S C 16 (cs_t1 z)) s.heap.size) (t := cs_t1 z) ok1 (nI (j / 4)) ((cs_ml z) (j / 4))) (cwV 2 hT (gi_V m_275 m_272 m_273 m_274 m_24) rfl rfl rfl p_TR_gather ⟨Nat.le_of_ble_eq_true rfl, Nat.le_of_ble_eq_true rfl⟩) ⟨mP_blind, va_recv hK hP (ci := 2) (q0 := 19) rfl rfl, mP_pre hK (hP.sub (ws' := tw_ cI cJ a1 M S C 16 (cs_t1 z)) [19, 20, 21, 22, 23, 24, 25, 26, 27, 28, 29, 30, 31, 32, 33, 34, 35] rfl) (hD.sub (ws' := tw_ cI cJ a1 M S C 16 (cs_t1 z)) [19, 20, 21, 22, 23, 24, 25, 26, 27, 28, 29, 30, 31, 32, 33, 34, 35] (by decide) rfl).self⟩ rfl rfl hl.1 rfl (lv_room (Nat.le_of_ble_eq_true rfl)) d_CT_ask_80 ⟨by decide, by decide⟩) hS hA hP hD [19, 20, 21, 22, 23, 24, 25, 26, 27, 28, 29, 30, 31, 32, 33, 34, 35] [0, 1, 2, 3, 4, 5, 6, 7, 8, 9, 10, 11, 12, 13, 14, 15, 16, 17, 18] rfl rfl (by decide) (by decide) (fun H locs hP hD hS => ?_)
          have hP : va_P (dC, dI) kCl (((x, .inr (3, [.int (nI S), .int (nI C), .long key, .ref (a0 0), .ref (a1 0), .ref ml, .int (cs_asked z), .int (cs_most z)])) :: (ml, .inl (cI, 16, .inl (cs_ml z))) :: tw_ cI cJ a0 L S C 64 (cs_t0 z)) ++ tw_ cI cJ a1 M S C 16 (tr_gather M S C 16 (cs_t1 z) (nI (j / 4)) ((cs_ml z) (j / 4)))) H := hP
          have hD : va_D A (((x, .inr (3, [.int (nI S), .int (nI C), .long key, .ref (a0 0), .ref (a1 0), .ref ml, .int (cs_asked z), .int (cs_most z)])) :: (ml, .inl (cI, 16, .inl (cs_ml z))) :: tw_ cI cJ a0 L S C 64 (cs_t0 z)) ++ tw_ cI cJ a1 M S C 16 (tr_gather M S C 16 (cs_t1 z) (nI (j / 4)) ((cs_ml z) (j / 4)))) := hD
          obtain ⟨T1a, hT1a⟩ : ∃ T : Ts, T = tr_gather M S C 16 (cs_t1 z) (nI (j / 4)) ((cs_ml z) (j / 4)) := ⟨_, rfl⟩
          rw [← hT1a] at hP hD
          have hP : va_P (dC, dI) kCl (cw_ cI cJ x ml a0 a1 L M S C key (cs_mk (cs_ml z) (cs_asked z) (cs_most z) (cs_t0 z) T1a)) H := hP
          have hD : va_D A (cw_ cI cJ x ml a0 a1 L M S C key (cs_mk (cs_ml z) (cs_asked z) (cs_most z) (cs_t0 z) T1a)) := hD
          refine lv_aload_n hx hb d_CT_ask_83 rfl (lv_at hl 2 rfl) ?_
          refine va_get (D := (dC, dI)) (ci := 3) (v := .ref (a1 0)) (C := R_CT) (T := F_CT) (N := 8) hx hb hT i_CT hown hK hP 0 rfl rfl 4 (by decide) (hT _ m_146) (fun _ h9 => h9) rfl d_CT_ask_84 ?_
          refine zc_l (va_runV (As := []) (rest := []) ⟨hx, hb, hml, hown, hT⟩ (c_TR_soughtValue (t := T1a) ok1 (hP.sub (ws' := tw_ cI cJ a1 M S C 16 T1a) [19, 20, 21, 22, 23, 24, 25, 26, 27, 28, 29, 30, 31, 32, 33, 34, 35] rfl) ) (cwV 0 hT (gi_V m_324 m_321 m_322 m_323 m_24) rfl rfl rfl p_TR_soughtValue ⟨Nat.le_of_ble_eq_true rfl, Nat.le_of_ble_eq_true rfl⟩) ⟨zP_blind, va_recv hK hP (ci := 2) (q0 := 19) rfl rfl, zP_pre hK⟩ rfl rfl hl.1 rfl (lv_room (Nat.le_of_ble_eq_true rfl)) d_CT_ask_87 ⟨by decide, by decide⟩) hS (fun locs hS => ?_)
          refine lv_lstore (lv' := [(9, .long (rw_atL 16 (ts_plan T1a).2.2.1 (ts_sought T1a))), (8, .int (nI (j % 4 * 16))), (7, .int (nI (j / 4))), (0, .ref x), (1, .int (nI j)), (2, .int (b2i nw)), (3, .long nv), (5, .int co), (6, .int mc)]) hx hb d_CT_ask_90 hl (by decide) rfl (fun ls hl => ?_)
          refine lv_aload_n hx hb d_CT_ask_92 rfl (lv_at hl 3 rfl) ?_
          refine va_get (D := (dC, dI)) (ci := 3) (v := .ref (a1 0)) (C := R_CT) (T := F_CT) (N := 8) hx hb hT i_CT hown hK hP 0 rfl rfl 4 (by decide) (hT _ m_146) (fun _ h9 => h9) rfl d_CT_ask_93 ?_
          refine lv_iload hx hb d_CT_ask_96 (lv_at hl 8 rfl) ?_
          refine lv_lload hx hb d_CT_ask_98 (lv_at hl 0 rfl) ?_
          refine lv_iload hx hb d_CT_ask_100 (lv_at hl 1 rfl) ?_
          refine lv_iload hx hb d_CT_ask_102 (lv_at hl 7 rfl) ?_
          refine lv_iconst (v := 1) hx hb d_CT_ask_104 (by decide) ?_
          refine lv_iadd hx hb d_CT_ask_105 ?_
          refine zc_l (va_runS (As := [.long (rw_atL 16 (ts_plan T1a).2.2.1 (ts_sought T1a)), .int (nI (j % 4 * 16)), .int (co + 1)]) (rest := [.int mc, .ref (a1 0)]) ⟨hx, hb, hml, hown, hT⟩ (c_CT_withNumber (rw_atL 16 (ts_plan T1a).2.2.1 (ts_sought T1a)) (nI (j % 4 * 16)) (co + 1)) (cwS 3 hT (gi_S m_328 m_326 m_327 m_22) rfl rfl rfl p_CT_withNumber ⟨Nat.le_of_ble_eq_true rfl, Nat.le_of_ble_eq_true rfl⟩) ⟨zP_blind, zP_pre hK⟩ rfl rfl hl.1 rfl (lv_room (Nat.le_of_ble_eq_true rfl)) d_CT_ask_106 ⟨by decide, by decide⟩) hS (fun locs hS => ?_)
          refine tj_v (wr := (x, .inr (3, [.int (nI S), .int (nI C), .long key, .ref (a0 0), .ref (a1 0), .ref ml, .int (cs_asked z), .int (cs_most z)])) :: (ml, .inl (cI, 16, .inl (cs_ml z))) :: tw_ cI cJ a0 L S C 64 (cs_t0 z)) (va_runV (As := [.int mc, .long (ct_with (rw_atL 16 (ts_plan T1a).2.2.1 (ts_sought T1a)) (nI (j % 4 * 16)) (co + 1))]) (rest := []) ⟨hx, hb, hml, hown, hT⟩ (c_TR_settle (A := va_A (tw_ cI cJ a1 M S C 16 T1a) H.size) (t := T1a) ok1 mc (ct_with (rw_atL 16 (ts_plan T1a).2.2.1 (ts_sought T1a)) (nI (j % 4 * 16)) (co + 1))) (cwV 2 hT (gi_V m_334 m_331 m_332 m_333 m_24) rfl rfl rfl p_TR_settle ⟨Nat.le_of_ble_eq_true rfl, Nat.le_of_ble_eq_true rfl⟩) ⟨mP_blind, va_recv hK hP (ci := 2) (q0 := 19) rfl rfl, mP_pre hK (hP.sub (ws' := tw_ cI cJ a1 M S C 16 T1a) [19, 20, 21, 22, 23, 24, 25, 26, 27, 28, 29, 30, 31, 32, 33, 34, 35] rfl) (hD.sub (ws' := tw_ cI cJ a1 M S C 16 T1a) [19, 20, 21, 22, 23, 24, 25, 26, 27, 28, 29, 30, 31, 32, 33, 34, 35] (by decide) rfl).self⟩ rfl rfl hl.1 rfl (lv_room (Nat.le_of_ble_eq_true rfl)) d_CT_ask_109 ⟨by decide, by decide⟩) hS hA hP hD [19, 20, 21, 22, 23, 24, 25, 26, 27, 28, 29, 30, 31, 32, 33, 34, 35] [0, 1, 2, 3, 4, 5, 6, 7, 8, 9, 10, 11, 12, 13, 14, 15, 16, 17, 18] rfl rfl (by decide) (by decide) (fun H locs hP hD hS => ?_)
          have hP : va_P (dC, dI) kCl (((x, .inr (3, [.int (nI S), .int (nI C), .long key, .ref (a0 0), .ref (a1 0), .ref ml, .int (cs_asked z), .int (cs_most z)])) :: (ml, .inl (cI, 16, .inl (cs_ml z))) :: tw_ cI cJ a0 L S C 64 (cs_t0 z)) ++ tw_ cI cJ a1 M S C 16 (tr_settle 16 T1a mc (ct_with (rw_atL 16 (ts_plan T1a).2.2.1 (ts_sought T1a)) (nI (j % 4 * 16)) (co + 1)))) H := hP
          have hD : va_D A (((x, .inr (3, [.int (nI S), .int (nI C), .long key, .ref (a0 0), .ref (a1 0), .ref ml, .int (cs_asked z), .int (cs_most z)])) :: (ml, .inl (cI, 16, .inl (cs_ml z))) :: tw_ cI cJ a0 L S C 64 (cs_t0 z)) ++ tw_ cI cJ a1 M S C 16 (tr_settle 16 T1a mc (ct_with (rw_atL 16 (ts_plan T1a).2.2.1 (ts_sought T1a)) (nI (j % 4 * 16)) (co + 1)))) := hD
          obtain ⟨T1b, hT1b⟩ : ∃ T : Ts, T = tr_settle 16 T1a mc (ct_with (rw_atL 16 (ts_plan T1a).2.2.1 (ts_sought T1a)) (nI (j % 4 * 16)) (co + 1)) := ⟨_, rfl⟩
          rw [← hT1b] at hP hD
          have hP : va_P (dC, dI) kCl (cw_ cI cJ x ml a0 a1 L M S C key (cs_mk (cs_ml z) (cs_asked z) (cs_most z) (cs_t0 z) T1b)) H := hP
          have hD : va_D A (cw_ cI cJ x ml a0 a1 L M S C key (cs_mk (cs_ml z) (cs_asked z) (cs_most z) (cs_t0 z) T1b)) := hD
          refine lv_aload_n hx hb d_CT_ask_112 rfl (lv_at hl 3 rfl) ?_
          refine va_get (D := (dC, dI)) (ci := 3) (v := .ref (a0 0)) (C := R_CT) (T := F_CT) (N := 8) hx hb hT i_CT hown hK hP 0 rfl rfl 3 (by decide) (hT _ m_145) (fun _ h9 => h9) rfl d_CT_ask_113 ?_
          refine lv_iload_n hx hb d_CT_ask_116 rfl (lv_at hl 4 rfl) ?_
          refine lv_aload_n hx hb d_CT_ask_117 rfl (lv_at hl 3 rfl) ?_
          refine lv_lload hx hb d_CT_ask_118 (lv_at hl 0 rfl) ?_
          refine lv_iload hx hb d_CT_ask_120 (lv_at hl 1 rfl) ?_
          refine lv_iload_n hx hb d_CT_ask_122 rfl (lv_at hl 4 rfl) ?_
          refine zc_i (va_runV (As := [.long (rw_atL 16 (ts_plan T1a).2.2.1 (ts_sought T1a)), .int (nI (j % 4 * 16)), .int (nI j)]) (rest := [.int (nI j), .ref (a0 0)]) ⟨hx, hb, hml, hown, hT⟩ (c_CT_leafTold (z := cs_mk (cs_ml z) (cs_asked z) (cs_most z) (cs_t0 z) T1b) ok0 ok1 hP (rw_atL 16 (ts_plan T1a).2.2.1 (ts_sought T1a)) (nI (j % 4 * 16)) (nI j)) (cwV 3 hT (gi_V m_339 m_336 m_338 m_5 m_22) rfl rfl rfl p_CT_leafTold ⟨Nat.le_of_ble_eq_true rfl, Nat.le_of_ble_eq_true rfl⟩) ⟨zP_blind, va_recv hK hP (ci := 3) (q0 := 0) rfl rfl, zP_pre hK⟩ rfl rfl hl.1 rfl (lv_room (Nat.le_of_ble_eq_true rfl)) d_CT_ask_123 ⟨by decide, by decide⟩) hS (fun locs hS => ?_)
          refine tj_v (wr := (x, .inr (3, [.int (nI S), .int (nI C), .long key, .ref (a0 0), .ref (a1 0), .ref ml, .int (cs_asked z), .int (cs_most z)])) :: (ml, .inl (cI, 16, .inl (cs_ml z))) :: tw_ cI cJ a1 M S C 16 T1b) (va_runV (As := [.int (nI j), .int (ct_told L (rw_atL 16 (ts_plan T1a).2.2.1 (ts_sought T1a)) (nI (j % 4 * 16)) (nI j))]) (rest := []) ⟨hx, hb, hml, hown, hT⟩ (c_TR_gather (A := va_A (tw_ cI cJ a0 L S C 64 (cs_t0 z)) H.size) (t := cs_t0 z) ok0 (nI j) (ct_told L (rw_atL 16 (ts_plan T1a).2.2.1 (ts_sought T1a)) (nI (j % 4 * 16)) (nI j))) (cwV 2 hT (gi_V m_275 m_272 m_273 m_274 m_24) rfl rfl rfl p_TR_gather ⟨Nat.le_of_ble_eq_true rfl, Nat.le_of_ble_eq_true rfl⟩) ⟨mP_blind, va_recv hK hP (ci := 2) (q0 := 2) rfl rfl, mP_pre hK (hP.sub (ws' := tw_ cI cJ a0 L S C 64 (cs_t0 z)) [2, 3, 4, 5, 6, 7, 8, 9, 10, 11, 12, 13, 14, 15, 16, 17, 18] rfl) (hD.sub (ws' := tw_ cI cJ a0 L S C 64 (cs_t0 z)) [2, 3, 4, 5, 6, 7, 8, 9, 10, 11, 12, 13, 14, 15, 16, 17, 18] (by decide) rfl).self⟩ rfl rfl hl.1 rfl (lv_room (Nat.le_of_ble_eq_true rfl)) d_CT_ask_126 ⟨by decide, by decide⟩) hS hA hP hD [2, 3, 4, 5, 6, 7, 8, 9, 10, 11, 12, 13, 14, 15, 16, 17, 18] [0, 1, 19, 20, 21, 22, 23, 24, 25, 26, 27, 28, 29, 30, 31, 32, 33, 34, 35] rfl rfl (by decide) (by decide) (fun H locs hP hD hS => ?_)
          have hP : va_P (dC, dI) kCl (((x, .inr (3, [.int (nI S), .int (nI C), .long key, .ref (a0 0), .ref (a1 0), .ref ml, .int (cs_asked z), .int (cs_most z)])) :: (ml, .inl (cI, 16, .inl (cs_ml z))) :: tw_ cI cJ a1 M S C 16 T1b) ++ tw_ cI cJ a0 L S C 64 (tr_gather L S C 64 (cs_t0 z) (nI j) (ct_told L (rw_atL 16 (ts_plan T1a).2.2.1 (ts_sought T1a)) (nI (j % 4 * 16)) (nI j)))) H := hP
          have hD : va_D A (((x, .inr (3, [.int (nI S), .int (nI C), .long key, .ref (a0 0), .ref (a1 0), .ref ml, .int (cs_asked z), .int (cs_most z)])) :: (ml, .inl (cI, 16, .inl (cs_ml z))) :: tw_ cI cJ a1 M S C 16 T1b) ++ tw_ cI cJ a0 L S C 64 (tr_gather L S C 64 (cs_t0 z) (nI j) (ct_told L (rw_atL 16 (ts_plan T1a).2.2.1 (ts_sought T1a)) (nI (j % 4 * 16)) (nI j)))) := hD
          obtain ⟨T0a, hT0a⟩ : ∃ T : Ts, T = tr_gather L S C 64 (cs_t0 z) (nI j) (ct_told L (rw_atL 16 (ts_plan T1a).2.2.1 (ts_sought T1a)) (nI (j % 4 * 16)) (nI j)) := ⟨_, rfl⟩
          rw [← hT0a] at hP hD
          have hP := hP.sub (ws' := cw_ cI cJ x ml a0 a1 L M S C key (cs_mk (cs_ml z) (cs_asked z) (cs_most z) T0a T1b)) [0, 1, 19, 20, 21, 22, 23, 24, 25, 26, 27, 28, 29, 30, 31, 32, 33, 34, 35, 2, 3, 4, 5, 6, 7, 8, 9, 10, 11, 12, 13, 14, 15, 16, 17, 18] rfl
          have hD := hD.sub (ws' := cw_ cI cJ x ml a0 a1 L M S C key (cs_mk (cs_ml z) (cs_asked z) (cs_most z) T0a T1b)) [0, 1, 19, 20, 21, 22, 23, 24, 25, 26, 27, 28, 29, 30, 31, 32, 33, 34, 35, 2, 3, 4, 5, 6, 7, 8, 9, 10, 11, 12, 13, 14, 15, 16, 17, 18] (by decide) rfl
          refine lv_aload_n hx hb d_CT_ask_129 rfl (lv_at hl 3 rfl) ?_
          refine va_get (D := (dC, dI)) (ci := 3) (v := .ref (a0 0)) (C := R_CT) (T := F_CT) (N := 8) hx hb hT i_CT hown hK hP 0 rfl rfl 3 (by decide) (hT _ m_145) (fun _ h9 => h9) rfl d_CT_ask_130 ?_
          refine zc_l (va_runV (As := []) (rest := []) ⟨hx, hb, hml, hown, hT⟩ (c_TR_soughtValue (t := T0a) ok0 (hP.sub (ws' := tw_ cI cJ a0 L S C 64 T0a) [2, 3, 4, 5, 6, 7, 8, 9, 10, 11, 12, 13, 14, 15, 16, 17, 18] rfl) ) (cwV 0 hT (gi_V m_324 m_321 m_322 m_323 m_24) rfl rfl rfl p_TR_soughtValue ⟨Nat.le_of_ble_eq_true rfl, Nat.le_of_ble_eq_true rfl⟩) ⟨zP_blind, va_recv hK hP (ci := 2) (q0 := 2) rfl rfl, zP_pre hK⟩ rfl rfl hl.1 rfl (lv_room (Nat.le_of_ble_eq_true rfl)) d_CT_ask_133 ⟨by decide, by decide⟩) hS (fun locs hS => ?_)
          refine lv_lstore (lv' := [(11, .long (rw_atL 64 (ts_plan T0a).2.2.1 (ts_sought T0a))), (9, .long (rw_atL 16 (ts_plan T1a).2.2.1 (ts_sought T1a))), (8, .int (nI (j % 4 * 16))), (7, .int (nI (j / 4))), (0, .ref x), (1, .int (nI j)), (2, .int (b2i nw)), (3, .long nv), (5, .int co), (6, .int mc)]) hx hb d_CT_ask_136 hl (by decide) rfl (fun ls hl => ?_)
          refine lv_aload_n hx hb d_CT_ask_138 rfl (lv_at hl 4 rfl) ?_
          refine va_get (D := (dC, dI)) (ci := 3) (v := .ref (a0 0)) (C := R_CT) (T := F_CT) (N := 8) hx hb hT i_CT hown hK hP 0 rfl rfl 3 (by decide) (hT _ m_145) (fun _ h9 => h9) rfl d_CT_ask_139 ?_
          refine lv_iload hx hb d_CT_ask_142 (lv_at hl 8 rfl) ?_
          refine lv_iload_n hx hb d_CT_ask_144 rfl (lv_at hl 6 rfl) ?_
          refine lv_if_eq (tgt := 152) hx hb d_CT_ask_145 (by decide) (fun c_5 => ?_) (fun c_5 => ?_)
          · have c_4 := c_5
            refine lv_lload hx hb d_CT_ask_152 (lv_at hl 0 rfl) ?_
            have e154 : ((rw_atL 64 (ts_plan T0a).2.2.1 (ts_sought T0a)) : Int64) = (if nw = true then nv else (rw_atL 64 (ts_plan T0a).2.2.1 (ts_sought T0a))) := (if_neg (by rw [b2i_0.mp c_4]; decide)).symm
            refine W.eq (g2 := F0 m 154 ls [.long (if nw = true then nv else (rw_atL 64 (ts_plan T0a).2.2.1 (ts_sought T0a))), .int co, .ref (a0 0)]) (by rw [← e154]) ?_
            refine tj_v (wr := (x, .inr (3, [.int (nI S), .int (nI C), .long key, .ref (a0 0), .ref (a1 0), .ref ml, .int (cs_asked z), .int (cs_most z)])) :: (ml, .inl (cI, 16, .inl (cs_ml z))) :: tw_ cI cJ a1 M S C 16 T1b) (va_runV (As := [.int co, .long (if nw = true then nv else (rw_atL 64 (ts_plan T0a).2.2.1 (ts_sought T0a)))]) (rest := []) ⟨hx, hb, hml, hown, hT⟩ (c_TR_settle (A := va_A (tw_ cI cJ a0 L S C 64 T0a) H.size) (t := T0a) ok0 co (if nw = true then nv else (rw_atL 64 (ts_plan T0a).2.2.1 (ts_sought T0a)))) (cwV 2 hT (gi_V m_334 m_331 m_332 m_333 m_24) rfl rfl rfl p_TR_settle ⟨Nat.le_of_ble_eq_true rfl, Nat.le_of_ble_eq_true rfl⟩) ⟨mP_blind, va_recv hK hP (ci := 2) (q0 := 2) rfl rfl, mP_pre hK (hP.sub (ws' := tw_ cI cJ a0 L S C 64 T0a) [2, 3, 4, 5, 6, 7, 8, 9, 10, 11, 12, 13, 14, 15, 16, 17, 18] rfl) (hD.sub (ws' := tw_ cI cJ a0 L S C 64 T0a) [2, 3, 4, 5, 6, 7, 8, 9, 10, 11, 12, 13, 14, 15, 16, 17, 18] (by decide) rfl).self⟩ rfl rfl hl.1 rfl (lv_room (Nat.le_of_ble_eq_true rfl)) d_CT_ask_154 ⟨by decide, by decide⟩) hS hA hP hD [2, 3, 4, 5, 6, 7, 8, 9, 10, 11, 12, 13, 14, 15, 16, 17, 18] [0, 1, 19, 20, 21, 22, 23, 24, 25, 26, 27, 28, 29, 30, 31, 32, 33, 34, 35] rfl rfl (by decide) (by decide) (fun H locs hP hD hS => ?_)
            have hP : va_P (dC, dI) kCl (((x, .inr (3, [.int (nI S), .int (nI C), .long key, .ref (a0 0), .ref (a1 0), .ref ml, .int (cs_asked z), .int (cs_most z)])) :: (ml, .inl (cI, 16, .inl (cs_ml z))) :: tw_ cI cJ a1 M S C 16 T1b) ++ tw_ cI cJ a0 L S C 64 (tr_settle 64 T0a co (if nw = true then nv else (rw_atL 64 (ts_plan T0a).2.2.1 (ts_sought T0a))))) H := hP
            have hD : va_D A (((x, .inr (3, [.int (nI S), .int (nI C), .long key, .ref (a0 0), .ref (a1 0), .ref ml, .int (cs_asked z), .int (cs_most z)])) :: (ml, .inl (cI, 16, .inl (cs_ml z))) :: tw_ cI cJ a1 M S C 16 T1b) ++ tw_ cI cJ a0 L S C 64 (tr_settle 64 T0a co (if nw = true then nv else (rw_atL 64 (ts_plan T0a).2.2.1 (ts_sought T0a))))) := hD
            obtain ⟨T0b, hT0b⟩ : ∃ T : Ts, T = tr_settle 64 T0a co (if nw = true then nv else (rw_atL 64 (ts_plan T0a).2.2.1 (ts_sought T0a))) := ⟨_, rfl⟩
            rw [← hT0b] at hP hD
            have hP := hP.sub (ws' := cw_ cI cJ x ml a0 a1 L M S C key (cs_mk (cs_ml z) (cs_asked z) (cs_most z) T0b T1b)) [0, 1, 19, 20, 21, 22, 23, 24, 25, 26, 27, 28, 29, 30, 31, 32, 33, 34, 35, 2, 3, 4, 5, 6, 7, 8, 9, 10, 11, 12, 13, 14, 15, 16, 17, 18] rfl
            have hD := hD.sub (ws' := cw_ cI cJ x ml a0 a1 L M S C key (cs_mk (cs_ml z) (cs_asked z) (cs_most z) T0b T1b)) [0, 1, 19, 20, 21, 22, 23, 24, 25, 26, 27, 28, 29, 30, 31, 32, 33, 34, 35, 2, 3, 4, 5, 6, 7, 8, 9, 10, 11, 12, 13, 14, 15, 16, 17, 18] (by decide) rfl
            refine lv_aload_n hx hb d_CT_ask_157 rfl (lv_at hl 4 rfl) ?_
            refine va_get (D := (dC, dI)) (ci := 3) (v := .ref (a1 0)) (C := R_CT) (T := F_CT) (N := 8) hx hb hT i_CT hown hK hP 0 rfl rfl 4 (by decide) (hT _ m_146) (fun _ h9 => h9) rfl d_CT_ask_158 ?_
            refine tj_i (wr := (x, .inr (3, [.int (nI S), .int (nI C), .long key, .ref (a0 0), .ref (a1 0), .ref ml, .int (cs_asked z), .int (cs_most z)])) :: (ml, .inl (cI, 16, .inl (cs_ml z))) :: tw_ cI cJ a0 L S C 64 T0b) (va_runV (As := []) (rest := []) ⟨hx, hb, hml, hown, hT⟩ (c_TR_fits (A := va_A (tw_ cI cJ a1 M S C 16 T1b) H.size) (t := T1b) ok1 ) (cwV 0 hT (gi_V m_343 m_340 m_341 m_342 m_24) rfl rfl rfl p_TR_fits ⟨Nat.le_of_ble_eq_true rfl, Nat.le_of_ble_eq_true rfl⟩) ⟨mP_blind, va_recv hK hP (ci := 2) (q0 := 19) rfl rfl, mP_pre hK (hP.sub (ws' := tw_ cI cJ a1 M S C 16 T1b) [19, 20, 21, 22, 23, 24, 25, 26, 27, 28, 29, 30, 31, 32, 33, 34, 35] rfl) (hD.sub (ws' := tw_ cI cJ a1 M S C 16 T1b) [19, 20, 21, 22, 23, 24, 25, 26, 27, 28, 29, 30, 31, 32, 33, 34, 35] (by decide) rfl).self⟩ rfl rfl hl.1 rfl (lv_room (Nat.le_of_ble_eq_true rfl)) d_CT_ask_161 ⟨by decide, by decide⟩) hS hA hP hD [19, 20, 21, 22, 23, 24, 25, 26, 27, 28, 29, 30, 31, 32, 33, 34, 35] [0, 1, 2, 3, 4, 5, 6, 7, 8, 9, 10, 11, 12, 13, 14, 15, 16, 17, 18] rfl rfl (by decide) (by decide) (fun H locs hP hD hS => ?_)
            have hP : va_P (dC, dI) kCl (((x, .inr (3, [.int (nI S), .int (nI C), .long key, .ref (a0 0), .ref (a1 0), .ref ml, .int (cs_asked z), .int (cs_most z)])) :: (ml, .inl (cI, 16, .inl (cs_ml z))) :: tw_ cI cJ a0 L S C 64 T0b) ++ tw_ cI cJ a1 M S C 16 (tr_fits M S 16 T1b)) H := hP
            have hD : va_D A (((x, .inr (3, [.int (nI S), .int (nI C), .long key, .ref (a0 0), .ref (a1 0), .ref ml, .int (cs_asked z), .int (cs_most z)])) :: (ml, .inl (cI, 16, .inl (cs_ml z))) :: tw_ cI cJ a0 L S C 64 T0b) ++ tw_ cI cJ a1 M S C 16 (tr_fits M S 16 T1b)) := hD
            obtain ⟨T1c, hT1c⟩ : ∃ T : Ts, T = tr_fits M S 16 T1b := ⟨_, rfl⟩
            rw [← hT1c] at hP hD
            have hP : va_P (dC, dI) kCl (cw_ cI cJ x ml a0 a1 L M S C key (cs_mk (cs_ml z) (cs_asked z) (cs_most z) T0b T1c)) H := hP
            have hD : va_D A (cw_ cI cJ x ml a0 a1 L M S C key (cs_mk (cs_ml z) (cs_asked z) (cs_most z) T0b T1c)) := hD
            refine lv_if_eq (tgt := 177) hx hb d_CT_ask_164 (by decide) (fun c_6 => ?_) (fun c_6 => ?_)
            · have hf1 := c_6
              have k1a : T1a = ak_t1a M S C z j := hT1a
              have k1b : T1b = ak_t1b M S C z j co mc := by rw [hT1b, k1a]; rfl
              have k0a : T0a = ak_t0a L M S C z j := by rw [hT0a, k1a]; rfl
              have k0b : T0b = ak_t0b L M S C z j nw nv co := by rw [hT0b, k0a]; rfl
              have k1c : T1c = ak_t1c M S C z j co mc := by rw [hT1c, k1b]; rfl
              have kf1 : ak_f1 M S C z j co mc = decide ((tr_fit M S 16 T1b).2 ≤ nI C) := by rw [k1b]; rfl
              exact xt_uo hx hb hl9 hown hT xe hS (hl.1.trans hml.symm) (is := 163) (tx := "a tree would be full") (by decide) d_CT_ask_177 d_CT_ask_180 d_CT_ask_181 d_CT_ask_183 d_CT_ask_186 hex (Nat.le_of_ble_eq_true rfl) (Nat.le_of_ble_eq_true rfl) (by decide) (by decide) hlocks hS.2.2 (by decide) (by decide) (fun t9 _ h1 h2 => yX_end (cs_mk (cs_ml z) (cs_asked z) (cs_most z) T0b T1c) (Or.inr (Or.inr ⟨rfl, j, rfl, hj, b2i_n.mp hc0, b2i_n.mp hc1, Or.inl ⟨by rw [kf1]; exact b2i_0.mp hf1, by rw [k0b, k1c]⟩⟩)) rfl hP hD hS h1 h2)
            · have hf1 := c_6
              refine lv_aload_n hx hb d_CT_ask_167 rfl (lv_at hl 4 rfl) ?_
              refine va_get (D := (dC, dI)) (ci := 3) (v := .ref (a0 0)) (C := R_CT) (T := F_CT) (N := 8) hx hb hT i_CT hown hK hP 0 rfl rfl 3 (by decide) (hT _ m_145) (fun _ h9 => h9) rfl d_CT_ask_168 ?_
              refine tj_i (wr := (x, .inr (3, [.int (nI S), .int (nI C), .long key, .ref (a0 0), .ref (a1 0), .ref ml, .int (cs_asked z), .int (cs_most z)])) :: (ml, .inl (cI, 16, .inl (cs_ml z))) :: tw_ cI cJ a1 M S C 16 T1c) (va_runV (As := []) (rest := []) ⟨hx, hb, hml, hown, hT⟩ (c_TR_fits (A := va_A (tw_ cI cJ a0 L S C 64 T0b) H.size) (t := T0b) ok0 ) (cwV 0 hT (gi_V m_343 m_340 m_341 m_342 m_24) rfl rfl rfl p_TR_fits ⟨Nat.le_of_ble_eq_true rfl, Nat.le_of_ble_eq_true rfl⟩) ⟨mP_blind, va_recv hK hP (ci := 2) (q0 := 2) rfl rfl, mP_pre hK (hP.sub (ws' := tw_ cI cJ a0 L S C 64 T0b) [2, 3, 4, 5, 6, 7, 8, 9, 10, 11, 12, 13, 14, 15, 16, 17, 18] rfl) (hD.sub (ws' := tw_ cI cJ a0 L S C 64 T0b) [2, 3, 4, 5, 6, 7, 8, 9, 10, 11, 12, 13, 14, 15, 16, 17, 18] (by decide) rfl).self⟩ rfl rfl hl.1 rfl (lv_room (Nat.le_of_ble_eq_true rfl)) d_CT_ask_171 ⟨by decide, by decide⟩) hS hA hP hD [2, 3, 4, 5, 6, 7, 8, 9, 10, 11, 12, 13, 14, 15, 16, 17, 18] [0, 1, 19, 20, 21, 22, 23, 24, 25, 26, 27, 28, 29, 30, 31, 32, 33, 34, 35] rfl rfl (by decide) (by decide) (fun H locs hP hD hS => ?_)
              have hP : va_P (dC, dI) kCl (((x, .inr (3, [.int (nI S), .int (nI C), .long key, .ref (a0 0), .ref (a1 0), .ref ml, .int (cs_asked z), .int (cs_most z)])) :: (ml, .inl (cI, 16, .inl (cs_ml z))) :: tw_ cI cJ a1 M S C 16 T1c) ++ tw_ cI cJ a0 L S C 64 (tr_fits L S 64 T0b)) H := hP
              have hD : va_D A (((x, .inr (3, [.int (nI S), .int (nI C), .long key, .ref (a0 0), .ref (a1 0), .ref ml, .int (cs_asked z), .int (cs_most z)])) :: (ml, .inl (cI, 16, .inl (cs_ml z))) :: tw_ cI cJ a1 M S C 16 T1c) ++ tw_ cI cJ a0 L S C 64 (tr_fits L S 64 T0b)) := hD
              obtain ⟨T0c, hT0c⟩ : ∃ T : Ts, T = tr_fits L S 64 T0b := ⟨_, rfl⟩
              rw [← hT0c] at hP hD
              have hP := hP.sub (ws' := cw_ cI cJ x ml a0 a1 L M S C key (cs_mk (cs_ml z) (cs_asked z) (cs_most z) T0c T1c)) [0, 1, 19, 20, 21, 22, 23, 24, 25, 26, 27, 28, 29, 30, 31, 32, 33, 34, 35, 2, 3, 4, 5, 6, 7, 8, 9, 10, 11, 12, 13, 14, 15, 16, 17, 18] rfl
              have hD := hD.sub (ws' := cw_ cI cJ x ml a0 a1 L M S C key (cs_mk (cs_ml z) (cs_asked z) (cs_most z) T0c T1c)) [0, 1, 19, 20, 21, 22, 23, 24, 25, 26, 27, 28, 29, 30, 31, 32, 33, 34, 35, 2, 3, 4, 5, 6, 7, 8, 9, 10, 11, 12, 13, 14, 15, 16, 17, 18] (by decide) rfl
              refine lv_if_ne (tgt := 187) hx hb d_CT_ask_174 (by decide) (fun c_7 => ?_) (fun c_7 => ?_)
              · have hf0 := c_7
                have k1a : T1a = ak_t1a M S C z j := hT1a
                have k1b : T1b = ak_t1b M S C z j co mc := by rw [hT1b, k1a]; rfl
                have k0a : T0a = ak_t0a L M S C z j := by rw [hT0a, k1a]; rfl
                have k0b : T0b = ak_t0b L M S C z j nw nv co := by rw [hT0b, k0a]; rfl
                have k1c : T1c = ak_t1c M S C z j co mc := by rw [hT1c, k1b]; rfl
                have kf1 : ak_f1 M S C z j co mc = decide ((tr_fit M S 16 T1b).2 ≤ nI C) := by rw [k1b]; rfl
                have k0c : T0c = ak_t0c L M S C z j nw nv co := by rw [hT0c, k0b]; rfl
                have kf0 : ak_f0 L M S C z j nw nv co = decide ((tr_fit L S 64 T0b).2 ≤ nI C) := by rw [k0b]; rfl
                have hq1 : (ts_trail T1c).2 < 600 := by rw [hT1c, tr_fits_trail, hT1b, tr_settle_trail, hT1a, tr_gather_trail]; exact ht1
                have hq0 : (ts_trail T0c).2 < 600 := by rw [hT0c, tr_fits_trail, hT0b, tr_settle_trail, hT0a, tr_gather_trail]; exact ht0
                refine lv_aload_n hx hb d_CT_ask_187 rfl (lv_at hl 4 rfl) ?_
                refine va_get (D := (dC, dI)) (ci := 3) (v := .ref (a1 0)) (C := R_CT) (T := F_CT) (N := 8) hx hb hT i_CT hown hK hP 0 rfl rfl 4 (by decide) (hT _ m_146) (fun _ h9 => h9) rfl d_CT_ask_188 ?_
                refine tj_v (wr := (x, .inr (3, [.int (nI S), .int (nI C), .long key, .ref (a0 0), .ref (a1 0), .ref ml, .int (cs_asked z), .int (cs_most z)])) :: (ml, .inl (cI, 16, .inl (cs_ml z))) :: tw_ cI cJ a0 L S C 64 T0c) (va_runV (As := []) (rest := []) ⟨hx, hb, hml, hown, hT⟩ (c_TR_carryOut (A := va_A (tw_ cI cJ a1 M S C 16 T1c) H.size) (t := T1c) ok1 hq1) (cwV 0 hT (gi_V m_368 m_365 m_366 m_367 m_24) rfl rfl rfl p_TR_carryOut ⟨Nat.le_of_ble_eq_true rfl, Nat.le_of_ble_eq_true rfl⟩) ⟨mP_blind, va_recv hK hP (ci := 2) (q0 := 19) rfl rfl, mP_pre hK (hP.sub (ws' := tw_ cI cJ a1 M S C 16 T1c) [19, 20, 21, 22, 23, 24, 25, 26, 27, 28, 29, 30, 31, 32, 33, 34, 35] rfl) (hD.sub (ws' := tw_ cI cJ a1 M S C 16 T1c) [19, 20, 21, 22, 23, 24, 25, 26, 27, 28, 29, 30, 31, 32, 33, 34, 35] (by decide) rfl).self⟩ rfl rfl hl.1 rfl (lv_room (Nat.le_of_ble_eq_true rfl)) d_CT_ask_191 ⟨by decide, by decide⟩) hS hA hP hD [19, 20, 21, 22, 23, 24, 25, 26, 27, 28, 29, 30, 31, 32, 33, 34, 35] [0, 1, 2, 3, 4, 5, 6, 7, 8, 9, 10, 11, 12, 13, 14, 15, 16, 17, 18] rfl rfl (by decide) (by decide) (fun H locs hP hD hS => ?_)
                have hP : va_P (dC, dI) kCl (((x, .inr (3, [.int (nI S), .int (nI C), .long key, .ref (a0 0), .ref (a1 0), .ref ml, .int (cs_asked z), .int (cs_most z)])) :: (ml, .inl (cI, 16, .inl (cs_ml z))) :: tw_ cI cJ a0 L S C 64 T0c) ++ tw_ cI cJ a1 M S C 16 (tr_carry M S C 16 T1c)) H := hP
                have hD : va_D A (((x, .inr (3, [.int (nI S), .int (nI C), .long key, .ref (a0 0), .ref (a1 0), .ref ml, .int (cs_asked z), .int (cs_most z)])) :: (ml, .inl (cI, 16, .inl (cs_ml z))) :: tw_ cI cJ a0 L S C 64 T0c) ++ tw_ cI cJ a1 M S C 16 (tr_carry M S C 16 T1c)) := hD
                obtain ⟨T1d, hT1d⟩ : ∃ T : Ts, T = tr_carry M S C 16 T1c := ⟨_, rfl⟩
                rw [← hT1d] at hP hD
                have hP : va_P (dC, dI) kCl (cw_ cI cJ x ml a0 a1 L M S C key (cs_mk (cs_ml z) (cs_asked z) (cs_most z) T0c T1d)) H := hP
                have hD : va_D A (cw_ cI cJ x ml a0 a1 L M S C key (cs_mk (cs_ml z) (cs_asked z) (cs_most z) T0c T1d)) := hD
                refine lv_aload_n hx hb d_CT_ask_194 rfl (lv_at hl 4 rfl) ?_
                refine va_get (D := (dC, dI)) (ci := 3) (v := .ref (a0 0)) (C := R_CT) (T := F_CT) (N := 8) hx hb hT i_CT hown hK hP 0 rfl rfl 3 (by decide) (hT _ m_145) (fun _ h9 => h9) rfl d_CT_ask_195 ?_
                refine tj_v (wr := (x, .inr (3, [.int (nI S), .int (nI C), .long key, .ref (a0 0), .ref (a1 0), .ref ml, .int (cs_asked z), .int (cs_most z)])) :: (ml, .inl (cI, 16, .inl (cs_ml z))) :: tw_ cI cJ a1 M S C 16 T1d) (va_runV (As := []) (rest := []) ⟨hx, hb, hml, hown, hT⟩ (c_TR_carryOut (A := va_A (tw_ cI cJ a0 L S C 64 T0c) H.size) (t := T0c) ok0 hq0) (cwV 0 hT (gi_V m_368 m_365 m_366 m_367 m_24) rfl rfl rfl p_TR_carryOut ⟨Nat.le_of_ble_eq_true rfl, Nat.le_of_ble_eq_true rfl⟩) ⟨mP_blind, va_recv hK hP (ci := 2) (q0 := 2) rfl rfl, mP_pre hK (hP.sub (ws' := tw_ cI cJ a0 L S C 64 T0c) [2, 3, 4, 5, 6, 7, 8, 9, 10, 11, 12, 13, 14, 15, 16, 17, 18] rfl) (hD.sub (ws' := tw_ cI cJ a0 L S C 64 T0c) [2, 3, 4, 5, 6, 7, 8, 9, 10, 11, 12, 13, 14, 15, 16, 17, 18] (by decide) rfl).self⟩ rfl rfl hl.1 rfl (lv_room (Nat.le_of_ble_eq_true rfl)) d_CT_ask_198 ⟨by decide, by decide⟩) hS hA hP hD [2, 3, 4, 5, 6, 7, 8, 9, 10, 11, 12, 13, 14, 15, 16, 17, 18] [0, 1, 19, 20, 21, 22, 23, 24, 25, 26, 27, 28, 29, 30, 31, 32, 33, 34, 35] rfl rfl (by decide) (by decide) (fun H locs hP hD hS => ?_)
                have hP : va_P (dC, dI) kCl (((x, .inr (3, [.int (nI S), .int (nI C), .long key, .ref (a0 0), .ref (a1 0), .ref ml, .int (cs_asked z), .int (cs_most z)])) :: (ml, .inl (cI, 16, .inl (cs_ml z))) :: tw_ cI cJ a1 M S C 16 T1d) ++ tw_ cI cJ a0 L S C 64 (tr_carry L S C 64 T0c)) H := hP
                have hD : va_D A (((x, .inr (3, [.int (nI S), .int (nI C), .long key, .ref (a0 0), .ref (a1 0), .ref ml, .int (cs_asked z), .int (cs_most z)])) :: (ml, .inl (cI, 16, .inl (cs_ml z))) :: tw_ cI cJ a1 M S C 16 T1d) ++ tw_ cI cJ a0 L S C 64 (tr_carry L S C 64 T0c)) := hD
                obtain ⟨T0d, hT0d⟩ : ∃ T : Ts, T = tr_carry L S C 64 T0c := ⟨_, rfl⟩
                rw [← hT0d] at hP hD
                have hP := hP.sub (ws' := cw_ cI cJ x ml a0 a1 L M S C key (cs_mk (cs_ml z) (cs_asked z) (cs_most z) T0d T1d)) [0, 1, 19, 20, 21, 22, 23, 24, 25, 26, 27, 28, 29, 30, 31, 32, 33, 34, 35, 2, 3, 4, 5, 6, 7, 8, 9, 10, 11, 12, 13, 14, 15, 16, 17, 18] rfl
                have hD := hD.sub (ws' := cw_ cI cJ x ml a0 a1 L M S C key (cs_mk (cs_ml z) (cs_asked z) (cs_most z) T0d T1d)) [0, 1, 19, 20, 21, 22, 23, 24, 25, 26, 27, 28, 29, 30, 31, 32, 33, 34, 35, 2, 3, 4, 5, 6, 7, 8, 9, 10, 11, 12, 13, 14, 15, 16, 17, 18] (by decide) rfl
                refine lv_aload_n hx hb d_CT_ask_201 rfl (lv_at hl 4 rfl) ?_
                refine va_get (D := (dC, dI)) (ci := 3) (v := .ref ml) (C := R_CT) (T := F_CT) (N := 8) hx hb hT i_CT hown hK hP 0 rfl rfl 5 (by decide) (hT _ m_147) (fun _ h9 => h9) rfl d_CT_ask_202 ?_
                refine lv_iload hx hb d_CT_ask_205 (lv_at hl 3 rfl) ?_
                refine lv_iload hx hb d_CT_ask_207 (lv_at hl 9 rfl) ?_
                refine va_iast hx hb hK hP hD hS 1 0 rfl rfl (vp_in_nI (by omega) (by omega)) d_CT_ask_209 (fun H locs hP hD hS => ?_)
                rw [nI_clamp (show j / 4 < 2 ^ 31 by omega)] at hP hD
                have hP : va_P (dC, dI) kCl (cw_ cI cJ x ml a0 a1 L M S C key (cs_mk (upd (cs_ml z) (j / 4) mc) (cs_asked z) (cs_most z) T0d T1d)) H := hP
                have hD : va_D A (cw_ cI cJ x ml a0 a1 L M S C key (cs_mk (upd (cs_ml z) (j / 4) mc) (cs_asked z) (cs_most z) T0d T1d)) := hD
                refine lv_aload_n hx hb d_CT_ask_210 rfl (lv_at hl 4 rfl) ?_
                refine lv_dup hx hb d_CT_ask_211 rfl ?_
                refine va_get (D := (dC, dI)) (ci := 3) (v := .int (cs_asked z)) (C := R_CT) (T := F_CT) (N := 8) hx hb hT i_CT hown hK hP 0 rfl rfl 6 (by decide) (hT _ m_148) (fun _ h9 => h9) rfl d_CT_ask_212 ?_
                refine lv_iconst (v := 1) hx hb d_CT_ask_215 (by decide) ?_
                refine lv_iadd hx hb d_CT_ask_216 ?_
                refine va_put (D := (dC, dI)) (ci := 3) (v := .int ((cs_asked z) + 1)) (ty := .int) (C := R_CT) (T := F_CT) (N := 8) hx hb hT i_CT t_CT t_CT_ok n_CT hown hK hP hD hS 0 rfl rfl 6 (by decide) (hT _ m_148) (fun _ h9 => h9) rfl (by decide +kernel) rfl rfl (Nat.le_of_ble_eq_true rfl) d_CT_ask_217 (fun H locs hP hD hS => ?_)
                have hP : va_P (dC, dI) kCl (cw_ cI cJ x ml a0 a1 L M S C key (cs_mk (upd (cs_ml z) (j / 4) mc) ((cs_asked z) + 1) (cs_most z) T0d T1d)) H := hP
                have hD : va_D A (cw_ cI cJ x ml a0 a1 L M S C key (cs_mk (upd (cs_ml z) (j / 4) mc) ((cs_asked z) + 1) (cs_most z) T0d T1d)) := hD
                refine lv_aload_n hx hb d_CT_ask_220 rfl (lv_at hl 4 rfl) ?_
                refine lv_aload_n hx hb d_CT_ask_221 rfl (lv_at hl 4 rfl) ?_
                refine va_get (D := (dC, dI)) (ci := 3) (v := .int (cs_most z)) (C := R_CT) (T := F_CT) (N := 8) hx hb hT i_CT hown hK hP 0 rfl rfl 7 (by decide) (hT _ m_149) (fun _ h9 => h9) rfl d_CT_ask_222 ?_
                refine lv_aload_n hx hb d_CT_ask_225 rfl (lv_at hl 4 rfl) ?_
                refine va_get (D := (dC, dI)) (ci := 3) (v := .ref (a0 0)) (C := R_CT) (T := F_CT) (N := 8) hx hb hT i_CT hown hK hP 0 rfl rfl 3 (by decide) (hT _ m_145) (fun _ h9 => h9) rfl d_CT_ask_226 ?_
                refine va_get (D := (dC, dI)) (ci := 2) (v := .ref (a0 6)) (C := R_TR) (T := F_TR) (N := 12) hx hb hT i_TR hown hK hP 2 rfl rfl 6 (by decide) (hT _ m_106) (fun _ h9 => h9) rfl d_CT_ask_229 ?_
                refine va_get (D := (dC, dI)) (ci := 0) (v := .int (ts_stash T0d).2.2.2) (C := R_RW) (T := F_RW) (N := 4) hx hb hT i_RW hown hK hP 8 rfl rfl 3 (by decide) (hT _ m_86) (fun _ h9 => h9) rfl d_CT_ask_232 ?_
                refine va_mmax hx hb (hml.trans hl.1.symm) hown (hT _ m_48) (hT _ m_49) (hT _ m_23) (hT _ m_50) (Nat.le_of_ble_eq_true rfl) (Nat.le_of_ble_eq_true rfl) (Nat.zero_le _) (Nat.zero_le _) d_CT_ask_235 ?_
                refine va_put (D := (dC, dI)) (ci := 3) (v := .int (if (cs_most z) < (ts_stash T0d).2.2.2 then (ts_stash T0d).2.2.2 else (cs_most z))) (ty := .int) (C := R_CT) (T := F_CT) (N := 8) hx hb hT i_CT t_CT t_CT_ok n_CT hown hK hP hD hS 0 rfl rfl 7 (by decide) (hT _ m_149) (fun _ h9 => h9) rfl (by decide +kernel) rfl rfl (Nat.le_of_ble_eq_true rfl) d_CT_ask_238 (fun H locs hP hD hS => ?_)
                have hP : va_P (dC, dI) kCl (cw_ cI cJ x ml a0 a1 L M S C key (cs_mk (upd (cs_ml z) (j / 4) mc) ((cs_asked z) + 1) (if (cs_most z) < (ts_stash T0d).2.2.2 then (ts_stash T0d).2.2.2 else (cs_most z)) T0d T1d)) H := hP
                have hD : va_D A (cw_ cI cJ x ml a0 a1 L M S C key (cs_mk (upd (cs_ml z) (j / 4) mc) ((cs_asked z) + 1) (if (cs_most z) < (ts_stash T0d).2.2.2 then (ts_stash T0d).2.2.2 else (cs_most z)) T0d T1d)) := hD
                refine lv_lload hx hb d_CT_ask_241 (lv_at hl 0 rfl) ?_
                have k1d : T1d = ak_t1d M S C z j co mc := by rw [hT1d, k1c]; rfl
                have k0d : T0d = ak_t0d L M S C z j nw nv co := by rw [hT0d, k0c]; rfl
                refine vx_ret ?_
                refine W.widen (k := 1) (n := 6) (by decide) (by decide) ?_
                exact W.lret hx hb hr (fun t9 ht _ => yQl_end (cs_mk (upd (cs_ml z) (j / 4) mc) ((cs_asked z) + 1) (if (cs_most z) < (ts_stash T0d).2.2.2 then (ts_stash T0d).2.2.2 else (cs_most z)) T0d T1d) ⟨j, rfl, hj, b2i_n.mp hc0, b2i_n.mp hc1, by rw [kf1]; exact b2i_n.mp hf1, by rw [kf0]; exact b2i_n.mp hf0, by rw [k0a]; rfl, by rw [k0d, k1d]; rfl⟩ rfl hP hD hS ht) hS.2.2 d_CT_ask_243 hlocks
              · have hf0 := c_7
                have k1a : T1a = ak_t1a M S C z j := hT1a
                have k1b : T1b = ak_t1b M S C z j co mc := by rw [hT1b, k1a]; rfl
                have k0a : T0a = ak_t0a L M S C z j := by rw [hT0a, k1a]; rfl
                have k0b : T0b = ak_t0b L M S C z j nw nv co := by rw [hT0b, k0a]; rfl
                have k1c : T1c = ak_t1c M S C z j co mc := by rw [hT1c, k1b]; rfl
                have kf1 : ak_f1 M S C z j co mc = decide ((tr_fit M S 16 T1b).2 ≤ nI C) := by rw [k1b]; rfl
                have k0c : T0c = ak_t0c L M S C z j nw nv co := by rw [hT0c, k0b]; rfl
                have kf0 : ak_f0 L M S C z j nw nv co = decide ((tr_fit L S 64 T0b).2 ≤ nI C) := by rw [k0b]; rfl
                exact xt_uo hx hb hl9 hown hT xe hS (hl.1.trans hml.symm) (is := 163) (tx := "a tree would be full") (by decide) d_CT_ask_177 d_CT_ask_180 d_CT_ask_181 d_CT_ask_183 d_CT_ask_186 hex (Nat.le_of_ble_eq_true rfl) (Nat.le_of_ble_eq_true rfl) (by decide) (by decide) hlocks hS.2.2 (by decide) (by decide) (fun t9 _ h1 h2 => yX_end (cs_mk (cs_ml z) (cs_asked z) (cs_most z) T0c T1c) (Or.inr (Or.inr ⟨rfl, j, rfl, hj, b2i_n.mp hc0, b2i_n.mp hc1, Or.inr ⟨by rw [kf1]; exact b2i_n.mp hf1, by rw [kf0]; exact b2i_0.mp hf0, by rw [k0c, k1c]⟩⟩)) rfl hP hD hS h1 h2)
          · have c_4 := c_5
            refine lv_lload_n hx hb d_CT_ask_148 rfl (lv_at hl 7 rfl) ?_
            refine lv_goto (tgt := 154) hx hb d_CT_ask_149 (by decide) ?_
            have e154 : (nv : Int64) = (if nw = true then nv else (rw_atL 64 (ts_plan T0a).2.2.1 (ts_sought T0a))) := (if_pos (b2i_n.mp c_4)).symm
            refine W.eq (g2 := F0 m 154 ls [.long (if nw = true then nv else (rw_atL 64 (ts_plan T0a).2.2.1 (ts_sought T0a))), .int co, .ref (a0 0)]) (by rw [← e154]) ?_
            refine tj_v (wr := (x, .inr (3, [.int (nI S), .int (nI C), .long key, .ref (a0 0), .ref (a1 0), .ref ml, .int (cs_asked z), .int (cs_most z)])) :: (ml, .inl (cI, 16, .inl (cs_ml z))) :: tw_ cI cJ a1 M S C 16 T1b) (va_runV (As := [.int co, .long (if nw = true then nv else (rw_atL 64 (ts_plan T0a).2.2.1 (ts_sought T0a)))]) (rest := []) ⟨hx, hb, hml, hown, hT⟩ (c_TR_settle (A := va_A (tw_ cI cJ a0 L S C 64 T0a) H.size) (t := T0a) ok0 co (if nw = true then nv else (rw_atL 64 (ts_plan T0a).2.2.1 (ts_sought T0a)))) (cwV 2 hT (gi_V m_334 m_331 m_332 m_333 m_24) rfl rfl rfl p_TR_settle ⟨Nat.le_of_ble_eq_true rfl, Nat.le_of_ble_eq_true rfl⟩) ⟨mP_blind, va_recv hK hP (ci := 2) (q0 := 2) rfl rfl, mP_pre hK (hP.sub (ws' := tw_ cI cJ a0 L S C 64 T0a) [2, 3, 4, 5, 6, 7, 8, 9, 10, 11, 12, 13, 14, 15, 16, 17, 18] rfl) (hD.sub (ws' := tw_ cI cJ a0 L S C 64 T0a) [2, 3, 4, 5, 6, 7, 8, 9, 10, 11, 12, 13, 14, 15, 16, 17, 18] (by decide) rfl).self⟩ rfl rfl hl.1 rfl (lv_room (Nat.le_of_ble_eq_true rfl)) d_CT_ask_154 ⟨by decide, by decide⟩) hS hA hP hD [2, 3, 4, 5, 6, 7, 8, 9, 10, 11, 12, 13, 14, 15, 16, 17, 18] [0, 1, 19, 20, 21, 22, 23, 24, 25, 26, 27, 28, 29, 30, 31, 32, 33, 34, 35] rfl rfl (by decide) (by decide) (fun H locs hP hD hS => ?_)
            have hP : va_P (dC, dI) kCl (((x, .inr (3, [.int (nI S), .int (nI C), .long key, .ref (a0 0), .ref (a1 0), .ref ml, .int (cs_asked z), .int (cs_most z)])) :: (ml, .inl (cI, 16, .inl (cs_ml z))) :: tw_ cI cJ a1 M S C 16 T1b) ++ tw_ cI cJ a0 L S C 64 (tr_settle 64 T0a co (if nw = true then nv else (rw_atL 64 (ts_plan T0a).2.2.1 (ts_sought T0a))))) H := hP
            have hD : va_D A (((x, .inr (3, [.int (nI S), .int (nI C), .long key, .ref (a0 0), .ref (a1 0), .ref ml, .int (cs_asked z), .int (cs_most z)])) :: (ml, .inl (cI, 16, .inl (cs_ml z))) :: tw_ cI cJ a1 M S C 16 T1b) ++ tw_ cI cJ a0 L S C 64 (tr_settle 64 T0a co (if nw = true then nv else (rw_atL 64 (ts_plan T0a).2.2.1 (ts_sought T0a))))) := hD
            obtain ⟨T0b, hT0b⟩ : ∃ T : Ts, T = tr_settle 64 T0a co (if nw = true then nv else (rw_atL 64 (ts_plan T0a).2.2.1 (ts_sought T0a))) := ⟨_, rfl⟩
            rw [← hT0b] at hP hD
            have hP := hP.sub (ws' := cw_ cI cJ x ml a0 a1 L M S C key (cs_mk (cs_ml z) (cs_asked z) (cs_most z) T0b T1b)) [0, 1, 19, 20, 21, 22, 23, 24, 25, 26, 27, 28, 29, 30, 31, 32, 33, 34, 35, 2, 3, 4, 5, 6, 7, 8, 9, 10, 11, 12, 13, 14, 15, 16, 17, 18] rfl
            have hD := hD.sub (ws' := cw_ cI cJ x ml a0 a1 L M S C key (cs_mk (cs_ml z) (cs_asked z) (cs_most z) T0b T1b)) [0, 1, 19, 20, 21, 22, 23, 24, 25, 26, 27, 28, 29, 30, 31, 32, 33, 34, 35, 2, 3, 4, 5, 6, 7, 8, 9, 10, 11, 12, 13, 14, 15, 16, 17, 18] (by decide) rfl
            refine lv_aload_n hx hb d_CT_ask_157 rfl (lv_at hl 4 rfl) ?_
            refine va_get (D := (dC, dI)) (ci := 3) (v := .ref (a1 0)) (C := R_CT) (T := F_CT) (N := 8) hx hb hT i_CT hown hK hP 0 rfl rfl 4 (by decide) (hT _ m_146) (fun _ h9 => h9) rfl d_CT_ask_158 ?_
            refine tj_i (wr := (x, .inr (3, [.int (nI S), .int (nI C), .long key, .ref (a0 0), .ref (a1 0), .ref ml, .int (cs_asked z), .int (cs_most z)])) :: (ml, .inl (cI, 16, .inl (cs_ml z))) :: tw_ cI cJ a0 L S C 64 T0b) (va_runV (As := []) (rest := []) ⟨hx, hb, hml, hown, hT⟩ (c_TR_fits (A := va_A (tw_ cI cJ a1 M S C 16 T1b) H.size) (t := T1b) ok1 ) (cwV 0 hT (gi_V m_343 m_340 m_341 m_342 m_24) rfl rfl rfl p_TR_fits ⟨Nat.le_of_ble_eq_true rfl, Nat.le_of_ble_eq_true rfl⟩) ⟨mP_blind, va_recv hK hP (ci := 2) (q0 := 19) rfl rfl, mP_pre hK (hP.sub (ws' := tw_ cI cJ a1 M S C 16 T1b) [19, 20, 21, 22, 23, 24, 25, 26, 27, 28, 29, 30, 31, 32, 33, 34, 35] rfl) (hD.sub (ws' := tw_ cI cJ a1 M S C 16 T1b) [19, 20, 21, 22, 23, 24, 25, 26, 27, 28, 29, 30, 31, 32, 33, 34, 35] (by decide) rfl).self⟩ rfl rfl hl.1 rfl (lv_room (Nat.le_of_ble_eq_true rfl)) d_CT_ask_161 ⟨by decide, by decide⟩) hS hA hP hD [19, 20, 21, 22, 23, 24, 25, 26, 27, 28, 29, 30, 31, 32, 33, 34, 35] [0, 1, 2, 3, 4, 5, 6, 7, 8, 9, 10, 11, 12, 13, 14, 15, 16, 17, 18] rfl rfl (by decide) (by decide) (fun H locs hP hD hS => ?_)
            have hP : va_P (dC, dI) kCl (((x, .inr (3, [.int (nI S), .int (nI C), .long key, .ref (a0 0), .ref (a1 0), .ref ml, .int (cs_asked z), .int (cs_most z)])) :: (ml, .inl (cI, 16, .inl (cs_ml z))) :: tw_ cI cJ a0 L S C 64 T0b) ++ tw_ cI cJ a1 M S C 16 (tr_fits M S 16 T1b)) H := hP
            have hD : va_D A (((x, .inr (3, [.int (nI S), .int (nI C), .long key, .ref (a0 0), .ref (a1 0), .ref ml, .int (cs_asked z), .int (cs_most z)])) :: (ml, .inl (cI, 16, .inl (cs_ml z))) :: tw_ cI cJ a0 L S C 64 T0b) ++ tw_ cI cJ a1 M S C 16 (tr_fits M S 16 T1b)) := hD
            obtain ⟨T1c, hT1c⟩ : ∃ T : Ts, T = tr_fits M S 16 T1b := ⟨_, rfl⟩
            rw [← hT1c] at hP hD
            have hP : va_P (dC, dI) kCl (cw_ cI cJ x ml a0 a1 L M S C key (cs_mk (cs_ml z) (cs_asked z) (cs_most z) T0b T1c)) H := hP
            have hD : va_D A (cw_ cI cJ x ml a0 a1 L M S C key (cs_mk (cs_ml z) (cs_asked z) (cs_most z) T0b T1c)) := hD
            refine lv_if_eq (tgt := 177) hx hb d_CT_ask_164 (by decide) (fun c_8 => ?_) (fun c_8 => ?_)
            · have hf1 := c_8
              have k1a : T1a = ak_t1a M S C z j := hT1a
              have k1b : T1b = ak_t1b M S C z j co mc := by rw [hT1b, k1a]; rfl
              have k0a : T0a = ak_t0a L M S C z j := by rw [hT0a, k1a]; rfl
              have k0b : T0b = ak_t0b L M S C z j nw nv co := by rw [hT0b, k0a]; rfl
              have k1c : T1c = ak_t1c M S C z j co mc := by rw [hT1c, k1b]; rfl
              have kf1 : ak_f1 M S C z j co mc = decide ((tr_fit M S 16 T1b).2 ≤ nI C) := by rw [k1b]; rfl
              exact xt_uo hx hb hl9 hown hT xe hS (hl.1.trans hml.symm) (is := 163) (tx := "a tree would be full") (by decide) d_CT_ask_177 d_CT_ask_180 d_CT_ask_181 d_CT_ask_183 d_CT_ask_186 hex (Nat.le_of_ble_eq_true rfl) (Nat.le_of_ble_eq_true rfl) (by decide) (by decide) hlocks hS.2.2 (by decide) (by decide) (fun t9 _ h1 h2 => yX_end (cs_mk (cs_ml z) (cs_asked z) (cs_most z) T0b T1c) (Or.inr (Or.inr ⟨rfl, j, rfl, hj, b2i_n.mp hc0, b2i_n.mp hc1, Or.inl ⟨by rw [kf1]; exact b2i_0.mp hf1, by rw [k0b, k1c]⟩⟩)) rfl hP hD hS h1 h2)
            · have hf1 := c_8
              refine lv_aload_n hx hb d_CT_ask_167 rfl (lv_at hl 4 rfl) ?_
              refine va_get (D := (dC, dI)) (ci := 3) (v := .ref (a0 0)) (C := R_CT) (T := F_CT) (N := 8) hx hb hT i_CT hown hK hP 0 rfl rfl 3 (by decide) (hT _ m_145) (fun _ h9 => h9) rfl d_CT_ask_168 ?_
              refine tj_i (wr := (x, .inr (3, [.int (nI S), .int (nI C), .long key, .ref (a0 0), .ref (a1 0), .ref ml, .int (cs_asked z), .int (cs_most z)])) :: (ml, .inl (cI, 16, .inl (cs_ml z))) :: tw_ cI cJ a1 M S C 16 T1c) (va_runV (As := []) (rest := []) ⟨hx, hb, hml, hown, hT⟩ (c_TR_fits (A := va_A (tw_ cI cJ a0 L S C 64 T0b) H.size) (t := T0b) ok0 ) (cwV 0 hT (gi_V m_343 m_340 m_341 m_342 m_24) rfl rfl rfl p_TR_fits ⟨Nat.le_of_ble_eq_true rfl, Nat.le_of_ble_eq_true rfl⟩) ⟨mP_blind, va_recv hK hP (ci := 2) (q0 := 2) rfl rfl, mP_pre hK (hP.sub (ws' := tw_ cI cJ a0 L S C 64 T0b) [2, 3, 4, 5, 6, 7, 8, 9, 10, 11, 12, 13, 14, 15, 16, 17, 18] rfl) (hD.sub (ws' := tw_ cI cJ a0 L S C 64 T0b) [2, 3, 4, 5, 6, 7, 8, 9, 10, 11, 12, 13, 14, 15, 16, 17, 18] (by decide) rfl).self⟩ rfl rfl hl.1 rfl (lv_room (Nat.le_of_ble_eq_true rfl)) d_CT_ask_171 ⟨by decide, by decide⟩) hS hA hP hD [2, 3, 4, 5, 6, 7, 8, 9, 10, 11, 12, 13, 14, 15, 16, 17, 18] [0, 1, 19, 20, 21, 22, 23, 24, 25, 26, 27, 28, 29, 30, 31, 32, 33, 34, 35] rfl rfl (by decide) (by decide) (fun H locs hP hD hS => ?_)
              have hP : va_P (dC, dI) kCl (((x, .inr (3, [.int (nI S), .int (nI C), .long key, .ref (a0 0), .ref (a1 0), .ref ml, .int (cs_asked z), .int (cs_most z)])) :: (ml, .inl (cI, 16, .inl (cs_ml z))) :: tw_ cI cJ a1 M S C 16 T1c) ++ tw_ cI cJ a0 L S C 64 (tr_fits L S 64 T0b)) H := hP
              have hD : va_D A (((x, .inr (3, [.int (nI S), .int (nI C), .long key, .ref (a0 0), .ref (a1 0), .ref ml, .int (cs_asked z), .int (cs_most z)])) :: (ml, .inl (cI, 16, .inl (cs_ml z))) :: tw_ cI cJ a1 M S C 16 T1c) ++ tw_ cI cJ a0 L S C 64 (tr_fits L S 64 T0b)) := hD
              obtain ⟨T0c, hT0c⟩ : ∃ T : Ts, T = tr_fits L S 64 T0b := ⟨_, rfl⟩
              rw [← hT0c] at hP hD
              have hP := hP.sub (ws' := cw_ cI cJ x ml a0 a1 L M S C key (cs_mk (cs_ml z) (cs_asked z) (cs_most z) T0c T1c)) [0, 1, 19, 20, 21, 22, 23, 24, 25, 26, 27, 28, 29, 30, 31, 32, 33, 34, 35, 2, 3, 4, 5, 6, 7, 8, 9, 10, 11, 12, 13, 14, 15, 16, 17, 18] rfl
              have hD := hD.sub (ws' := cw_ cI cJ x ml a0 a1 L M S C key (cs_mk (cs_ml z) (cs_asked z) (cs_most z) T0c T1c)) [0, 1, 19, 20, 21, 22, 23, 24, 25, 26, 27, 28, 29, 30, 31, 32, 33, 34, 35, 2, 3, 4, 5, 6, 7, 8, 9, 10, 11, 12, 13, 14, 15, 16, 17, 18] (by decide) rfl
              refine lv_if_ne (tgt := 187) hx hb d_CT_ask_174 (by decide) (fun c_9 => ?_) (fun c_9 => ?_)
              · have hf0 := c_9
                have k1a : T1a = ak_t1a M S C z j := hT1a
                have k1b : T1b = ak_t1b M S C z j co mc := by rw [hT1b, k1a]; rfl
                have k0a : T0a = ak_t0a L M S C z j := by rw [hT0a, k1a]; rfl
                have k0b : T0b = ak_t0b L M S C z j nw nv co := by rw [hT0b, k0a]; rfl
                have k1c : T1c = ak_t1c M S C z j co mc := by rw [hT1c, k1b]; rfl
                have kf1 : ak_f1 M S C z j co mc = decide ((tr_fit M S 16 T1b).2 ≤ nI C) := by rw [k1b]; rfl
                have k0c : T0c = ak_t0c L M S C z j nw nv co := by rw [hT0c, k0b]; rfl
                have kf0 : ak_f0 L M S C z j nw nv co = decide ((tr_fit L S 64 T0b).2 ≤ nI C) := by rw [k0b]; rfl
                have hq1 : (ts_trail T1c).2 < 600 := by rw [hT1c, tr_fits_trail, hT1b, tr_settle_trail, hT1a, tr_gather_trail]; exact ht1
                have hq0 : (ts_trail T0c).2 < 600 := by rw [hT0c, tr_fits_trail, hT0b, tr_settle_trail, hT0a, tr_gather_trail]; exact ht0
                refine lv_aload_n hx hb d_CT_ask_187 rfl (lv_at hl 4 rfl) ?_
                refine va_get (D := (dC, dI)) (ci := 3) (v := .ref (a1 0)) (C := R_CT) (T := F_CT) (N := 8) hx hb hT i_CT hown hK hP 0 rfl rfl 4 (by decide) (hT _ m_146) (fun _ h9 => h9) rfl d_CT_ask_188 ?_
                refine tj_v (wr := (x, .inr (3, [.int (nI S), .int (nI C), .long key, .ref (a0 0), .ref (a1 0), .ref ml, .int (cs_asked z), .int (cs_most z)])) :: (ml, .inl (cI, 16, .inl (cs_ml z))) :: tw_ cI cJ a0 L S C 64 T0c) (va_runV (As := []) (rest := []) ⟨hx, hb, hml, hown, hT⟩ (c_TR_carryOut (A := va_A (tw_ cI cJ a1 M S C 16 T1c) H.size) (t := T1c) ok1 hq1) (cwV 0 hT (gi_V m_368 m_365 m_366 m_367 m_24) rfl rfl rfl p_TR_carryOut ⟨Nat.le_of_ble_eq_true rfl, Nat.le_of_ble_eq_true rfl⟩) ⟨mP_blind, va_recv hK hP (ci := 2) (q0 := 19) rfl rfl, mP_pre hK (hP.sub (ws' := tw_ cI cJ a1 M S C 16 T1c) [19, 20, 21, 22, 23, 24, 25, 26, 27, 28, 29, 30, 31, 32, 33, 34, 35] rfl) (hD.sub (ws' := tw_ cI cJ a1 M S C 16 T1c) [19, 20, 21, 22, 23, 24, 25, 26, 27, 28, 29, 30, 31, 32, 33, 34, 35] (by decide) rfl).self⟩ rfl rfl hl.1 rfl (lv_room (Nat.le_of_ble_eq_true rfl)) d_CT_ask_191 ⟨by decide, by decide⟩) hS hA hP hD [19, 20, 21, 22, 23, 24, 25, 26, 27, 28, 29, 30, 31, 32, 33, 34, 35] [0, 1, 2, 3, 4, 5, 6, 7, 8, 9, 10, 11, 12, 13, 14, 15, 16, 17, 18] rfl rfl (by decide) (by decide) (fun H locs hP hD hS => ?_)
                have hP : va_P (dC, dI) kCl (((x, .inr (3, [.int (nI S), .int (nI C), .long key, .ref (a0 0), .ref (a1 0), .ref ml, .int (cs_asked z), .int (cs_most z)])) :: (ml, .inl (cI, 16, .inl (cs_ml z))) :: tw_ cI cJ a0 L S C 64 T0c) ++ tw_ cI cJ a1 M S C 16 (tr_carry M S C 16 T1c)) H := hP
                have hD : va_D A (((x, .inr (3, [.int (nI S), .int (nI C), .long key, .ref (a0 0), .ref (a1 0), .ref ml, .int (cs_asked z), .int (cs_most z)])) :: (ml, .inl (cI, 16, .inl (cs_ml z))) :: tw_ cI cJ a0 L S C 64 T0c) ++ tw_ cI cJ a1 M S C 16 (tr_carry M S C 16 T1c)) := hD
                obtain ⟨T1d, hT1d⟩ : ∃ T : Ts, T = tr_carry M S C 16 T1c := ⟨_, rfl⟩
                rw [← hT1d] at hP hD
                have hP : va_P (dC, dI) kCl (cw_ cI cJ x ml a0 a1 L M S C key (cs_mk (cs_ml z) (cs_asked z) (cs_most z) T0c T1d)) H := hP
                have hD : va_D A (cw_ cI cJ x ml a0 a1 L M S C key (cs_mk (cs_ml z) (cs_asked z) (cs_most z) T0c T1d)) := hD
                refine lv_aload_n hx hb d_CT_ask_194 rfl (lv_at hl 4 rfl) ?_
                refine va_get (D := (dC, dI)) (ci := 3) (v := .ref (a0 0)) (C := R_CT) (T := F_CT) (N := 8) hx hb hT i_CT hown hK hP 0 rfl rfl 3 (by decide) (hT _ m_145) (fun _ h9 => h9) rfl d_CT_ask_195 ?_
                refine tj_v (wr := (x, .inr (3, [.int (nI S), .int (nI C), .long key, .ref (a0 0), .ref (a1 0), .ref ml, .int (cs_asked z), .int (cs_most z)])) :: (ml, .inl (cI, 16, .inl (cs_ml z))) :: tw_ cI cJ a1 M S C 16 T1d) (va_runV (As := []) (rest := []) ⟨hx, hb, hml, hown, hT⟩ (c_TR_carryOut (A := va_A (tw_ cI cJ a0 L S C 64 T0c) H.size) (t := T0c) ok0 hq0) (cwV 0 hT (gi_V m_368 m_365 m_366 m_367 m_24) rfl rfl rfl p_TR_carryOut ⟨Nat.le_of_ble_eq_true rfl, Nat.le_of_ble_eq_true rfl⟩) ⟨mP_blind, va_recv hK hP (ci := 2) (q0 := 2) rfl rfl, mP_pre hK (hP.sub (ws' := tw_ cI cJ a0 L S C 64 T0c) [2, 3, 4, 5, 6, 7, 8, 9, 10, 11, 12, 13, 14, 15, 16, 17, 18] rfl) (hD.sub (ws' := tw_ cI cJ a0 L S C 64 T0c) [2, 3, 4, 5, 6, 7, 8, 9, 10, 11, 12, 13, 14, 15, 16, 17, 18] (by decide) rfl).self⟩ rfl rfl hl.1 rfl (lv_room (Nat.le_of_ble_eq_true rfl)) d_CT_ask_198 ⟨by decide, by decide⟩) hS hA hP hD [2, 3, 4, 5, 6, 7, 8, 9, 10, 11, 12, 13, 14, 15, 16, 17, 18] [0, 1, 19, 20, 21, 22, 23, 24, 25, 26, 27, 28, 29, 30, 31, 32, 33, 34, 35] rfl rfl (by decide) (by decide) (fun H locs hP hD hS => ?_)
                have hP : va_P (dC, dI) kCl (((x, .inr (3, [.int (nI S), .int (nI C), .long key, .ref (a0 0), .ref (a1 0), .ref ml, .int (cs_asked z), .int (cs_most z)])) :: (ml, .inl (cI, 16, .inl (cs_ml z))) :: tw_ cI cJ a1 M S C 16 T1d) ++ tw_ cI cJ a0 L S C 64 (tr_carry L S C 64 T0c)) H := hP
                have hD : va_D A (((x, .inr (3, [.int (nI S), .int (nI C), .long key, .ref (a0 0), .ref (a1 0), .ref ml, .int (cs_asked z), .int (cs_most z)])) :: (ml, .inl (cI, 16, .inl (cs_ml z))) :: tw_ cI cJ a1 M S C 16 T1d) ++ tw_ cI cJ a0 L S C 64 (tr_carry L S C 64 T0c)) := hD
                obtain ⟨T0d, hT0d⟩ : ∃ T : Ts, T = tr_carry L S C 64 T0c := ⟨_, rfl⟩
                rw [← hT0d] at hP hD
                have hP := hP.sub (ws' := cw_ cI cJ x ml a0 a1 L M S C key (cs_mk (cs_ml z) (cs_asked z) (cs_most z) T0d T1d)) [0, 1, 19, 20, 21, 22, 23, 24, 25, 26, 27, 28, 29, 30, 31, 32, 33, 34, 35, 2, 3, 4, 5, 6, 7, 8, 9, 10, 11, 12, 13, 14, 15, 16, 17, 18] rfl
                have hD := hD.sub (ws' := cw_ cI cJ x ml a0 a1 L M S C key (cs_mk (cs_ml z) (cs_asked z) (cs_most z) T0d T1d)) [0, 1, 19, 20, 21, 22, 23, 24, 25, 26, 27, 28, 29, 30, 31, 32, 33, 34, 35, 2, 3, 4, 5, 6, 7, 8, 9, 10, 11, 12, 13, 14, 15, 16, 17, 18] (by decide) rfl
                refine lv_aload_n hx hb d_CT_ask_201 rfl (lv_at hl 4 rfl) ?_
                refine va_get (D := (dC, dI)) (ci := 3) (v := .ref ml) (C := R_CT) (T := F_CT) (N := 8) hx hb hT i_CT hown hK hP 0 rfl rfl 5 (by decide) (hT _ m_147) (fun _ h9 => h9) rfl d_CT_ask_202 ?_
                refine lv_iload hx hb d_CT_ask_205 (lv_at hl 3 rfl) ?_
                refine lv_iload hx hb d_CT_ask_207 (lv_at hl 9 rfl) ?_
                refine va_iast hx hb hK hP hD hS 1 0 rfl rfl (vp_in_nI (by omega) (by omega)) d_CT_ask_209 (fun H locs hP hD hS => ?_)
                rw [nI_clamp (show j / 4 < 2 ^ 31 by omega)] at hP hD
                have hP : va_P (dC, dI) kCl (cw_ cI cJ x ml a0 a1 L M S C key (cs_mk (upd (cs_ml z) (j / 4) mc) (cs_asked z) (cs_most z) T0d T1d)) H := hP
                have hD : va_D A (cw_ cI cJ x ml a0 a1 L M S C key (cs_mk (upd (cs_ml z) (j / 4) mc) (cs_asked z) (cs_most z) T0d T1d)) := hD
                refine lv_aload_n hx hb d_CT_ask_210 rfl (lv_at hl 4 rfl) ?_
                refine lv_dup hx hb d_CT_ask_211 rfl ?_
                refine va_get (D := (dC, dI)) (ci := 3) (v := .int (cs_asked z)) (C := R_CT) (T := F_CT) (N := 8) hx hb hT i_CT hown hK hP 0 rfl rfl 6 (by decide) (hT _ m_148) (fun _ h9 => h9) rfl d_CT_ask_212 ?_
                refine lv_iconst (v := 1) hx hb d_CT_ask_215 (by decide) ?_
                refine lv_iadd hx hb d_CT_ask_216 ?_
                refine va_put (D := (dC, dI)) (ci := 3) (v := .int ((cs_asked z) + 1)) (ty := .int) (C := R_CT) (T := F_CT) (N := 8) hx hb hT i_CT t_CT t_CT_ok n_CT hown hK hP hD hS 0 rfl rfl 6 (by decide) (hT _ m_148) (fun _ h9 => h9) rfl (by decide +kernel) rfl rfl (Nat.le_of_ble_eq_true rfl) d_CT_ask_217 (fun H locs hP hD hS => ?_)
                have hP : va_P (dC, dI) kCl (cw_ cI cJ x ml a0 a1 L M S C key (cs_mk (upd (cs_ml z) (j / 4) mc) ((cs_asked z) + 1) (cs_most z) T0d T1d)) H := hP
                have hD : va_D A (cw_ cI cJ x ml a0 a1 L M S C key (cs_mk (upd (cs_ml z) (j / 4) mc) ((cs_asked z) + 1) (cs_most z) T0d T1d)) := hD
                refine lv_aload_n hx hb d_CT_ask_220 rfl (lv_at hl 4 rfl) ?_
                refine lv_aload_n hx hb d_CT_ask_221 rfl (lv_at hl 4 rfl) ?_
                refine va_get (D := (dC, dI)) (ci := 3) (v := .int (cs_most z)) (C := R_CT) (T := F_CT) (N := 8) hx hb hT i_CT hown hK hP 0 rfl rfl 7 (by decide) (hT _ m_149) (fun _ h9 => h9) rfl d_CT_ask_222 ?_
                refine lv_aload_n hx hb d_CT_ask_225 rfl (lv_at hl 4 rfl) ?_
                refine va_get (D := (dC, dI)) (ci := 3) (v := .ref (a0 0)) (C := R_CT) (T := F_CT) (N := 8) hx hb hT i_CT hown hK hP 0 rfl rfl 3 (by decide) (hT _ m_145) (fun _ h9 => h9) rfl d_CT_ask_226 ?_
                refine va_get (D := (dC, dI)) (ci := 2) (v := .ref (a0 6)) (C := R_TR) (T := F_TR) (N := 12) hx hb hT i_TR hown hK hP 2 rfl rfl 6 (by decide) (hT _ m_106) (fun _ h9 => h9) rfl d_CT_ask_229 ?_
                refine va_get (D := (dC, dI)) (ci := 0) (v := .int (ts_stash T0d).2.2.2) (C := R_RW) (T := F_RW) (N := 4) hx hb hT i_RW hown hK hP 8 rfl rfl 3 (by decide) (hT _ m_86) (fun _ h9 => h9) rfl d_CT_ask_232 ?_
                refine va_mmax hx hb (hml.trans hl.1.symm) hown (hT _ m_48) (hT _ m_49) (hT _ m_23) (hT _ m_50) (Nat.le_of_ble_eq_true rfl) (Nat.le_of_ble_eq_true rfl) (Nat.zero_le _) (Nat.zero_le _) d_CT_ask_235 ?_
                refine va_put (D := (dC, dI)) (ci := 3) (v := .int (if (cs_most z) < (ts_stash T0d).2.2.2 then (ts_stash T0d).2.2.2 else (cs_most z))) (ty := .int) (C := R_CT) (T := F_CT) (N := 8) hx hb hT i_CT t_CT t_CT_ok n_CT hown hK hP hD hS 0 rfl rfl 7 (by decide) (hT _ m_149) (fun _ h9 => h9) rfl (by decide +kernel) rfl rfl (Nat.le_of_ble_eq_true rfl) d_CT_ask_238 (fun H locs hP hD hS => ?_)
                have hP : va_P (dC, dI) kCl (cw_ cI cJ x ml a0 a1 L M S C key (cs_mk (upd (cs_ml z) (j / 4) mc) ((cs_asked z) + 1) (if (cs_most z) < (ts_stash T0d).2.2.2 then (ts_stash T0d).2.2.2 else (cs_most z)) T0d T1d)) H := hP
                have hD : va_D A (cw_ cI cJ x ml a0 a1 L M S C key (cs_mk (upd (cs_ml z) (j / 4) mc) ((cs_asked z) + 1) (if (cs_most z) < (ts_stash T0d).2.2.2 then (ts_stash T0d).2.2.2 else (cs_most z)) T0d T1d)) := hD
                refine lv_lload hx hb d_CT_ask_241 (lv_at hl 0 rfl) ?_
                have k1d : T1d = ak_t1d M S C z j co mc := by rw [hT1d, k1c]; rfl
                have k0d : T0d = ak_t0d L M S C z j nw nv co := by rw [hT0d, k0c]; rfl
                refine vx_ret ?_
                refine W.widen (k := 1) (n := 6) (by decide) (by decide) ?_
                exact W.lret hx hb hr (fun t9 ht _ => yQl_end (cs_mk (upd (cs_ml z) (j / 4) mc) ((cs_asked z) + 1) (if (cs_most z) < (ts_stash T0d).2.2.2 then (ts_stash T0d).2.2.2 else (cs_most z)) T0d T1d) ⟨j, rfl, hj, b2i_n.mp hc0, b2i_n.mp hc1, by rw [kf1]; exact b2i_n.mp hf1, by rw [kf0]; exact b2i_n.mp hf0, by rw [k0a]; rfl, by rw [k0d, k1d]; rfl⟩ rfl hP hD hS ht) hS.2.2 d_CT_ask_243 hlocks
              · have hf0 := c_9
                have k1a : T1a = ak_t1a M S C z j := hT1a
                have k1b : T1b = ak_t1b M S C z j co mc := by rw [hT1b, k1a]; rfl
                have k0a : T0a = ak_t0a L M S C z j := by rw [hT0a, k1a]; rfl
                have k0b : T0b = ak_t0b L M S C z j nw nv co := by rw [hT0b, k0a]; rfl
                have k1c : T1c = ak_t1c M S C z j co mc := by rw [hT1c, k1b]; rfl
                have kf1 : ak_f1 M S C z j co mc = decide ((tr_fit M S 16 T1b).2 ≤ nI C) := by rw [k1b]; rfl
                have k0c : T0c = ak_t0c L M S C z j nw nv co := by rw [hT0c, k0b]; rfl
                have kf0 : ak_f0 L M S C z j nw nv co = decide ((tr_fit L S 64 T0b).2 ≤ nI C) := by rw [k0b]; rfl
                exact xt_uo hx hb hl9 hown hT xe hS (hl.1.trans hml.symm) (is := 163) (tx := "a tree would be full") (by decide) d_CT_ask_177 d_CT_ask_180 d_CT_ask_181 d_CT_ask_183 d_CT_ask_186 hex (Nat.le_of_ble_eq_true rfl) (Nat.le_of_ble_eq_true rfl) (by decide) (by decide) hlocks hS.2.2 (by decide) (by decide) (fun t9 _ h1 h2 => yX_end (cs_mk (cs_ml z) (cs_asked z) (cs_most z) T0c T1c) (Or.inr (Or.inr ⟨rfl, j, rfl, hj, b2i_n.mp hc0, b2i_n.mp hc1, Or.inr ⟨by rw [kf1]; exact b2i_n.mp hf1, by rw [kf0]; exact b2i_0.mp hf0, by rw [k0c, k1c]⟩⟩)) rfl hP hD hS h1 h2)
        · have hc1 := c_4
          exact xt_ia hx hb hl9 hown hT xe hS (hl.1.trans hml.symm) (is := 134) (tx := "a coin is no leaf of its tree") (by decide) d_CT_ask_44 d_CT_ask_47 d_CT_ask_48 d_CT_ask_50 d_CT_ask_53 hex (Nat.le_of_ble_eq_true rfl) (Nat.le_of_ble_eq_true rfl) (by decide) (by decide) hlocks hS.2.2 (by decide) (by decide) (fun t9 _ h1 h2 => yX_end (z) (Or.inr (Or.inl ⟨rfl, ⟨j, rfl, hj⟩, by first | exact Or.inl (b2i_0.mp hc0) | exact Or.inr (b2i_0.mp hc1), rfl⟩)) rfl hP hD hS h1 h2)
    · exact xt_io hx hb hl9 hown hT xe hS (hl.1.trans hml.symm) (is := 127) (tx := "no such block") (by decide) d_CT_ask_10 d_CT_ask_13 d_CT_ask_14 d_CT_ask_16 d_CT_ask_19 hex (Nat.le_of_ble_eq_true rfl) (Nat.le_of_ble_eq_true rfl) (by decide) (by decide) hlocks hS.2.2 (by decide) (by decide) (fun t9 _ h1 h2 => yX_end (z) (Or.inl ⟨rfl, by first | exact Or.inl c_1 | exact Or.inr (Int32.not_lt.mp c_2), rfl⟩) rfl hP hD hS h1 h2)
end
section
set_option maxHeartbeats 8000000 in
set_option maxRecDepth 100000 in
/-- CoinTree.read -/
theorem c_CT_read {l : Launch} (hl9 : l.stackTraces = false) {dC : Nat → ClassId} {dI : Nat → Nat → Nat} {cI cJ : ClassId} {A : Nat → Prop} {x ml : Nat} {a0 a1 : Nat → Nat} {L M S C : Nat} {key : Int64} {z : Cs} (ok0 : tr_ok L S C 64) (ok1 : tr_ok M S C 16) (ht0 : (ts_trail (cs_t0 z)).2 < 600) (ht1 : (ts_trail (cs_t1 z)).2 < 600) (b co mc : Int32) : vx_Met l y_CT_read (k_CT_read :: bw) { frames := 7, cells := 1, slots := 6, locals := 169 } (yP (dC, dI) kCl [(cI, .int), (cJ, .long)] [.ref x, .int b, .int co, .int mc] (cw_ cI cJ x ml a0 a1 L M S C key z) A) (yQl (dC, dI) kCl (fun u => cw_ cI cJ x ml a0 a1 L M S C key u) (ak_ret L M S C z b false 0 co mc) A) (yX (dC, dI) kCl (fun u => cw_ cI cJ x ml a0 a1 L M S C key u) (ak_thr L M S C z b false 0 co mc) A) 1 6 A := by
  refine Met.ofX (own := "CoinTree") (by decide) rfl [.ref x, .int b, .int co, .int mc] (Nat.le_of_ble_eq_true rfl) (fun _ _ h => h.1) ?_
  intro p e s m below meth c ls C0 hex hv hl
  obtain ⟨hx, hb, hr, hml, hown, hT, hlocks⟩ := C0
  obtain ⟨-, hP, hK, hD, xe, hA⟩ := hv
  have hS : va_S A s.heap s.heap [] := va_S.rf
  have hl : lv_has ls 4 [(0, .ref x), (1, .int b), (2, .int co), (3, .int mc)] := hl
  refine lv_aload_n hx hb d_CT_read_0 rfl (lv_at hl 0 rfl) ?_
  refine lv_iload_n hx hb d_CT_read_1 rfl (lv_at hl 1 rfl) ?_
  refine lv_iconst (v := 0) hx hb d_CT_read_2 (by decide) ?_
  refine lv_lconst (v := 0) hx hb d_CT_read_3 (by decide) ?_
  refine lv_iload_n hx hb d_CT_read_4 rfl (lv_at hl 2 rfl) ?_
  refine lv_iload_n hx hb d_CT_read_5 rfl (lv_at hl 3 rfl) ?_
  refine vx_calll (vx_runV (As := [.int b, .int 0, .long 0, .int co, .int mc]) (rest := []) ⟨hx, hb, hml, hown, hT⟩ (c_CT_ask hl9 (A := A) ok0 ok1 ht0 ht1 b false 0 co mc) (cwV 5 hT (gi_V m_183 m_180 m_182 m_0 m_22) rfl rfl rfl p_CT_ask ⟨Nat.le_of_ble_eq_true rfl, Nat.le_of_ble_eq_true rfl⟩) ⟨yP_blind, va_recv hK hP (ci := 3) (q0 := 0) rfl rfl, yP_pre hK hP hD xe hA⟩ rfl rfl hl.1 rfl (lv_room (Nat.le_of_ble_eq_true rfl)) d_CT_read_6 ⟨by decide, by decide⟩) hS (fun q _ h => h) (fun q h => h) (fun q _ h => h) (fun E ce q9 u t H1 locs1 ht _ _ hB hz hk hS1 hcell hcv hcl => vx_out (fun x9 h9 => (hex x9 h9).elim) hlocks hcell hcv hcl (fun t9 ht9 _ => ⟨u, trivial, ⟨hB.1, by rw [ht9, ← ht]; exact hB.2.1, hB.2.2⟩, hS1.F ht9⟩) hS1.2.2 (by decide) (by decide)) (fun r u t H locs ht _ hret hB hz hk hS => ?_)
  refine vx_ret ?_
  refine W.widen (k := 1) (n := 6) (by decide) (by decide) ?_
  exact W.lret hx hb hr (fun t9 ht9 _ => ⟨⟨r, u, rfl, hret, by rw [ht9, ← ht]; exact hB.1, hB.2⟩, hS.F ht9⟩) hS.2.2 d_CT_read_9 hlocks

set_option maxHeartbeats 8000000 in
set_option maxRecDepth 100000 in
/-- CoinTree.write -/
theorem c_CT_write {l : Launch} (hl9 : l.stackTraces = false) {dC : Nat → ClassId} {dI : Nat → Nat → Nat} {cI cJ : ClassId} {A : Nat → Prop} {x ml : Nat} {a0 a1 : Nat → Nat} {L M S C : Nat} {key : Int64} {z : Cs} (ok0 : tr_ok L S C 64) (ok1 : tr_ok M S C 16) (ht0 : (ts_trail (cs_t0 z)).2 < 600) (ht1 : (ts_trail (cs_t1 z)).2 < 600) (b : Int32) (nv : Int64) (co mc : Int32) : vx_Met l y_CT_write (k_CT_write :: bw) { frames := 7, cells := 1, slots := 6, locals := 169 } (yP (dC, dI) kCl [(cI, .int), (cJ, .long)] [.ref x, .int b, .long nv, .int co, .int mc] (cw_ cI cJ x ml a0 a1 L M S C key z) A) (yQl (dC, dI) kCl (fun u => cw_ cI cJ x ml a0 a1 L M S C key u) (ak_ret L M S C z b true nv co mc) A) (yX (dC, dI) kCl (fun u => cw_ cI cJ x ml a0 a1 L M S C key u) (ak_thr L M S C z b true nv co mc) A) 1 6 A := by
  refine Met.ofX (own := "CoinTree") (by decide) rfl [.ref x, .int b, .long nv, .int co, .int mc] (Nat.le_of_ble_eq_true rfl) (fun _ _ h => h.1) ?_
  intro p e s m below meth c ls C0 hex hv hl
  obtain ⟨hx, hb, hr, hml, hown, hT, hlocks⟩ := C0
  obtain ⟨-, hP, hK, hD, xe, hA⟩ := hv
  have hS : va_S A s.heap s.heap [] := va_S.rf
  have hl : lv_has ls 6 [(0, .ref x), (1, .int b), (2, .long nv), (4, .int co), (5, .int mc)] := hl
  refine lv_aload_n hx hb d_CT_write_0 rfl (lv_at hl 0 rfl) ?_
  refine lv_iload_n hx hb d_CT_write_1 rfl (lv_at hl 1 rfl) ?_
  refine lv_iconst (v := 1) hx hb d_CT_write_2 (by decide) ?_
  refine lv_lload_n hx hb d_CT_write_3 rfl (lv_at hl 2 rfl) ?_
  refine lv_iload hx hb d_CT_write_4 (lv_at hl 3 rfl) ?_
  refine lv_iload hx hb d_CT_write_6 (lv_at hl 4 rfl) ?_
  refine vx_calll (vx_runV (As := [.int b, .int 1, .long nv, .int co, .int mc]) (rest := []) ⟨hx, hb, hml, hown, hT⟩ (c_CT_ask hl9 (A := A) ok0 ok1 ht0 ht1 b true nv co mc) (cwV 5 hT (gi_V m_183 m_180 m_182 m_0 m_22) rfl rfl rfl p_CT_ask ⟨Nat.le_of_ble_eq_true rfl, Nat.le_of_ble_eq_true rfl⟩) ⟨yP_blind, va_recv hK hP (ci := 3) (q0 := 0) rfl rfl, yP_pre hK hP hD xe hA⟩ rfl rfl hl.1 rfl (lv_room (Nat.le_of_ble_eq_true rfl)) d_CT_write_8 ⟨by decide, by decide⟩) hS (fun q _ h => h) (fun q h => h) (fun q _ h => h) (fun E ce q9 u t H1 locs1 ht _ _ hB hz hk hS1 hcell hcv hcl => vx_out (fun x9 h9 => (hex x9 h9).elim) hlocks hcell hcv hcl (fun t9 ht9 _ => ⟨u, trivial, ⟨hB.1, by rw [ht9, ← ht]; exact hB.2.1, hB.2.2⟩, hS1.F ht9⟩) hS1.2.2 (by decide) (by decide)) (fun r u t H locs ht _ hret hB hz hk hS => ?_)
  refine vx_ret ?_
  refine W.widen (k := 1) (n := 6) (by decide) (by decide) ?_
  exact W.lret hx hb hr (fun t9 ht9 _ => ⟨⟨r, u, rfl, hret, by rw [ht9, ← ht]; exact hB.1, hB.2⟩, hS.F ht9⟩) hS.2.2 d_CT_write_11 hlocks
end
section
def ct_mlf (M : Nat) (m : Nat) (f : Nat → Int32) : Nat → Int32 := upd f m (nI m &&& (nI (2 ^ M) - 1))
def ct_ml0 (M k : Nat) : Nat → Int32 := lp_ (ct_mlf M) k (fun _ => 0)
set_option maxHeartbeats 8000000 in
set_option maxRecDepth 100000 in
/-- CoinTree(..) -/
theorem c_CT_init {l : Launch} {dC : Nat → ClassId} {dI : Nat → Nat → Nat} {cI cJ : ClassId} (sz : Nat) (x n : Nat) (hn : n = 16) (lv sl cp : Int32) (key : Int64) {L M S C : Nat} (ok0 : tr_ok L S C 64) (ok1 : tr_ok M S C 16) (hL : ct_near lv 1 5 = nI L) (hS9 : ct_near sl 1 4 = nI S) (hC9 : ct_near cp 0 40 = nI C) (hM9 : (if (1 : Int32) < nI L - 1 then nI L - 1 else 1) = nI M) : Met l y_CT_init (k_CT_init :: bw) { frames := 3, cells := 35, slots := 6134, locals := 67 } (iP (dC, dI) kCl [(cI, .int), (cJ, .long)] [.ref x, .int lv, .int sl, .int cp, .long key] [(x, .inr (3, [.int 0, .int 0, .long 0, .null, .null, .null, .int 0, .int 0]))] sz) (iQ (dC, dI) kCl (fun u => (x, .inr (3, [.int (nI S), .int (nI C), .long key, .ref (u 1), .ref (u 2), .ref (u 0), .int 0, .int 0])) :: (u 0, .inl (cI, n, .inl (ct_ml0 M 16))) :: (tw_ cI cJ (fun k => u (2 * k + 1)) L S C 64 ts_z ++ tw_ cI cJ (fun k => u (2 * k + 2)) M S C 16 ts_z)) (va_A [(x, .inr (3, [.int 0, .int 0, .long 0, .null, .null, .null, .int 0, .int 0]))] sz)) 35 6134 (va_A [(x, .inr (3, [.int 0, .int 0, .long 0, .null, .null, .null, .int 0, .int 0]))] sz) := by
  refine Met.ofI (own := "CoinTree") (by decide) rfl rfl [.ref x, .int lv, .int sl, .int cp, .long key] (Nat.le_of_ble_eq_true rfl) (fun _ _ h => h.1) ?_
  intro p e s m below meth c ls C0 hin hv hl
  obtain ⟨hx, hb, hr, hml, hown, hT, hlocks⟩ := C0
  obtain ⟨-, hsz, hP, hK, hD0, hNw⟩ := hv
  subst hsz
  have hD := hD0.self (sz := s.heap.size)
  generalize hAe : va_A [(x, .inr (3, [.int 0, .int 0, .long 0, .null, .null, .null, .int 0, .int 0]))] s.heap.size = A at hD ⊢
  have hA : ∀ q : Nat, s.heap.size ≤ q → A q := fun q h => by rw [← hAe]; exact Or.inr h
  have hS : va_S A s.heap s.heap [] := va_S.rf
  have hl : lv_has ls 8 [(0, .ref x), (1, .int lv), (2, .int sl), (3, .int cp), (4, .long key)] := hl
  refine lv_aload_n hx hb d_CT_init_0 rfl (lv_at hl 0 rfl) ?_
  refine W.objInit hx hb hown (hT _ m_39) (hT _ m_40) (hT _ m_41) rfl (by rw [hml]; exact hl.1) rfl d_CT_init_1 (Nat.le_of_ble_eq_true rfl) (Nat.le_of_ble_eq_true rfl) ?_
  refine W.eq (g2 := F0 m 4 ls []) rfl ?_
  refine lv_aload_n hx hb d_CT_init_4 rfl (lv_at hl 0 rfl) ?_
  refine lv_bipush (v := 16) hx hb d_CT_init_5 (by decide) ?_
  refine W.eq (g2 := F0 m 7 ls [.int (nI n), .ref x]) (by rw [hn]; rfl) ?_
  refine va_newa (atype := .int) (ty := .int) (a0 := (n, .inl (fun _ => 0))) (N' := n) hx hb (hT _ m_74) rfl hK hP hD hS hA (fun _ => rfl) (nI_pos (show n < 2 ^ 31 by omega)) (nI_clamp (show n < 2 ^ 31 by omega)) (by show _ * 4 ≤ 536870912; have := hn; omega) (by decide) (by show _ ≤ 6134; have := hn; omega) d_CT_init_7 (fun q_1 cA H hK2 hP hD hS => ?_)
  have hc9 : cI = cA := va_ca hK2 (i := 0) (j := 2) rfl rfl
  subst hc9
  have hP : va_P (dC, dI) kCl [(x, .inr (3, [.int 0, .int 0, .long 0, .null, .null, .null, .int 0, .int 0])), (q_1, .inl (cI, n, .inl (fun _ => 0)))] H := hP
  have hD : va_D A [(x, .inr (3, [.int 0, .int 0, .long 0, .null, .null, .null, .int 0, .int 0])), (q_1, .inl (cI, n, .inl (fun _ => 0)))] := hD
  refine W.widen (k := 1) (n := 16) (by decide) (by have := hn; omega) ?_
  refine va_putF (D := (dC, dI)) (ci := 3) (v := .ref q_1) (ty := (.array .int)) (C := R_CT) (T := F_CT) (N := 8) hx hb hT i_CT t_CT t_CT_ok n_CT hown hK hP hD hS 0 rfl rfl 5 (by decide) (hT _ m_147) (fun _ h9 => h9) rfl hin rfl (by decide +kernel) rfl rfl (Nat.le_of_ble_eq_true rfl) d_CT_init_9 (fun H locs hP hD hS => ?_)
  have hP : va_P (dC, dI) kCl [(x, .inr (3, [.int 0, .int 0, .long 0, .null, .null, .ref q_1, .int 0, .int 0])), (q_1, .inl (cI, n, .inl (fun _ => 0)))] H := hP
  have hD : va_D A [(x, .inr (3, [.int 0, .int 0, .long 0, .null, .null, .ref q_1, .int 0, .int 0])), (q_1, .inl (cI, n, .inl (fun _ => 0)))] := hD
  refine lv_iload_n hx hb d_CT_init_12 rfl (lv_at hl 1 rfl) ?_
  refine lv_iconst (v := 1) hx hb d_CT_init_13 (by decide) ?_
  refine lv_iconst (v := 5) hx hb d_CT_init_14 (by decide) ?_
  refine zc_i (va_runS (As := [.int lv, .int 1, .int 5]) (rest := []) ⟨hx, hb, hml, hown, hT⟩ (c_CT_nearest (H := H) lv 1 5) (cwS 3 hT (gi_S m_44 m_42 m_43 m_22) rfl rfl rfl p_CT_nearest ⟨Nat.le_of_ble_eq_true rfl, Nat.le_of_ble_eq_true rfl⟩) ⟨zP_blind, zP_pre hK⟩ rfl rfl hl.1 rfl (lv_room (Nat.le_of_ble_eq_true rfl)) d_CT_init_15 ⟨by decide, by decide⟩) hS (fun locs hS => ?_)
  refine W.eq (g2 := F0 m 18 ls [.int (nI L)]) (by rw [hL]) ?_
  refine lv_istore (lv' := [(6, .int (nI L)), (0, .ref x), (1, .int lv), (2, .int sl), (3, .int cp), (4, .long key)]) hx hb d_CT_init_18 hl (by decide) rfl (fun ls hl => ?_)
  refine lv_aload_n hx hb d_CT_init_20 rfl (lv_at hl 1 rfl) ?_
  refine lv_iload_n hx hb d_CT_init_21 rfl (lv_at hl 3 rfl) ?_
  refine lv_iconst (v := 1) hx hb d_CT_init_22 (by decide) ?_
  refine lv_iconst (v := 4) hx hb d_CT_init_23 (by decide) ?_
  refine zc_i (va_runS (As := [.int sl, .int 1, .int 4]) (rest := [.ref x]) ⟨hx, hb, hml, hown, hT⟩ (c_CT_nearest (H := H) sl 1 4) (cwS 3 hT (gi_S m_44 m_42 m_43 m_22) rfl rfl rfl p_CT_nearest ⟨Nat.le_of_ble_eq_true rfl, Nat.le_of_ble_eq_true rfl⟩) ⟨zP_blind, zP_pre hK⟩ rfl rfl hl.1 rfl (lv_room (Nat.le_of_ble_eq_true rfl)) d_CT_init_24 ⟨by decide, by decide⟩) hS (fun locs hS => ?_)
  refine W.eq (g2 := F0 m 27 ls [.int (nI S), .ref x]) (by rw [hS9]) ?_
  refine va_putF (D := (dC, dI)) (ci := 3) (v := .int (nI S)) (ty := .int) (C := R_CT) (T := F_CT) (N := 8) hx hb hT i_CT t_CT t_CT_ok n_CT hown hK hP hD hS 0 rfl rfl 0 (by decide) (hT _ m_142) (fun _ h9 => h9) rfl hin rfl (by decide +kernel) rfl rfl (Nat.le_of_ble_eq_true rfl) d_CT_init_27 (fun H locs hP hD hS => ?_)
  have hP : va_P (dC, dI) kCl [(x, .inr (3, [.int (nI S), .int 0, .long 0, .null, .null, .ref q_1, .int 0, .int 0])), (q_1, .inl (cI, n, .inl (fun _ => 0)))] H := hP
  have hD : va_D A [(x, .inr (3, [.int (nI S), .int 0, .long 0, .null, .null, .ref q_1, .int 0, .int 0])), (q_1, .inl (cI, n, .inl (fun _ => 0)))] := hD
  refine lv_aload_n hx hb d_CT_init_30 rfl (lv_at hl 1 rfl) ?_
  refine lv_iload_n hx hb d_CT_init_31 rfl (lv_at hl 4 rfl) ?_
  refine lv_iconst (v := 0) hx hb d_CT_init_32 (by decide) ?_
  refine lv_bipush (v := 40) hx hb d_CT_init_33 (by decide) ?_
  refine zc_i (va_runS (As := [.int cp, .int 0, .int 40]) (rest := [.ref x]) ⟨hx, hb, hml, hown, hT⟩ (c_CT_nearest (H := H) cp 0 40) (cwS 3 hT (gi_S m_44 m_42 m_43 m_22) rfl rfl rfl p_CT_nearest ⟨Nat.le_of_ble_eq_true rfl, Nat.le_of_ble_eq_true rfl⟩) ⟨zP_blind, zP_pre hK⟩ rfl rfl hl.1 rfl (lv_room (Nat.le_of_ble_eq_true rfl)) d_CT_init_35 ⟨by decide, by decide⟩) hS (fun locs hS => ?_)
  refine W.eq (g2 := F0 m 38 ls [.int (nI C), .ref x]) (by rw [hC9]) ?_
  refine va_putF (D := (dC, dI)) (ci := 3) (v := .int (nI C)) (ty := .int) (C := R_CT) (T := F_CT) (N := 8) hx hb hT i_CT t_CT t_CT_ok n_CT hown hK hP hD hS 0 rfl rfl 1 (by decide) (hT _ m_143) (fun _ h9 => h9) rfl hin rfl (by decide +kernel) rfl rfl (Nat.le_of_ble_eq_true rfl) d_CT_init_38 (fun H locs hP hD hS => ?_)
  have hP : va_P (dC, dI) kCl [(x, .inr (3, [.int (nI S), .int (nI C), .long 0, .null, .null, .ref q_1, .int 0, .int 0])), (q_1, .inl (cI, n, .inl (fun _ => 0)))] H := hP
  have hD : va_D A [(x, .inr (3, [.int (nI S), .int (nI C), .long 0, .null, .null, .ref q_1, .int 0, .int 0])), (q_1, .inl (cI, n, .inl (fun _ => 0)))] := hD
  refine lv_aload_n hx hb d_CT_init_41 rfl (lv_at hl 1 rfl) ?_
  refine lv_lload hx hb d_CT_init_42 (lv_at hl 5 rfl) ?_
  refine va_putF (D := (dC, dI)) (ci := 3) (v := .long key) (ty := .long) (C := R_CT) (T := F_CT) (N := 8) hx hb hT i_CT t_CT t_CT_ok n_CT hown hK hP hD hS 0 rfl rfl 2 (by decide) (hT _ m_144) (fun _ h9 => h9) rfl hin rfl (by decide +kernel) rfl rfl (Nat.le_of_ble_eq_true rfl) d_CT_init_44 (fun H locs hP hD hS => ?_)
  have hP : va_P (dC, dI) kCl [(x, .inr (3, [.int (nI S), .int (nI C), .long key, .null, .null, .ref q_1, .int 0, .int 0])), (q_1, .inl (cI, n, .inl (fun _ => 0)))] H := hP
  have hD : va_D A [(x, .inr (3, [.int (nI S), .int (nI C), .long key, .null, .null, .ref q_1, .int 0, .int 0])), (q_1, .inl (cI, n, .inl (fun _ => 0)))] := hD
  refine lv_aload_n hx hb d_CT_init_47 rfl (lv_at hl 1 rfl) ?_
  refine va_new (ci := 2) (fs := [.int 0, .int 0, .int 0, .int 0, .null, .null, .null, .null, .null, .null, .int 0, .int 0]) (C := R_TR) (T := F_TR) (N := 12) hx hb hT i_TR t_TR t_TR_ok hown (hT _ m_51) (hT _ m_52) (hT _ m_24) hK hP hD hS hA rfl (fun j hj => by rcases (show j = 0 ∨ j = 1 ∨ j = 2 ∨ j = 3 ∨ j = 4 ∨ j = 5 ∨ j = 6 ∨ j = 7 ∨ j = 8 ∨ j = 9 ∨ j = 10 ∨ j = 11 by omega) with rfl | rfl | rfl | rfl | rfl | rfl | rfl | rfl | rfl | rfl | rfl | rfl <;> rfl) (by decide) (by decide) d_CT_init_48 (fun q_2 H hP hD hS => ?_)
  have hP : va_P (dC, dI) kCl [(x, .inr (3, [.int (nI S), .int (nI C), .long key, .null, .null, .ref q_1, .int 0, .int 0])), (q_1, .inl (cI, n, .inl (fun _ => 0))), (q_2, .inr (2, [.int 0, .int 0, .int 0, .int 0, .null, .null, .null, .null, .null, .null, .int 0, .int 0]))] H := hP
  have hD : va_D A [(x, .inr (3, [.int (nI S), .int (nI C), .long key, .null, .null, .ref q_1, .int 0, .int 0])), (q_1, .inl (cI, n, .inl (fun _ => 0))), (q_2, .inr (2, [.int 0, .int 0, .int 0, .int 0, .null, .null, .null, .null, .null, .null, .int 0, .int 0]))] := hD
  refine W.widen (k := 2) (n := 28) (by decide) (by decide) ?_
  refine lv_dup hx hb d_CT_init_51 rfl ?_
  refine lv_iload hx hb d_CT_init_52 (lv_at hl 0 rfl) ?_
  refine lv_aload_n hx hb d_CT_init_54 rfl (lv_at hl 1 rfl) ?_
  refine va_get (D := (dC, dI)) (ci := 3) (v := .int (nI S)) (C := R_CT) (T := F_CT) (N := 8) hx hb hT i_CT hown hK hP 0 rfl rfl 0 (by decide) (hT _ m_142) (fun _ h9 => h9) rfl d_CT_init_55 ?_
  refine lv_aload_n hx hb d_CT_init_58 rfl (lv_at hl 1 rfl) ?_
  refine va_get (D := (dC, dI)) (ci := 3) (v := .int (nI C)) (C := R_CT) (T := F_CT) (N := 8) hx hb hT i_CT hown hK hP 0 rfl rfl 1 (by decide) (hT _ m_143) (fun _ h9 => h9) rfl d_CT_init_59 ?_
  refine lv_bipush (v := 64) hx hb d_CT_init_62 (by decide) ?_
  have hPc := hP.sub (ws' := [(q_2, .inr (2, [.int 0, .int 0, .int 0, .int 0, .null, .null, .null, .null, .null, .null, .int 0, .int 0]))]) [2] rfl
  have hDc := hD.sub (ws' := [(q_2, .inr (2, [.int 0, .int 0, .int 0, .int 0, .null, .null, .null, .null, .null, .null, .int 0, .int 0]))]) [2] (by decide) rfl
  have hFc := va_free (wc := [(q_2, .inr (2, [.int 0, .int 0, .int 0, .int 0, .null, .null, .null, .null, .null, .null, .int 0, .int 0]))]) hD hS hA [2] rfl
  refine va_callv (va_runI (As := [.int (nI L), .int (nI S), .int (nI C), .int 64]) (rest := [.ref q_2, .ref x]) ⟨hx, hb, hml, hown, hT⟩ (c_TR_init H.size q_2 ok0) (cwI 4 hT (gi_0 m_55) rfl rfl rfl (hT _ m_24) (hT _ m_53) (hT _ m_54) rfl p_TR_init.2 ⟨Nat.le_of_ble_eq_true rfl, Nat.le_of_ble_eq_true rfl⟩) ⟨iP_blind, iP_pre hK hPc hDc hNw⟩ rfl rfl hl.1 rfl (lv_room (Nat.le_of_ble_eq_true rfl)) d_CT_init_64 ⟨by decide, by decide⟩) hS (fun q _ h => hFc q h) hFc (fun u_3 t9 H1 locs ht hvm hw hB hz1 hk1 hS => ?_)
  obtain ⟨hP1, hD1⟩ := hB
  rw [ht] at hP1
  obtain ⟨a0, ha9⟩ : ∃ a : Nat → Nat, a = (fun k => if k = 0 then q_2 else u_3 k) := ⟨_, rfl⟩
  have hq9 : a0 0 = q_2 := by rw [ha9]; rfl
  have hP2 : va_P (dC, dI) kCl (tw_ cI cJ a0 L S C 64 ts_z) H1 := by rw [ha9]; exact hP1
  have hD2 := (show va_D _ (tw_ cI cJ a0 L S C 64 ts_z) from by rw [ha9]; exact hD1)
  clear ha9 hP1 hD1
  subst hq9
  obtain ⟨hP, hD⟩ := va_join (wr := [(x, .inr (3, [.int (nI S), .int (nI C), .long key, .null, .null, .ref q_1, .int 0, .int 0])), (q_1, .inl (cI, n, .inl (fun _ => 0)))]) (w1 := tw_ cI cJ a0 L S C 64 ts_z) hP hD [2] [0, 1] rfl rfl (by decide) (by decide) hk1 hFc hP2 hD2
  generalize H1 = H at hP hS ⊢
  have hP : va_P (dC, dI) kCl [(x, .inr (3, [.int (nI S), .int (nI C), .long key, .null, .null, .ref q_1, .int 0, .int 0])), (q_1, .inl (cI, n, .inl (fun _ => 0))), ((a0 0), .inr (2, [.int (nI L), .int (nI (2 ^ L)), .int (nI S), .int (nI C), .ref (a0 1), .ref (a0 5), .ref (a0 6), .ref (a0 10), .ref (a0 12), .ref (a0 16), .int 0, .int 0])), ((a0 1), .inr (0, [.ref (a0 2), .ref (a0 3), .ref (a0 4), .int rw_z.2.2.2])), ((a0 2), .inl (cI, (tr_nN L S), .inl rw_z.1)), ((a0 3), .inl (cI, (tr_nN L S), .inl rw_z.2.1)), ((a0 4), .inl (cJ, (tr_nN L S), .inr (.inl rw_z.2.2.1))), ((a0 5), .inl (cI, (2 * 2 ^ L), .inl (fun _ => 0))), ((a0 6), .inr (0, [.ref (a0 7), .ref (a0 8), .ref (a0 9), .int rw_z.2.2.2])), ((a0 7), .inl (cI, C, .inl rw_z.1)), ((a0 8), .inl (cI, C, .inl rw_z.2.1)), ((a0 9), .inl (cJ, C, .inr (.inl rw_z.2.2.1))), ((a0 10), .inr (1, [.ref (a0 11), .int (nI ((fun _ => 0, 0) : Tl).2), .int (nI ((fun _ => 0, 0) : Tl).2)])), ((a0 11), .inl (cI, 600, .inl (((fun _ => 0, 0) : Tl).1))), ((a0 12), .inr (0, [.ref (a0 13), .ref (a0 14), .ref (a0 15), .int rw_z.2.2.2])), ((a0 13), .inl (cI, 64, .inl rw_z.1)), ((a0 14), .inl (cI, 64, .inl rw_z.2.1)), ((a0 15), .inl (cJ, 64, .inr (.inl rw_z.2.2.1))), ((a0 16), .inl (cI, 64, .inl (fun _ => 0)))] H := hP
  have hD : va_D A [(x, .inr (3, [.int (nI S), .int (nI C), .long key, .null, .null, .ref q_1, .int 0, .int 0])), (q_1, .inl (cI, n, .inl (fun _ => 0))), ((a0 0), .inr (2, [.int (nI L), .int (nI (2 ^ L)), .int (nI S), .int (nI C), .ref (a0 1), .ref (a0 5), .ref (a0 6), .ref (a0 10), .ref (a0 12), .ref (a0 16), .int 0, .int 0])), ((a0 1), .inr (0, [.ref (a0 2), .ref (a0 3), .ref (a0 4), .int rw_z.2.2.2])), ((a0 2), .inl (cI, (tr_nN L S), .inl rw_z.1)), ((a0 3), .inl (cI, (tr_nN L S), .inl rw_z.2.1)), ((a0 4), .inl (cJ, (tr_nN L S), .inr (.inl rw_z.2.2.1))), ((a0 5), .inl (cI, (2 * 2 ^ L), .inl (fun _ => 0))), ((a0 6), .inr (0, [.ref (a0 7), .ref (a0 8), .ref (a0 9), .int rw_z.2.2.2])), ((a0 7), .inl (cI, C, .inl rw_z.1)), ((a0 8), .inl (cI, C, .inl rw_z.2.1)), ((a0 9), .inl (cJ, C, .inr (.inl rw_z.2.2.1))), ((a0 10), .inr (1, [.ref (a0 11), .int (nI ((fun _ => 0, 0) : Tl).2), .int (nI ((fun _ => 0, 0) : Tl).2)])), ((a0 11), .inl (cI, 600, .inl (((fun _ => 0, 0) : Tl).1))), ((a0 12), .inr (0, [.ref (a0 13), .ref (a0 14), .ref (a0 15), .int rw_z.2.2.2])), ((a0 13), .inl (cI, 64, .inl rw_z.1)), ((a0 14), .inl (cI, 64, .inl rw_z.2.1)), ((a0 15), .inl (cJ, 64, .inr (.inl rw_z.2.2.1))), ((a0 16), .inl (cI, 64, .inl (fun _ => 0)))] := hD
  refine W.widen (k := 18) (n := 3075) (by decide) (by decide) ?_
  refine va_putF (D := (dC, dI)) (ci := 3) (v := .ref (a0 0)) (ty := (.object "CoinTree$Tree")) (C := R_CT) (T := F_CT) (N := 8) hx hb hT i_CT t_CT t_CT_ok n_CT hown hK hP hD hS 0 rfl rfl 3 (by decide) (hT _ m_145) (fun _ h9 => h9) rfl hin rfl (by decide +kernel) rfl rfl (Nat.le_of_ble_eq_true rfl) d_CT_init_67 (fun H locs hP hD hS => ?_)
  have hP : va_P (dC, dI) kCl [(x, .inr (3, [.int (nI S), .int (nI C), .long key, .ref (a0 0), .null, .ref q_1, .int 0, .int 0])), (q_1, .inl (cI, n, .inl (fun _ => 0))), ((a0 0), .inr (2, [.int (nI L), .int (nI (2 ^ L)), .int (nI S), .int (nI C), .ref (a0 1), .ref (a0 5), .ref (a0 6), .ref (a0 10), .ref (a0 12), .ref (a0 16), .int 0, .int 0])), ((a0 1), .inr (0, [.ref (a0 2), .ref (a0 3), .ref (a0 4), .int rw_z.2.2.2])), ((a0 2), .inl (cI, (tr_nN L S), .inl rw_z.1)), ((a0 3), .inl (cI, (tr_nN L S), .inl rw_z.2.1)), ((a0 4), .inl (cJ, (tr_nN L S), .inr (.inl rw_z.2.2.1))), ((a0 5), .inl (cI, (2 * 2 ^ L), .inl (fun _ => 0))), ((a0 6), .inr (0, [.ref (a0 7), .ref (a0 8), .ref (a0 9), .int rw_z.2.2.2])), ((a0 7), .inl (cI, C, .inl rw_z.1)), ((a0 8), .inl (cI, C, .inl rw_z.2.1)), ((a0 9), .inl (cJ, C, .inr (.inl rw_z.2.2.1))), ((a0 10), .inr (1, [.ref (a0 11), .int (nI ((fun _ => 0, 0) : Tl).2), .int (nI ((fun _ => 0, 0) : Tl).2)])), ((a0 11), .inl (cI, 600, .inl (((fun _ => 0, 0) : Tl).1))), ((a0 12), .inr (0, [.ref (a0 13), .ref (a0 14), .ref (a0 15), .int rw_z.2.2.2])), ((a0 13), .inl (cI, 64, .inl rw_z.1)), ((a0 14), .inl (cI, 64, .inl rw_z.2.1)), ((a0 15), .inl (cJ, 64, .inr (.inl rw_z.2.2.1))), ((a0 16), .inl (cI, 64, .inl (fun _ => 0)))] H := hP
  have hD : va_D A [(x, .inr (3, [.int (nI S), .int (nI C), .long key, .ref (a0 0), .null, .ref q_1, .int 0, .int 0])), (q_1, .inl (cI, n, .inl (fun _ => 0))), ((a0 0), .inr (2, [.int (nI L), .int (nI (2 ^ L)), .int (nI S), .int (nI C), .ref (a0 1), .ref (a0 5), .ref (a0 6), .ref (a0 10), .ref (a0 12), .ref (a0 16), .int 0, .int 0])), ((a0 1), .inr (0, [.ref (a0 2), .ref (a0 3), .ref (a0 4), .int rw_z.2.2.2])), ((a0 2), .inl (cI, (tr_nN L S), .inl rw_z.1)), ((a0 3), .inl (cI, (tr_nN L S), .inl rw_z.2.1)), ((a0 4), .inl (cJ, (tr_nN L S), .inr (.inl rw_z.2.2.1))), ((a0 5), .inl (cI, (2 * 2 ^ L), .inl (fun _ => 0))), ((a0 6), .inr (0, [.ref (a0 7), .ref (a0 8), .ref (a0 9), .int rw_z.2.2.2])), ((a0 7), .inl (cI, C, .inl rw_z.1)), ((a0 8), .inl (cI, C, .inl rw_z.2.1)), ((a0 9), .inl (cJ, C, .inr (.inl rw_z.2.2.1))), ((a0 10), .inr (1, [.ref (a0 11), .int (nI ((fun _ => 0, 0) : Tl).2), .int (nI ((fun _ => 0, 0) : Tl).2)])), ((a0 11), .inl (cI, 600, .inl (((fun _ => 0, 0) : Tl).1))), ((a0 12), .inr (0, [.ref (a0 13), .ref (a0 14), .ref (a0 15), .int rw_z.2.2.2])), ((a0 13), .inl (cI, 64, .inl rw_z.1)), ((a0 14), .inl (cI, 64, .inl rw_z.2.1)), ((a0 15), .inl (cJ, 64, .inr (.inl rw_z.2.2.1))), ((a0 16), .inl (cI, 64, .inl (fun _ => 0)))] := hD
  refine lv_aload_n hx hb d_CT_init_70 rfl (lv_at hl 1 rfl) ?_
  refine va_new (ci := 2) (fs := [.int 0, .int 0, .int 0, .int 0, .null, .null, .null, .null, .null, .null, .int 0, .int 0]) (C := R_TR) (T := F_TR) (N := 12) hx hb hT i_TR t_TR t_TR_ok hown (hT _ m_51) (hT _ m_52) (hT _ m_24) hK hP hD hS hA rfl (fun j hj => by rcases (show j = 0 ∨ j = 1 ∨ j = 2 ∨ j = 3 ∨ j = 4 ∨ j = 5 ∨ j = 6 ∨ j = 7 ∨ j = 8 ∨ j = 9 ∨ j = 10 ∨ j = 11 by omega) with rfl | rfl | rfl | rfl | rfl | rfl | rfl | rfl | rfl | rfl | rfl | rfl <;> rfl) (by decide) (by decide) d_CT_init_71 (fun q_4 H hP hD hS => ?_)
  have hP : va_P (dC, dI) kCl [(x, .inr (3, [.int (nI S), .int (nI C), .long key, .ref (a0 0), .null, .ref q_1, .int 0, .int 0])), (q_1, .inl (cI, n, .inl (fun _ => 0))), ((a0 0), .inr (2, [.int (nI L), .int (nI (2 ^ L)), .int (nI S), .int (nI C), .ref (a0 1), .ref (a0 5), .ref (a0 6), .ref (a0 10), .ref (a0 12), .ref (a0 16), .int 0, .int 0])), ((a0 1), .inr (0, [.ref (a0 2), .ref (a0 3), .ref (a0 4), .int rw_z.2.2.2])), ((a0 2), .inl (cI, (tr_nN L S), .inl rw_z.1)), ((a0 3), .inl (cI, (tr_nN L S), .inl rw_z.2.1)), ((a0 4), .inl (cJ, (tr_nN L S), .inr (.inl rw_z.2.2.1))), ((a0 5), .inl (cI, (2 * 2 ^ L), .inl (fun _ => 0))), ((a0 6), .inr (0, [.ref (a0 7), .ref (a0 8), .ref (a0 9), .int rw_z.2.2.2])), ((a0 7), .inl (cI, C, .inl rw_z.1)), ((a0 8), .inl (cI, C, .inl rw_z.2.1)), ((a0 9), .inl (cJ, C, .inr (.inl rw_z.2.2.1))), ((a0 10), .inr (1, [.ref (a0 11), .int (nI ((fun _ => 0, 0) : Tl).2), .int (nI ((fun _ => 0, 0) : Tl).2)])), ((a0 11), .inl (cI, 600, .inl (((fun _ => 0, 0) : Tl).1))), ((a0 12), .inr (0, [.ref (a0 13), .ref (a0 14), .ref (a0 15), .int rw_z.2.2.2])), ((a0 13), .inl (cI, 64, .inl rw_z.1)), ((a0 14), .inl (cI, 64, .inl rw_z.2.1)), ((a0 15), .inl (cJ, 64, .inr (.inl rw_z.2.2.1))), ((a0 16), .inl (cI, 64, .inl (fun _ => 0))), (q_4, .inr (2, [.int 0, .int 0, .int 0, .int 0, .null, .null, .null, .null, .null, .null, .int 0, .int 0]))] H := hP
  have hD : va_D A [(x, .inr (3, [.int (nI S), .int (nI C), .long key, .ref (a0 0), .null, .ref q_1, .int 0, .int 0])), (q_1, .inl (cI, n, .inl (fun _ => 0))), ((a0 0), .inr (2, [.int (nI L), .int (nI (2 ^ L)), .int (nI S), .int (nI C), .ref (a0 1), .ref (a0 5), .ref (a0 6), .ref (a0 10), .ref (a0 12), .ref (a0 16), .int 0, .int 0])), ((a0 1), .inr (0, [.ref (a0 2), .ref (a0 3), .ref (a0 4), .int rw_z.2.2.2])), ((a0 2), .inl (cI, (tr_nN L S), .inl rw_z.1)), ((a0 3), .inl (cI, (tr_nN L S), .inl rw_z.2.1)), ((a0 4), .inl (cJ, (tr_nN L S), .inr (.inl rw_z.2.2.1))), ((a0 5), .inl (cI, (2 * 2 ^ L), .inl (fun _ => 0))), ((a0 6), .inr (0, [.ref (a0 7), .ref (a0 8), .ref (a0 9), .int rw_z.2.2.2])), ((a0 7), .inl (cI, C, .inl rw_z.1)), ((a0 8), .inl (cI, C, .inl rw_z.2.1)), ((a0 9), .inl (cJ, C, .inr (.inl rw_z.2.2.1))), ((a0 10), .inr (1, [.ref (a0 11), .int (nI ((fun _ => 0, 0) : Tl).2), .int (nI ((fun _ => 0, 0) : Tl).2)])), ((a0 11), .inl (cI, 600, .inl (((fun _ => 0, 0) : Tl).1))), ((a0 12), .inr (0, [.ref (a0 13), .ref (a0 14), .ref (a0 15), .int rw_z.2.2.2])), ((a0 13), .inl (cI, 64, .inl rw_z.1)), ((a0 14), .inl (cI, 64, .inl rw_z.2.1)), ((a0 15), .inl (cJ, 64, .inr (.inl rw_z.2.2.1))), ((a0 16), .inl (cI, 64, .inl (fun _ => 0))), (q_4, .inr (2, [.int 0, .int 0, .int 0, .int 0, .null, .null, .null, .null, .null, .null, .int 0, .int 0]))] := hD
  refine W.widen (k := 19) (n := 3087) (by decide) (by decide) ?_
  refine lv_dup hx hb d_CT_init_74 rfl ?_
  refine lv_iconst (v := 1) hx hb d_CT_init_75 (by decide) ?_
  refine lv_iload hx hb d_CT_init_76 (lv_at hl 0 rfl) ?_
  refine lv_iconst (v := 1) hx hb d_CT_init_78 (by decide) ?_
  refine lv_isub hx hb d_CT_init_79 ?_
  refine va_mmax hx hb (hml.trans hl.1.symm) hown (hT _ m_48) (hT _ m_49) (hT _ m_23) (hT _ m_50) (Nat.le_of_ble_eq_true rfl) (Nat.le_of_ble_eq_true rfl) (by decide) (by decide) d_CT_init_80 ?_
  refine W.eq (g2 := F0 m 83 ls [.int (nI M), .ref q_4, .ref q_4, .ref x]) (by rw [hM9]) ?_
  refine lv_aload_n hx hb d_CT_init_83 rfl (lv_at hl 1 rfl) ?_
  refine va_get (D := (dC, dI)) (ci := 3) (v := .int (nI S)) (C := R_CT) (T := F_CT) (N := 8) hx hb hT i_CT hown hK hP 0 rfl rfl 0 (by decide) (hT _ m_142) (fun _ h9 => h9) rfl d_CT_init_84 ?_
  refine lv_aload_n hx hb d_CT_init_87 rfl (lv_at hl 1 rfl) ?_
  refine va_get (D := (dC, dI)) (ci := 3) (v := .int (nI C)) (C := R_CT) (T := F_CT) (N := 8) hx hb hT i_CT hown hK hP 0 rfl rfl 1 (by decide) (hT _ m_143) (fun _ h9 => h9) rfl d_CT_init_88 ?_
  refine lv_bipush (v := 16) hx hb d_CT_init_91 (by decide) ?_
  have hPc := hP.sub (ws' := [(q_4, .inr (2, [.int 0, .int 0, .int 0, .int 0, .null, .null, .null, .null, .null, .null, .int 0, .int 0]))]) [19] rfl
  have hDc := hD.sub (ws' := [(q_4, .inr (2, [.int 0, .int 0, .int 0, .int 0, .null, .null, .null, .null, .null, .null, .int 0, .int 0]))]) [19] (by decide) rfl
  have hFc := va_free (wc := [(q_4, .inr (2, [.int 0, .int 0, .int 0, .int 0, .null, .null, .null, .null, .null, .null, .int 0, .int 0]))]) hD hS hA [19] rfl
  refine va_callv (va_runI (As := [.int (nI M), .int (nI S), .int (nI C), .int 16]) (rest := [.ref q_4, .ref x]) ⟨hx, hb, hml, hown, hT⟩ (c_TR_init H.size q_4 ok1) (cwI 4 hT (gi_0 m_55) rfl rfl rfl (hT _ m_24) (hT _ m_53) (hT _ m_54) rfl p_TR_init.2 ⟨Nat.le_of_ble_eq_true rfl, Nat.le_of_ble_eq_true rfl⟩) ⟨iP_blind, iP_pre hK hPc hDc hNw⟩ rfl rfl hl.1 rfl (lv_room (Nat.le_of_ble_eq_true rfl)) d_CT_init_93 ⟨by decide, by decide⟩) hS (fun q _ h => hFc q h) hFc (fun u_5 t9 H1 locs ht hvm hw hB hz1 hk1 hS => ?_)
  obtain ⟨hP1, hD1⟩ := hB
  rw [ht] at hP1
  obtain ⟨a1, ha9⟩ : ∃ a : Nat → Nat, a = (fun k => if k = 0 then q_4 else u_5 k) := ⟨_, rfl⟩
  have hq9 : a1 0 = q_4 := by rw [ha9]; rfl
  have hP2 : va_P (dC, dI) kCl (tw_ cI cJ a1 M S C 16 ts_z) H1 := by rw [ha9]; exact hP1
  have hD2 := (show va_D _ (tw_ cI cJ a1 M S C 16 ts_z) from by rw [ha9]; exact hD1)
  clear ha9 hP1 hD1
  subst hq9
  obtain ⟨hP, hD⟩ := va_join (wr := [(x, .inr (3, [.int (nI S), .int (nI C), .long key, .ref (a0 0), .null, .ref q_1, .int 0, .int 0])), (q_1, .inl (cI, n, .inl (fun _ => 0))), ((a0 0), .inr (2, [.int (nI L), .int (nI (2 ^ L)), .int (nI S), .int (nI C), .ref (a0 1), .ref (a0 5), .ref (a0 6), .ref (a0 10), .ref (a0 12), .ref (a0 16), .int 0, .int 0])), ((a0 1), .inr (0, [.ref (a0 2), .ref (a0 3), .ref (a0 4), .int rw_z.2.2.2])), ((a0 2), .inl (cI, (tr_nN L S), .inl rw_z.1)), ((a0 3), .inl (cI, (tr_nN L S), .inl rw_z.2.1)), ((a0 4), .inl (cJ, (tr_nN L S), .inr (.inl rw_z.2.2.1))), ((a0 5), .inl (cI, (2 * 2 ^ L), .inl (fun _ => 0))), ((a0 6), .inr (0, [.ref (a0 7), .ref (a0 8), .ref (a0 9), .int rw_z.2.2.2])), ((a0 7), .inl (cI, C, .inl rw_z.1)), ((a0 8), .inl (cI, C, .inl rw_z.2.1)), ((a0 9), .inl (cJ, C, .inr (.inl rw_z.2.2.1))), ((a0 10), .inr (1, [.ref (a0 11), .int (nI ((fun _ => 0, 0) : Tl).2), .int (nI ((fun _ => 0, 0) : Tl).2)])), ((a0 11), .inl (cI, 600, .inl (((fun _ => 0, 0) : Tl).1))), ((a0 12), .inr (0, [.ref (a0 13), .ref (a0 14), .ref (a0 15), .int rw_z.2.2.2])), ((a0 13), .inl (cI, 64, .inl rw_z.1)), ((a0 14), .inl (cI, 64, .inl rw_z.2.1)), ((a0 15), .inl (cJ, 64, .inr (.inl rw_z.2.2.1))), ((a0 16), .inl (cI, 64, .inl (fun _ => 0)))]) (w1 := tw_ cI cJ a1 M S C 16 ts_z) hP hD [19] [0, 1, 2, 3, 4, 5, 6, 7, 8, 9, 10, 11, 12, 13, 14, 15, 16, 17, 18] rfl rfl (by decide) (by decide) hk1 hFc hP2 hD2
  generalize H1 = H at hP hS ⊢
  have hP : va_P (dC, dI) kCl [(x, .inr (3, [.int (nI S), .int (nI C), .long key, .ref (a0 0), .null, .ref q_1, .int 0, .int 0])), (q_1, .inl (cI, n, .inl (fun _ => 0))), ((a0 0), .inr (2, [.int (nI L), .int (nI (2 ^ L)), .int (nI S), .int (nI C), .ref (a0 1), .ref (a0 5), .ref (a0 6), .ref (a0 10), .ref (a0 12), .ref (a0 16), .int 0, .int 0])), ((a0 1), .inr (0, [.ref (a0 2), .ref (a0 3), .ref (a0 4), .int rw_z.2.2.2])), ((a0 2), .inl (cI, (tr_nN L S), .inl rw_z.1)), ((a0 3), .inl (cI, (tr_nN L S), .inl rw_z.2.1)), ((a0 4), .inl (cJ, (tr_nN L S), .inr (.inl rw_z.2.2.1))), ((a0 5), .inl (cI, (2 * 2 ^ L), .inl (fun _ => 0))), ((a0 6), .inr (0, [.ref (a0 7), .ref (a0 8), .ref (a0 9), .int rw_z.2.2.2])), ((a0 7), .inl (cI, C, .inl rw_z.1)), ((a0 8), .inl (cI, C, .inl rw_z.2.1)), ((a0 9), .inl (cJ, C, .inr (.inl rw_z.2.2.1))), ((a0 10), .inr (1, [.ref (a0 11), .int (nI ((fun _ => 0, 0) : Tl).2), .int (nI ((fun _ => 0, 0) : Tl).2)])), ((a0 11), .inl (cI, 600, .inl (((fun _ => 0, 0) : Tl).1))), ((a0 12), .inr (0, [.ref (a0 13), .ref (a0 14), .ref (a0 15), .int rw_z.2.2.2])), ((a0 13), .inl (cI, 64, .inl rw_z.1)), ((a0 14), .inl (cI, 64, .inl rw_z.2.1)), ((a0 15), .inl (cJ, 64, .inr (.inl rw_z.2.2.1))), ((a0 16), .inl (cI, 64, .inl (fun _ => 0))), ((a1 0), .inr (2, [.int (nI M), .int (nI (2 ^ M)), .int (nI S), .int (nI C), .ref (a1 1), .ref (a1 5), .ref (a1 6), .ref (a1 10), .ref (a1 12), .ref (a1 16), .int 0, .int 0])), ((a1 1), .inr (0, [.ref (a1 2), .ref (a1 3), .ref (a1 4), .int rw_z.2.2.2])), ((a1 2), .inl (cI, (tr_nN M S), .inl rw_z.1)), ((a1 3), .inl (cI, (tr_nN M S), .inl rw_z.2.1)), ((a1 4), .inl (cJ, (tr_nN M S), .inr (.inl rw_z.2.2.1))), ((a1 5), .inl (cI, (2 * 2 ^ M), .inl (fun _ => 0))), ((a1 6), .inr (0, [.ref (a1 7), .ref (a1 8), .ref (a1 9), .int rw_z.2.2.2])), ((a1 7), .inl (cI, C, .inl rw_z.1)), ((a1 8), .inl (cI, C, .inl rw_z.2.1)), ((a1 9), .inl (cJ, C, .inr (.inl rw_z.2.2.1))), ((a1 10), .inr (1, [.ref (a1 11), .int (nI ((fun _ => 0, 0) : Tl).2), .int (nI ((fun _ => 0, 0) : Tl).2)])), ((a1 11), .inl (cI, 600, .inl (((fun _ => 0, 0) : Tl).1))), ((a1 12), .inr (0, [.ref (a1 13), .ref (a1 14), .ref (a1 15), .int rw_z.2.2.2])), ((a1 13), .inl (cI, 16, .inl rw_z.1)), ((a1 14), .inl (cI, 16, .inl rw_z.2.1)), ((a1 15), .inl (cJ, 16, .inr (.inl rw_z.2.2.1))), ((a1 16), .inl (cI, 16, .inl (fun _ => 0)))] H := hP
  have hD : va_D A [(x, .inr (3, [.int (nI S), .int (nI C), .long key, .ref (a0 0), .null, .ref q_1, .int 0, .int 0])), (q_1, .inl (cI, n, .inl (fun _ => 0))), ((a0 0), .inr (2, [.int (nI L), .int (nI (2 ^ L)), .int (nI S), .int (nI C), .ref (a0 1), .ref (a0 5), .ref (a0 6), .ref (a0 10), .ref (a0 12), .ref (a0 16), .int 0, .int 0])), ((a0 1), .inr (0, [.ref (a0 2), .ref (a0 3), .ref (a0 4), .int rw_z.2.2.2])), ((a0 2), .inl (cI, (tr_nN L S), .inl rw_z.1)), ((a0 3), .inl (cI, (tr_nN L S), .inl rw_z.2.1)), ((a0 4), .inl (cJ, (tr_nN L S), .inr (.inl rw_z.2.2.1))), ((a0 5), .inl (cI, (2 * 2 ^ L), .inl (fun _ => 0))), ((a0 6), .inr (0, [.ref (a0 7), .ref (a0 8), .ref (a0 9), .int rw_z.2.2.2])), ((a0 7), .inl (cI, C, .inl rw_z.1)), ((a0 8), .inl (cI, C, .inl rw_z.2.1)), ((a0 9), .inl (cJ, C, .inr (.inl rw_z.2.2.1))), ((a0 10), .inr (1, [.ref (a0 11), .int (nI ((fun _ => 0, 0) : Tl).2), .int (nI ((fun _ => 0, 0) : Tl).2)])), ((a0 11), .inl (cI, 600, .inl (((fun _ => 0, 0) : Tl).1))), ((a0 12), .inr (0, [.ref (a0 13), .ref (a0 14), .ref (a0 15), .int rw_z.2.2.2])), ((a0 13), .inl (cI, 64, .inl rw_z.1)), ((a0 14), .inl (cI, 64, .inl rw_z.2.1)), ((a0 15), .inl (cJ, 64, .inr (.inl rw_z.2.2.1))), ((a0 16), .inl (cI, 64, .inl (fun _ => 0))), ((a1 0), .inr (2, [.int (nI M), .int (nI (2 ^ M)), .int (nI S), .int (nI C), .ref (a1 1), .ref (a1 5), .ref (a1 6), .ref (a1 10), .ref (a1 12), .ref (a1 16), .int 0, .int 0])), ((a1 1), .inr (0, [.ref (a1 2), .ref (a1 3), .ref (a1 4), .int rw_z.2.2.2])), ((a1 2), .inl (cI, (tr_nN M S), .inl rw_z.1)), ((a1 3), .inl (cI, (tr_nN M S), .inl rw_z.2.1)), ((a1 4), .inl (cJ, (tr_nN M S), .inr (.inl rw_z.2.2.1))), ((a1 5), .inl (cI, (2 * 2 ^ M), .inl (fun _ => 0))), ((a1 6), .inr (0, [.ref (a1 7), .ref (a1 8), .ref (a1 9), .int rw_z.2.2.2])), ((a1 7), .inl (cI, C, .inl rw_z.1)), ((a1 8), .inl (cI, C, .inl rw_z.2.1)), ((a1 9), .inl (cJ, C, .inr (.inl rw_z.2.2.1))), ((a1 10), .inr (1, [.ref (a1 11), .int (nI ((fun _ => 0, 0) : Tl).2), .int (nI ((fun _ => 0, 0) : Tl).2)])), ((a1 11), .inl (cI, 600, .inl (((fun _ => 0, 0) : Tl).1))), ((a1 12), .inr (0, [.ref (a1 13), .ref (a1 14), .ref (a1 15), .int rw_z.2.2.2])), ((a1 13), .inl (cI, 16, .inl rw_z.1)), ((a1 14), .inl (cI, 16, .inl rw_z.2.1)), ((a1 15), .inl (cJ, 16, .inr (.inl rw_z.2.2.1))), ((a1 16), .inl (cI, 16, .inl (fun _ => 0)))] := hD
  refine W.widen (k := 35) (n := 6134) (by decide) (by decide) ?_
  refine va_putF (D := (dC, dI)) (ci := 3) (v := .ref (a1 0)) (ty := (.object "CoinTree$Tree")) (C := R_CT) (T := F_CT) (N := 8) hx hb hT i_CT t_CT t_CT_ok n_CT hown hK hP hD hS 0 rfl rfl 4 (by decide) (hT _ m_146) (fun _ h9 => h9) rfl hin rfl (by decide +kernel) rfl rfl (Nat.le_of_ble_eq_true rfl) d_CT_init_96 (fun H locs hP hD hS => ?_)
  have hP : va_P (dC, dI) kCl [(x, .inr (3, [.int (nI S), .int (nI C), .long key, .ref (a0 0), .ref (a1 0), .ref q_1, .int 0, .int 0])), (q_1, .inl (cI, n, .inl (fun _ => 0))), ((a0 0), .inr (2, [.int (nI L), .int (nI (2 ^ L)), .int (nI S), .int (nI C), .ref (a0 1), .ref (a0 5), .ref (a0 6), .ref (a0 10), .ref (a0 12), .ref (a0 16), .int 0, .int 0])), ((a0 1), .inr (0, [.ref (a0 2), .ref (a0 3), .ref (a0 4), .int rw_z.2.2.2])), ((a0 2), .inl (cI, (tr_nN L S), .inl rw_z.1)), ((a0 3), .inl (cI, (tr_nN L S), .inl rw_z.2.1)), ((a0 4), .inl (cJ, (tr_nN L S), .inr (.inl rw_z.2.2.1))), ((a0 5), .inl (cI, (2 * 2 ^ L), .inl (fun _ => 0))), ((a0 6), .inr (0, [.ref (a0 7), .ref (a0 8), .ref (a0 9), .int rw_z.2.2.2])), ((a0 7), .inl (cI, C, .inl rw_z.1)), ((a0 8), .inl (cI, C, .inl rw_z.2.1)), ((a0 9), .inl (cJ, C, .inr (.inl rw_z.2.2.1))), ((a0 10), .inr (1, [.ref (a0 11), .int (nI ((fun _ => 0, 0) : Tl).2), .int (nI ((fun _ => 0, 0) : Tl).2)])), ((a0 11), .inl (cI, 600, .inl (((fun _ => 0, 0) : Tl).1))), ((a0 12), .inr (0, [.ref (a0 13), .ref (a0 14), .ref (a0 15), .int rw_z.2.2.2])), ((a0 13), .inl (cI, 64, .inl rw_z.1)), ((a0 14), .inl (cI, 64, .inl rw_z.2.1)), ((a0 15), .inl (cJ, 64, .inr (.inl rw_z.2.2.1))), ((a0 16), .inl (cI, 64, .inl (fun _ => 0))), ((a1 0), .inr (2, [.int (nI M), .int (nI (2 ^ M)), .int (nI S), .int (nI C), .ref (a1 1), .ref (a1 5), .ref (a1 6), .ref (a1 10), .ref (a1 12), .ref (a1 16), .int 0, .int 0])), ((a1 1), .inr (0, [.ref (a1 2), .ref (a1 3), .ref (a1 4), .int rw_z.2.2.2])), ((a1 2), .inl (cI, (tr_nN M S), .inl rw_z.1)), ((a1 3), .inl (cI, (tr_nN M S), .inl rw_z.2.1)), ((a1 4), .inl (cJ, (tr_nN M S), .inr (.inl rw_z.2.2.1))), ((a1 5), .inl (cI, (2 * 2 ^ M), .inl (fun _ => 0))), ((a1 6), .inr (0, [.ref (a1 7), .ref (a1 8), .ref (a1 9), .int rw_z.2.2.2])), ((a1 7), .inl (cI, C, .inl rw_z.1)), ((a1 8), .inl (cI, C, .inl rw_z.2.1)), ((a1 9), .inl (cJ, C, .inr (.inl rw_z.2.2.1))), ((a1 10), .inr (1, [.ref (a1 11), .int (nI ((fun _ => 0, 0) : Tl).2), .int (nI ((fun _ => 0, 0) : Tl).2)])), ((a1 11), .inl (cI, 600, .inl (((fun _ => 0, 0) : Tl).1))), ((a1 12), .inr (0, [.ref (a1 13), .ref (a1 14), .ref (a1 15), .int rw_z.2.2.2])), ((a1 13), .inl (cI, 16, .inl rw_z.1)), ((a1 14), .inl (cI, 16, .inl rw_z.2.1)), ((a1 15), .inl (cJ, 16, .inr (.inl rw_z.2.2.1))), ((a1 16), .inl (cI, 16, .inl (fun _ => 0)))] H := hP
  have hD : va_D A [(x, .inr (3, [.int (nI S), .int (nI C), .long key, .ref (a0 0), .ref (a1 0), .ref q_1, .int 0, .int 0])), (q_1, .inl (cI, n, .inl (fun _ => 0))), ((a0 0), .inr (2, [.int (nI L), .int (nI (2 ^ L)), .int (nI S), .int (nI C), .ref (a0 1), .ref (a0 5), .ref (a0 6), .ref (a0 10), .ref (a0 12), .ref (a0 16), .int 0, .int 0])), ((a0 1), .inr (0, [.ref (a0 2), .ref (a0 3), .ref (a0 4), .int rw_z.2.2.2])), ((a0 2), .inl (cI, (tr_nN L S), .inl rw_z.1)), ((a0 3), .inl (cI, (tr_nN L S), .inl rw_z.2.1)), ((a0 4), .inl (cJ, (tr_nN L S), .inr (.inl rw_z.2.2.1))), ((a0 5), .inl (cI, (2 * 2 ^ L), .inl (fun _ => 0))), ((a0 6), .inr (0, [.ref (a0 7), .ref (a0 8), .ref (a0 9), .int rw_z.2.2.2])), ((a0 7), .inl (cI, C, .inl rw_z.1)), ((a0 8), .inl (cI, C, .inl rw_z.2.1)), ((a0 9), .inl (cJ, C, .inr (.inl rw_z.2.2.1))), ((a0 10), .inr (1, [.ref (a0 11), .int (nI ((fun _ => 0, 0) : Tl).2), .int (nI ((fun _ => 0, 0) : Tl).2)])), ((a0 11), .inl (cI, 600, .inl (((fun _ => 0, 0) : Tl).1))), ((a0 12), .inr (0, [.ref (a0 13), .ref (a0 14), .ref (a0 15), .int rw_z.2.2.2])), ((a0 13), .inl (cI, 64, .inl rw_z.1)), ((a0 14), .inl (cI, 64, .inl rw_z.2.1)), ((a0 15), .inl (cJ, 64, .inr (.inl rw_z.2.2.1))), ((a0 16), .inl (cI, 64, .inl (fun _ => 0))), ((a1 0), .inr (2, [.int (nI M), .int (nI (2 ^ M)), .int (nI S), .int (nI C), .ref (a1 1), .ref (a1 5), .ref (a1 6), .ref (a1 10), .ref (a1 12), .ref (a1 16), .int 0, .int 0])), ((a1 1), .inr (0, [.ref (a1 2), .ref (a1 3), .ref (a1 4), .int rw_z.2.2.2])), ((a1 2), .inl (cI, (tr_nN M S), .inl rw_z.1)), ((a1 3), .inl (cI, (tr_nN M S), .inl rw_z.2.1)), ((a1 4), .inl (cJ, (tr_nN M S), .inr (.inl rw_z.2.2.1))), ((a1 5), .inl (cI, (2 * 2 ^ M), .inl (fun _ => 0))), ((a1 6), .inr (0, [.ref (a1 7), .ref (a1 8), .ref (a1 9), .int rw_z.2.2.2])), ((a1 7), .inl (cI, C, .inl rw_z.1)), ((a1 8), .inl (cI, C, .inl rw_z.2.1)), ((a1 9), .inl (cJ, C, .inr (.inl rw_z.2.2.1))), ((a1 10), .inr (1, [.ref (a1 11), .int (nI ((fun _ => 0, 0) : Tl).2), .int (nI ((fun _ => 0, 0) : Tl).2)])), ((a1 11), .inl (cI, 600, .inl (((fun _ => 0, 0) : Tl).1))), ((a1 12), .inr (0, [.ref (a1 13), .ref (a1 14), .ref (a1 15), .int rw_z.2.2.2])), ((a1 13), .inl (cI, 16, .inl rw_z.1)), ((a1 14), .inl (cI, 16, .inl rw_z.2.1)), ((a1 15), .inl (cJ, 16, .inr (.inl rw_z.2.2.1))), ((a1 16), .inl (cI, 16, .inl (fun _ => 0)))] := hD
  refine lv_iconst (v := 0) hx hb d_CT_init_99 (by decide) ?_
  refine lv_istore (lv' := [(7, .int 0), (6, .int (nI L)), (0, .ref x), (1, .int lv), (2, .int sl), (3, .int cp), (4, .long key)]) hx hb d_CT_init_100 hl (by decide) rfl (fun ls hl => ?_)
  have lp : ∀ (N k : Nat) (ls : Array Slot) (H : Heap) (locs : List Loc), 16 - k < N → k ≤ 16 → va_P (dC, dI) kCl [(x, .inr (3, [.int (nI S), .int (nI C), .long key, .ref (a0 0), .ref (a1 0), .ref q_1, .int 0, .int 0])), (q_1, .inl (cI, n, .inl (ct_ml0 M k))), ((a0 0), .inr (2, [.int (nI L), .int (nI (2 ^ L)), .int (nI S), .int (nI C), .ref (a0 1), .ref (a0 5), .ref (a0 6), .ref (a0 10), .ref (a0 12), .ref (a0 16), .int 0, .int 0])), ((a0 1), .inr (0, [.ref (a0 2), .ref (a0 3), .ref (a0 4), .int rw_z.2.2.2])), ((a0 2), .inl (cI, (tr_nN L S), .inl rw_z.1)), ((a0 3), .inl (cI, (tr_nN L S), .inl rw_z.2.1)), ((a0 4), .inl (cJ, (tr_nN L S), .inr (.inl rw_z.2.2.1))), ((a0 5), .inl (cI, (2 * 2 ^ L), .inl (fun _ => 0))), ((a0 6), .inr (0, [.ref (a0 7), .ref (a0 8), .ref (a0 9), .int rw_z.2.2.2])), ((a0 7), .inl (cI, C, .inl rw_z.1)), ((a0 8), .inl (cI, C, .inl rw_z.2.1)), ((a0 9), .inl (cJ, C, .inr (.inl rw_z.2.2.1))), ((a0 10), .inr (1, [.ref (a0 11), .int (nI ((fun _ => 0, 0) : Tl).2), .int (nI ((fun _ => 0, 0) : Tl).2)])), ((a0 11), .inl (cI, 600, .inl (((fun _ => 0, 0) : Tl).1))), ((a0 12), .inr (0, [.ref (a0 13), .ref (a0 14), .ref (a0 15), .int rw_z.2.2.2])), ((a0 13), .inl (cI, 64, .inl rw_z.1)), ((a0 14), .inl (cI, 64, .inl rw_z.2.1)), ((a0 15), .inl (cJ, 64, .inr (.inl rw_z.2.2.1))), ((a0 16), .inl (cI, 64, .inl (fun _ => 0))), ((a1 0), .inr (2, [.int (nI M), .int (nI (2 ^ M)), .int (nI S), .int (nI C), .ref (a1 1), .ref (a1 5), .ref (a1 6), .ref (a1 10), .ref (a1 12), .ref (a1 16), .int 0, .int 0])), ((a1 1), .inr (0, [.ref (a1 2), .ref (a1 3), .ref (a1 4), .int rw_z.2.2.2])), ((a1 2), .inl (cI, (tr_nN M S), .inl rw_z.1)), ((a1 3), .inl (cI, (tr_nN M S), .inl rw_z.2.1)), ((a1 4), .inl (cJ, (tr_nN M S), .inr (.inl rw_z.2.2.1))), ((a1 5), .inl (cI, (2 * 2 ^ M), .inl (fun _ => 0))), ((a1 6), .inr (0, [.ref (a1 7), .ref (a1 8), .ref (a1 9), .int rw_z.2.2.2])), ((a1 7), .inl (cI, C, .inl rw_z.1)), ((a1 8), .inl (cI, C, .inl rw_z.2.1)), ((a1 9), .inl (cJ, C, .inr (.inl rw_z.2.2.1))), ((a1 10), .inr (1, [.ref (a1 11), .int (nI ((fun _ => 0, 0) : Tl).2), .int (nI ((fun _ => 0, 0) : Tl).2)])), ((a1 11), .inl (cI, 600, .inl (((fun _ => 0, 0) : Tl).1))), ((a1 12), .inr (0, [.ref (a1 13), .ref (a1 14), .ref (a1 15), .int rw_z.2.2.2])), ((a1 13), .inl (cI, 16, .inl rw_z.1)), ((a1 14), .inl (cI, 16, .inl rw_z.2.1)), ((a1 15), .inl (cJ, 16, .inr (.inl rw_z.2.2.1))), ((a1 16), .inl (cI, 16, .inl (fun _ => 0)))] H → va_D A [(x, .inr (3, [.int (nI S), .int (nI C), .long key, .ref (a0 0), .ref (a1 0), .ref q_1, .int 0, .int 0])), (q_1, .inl (cI, n, .inl (ct_ml0 M k))), ((a0 0), .inr (2, [.int (nI L), .int (nI (2 ^ L)), .int (nI S), .int (nI C), .ref (a0 1), .ref (a0 5), .ref (a0 6), .ref (a0 10), .ref (a0 12), .ref (a0 16), .int 0, .int 0])), ((a0 1), .inr (0, [.ref (a0 2), .ref (a0 3), .ref (a0 4), .int rw_z.2.2.2])), ((a0 2), .inl (cI, (tr_nN L S), .inl rw_z.1)), ((a0 3), .inl (cI, (tr_nN L S), .inl rw_z.2.1)), ((a0 4), .inl (cJ, (tr_nN L S), .inr (.inl rw_z.2.2.1))), ((a0 5), .inl (cI, (2 * 2 ^ L), .inl (fun _ => 0))), ((a0 6), .inr (0, [.ref (a0 7), .ref (a0 8), .ref (a0 9), .int rw_z.2.2.2])), ((a0 7), .inl (cI, C, .inl rw_z.1)), ((a0 8), .inl (cI, C, .inl rw_z.2.1)), ((a0 9), .inl (cJ, C, .inr (.inl rw_z.2.2.1))), ((a0 10), .inr (1, [.ref (a0 11), .int (nI ((fun _ => 0, 0) : Tl).2), .int (nI ((fun _ => 0, 0) : Tl).2)])), ((a0 11), .inl (cI, 600, .inl (((fun _ => 0, 0) : Tl).1))), ((a0 12), .inr (0, [.ref (a0 13), .ref (a0 14), .ref (a0 15), .int rw_z.2.2.2])), ((a0 13), .inl (cI, 64, .inl rw_z.1)), ((a0 14), .inl (cI, 64, .inl rw_z.2.1)), ((a0 15), .inl (cJ, 64, .inr (.inl rw_z.2.2.1))), ((a0 16), .inl (cI, 64, .inl (fun _ => 0))), ((a1 0), .inr (2, [.int (nI M), .int (nI (2 ^ M)), .int (nI S), .int (nI C), .ref (a1 1), .ref (a1 5), .ref (a1 6), .ref (a1 10), .ref (a1 12), .ref (a1 16), .int 0, .int 0])), ((a1 1), .inr (0, [.ref (a1 2), .ref (a1 3), .ref (a1 4), .int rw_z.2.2.2])), ((a1 2), .inl (cI, (tr_nN M S), .inl rw_z.1)), ((a1 3), .inl (cI, (tr_nN M S), .inl rw_z.2.1)), ((a1 4), .inl (cJ, (tr_nN M S), .inr (.inl rw_z.2.2.1))), ((a1 5), .inl (cI, (2 * 2 ^ M), .inl (fun _ => 0))), ((a1 6), .inr (0, [.ref (a1 7), .ref (a1 8), .ref (a1 9), .int rw_z.2.2.2])), ((a1 7), .inl (cI, C, .inl rw_z.1)), ((a1 8), .inl (cI, C, .inl rw_z.2.1)), ((a1 9), .inl (cJ, C, .inr (.inl rw_z.2.2.1))), ((a1 10), .inr (1, [.ref (a1 11), .int (nI ((fun _ => 0, 0) : Tl).2), .int (nI ((fun _ => 0, 0) : Tl).2)])), ((a1 11), .inl (cI, 600, .inl (((fun _ => 0, 0) : Tl).1))), ((a1 12), .inr (0, [.ref (a1 13), .ref (a1 14), .ref (a1 15), .int rw_z.2.2.2])), ((a1 13), .inl (cI, 16, .inl rw_z.1)), ((a1 14), .inl (cI, 16, .inl rw_z.2.1)), ((a1 15), .inl (cJ, 16, .inr (.inl rw_z.2.2.1))), ((a1 16), .inl (cI, 16, .inl (fun _ => 0)))] → va_S A s.heap H locs → lv_has ls 8 [(7, .int (nI k)), (0, .ref x)] → W p l e ({ frames := 3, cells := 35, slots := 6134, locals := 67 } : Room) s m ([.ref x, .int lv, .int sl, .int cp, .long key] : List Value).toArray below meth c H locs 35 6134 (MQ below (iQ (dC, dI) kCl (fun u => (x, .inr (3, [.int (nI S), .int (nI C), .long key, .ref (u 1), .ref (u 2), .ref (u 0), .int 0, .int 0])) :: (u 0, .inl (cI, n, .inl (ct_ml0 M 16))) :: (tw_ cI cJ (fun k => u (2 * k + 1)) L S C 64 ts_z ++ tw_ cI cJ (fun k => u (2 * k + 2)) M S C 16 ts_z)) A) ([.ref x, .int lv, .int sl, .int cp, .long key] : List Value).toArray s 35 6134 A) (F0 m 102 ls []) := by
    intro N
    induction N with
    | zero => intro k ls H locs hN; omega
    | succ N ih =>
      intro k ls H locs hN hk hP hD hS hl
      refine lv_iload hx hb d_CT_init_102 (lv_at hl 0 rfl) ?_
      refine lv_bipush (v := 16) hx hb d_CT_init_104 (by decide) ?_
      refine lv_icmp_ge (tgt := 131) hx hb d_CT_init_106 (by decide) (fun c_6 => ?_) (fun c_6 => ?_)
      · have hk16 : k = 16 := by rw [show (16 : Int32) = nI 16 from rfl, nI_leI (by omega) (by omega)] at c_6; omega
        subst hk16
        have hP9 := hP.sub (ws' := [(x, .inr (3, [.int (nI S), .int (nI C), .long key, .ref (a0 0), .ref (a1 0), .ref q_1, .int 0, .int 0])), (q_1, .inl (cI, n, .inl (ct_ml0 M 16))), ((a0 0), .inr (2, [.int (nI L), .int (nI (2 ^ L)), .int (nI S), .int (nI C), .ref (a0 1), .ref (a0 5), .ref (a0 6), .ref (a0 10), .ref (a0 12), .ref (a0 16), .int 0, .int 0])), ((a0 1), .inr (0, [.ref (a0 2), .ref (a0 3), .ref (a0 4), .int rw_z.2.2.2])), ((a0 2), .inl (cI, (tr_nN L S), .inl rw_z.1)), ((a0 3), .inl (cI, (tr_nN L S), .inl rw_z.2.1)), ((a0 4), .inl (cJ, (tr_nN L S), .inr (.inl rw_z.2.2.1))), ((a0 5), .inl (cI, (2 * 2 ^ L), .inl (fun _ => 0))), ((a0 6), .inr (0, [.ref (a0 7), .ref (a0 8), .ref (a0 9), .int rw_z.2.2.2])), ((a0 7), .inl (cI, C, .inl rw_z.1)), ((a0 8), .inl (cI, C, .inl rw_z.2.1)), ((a0 9), .inl (cJ, C, .inr (.inl rw_z.2.2.1))), ((a0 10), .inr (1, [.ref (a0 11), .int (nI ((fun _ => 0, 0) : Tl).2), .int (nI ((fun _ => 0, 0) : Tl).2)])), ((a0 11), .inl (cI, 600, .inl (((fun _ => 0, 0) : Tl).1))), ((a0 12), .inr (0, [.ref (a0 13), .ref (a0 14), .ref (a0 15), .int rw_z.2.2.2])), ((a0 13), .inl (cI, 64, .inl rw_z.1)), ((a0 14), .inl (cI, 64, .inl rw_z.2.1)), ((a0 15), .inl (cJ, 64, .inr (.inl rw_z.2.2.1))), ((a0 16), .inl (cI, 64, .inl (fun _ => 0))), ((a1 0), .inr (2, [.int (nI M), .int (nI (2 ^ M)), .int (nI S), .int (nI C), .ref (a1 1), .ref (a1 5), .ref (a1 6), .ref (a1 10), .ref (a1 12), .ref (a1 16), .int 0, .int 0])), ((a1 1), .inr (0, [.ref (a1 2), .ref (a1 3), .ref (a1 4), .int rw_z.2.2.2])), ((a1 2), .inl (cI, (tr_nN M S), .inl rw_z.1)), ((a1 3), .inl (cI, (tr_nN M S), .inl rw_z.2.1)), ((a1 4), .inl (cJ, (tr_nN M S), .inr (.inl rw_z.2.2.1))), ((a1 5), .inl (cI, (2 * 2 ^ M), .inl (fun _ => 0))), ((a1 6), .inr (0, [.ref (a1 7), .ref (a1 8), .ref (a1 9), .int rw_z.2.2.2])), ((a1 7), .inl (cI, C, .inl rw_z.1)), ((a1 8), .inl (cI, C, .inl rw_z.2.1)), ((a1 9), .inl (cJ, C, .inr (.inl rw_z.2.2.1))), ((a1 10), .inr (1, [.ref (a1 11), .int (nI ((fun _ => 0, 0) : Tl).2), .int (nI ((fun _ => 0, 0) : Tl).2)])), ((a1 11), .inl (cI, 600, .inl (((fun _ => 0, 0) : Tl).1))), ((a1 12), .inr (0, [.ref (a1 13), .ref (a1 14), .ref (a1 15), .int rw_z.2.2.2])), ((a1 13), .inl (cI, 16, .inl rw_z.1)), ((a1 14), .inl (cI, 16, .inl rw_z.2.1)), ((a1 15), .inl (cJ, 16, .inr (.inl rw_z.2.2.1))), ((a1 16), .inl (cI, 16, .inl (fun _ => 0)))]) [0, 1, 2, 3, 4, 5, 6, 7, 8, 9, 10, 11, 12, 13, 14, 15, 16, 17, 18, 19, 20, 21, 22, 23, 24, 25, 26, 27, 28, 29, 30, 31, 32, 33, 34, 35] rfl
        have hD9 := hD.sub (ws' := [(x, .inr (3, [.int (nI S), .int (nI C), .long key, .ref (a0 0), .ref (a1 0), .ref q_1, .int 0, .int 0])), (q_1, .inl (cI, n, .inl (ct_ml0 M 16))), ((a0 0), .inr (2, [.int (nI L), .int (nI (2 ^ L)), .int (nI S), .int (nI C), .ref (a0 1), .ref (a0 5), .ref (a0 6), .ref (a0 10), .ref (a0 12), .ref (a0 16), .int 0, .int 0])), ((a0 1), .inr (0, [.ref (a0 2), .ref (a0 3), .ref (a0 4), .int rw_z.2.2.2])), ((a0 2), .inl (cI, (tr_nN L S), .inl rw_z.1)), ((a0 3), .inl (cI, (tr_nN L S), .inl rw_z.2.1)), ((a0 4), .inl (cJ, (tr_nN L S), .inr (.inl rw_z.2.2.1))), ((a0 5), .inl (cI, (2 * 2 ^ L), .inl (fun _ => 0))), ((a0 6), .inr (0, [.ref (a0 7), .ref (a0 8), .ref (a0 9), .int rw_z.2.2.2])), ((a0 7), .inl (cI, C, .inl rw_z.1)), ((a0 8), .inl (cI, C, .inl rw_z.2.1)), ((a0 9), .inl (cJ, C, .inr (.inl rw_z.2.2.1))), ((a0 10), .inr (1, [.ref (a0 11), .int (nI ((fun _ => 0, 0) : Tl).2), .int (nI ((fun _ => 0, 0) : Tl).2)])), ((a0 11), .inl (cI, 600, .inl (((fun _ => 0, 0) : Tl).1))), ((a0 12), .inr (0, [.ref (a0 13), .ref (a0 14), .ref (a0 15), .int rw_z.2.2.2])), ((a0 13), .inl (cI, 64, .inl rw_z.1)), ((a0 14), .inl (cI, 64, .inl rw_z.2.1)), ((a0 15), .inl (cJ, 64, .inr (.inl rw_z.2.2.1))), ((a0 16), .inl (cI, 64, .inl (fun _ => 0))), ((a1 0), .inr (2, [.int (nI M), .int (nI (2 ^ M)), .int (nI S), .int (nI C), .ref (a1 1), .ref (a1 5), .ref (a1 6), .ref (a1 10), .ref (a1 12), .ref (a1 16), .int 0, .int 0])), ((a1 1), .inr (0, [.ref (a1 2), .ref (a1 3), .ref (a1 4), .int rw_z.2.2.2])), ((a1 2), .inl (cI, (tr_nN M S), .inl rw_z.1)), ((a1 3), .inl (cI, (tr_nN M S), .inl rw_z.2.1)), ((a1 4), .inl (cJ, (tr_nN M S), .inr (.inl rw_z.2.2.1))), ((a1 5), .inl (cI, (2 * 2 ^ M), .inl (fun _ => 0))), ((a1 6), .inr (0, [.ref (a1 7), .ref (a1 8), .ref (a1 9), .int rw_z.2.2.2])), ((a1 7), .inl (cI, C, .inl rw_z.1)), ((a1 8), .inl (cI, C, .inl rw_z.2.1)), ((a1 9), .inl (cJ, C, .inr (.inl rw_z.2.2.1))), ((a1 10), .inr (1, [.ref (a1 11), .int (nI ((fun _ => 0, 0) : Tl).2), .int (nI ((fun _ => 0, 0) : Tl).2)])), ((a1 11), .inl (cI, 600, .inl (((fun _ => 0, 0) : Tl).1))), ((a1 12), .inr (0, [.ref (a1 13), .ref (a1 14), .ref (a1 15), .int rw_z.2.2.2])), ((a1 13), .inl (cI, 16, .inl rw_z.1)), ((a1 14), .inl (cI, 16, .inl rw_z.2.1)), ((a1 15), .inl (cJ, 16, .inr (.inl rw_z.2.2.1))), ((a1 16), .inl (cI, 16, .inl (fun _ => 0)))]) [0, 1, 2, 3, 4, 5, 6, 7, 8, 9, 10, 11, 12, 13, 14, 15, 16, 17, 18, 19, 20, 21, 22, 23, 24, 25, 26, 27, 28, 29, 30, 31, 32, 33, 34, 35] (by decide) rfl
        refine W.widen (k := 35) (n := 6134) (by decide) (by first | exact Nat.le_refl _ | omega) ?_
        exact W.vret hx hb hr (fun t9 ht _ => iQ_end (fun k => if k = 0 then q_1 else if k = 1 then a0 0 else if k = 2 then a1 0 else if k = 3 then a0 1 else if k = 4 then a1 1 else if k = 5 then a0 2 else if k = 6 then a1 2 else if k = 7 then a0 3 else if k = 8 then a1 3 else if k = 9 then a0 4 else if k = 10 then a1 4 else if k = 11 then a0 5 else if k = 12 then a1 5 else if k = 13 then a0 6 else if k = 14 then a1 6 else if k = 15 then a0 7 else if k = 16 then a1 7 else if k = 17 then a0 8 else if k = 18 then a1 8 else if k = 19 then a0 9 else if k = 20 then a1 9 else if k = 21 then a0 10 else if k = 22 then a1 10 else if k = 23 then a0 11 else if k = 24 then a1 11 else if k = 25 then a0 12 else if k = 26 then a1 12 else if k = 27 then a0 13 else if k = 28 then a1 13 else if k = 29 then a0 14 else if k = 30 then a1 14 else if k = 31 then a0 15 else if k = 32 then a1 15 else if k = 33 then a0 16 else if k = 34 then a1 16 else 0) rfl hP9 hD9 hS ht) hS.2.2 d_CT_init_131 hlocks
      · have hk16 : k < 16 := by rw [show (16 : Int32) = nI 16 from rfl, nI_leI (by omega) (by omega)] at c_6; omega
        refine lv_aload_n hx hb d_CT_init_109 rfl (lv_at hl 1 rfl) ?_
        refine va_get (D := (dC, dI)) (ci := 3) (v := .ref q_1) (C := R_CT) (T := F_CT) (N := 8) hx hb hT i_CT hown hK hP 0 rfl rfl 5 (by decide) (hT _ m_147) (fun _ h9 => h9) rfl d_CT_init_110 ?_
        refine lv_iload hx hb d_CT_init_113 (lv_at hl 0 rfl) ?_
        refine lv_aload_n hx hb d_CT_init_115 rfl (lv_at hl 1 rfl) ?_
        refine va_get (D := (dC, dI)) (ci := 3) (v := .ref (a1 0)) (C := R_CT) (T := F_CT) (N := 8) hx hb hT i_CT hown hK hP 0 rfl rfl 4 (by decide) (hT _ m_146) (fun _ h9 => h9) rfl d_CT_init_116 ?_
        refine lv_iload hx hb d_CT_init_119 (lv_at hl 0 rfl) ?_
        refine zc_i (va_runV (As := [.int (nI k)]) (rest := [.int (nI k), .ref q_1]) ⟨hx, hb, hml, hown, hT⟩ (c_TR_leafModulo (t := ts_z) ok1 (hP.sub (ws' := tw_ cI cJ a1 M S C 16 ts_z) [19, 20, 21, 22, 23, 24, 25, 26, 27, 28, 29, 30, 31, 32, 33, 34, 35] rfl) (nI k)) (cwV 1 hT (gi_V m_141 m_138 m_139 m_140 m_24) rfl rfl rfl p_TR_leafModulo ⟨Nat.le_of_ble_eq_true rfl, Nat.le_of_ble_eq_true rfl⟩) ⟨zP_blind, va_recv hK hP (ci := 2) (q0 := 19) rfl rfl, zP_pre hK⟩ rfl rfl hl.1 rfl (lv_room (Nat.le_of_ble_eq_true rfl)) d_CT_init_121 ⟨by decide, by decide⟩) hS (fun locs hS => ?_)
        refine va_iast hx hb hK hP hD hS 1 0 rfl rfl (vp_in_nI (by omega) (by omega)) d_CT_init_124 (fun H locs hP hD hS => ?_)
        rw [nI_clamp (show k < 2 ^ 31 by omega)] at hP hD
        refine lv_iinc (v := (nI k) + 1) (lv' := [(7, .int ((nI k) + 1)), (0, .ref x)]) hx hb d_CT_init_125 hl (k := 0) rfl rfl (by decide) rfl (fun ls hl => ?_)
        refine lv_goto (tgt := 102) hx hb d_CT_init_128 (by decide) ?_
        exact ih (k + 1) ls H locs (by omega) (by omega) (show va_P (dC, dI) kCl [(x, .inr (3, [.int (nI S), .int (nI C), .long key, .ref (a0 0), .ref (a1 0), .ref q_1, .int 0, .int 0])), (q_1, .inl (cI, n, .inl (ct_ml0 M (k + 1)))), ((a0 0), .inr (2, [.int (nI L), .int (nI (2 ^ L)), .int (nI S), .int (nI C), .ref (a0 1), .ref (a0 5), .ref (a0 6), .ref (a0 10), .ref (a0 12), .ref (a0 16), .int 0, .int 0])), ((a0 1), .inr (0, [.ref (a0 2), .ref (a0 3), .ref (a0 4), .int rw_z.2.2.2])), ((a0 2), .inl (cI, (tr_nN L S), .inl rw_z.1)), ((a0 3), .inl (cI, (tr_nN L S), .inl rw_z.2.1)), ((a0 4), .inl (cJ, (tr_nN L S), .inr (.inl rw_z.2.2.1))), ((a0 5), .inl (cI, (2 * 2 ^ L), .inl (fun _ => 0))), ((a0 6), .inr (0, [.ref (a0 7), .ref (a0 8), .ref (a0 9), .int rw_z.2.2.2])), ((a0 7), .inl (cI, C, .inl rw_z.1)), ((a0 8), .inl (cI, C, .inl rw_z.2.1)), ((a0 9), .inl (cJ, C, .inr (.inl rw_z.2.2.1))), ((a0 10), .inr (1, [.ref (a0 11), .int (nI ((fun _ => 0, 0) : Tl).2), .int (nI ((fun _ => 0, 0) : Tl).2)])), ((a0 11), .inl (cI, 600, .inl (((fun _ => 0, 0) : Tl).1))), ((a0 12), .inr (0, [.ref (a0 13), .ref (a0 14), .ref (a0 15), .int rw_z.2.2.2])), ((a0 13), .inl (cI, 64, .inl rw_z.1)), ((a0 14), .inl (cI, 64, .inl rw_z.2.1)), ((a0 15), .inl (cJ, 64, .inr (.inl rw_z.2.2.1))), ((a0 16), .inl (cI, 64, .inl (fun _ => 0))), ((a1 0), .inr (2, [.int (nI M), .int (nI (2 ^ M)), .int (nI S), .int (nI C), .ref (a1 1), .ref (a1 5), .ref (a1 6), .ref (a1 10), .ref (a1 12), .ref (a1 16), .int 0, .int 0])), ((a1 1), .inr (0, [.ref (a1 2), .ref (a1 3), .ref (a1 4), .int rw_z.2.2.2])), ((a1 2), .inl (cI, (tr_nN M S), .inl rw_z.1)), ((a1 3), .inl (cI, (tr_nN M S), .inl rw_z.2.1)), ((a1 4), .inl (cJ, (tr_nN M S), .inr (.inl rw_z.2.2.1))), ((a1 5), .inl (cI, (2 * 2 ^ M), .inl (fun _ => 0))), ((a1 6), .inr (0, [.ref (a1 7), .ref (a1 8), .ref (a1 9), .int rw_z.2.2.2])), ((a1 7), .inl (cI, C, .inl rw_z.1)), ((a1 8), .inl (cI, C, .inl rw_z.2.1)), ((a1 9), .inl (cJ, C, .inr (.inl rw_z.2.2.1))), ((a1 10), .inr (1, [.ref (a1 11), .int (nI ((fun _ => 0, 0) : Tl).2), .int (nI ((fun _ => 0, 0) : Tl).2)])), ((a1 11), .inl (cI, 600, .inl (((fun _ => 0, 0) : Tl).1))), ((a1 12), .inr (0, [.ref (a1 13), .ref (a1 14), .ref (a1 15), .int rw_z.2.2.2])), ((a1 13), .inl (cI, 16, .inl rw_z.1)), ((a1 14), .inl (cI, 16, .inl rw_z.2.1)), ((a1 15), .inl (cJ, 16, .inr (.inl rw_z.2.2.1))), ((a1 16), .inl (cI, 16, .inl (fun _ => 0)))] H from hP) (show va_D A [(x, .inr (3, [.int (nI S), .int (nI C), .long key, .ref (a0 0), .ref (a1 0), .ref q_1, .int 0, .int 0])), (q_1, .inl (cI, n, .inl (ct_ml0 M (k + 1)))), ((a0 0), .inr (2, [.int (nI L), .int (nI (2 ^ L)), .int (nI S), .int (nI C), .ref (a0 1), .ref (a0 5), .ref (a0 6), .ref (a0 10), .ref (a0 12), .ref (a0 16), .int 0, .int 0])), ((a0 1), .inr (0, [.ref (a0 2), .ref (a0 3), .ref (a0 4), .int rw_z.2.2.2])), ((a0 2), .inl (cI, (tr_nN L S), .inl rw_z.1)), ((a0 3), .inl (cI, (tr_nN L S), .inl rw_z.2.1)), ((a0 4), .inl (cJ, (tr_nN L S), .inr (.inl rw_z.2.2.1))), ((a0 5), .inl (cI, (2 * 2 ^ L), .inl (fun _ => 0))), ((a0 6), .inr (0, [.ref (a0 7), .ref (a0 8), .ref (a0 9), .int rw_z.2.2.2])), ((a0 7), .inl (cI, C, .inl rw_z.1)), ((a0 8), .inl (cI, C, .inl rw_z.2.1)), ((a0 9), .inl (cJ, C, .inr (.inl rw_z.2.2.1))), ((a0 10), .inr (1, [.ref (a0 11), .int (nI ((fun _ => 0, 0) : Tl).2), .int (nI ((fun _ => 0, 0) : Tl).2)])), ((a0 11), .inl (cI, 600, .inl (((fun _ => 0, 0) : Tl).1))), ((a0 12), .inr (0, [.ref (a0 13), .ref (a0 14), .ref (a0 15), .int rw_z.2.2.2])), ((a0 13), .inl (cI, 64, .inl rw_z.1)), ((a0 14), .inl (cI, 64, .inl rw_z.2.1)), ((a0 15), .inl (cJ, 64, .inr (.inl rw_z.2.2.1))), ((a0 16), .inl (cI, 64, .inl (fun _ => 0))), ((a1 0), .inr (2, [.int (nI M), .int (nI (2 ^ M)), .int (nI S), .int (nI C), .ref (a1 1), .ref (a1 5), .ref (a1 6), .ref (a1 10), .ref (a1 12), .ref (a1 16), .int 0, .int 0])), ((a1 1), .inr (0, [.ref (a1 2), .ref (a1 3), .ref (a1 4), .int rw_z.2.2.2])), ((a1 2), .inl (cI, (tr_nN M S), .inl rw_z.1)), ((a1 3), .inl (cI, (tr_nN M S), .inl rw_z.2.1)), ((a1 4), .inl (cJ, (tr_nN M S), .inr (.inl rw_z.2.2.1))), ((a1 5), .inl (cI, (2 * 2 ^ M), .inl (fun _ => 0))), ((a1 6), .inr (0, [.ref (a1 7), .ref (a1 8), .ref (a1 9), .int rw_z.2.2.2])), ((a1 7), .inl (cI, C, .inl rw_z.1)), ((a1 8), .inl (cI, C, .inl rw_z.2.1)), ((a1 9), .inl (cJ, C, .inr (.inl rw_z.2.2.1))), ((a1 10), .inr (1, [.ref (a1 11), .int (nI ((fun _ => 0, 0) : Tl).2), .int (nI ((fun _ => 0, 0) : Tl).2)])), ((a1 11), .inl (cI, 600, .inl (((fun _ => 0, 0) : Tl).1))), ((a1 12), .inr (0, [.ref (a1 13), .ref (a1 14), .ref (a1 15), .int rw_z.2.2.2])), ((a1 13), .inl (cI, 16, .inl rw_z.1)), ((a1 14), .inl (cI, 16, .inl rw_z.2.1)), ((a1 15), .inl (cJ, 16, .inr (.inl rw_z.2.2.1))), ((a1 16), .inl (cI, 16, .inl (fun _ => 0)))] from hD) hS (show lv_has ls 8 [(7, .int (nI (k + 1))), (0, .ref x)] by rw [← nI_1]; exact lv_sub hl [0, 1] rfl)
  exact lp 17 0 ls H _ (by omega) (by omega) hP hD hS (lv_sub hl [0, 2] rfl)
end
