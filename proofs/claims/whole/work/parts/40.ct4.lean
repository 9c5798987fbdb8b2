-- CoinTree.ask: what becomes of the two trees, as the Java text has it
def ak_t1a (M S C : Nat) (z : Cs) (j : Nat) : Ts := tr_gather M S C 16 (cs_t1 z) (nI (j / 4)) (cs_ml z (j / 4))
def ak_num (M S C : Nat) (z : Cs) (j : Nat) : Int64 := rw_atL 16 (ts_plan (ak_t1a M S C z j)).2.2.1 (ts_sought (ak_t1a M S C z j))
def ak_t1b (M S C : Nat) (z : Cs) (j : Nat) (co mc : Int32) : Ts := tr_settle 16 (ak_t1a M S C z j) mc (ct_with (ak_num M S C z j) (nI (j % 4 * 16)) (co + 1))
def ak_t0a (L M S C : Nat) (z : Cs) (j : Nat) : Ts := tr_gather L S C 64 (cs_t0 z) (nI j) (ct_told L (ak_num M S C z j) (nI (j % 4 * 16)) (nI j))
def ak_val (L M S C : Nat) (z : Cs) (j : Nat) : Int64 := rw_atL 64 (ts_plan (ak_t0a L M S C z j)).2.2.1 (ts_sought (ak_t0a L M S C z j))
def ak_t0b (L M S C : Nat) (z : Cs) (j : Nat) (nw : Bool) (nv : Int64) (co : Int32) : Ts := tr_settle 64 (ak_t0a L M S C z j) co (if nw = true then nv else ak_val L M S C z j)
def ak_t1c (M S C : Nat) (z : Cs) (j : Nat) (co mc : Int32) : Ts := tr_fits M S 16 (ak_t1b M S C z j co mc)
def ak_f1 (M S C : Nat) (z : Cs) (j : Nat) (co mc : Int32) : Bool := decide ((tr_fit M S 16 (ak_t1b M S C z j co mc)).2 ≤ nI C)
def ak_t0c (L M S C : Nat) (z : Cs) (j : Nat) (nw : Bool) (nv : Int64) (co : Int32) : Ts := tr_fits L S 64 (ak_t0b L M S C z j nw nv co)
def ak_f0 (L M S C : Nat) (z : Cs) (j : Nat) (nw : Bool) (nv : Int64) (co : Int32) : Bool := decide ((tr_fit L S 64 (ak_t0b L M S C z j nw nv co)).2 ≤ nI C)
def ak_t1d (M S C : Nat) (z : Cs) (j : Nat) (co mc : Int32) : Ts := tr_carry M S C 16 (ak_t1c M S C z j co mc)
def ak_t0d (L M S C : Nat) (z : Cs) (j : Nat) (nw : Bool) (nv : Int64) (co : Int32) : Ts := tr_carry L S C 64 (ak_t0c L M S C z j nw nv co)
def ak_z (L M S C : Nat) (z : Cs) (j : Nat) (nw : Bool) (nv : Int64) (co mc : Int32) : Cs :=
  cs_mk (upd (cs_ml z) (j / 4) mc) (cs_asked z + 1) (if cs_most z < (ts_stash (ak_t0d L M S C z j nw nv co)).2.2.2 then (ts_stash (ak_t0d L M S C z j nw nv co)).2.2.2 else cs_most z) (ak_t0d L M S C z j nw nv co) (ak_t1d M S C z j co mc)
def ak_ret (L M S C : Nat) (z : Cs) (b : Int32) (nw : Bool) (nv : Int64) (co mc : Int32) (r : Int64) (u : Cs) : Prop :=
  ∃ j : Nat, b = nI j ∧ j < 64 ∧ rw_has (2 ^ L) co = true ∧ rw_has (2 ^ M) mc = true ∧ ak_f1 M S C z j co mc = true ∧ ak_f0 L M S C z j nw nv co = true ∧ r = ak_val L M S C z j ∧ u = ak_z L M S C z j nw nv co mc
def ak_thr (L M S C : Nat) (z : Cs) (b : Int32) (nw : Bool) (nv : Int64) (co mc : Int32) (E : String) (u : Cs) : Prop :=
  (E = xIO ∧ (b < 0 ∨ 64 ≤ b) ∧ u = z) ∨
  (E = xIA ∧ (∃ j : Nat, b = nI j ∧ j < 64) ∧ (rw_has (2 ^ L) co = false ∨ rw_has (2 ^ M) mc = false) ∧ u = z) ∨
  (E = xUO ∧ ∃ j : Nat, b = nI j ∧ j < 64 ∧ rw_has (2 ^ L) co = true ∧ rw_has (2 ^ M) mc = true ∧
    ((ak_f1 M S C z j co mc = false ∧ u = cs_mk (cs_ml z) (cs_asked z) (cs_most z) (ak_t0b L M S C z j nw nv co) (ak_t1c M S C z j co mc)) ∨
     (ak_f1 M S C z j co mc = true ∧ ak_f0 L M S C z j nw nv co = false ∧ u = cs_mk (cs_ml z) (cs_asked z) (cs_most z) (ak_t0c L M S C z j nw nv co) (ak_t1c M S C z j co mc))))
theorem tr_gather_trail {L S C B : Nat} {t : Ts} {blk lf : Int32} : ts_trail (tr_gather L S C B t blk lf) = ts_trail t := by
  unfold tr_gather
  show ts_trail (if _ then _ else _) = _
  split <;> rfl
theorem tr_fits_trail {L S B : Nat} {t : Ts} : ts_trail (tr_fits L S B t) = ts_trail t := rfl
theorem tr_settle_trail {B : Nat} {t : Ts} {lf : Int32} {v : Int64} : ts_trail (tr_settle B t lf v) = ts_trail t := rfl
theorem ak_b {b : Int32} (h1 : ¬ b < 0) (h2 : b < 64) : ∃ j : Nat, j < 64 ∧ b = nI j := by
  obtain ⟨j, hj, rfl⟩ := nI_of h1
  rw [show (64 : Int32) = nI 64 from rfl, nI_ltI hj (by omega)] at h2
  exact ⟨j, h2, rfl⟩
theorem ak_div {j : Nat} (h : j < 64) : nI j / 4 = nI (j / 4) := by rw [show (4 : Int32) = nI 4 from rfl, pk_div (by omega) (by omega) (by omega)]
theorem ak_rem {j : Nat} (h : j < 64) : (nI j - nI j / 4 * 4) * 16 = nI (j % 4 * 16) := by rw [show (4 : Int32) = nI 4 from rfl, pk_rem (by omega) (by omega) (by omega), show (16 : Int32) = nI 16 from rfl, pk_mul]
section YK
variable {p : Program} {l : Launch} {e : Env} {R : Room} {s : State} {m : MethodId} {args : Array Value} {below : List Frame} {meth : Method} {c : Code} {H : Heap} {locs : List Loc} {cells slots : Nat} {Q : State → Prop}
variable {pc : Nat} {ls : Array Slot} {rest st0 : List Value} {a : Array Value} {A : Nat → Prop} {H0 : Heap} {D : va_G} {cl : List vw_C} {tys : List (ClassId × FieldType)}
/-- a call of a method that writes in a part wc of the caller's world -/
theorem tj_v {wc wr w1 ws : va_W} (hr : va_Run p l e R s m args below meth c H locs cells slots 0 0 (F0 m pc ls st0) rest (mQv D cl w1 (va_A wc H.size) a) (va_A wc H.size)) (hS : va_S A H0 H locs) (hA : ∀ q, H0.size ≤ q → A q) (hP : va_P D cl ws H) (hD : va_D A ws) (isC isR : List Nat) (hC : isC.map (fun i => ws[i]?) = wc.map some) (hR : isR.map (fun i => ws[i]?) = wr.map some) (hn : va_nd isR = true) (hdis : ∀ i ∈ isR, i ∉ isC)
    (kk : ∀ (H1 : Heap) (locs1 : List Loc), va_P D cl (wr ++ w1) H1 → va_D A (wr ++ w1) → va_S A H0 H1 locs1 → W p l e R s m args below meth c H1 locs1 cells slots Q (F0 m (pc + 3) ls rest)) : W p l e R s m args below meth c H locs cells slots Q (F0 m pc ls st0) := by
  have hF := va_free (wc := wc) hD hS hA isC hC
  refine va_callv hr hS (fun q _ h => hF q h) hF (fun u t H1 locs1 ht _ _ hb _ hk hS1 => ?_)
  obtain ⟨h1, h2⟩ := va_join (wr := wr) (w1 := w1) hP hD isC isR hC hR hn hdis hk hF (by rw [← ht]; exact hb.1) hb.2
  exact kk H1 locs1 h1 h2 hS1
theorem tj_i {wc wr w1 ws : va_W} {r : Int32} (hr : va_Run p l e R s m args below meth c H locs cells slots 0 0 (F0 m pc ls st0) rest (mQi D cl r w1 (va_A wc H.size) a) (va_A wc H.size)) (hS : va_S A H0 H locs) (hA : ∀ q, H0.size ≤ q → A q) (hP : va_P D cl ws H) (hD : va_D A ws) (isC isR : List Nat) (hC : isC.map (fun i => ws[i]?) = wc.map some) (hR : isR.map (fun i => ws[i]?) = wr.map some) (hn : va_nd isR = true) (hdis : ∀ i ∈ isR, i ∉ isC)
    (kk : ∀ (H1 : Heap) (locs1 : List Loc), va_P D cl (wr ++ w1) H1 → va_D A (wr ++ w1) → va_S A H0 H1 locs1 → W p l e R s m args below meth c H1 locs1 cells slots Q (F0 m (pc + 3) ls (.int r :: rest))) : W p l e R s m args below meth c H locs cells slots Q (F0 m pc ls st0) := by
  have hF := va_free (wc := wc) hD hS hA isC hC
  refine va_calli hr hS (fun q _ h => hF q h) hF (fun r1 u t H1 locs1 ht _ hp hb _ hk hS1 => ?_)
  subst hp
  obtain ⟨h1, h2⟩ := va_join (wr := wr) (w1 := w1) hP hD isC isR hC hR hn hdis hk hF (by rw [← ht]; exact hb.1) hb.2
  exact kk H1 locs1 h1 h2 hS1
def yP (D : va_G) (cl : List vw_C) (tys : List (ClassId × FieldType)) (av : List Value) (ws : va_W) (A : Nat → Prop) : Array Value → State → Prop := va_Pc av (fun U => va_P D cl ws U.heap ∧ va_K D cl tys U ∧ va_D A ws ∧ xE A U U.heap ∧ ∀ q, U.heap.size ≤ q → A q)
theorem yP_blind {av : List Value} {ws : va_W} : FrameBlind (yP D cl tys av ws A) := fun a U g mk q => by
  obtain ⟨q0, q1, qK, qD, qE, qA⟩ := q
  exact ⟨q0, q1, va_K.moved (u := U) (U := U.calling g mk a) (Vm.Alike.refl U.vm) qK, qD, xE.same (u := U) (U := U.calling g mk a) rfl qE, qA⟩
theorem yP_pre {av : List Value} {ws : va_W} (hK : va_K D cl tys s) (hP : va_P D cl ws H) (hD : va_D A ws) (xe : xE A s H) (hA : ∀ q, H.size ≤ q → A q) : ∀ U : State, U.heap = H → s.WarmedH U.vm → yP D cl tys av ws A av.toArray U := fun _ hU hW => ⟨rfl, by rw [hU]; exact hP, va_K.moved hW.alike hK, hD, by rw [hU]; exact xe.warm hW, by rw [hU]; exact hA⟩
def yQl (D : va_G) (cl : List vw_C) (f : Cs → va_W) (ret : Int64 → Cs → Prop) (A : Nat → Prop) : Array Value → State → Outcome → State → Prop := va_Ql ret (fun u t => va_P D cl (f u) t.heap ∧ va_D A (f u)) A
def yX (D : va_G) (cl : List vw_C) (f : Cs → va_W) (thr : String → Cs → Prop) (A : Nat → Prop) : String → State → State → Prop := vx_X (fun (_ : Cs) => True) (fun E u t => thr E u ∧ va_P D cl (f u) t.heap ∧ va_D A (f u)) A
theorem yQl_end {f : Cs → va_W} {ret : Int64 → Cs → Prop} {ws : va_W} {t : State} {v : Int64} (u : Cs) (h : ret v u) (e : ws = f u) (hP : va_P D cl ws H) (hD : va_D A ws) (hS : va_S A s.heap H locs) (ht : t.heap = H) : yQl D cl f ret A a s (.returned (some (.long v))) t := by
  subst e
  exact ⟨⟨v, u, rfl, h, by rw [ht]; exact hP, hD⟩, hS.F ht⟩
theorem yX_end {f : Cs → va_W} {thr : String → Cs → Prop} {ws : va_W} {t : State} {E : String} (u : Cs) (h : thr E u) (e : ws = f u) (hP : va_P D cl ws H) (hD : va_D A ws) (hS : va_S A s.heap H locs) (h1 : H.size ≤ t.heap.size) (h2 : ∀ q : Nat, q < H.size → t.heap[q]? = H[q]?) : yX D cl f thr A E s t := by
  subst e
  refine ⟨u, trivial, ⟨h, hP.kept (fun k q hk => h2 q.1 (hP k q hk).lt), hD⟩, Nat.le_trans hS.1 h1, fun q hq hn => ?_⟩
  rw [h2 q (Nat.lt_of_lt_of_le hq hS.1)]
  exact hS.2.1 q hq hn
end YK
