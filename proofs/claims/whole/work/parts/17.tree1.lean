-- a Trail at place i0
def tl_in (ws : va_W) (i0 h a : Nat) (cI : ClassId) (t : Tl) : Prop := ws[i0]? = some (h, .inr (1, [.ref a, .int (nI t.2), .int (nI t.2)])) ∧ ws[i0 + 1]? = some (a, .inl (cI, 600, .inl t.1))
def tl_set (ws : va_W) (i0 h a : Nat) (cI : ClassId) (t : Tl) : va_W := (ws.set i0 (h, .inr (1, [.ref a, .int (nI t.2), .int (nI t.2)]))).set (i0 + 1) (a, .inl (cI, 600, .inl t.1))
theorem tl_r600 : ∀ j, j < 600 → ((0 : Int32) + nI j) - ((0 : Int32) + nI j) / 600 * 600 = nI j := by
  intro j hj
  rw [show (0 : Int32) + nI j = nI j by rw [← nI_0, nI_add, Nat.zero_add], show (600 : Int32) = nI 600 from rfl, pk_rem (by omega) (by omega) (by omega), Nat.mod_eq_of_lt hj]
/-- the cells of a tree -/
def tw_ (cI cJ : ClassId) (ad : Nat → Nat) (L S C B : Nat) (t : Ts) : va_W :=
  [(ad 0, .inr (2, [.int (nI L), .int (nI (2 ^ L)), .int (nI S), .int (nI C), .ref (ad 1), .ref (ad 5), .ref (ad 6), .ref (ad 10), .ref (ad 12), .ref (ad 16), .int (ts_way t), .int (ts_sought t)])),
   (ad 1, .inr (0, [.ref (ad 2), .ref (ad 3), .ref (ad 4), .int (ts_nodes t).2.2.2])), (ad 2, .inl (cI, tr_nN L S, .inl (ts_nodes t).1)), (ad 3, .inl (cI, tr_nN L S, .inl (ts_nodes t).2.1)), (ad 4, .inl (cJ, tr_nN L S, .inr (.inl (ts_nodes t).2.2.1))),
   (ad 5, .inl (cI, 2 * 2 ^ L, .inl (ts_cnts t))),
   (ad 6, .inr (0, [.ref (ad 7), .ref (ad 8), .ref (ad 9), .int (ts_stash t).2.2.2])), (ad 7, .inl (cI, C, .inl (ts_stash t).1)), (ad 8, .inl (cI, C, .inl (ts_stash t).2.1)), (ad 9, .inl (cJ, C, .inr (.inl (ts_stash t).2.2.1))),
   (ad 10, .inr (1, [.ref (ad 11), .int (nI (ts_trail t).2), .int (nI (ts_trail t).2)])), (ad 11, .inl (cI, 600, .inl (ts_trail t).1)),
   (ad 12, .inr (0, [.ref (ad 13), .ref (ad 14), .ref (ad 15), .int (ts_plan t).2.2.2])), (ad 13, .inl (cI, B, .inl (ts_plan t).1)), (ad 14, .inl (cI, B, .inl (ts_plan t).2.1)), (ad 15, .inl (cJ, B, .inr (.inl (ts_plan t).2.2.1))),
   (ad 16, .inl (cI, B, .inl (ts_tgt t)))]
section TW
variable {cI cJ : ClassId} {ad : Nat → Nat} {L S C B : Nat} {t : Ts}
theorem tw_nodes : rw_in (tw_ cI cJ ad L S C B t) 1 (ad 1) (ad 2) (ad 3) (ad 4) (tr_nN L S) cI cJ (ts_nodes t) := ⟨rfl, rfl, rfl, rfl⟩
theorem tw_stash : rw_in (tw_ cI cJ ad L S C B t) 6 (ad 6) (ad 7) (ad 8) (ad 9) C cI cJ (ts_stash t) := ⟨rfl, rfl, rfl, rfl⟩
theorem tw_plan : rw_in (tw_ cI cJ ad L S C B t) 12 (ad 12) (ad 13) (ad 14) (ad 15) B cI cJ (ts_plan t) := ⟨rfl, rfl, rfl, rfl⟩
end TW
def ts_sNodes (t : Ts) (x : Rw) : Ts := ts_mk x (ts_cnts t) (ts_stash t) (ts_trail t) (ts_plan t) (ts_tgt t) (ts_way t) (ts_sought t)
def ts_sCnts (t : Ts) (x : Nat → Int32) : Ts := ts_mk (ts_nodes t) x (ts_stash t) (ts_trail t) (ts_plan t) (ts_tgt t) (ts_way t) (ts_sought t)
def ts_sStash (t : Ts) (x : Rw) : Ts := ts_mk (ts_nodes t) (ts_cnts t) x (ts_trail t) (ts_plan t) (ts_tgt t) (ts_way t) (ts_sought t)
def ts_sTrail (t : Ts) (x : Tl) : Ts := ts_mk (ts_nodes t) (ts_cnts t) (ts_stash t) x (ts_plan t) (ts_tgt t) (ts_way t) (ts_sought t)
def ts_sPlan (t : Ts) (x : Rw) : Ts := ts_mk (ts_nodes t) (ts_cnts t) (ts_stash t) (ts_trail t) x (ts_tgt t) (ts_way t) (ts_sought t)
def ts_sTgt (t : Ts) (x : Nat → Int32) : Ts := ts_mk (ts_nodes t) (ts_cnts t) (ts_stash t) (ts_trail t) (ts_plan t) x (ts_way t) (ts_sought t)
def ts_sWay (t : Ts) (x : Int32) : Ts := ts_mk (ts_nodes t) (ts_cnts t) (ts_stash t) (ts_trail t) (ts_plan t) (ts_tgt t) x (ts_sought t)
def ts_sSought (t : Ts) (x : Int32) : Ts := ts_mk (ts_nodes t) (ts_cnts t) (ts_stash t) (ts_trail t) (ts_plan t) (ts_tgt t) (ts_way t) x
/-- the constants' bounds -/
def tr_ok (L S C B : Nat) : Prop := 1 ≤ L ∧ L ≤ 5 ∧ 1 ≤ S ∧ S ≤ 4 ∧ C ≤ 40 ∧ B ≤ 64
theorem tr_p2 {L : Nat} (h : L ≤ 5) : 2 ^ L ≤ 32 := by
  rcases (show L = 0 ∨ L = 1 ∨ L = 2 ∨ L = 3 ∨ L = 4 ∨ L = 5 by omega) with rfl | rfl | rfl | rfl | rfl | rfl <;> decide
theorem tr_nN_lt {L S C B : Nat} (h : tr_ok L S C B) : tr_nN L S < 2 ^ 31 := by
  obtain ⟨-, h1, -, h2, -, -⟩ := h
  have h3 := tr_p2 h1
  have h4 : 2 * 2 ^ L * S ≤ 64 * 4 := Nat.mul_le_mul (by omega) h2
  unfold tr_nN
  omega
theorem tr_C_lt {L S C B : Nat} (h : tr_ok L S C B) : C < 2 ^ 31 := by obtain ⟨-, -, -, -, h, -⟩ := h; omega
theorem tr_B_lt {L S C B : Nat} (h : tr_ok L S C B) : B < 2 ^ 31 := by obtain ⟨-, -, -, -, -, h⟩ := h; omega
theorem tr_S_lt {L S C B : Nat} (h : tr_ok L S C B) : S < 2 ^ 31 := by obtain ⟨-, -, -, h, -, -⟩ := h; omega
theorem tr_L_lt {L S C B : Nat} (h : tr_ok L S C B) : L < 2 ^ 31 := by obtain ⟨-, h, -⟩ := h; omega
