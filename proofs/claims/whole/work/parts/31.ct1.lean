-- CoinTree: its cells
abbrev Cs : Type := (Nat → Int32) × Int32 × Int32 × Ts × Ts
def cs_mk (a : Nat → Int32) (b c : Int32) (d e : Ts) : Cs := (a, b, c, d, e)
def cs_ml (c : Cs) : Nat → Int32 := c.1
def cs_asked (c : Cs) : Int32 := c.2.1
def cs_most (c : Cs) : Int32 := c.2.2.1
def cs_t0 (c : Cs) : Ts := c.2.2.2.1
def cs_t1 (c : Cs) : Ts := c.2.2.2.2
def cw_ (cI cJ : ClassId) (x ml : Nat) (a0 a1 : Nat → Nat) (L M S C : Nat) (key : Int64) (c : Cs) : va_W :=
  (x, .inr (3, [.int (nI S), .int (nI C), .long key, .ref (a0 0), .ref (a1 0), .ref ml, .int (cs_asked c), .int (cs_most c)])) :: (ml, .inl (cI, 16, .inl (cs_ml c))) :: (tw_ cI cJ a0 L S C 64 (cs_t0 c) ++ tw_ cI cJ a1 M S C 16 (cs_t1 c))
def ct_near (x lo hi : Int32) : Int32 := if lo < (if x < hi then x else hi) then (if x < hi then x else hi) else lo
def ct_mx1 (z : Int64) : Int64 := (z ^^^ (z.toUInt64 >>> ((30 : Int32).toInt64.toUInt64 &&& Int64.toUInt64 63)).toInt64) * (-4658895280553007687)
def ct_mx2 (z : Int64) : Int64 := (z ^^^ (z.toUInt64 >>> ((27 : Int32).toInt64.toUInt64 &&& Int64.toUInt64 63)).toInt64) * (-7723592293110705685)
def ct_mx3 (z : Int64) : Int64 := z ^^^ (z.toUInt64 >>> ((31 : Int32).toInt64.toUInt64 &&& Int64.toUInt64 63)).toInt64
def ct_mix (z : Int64) : Int64 := ct_mx3 (ct_mx2 (ct_mx1 z))
def ct_with (v : Int64) (sh n : Int32) : Int64 := (v &&& ((65535 <<< (sh.toInt64 &&& 63)) ^^^ (-1))) ||| (n.toInt64 <<< (sh.toInt64 &&& 63))
def ct_num (v : Int64) (sh : Int32) : Int32 := ((v.toUInt64 >>> (sh.toInt64.toUInt64 &&& Int64.toUInt64 63)).toInt64 &&& 65535).toInt32
def ct_told (L : Nat) (v : Int64) (sh b : Int32) : Int32 := (if ct_num v sh = 0 then b else ct_num v sh - 1) &&& (nI (2 ^ L) - 1)
