def f_l1 (g : Int64) (m : Nat) : Int32 := Int64.toInt32 (zlushr g 32 - zlushr g 32 / Int32.toInt64 (nI m) * Int32.toInt64 (nI m))
def f_l2 (g : Int64) (m : Nat) : Int32 := Int64.toInt32 (1 + ((g &&& 4294967295) - (g &&& 4294967295) / Int32.toInt64 (nI (m - 1)) * Int32.toInt64 (nI (m - 1))))
abbrev f_L : Type := (Nat → Int32) × (Nat → Int32) × f_4
def f_lst (k0 k1 : Int64) (m : Nat) : Nat → Nat → f_L → f_L
  | 0, _, x => x
  | k + 1, j, x => f_lst k0 k1 m k (j + 1) (upd x.1 j (f_l1 (f_dig k0 k1 (Int32.toInt64 (nI j))) m), upd x.2.1 j (f_l2 (f_dig k0 k1 (Int32.toInt64 (nI j))) m), f_end k0 k1 (Int32.toInt64 (nI j)))
