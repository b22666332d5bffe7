def g_plc (h : Int64) (m : Nat) : Int32 := Int64.toInt32 (f_lower h - f_lower h / Int32.toInt64 (nI m) * Int32.toInt64 (nI m))
theorem g_nz {m : Nat} (h0 : 0 < m) (h : m < 2 ^ 31) : ¬ Int32.toInt64 (nI m) = 0 := by
  rw [nI_l h]
  exact fun e => by have := (lN_eq (a := m) (b := 0) h (by omega)).mp e; omega
def g_svm (opn ssr spo awa dat : Nat → Int32) (q : Nat) (s p sq fl mt : Int32) : g_V := if mt = 0 then (0, 0, opn, ssr, spo, awa, dat) else g_srv opn ssr spo awa dat q s p sq fl 0
def g_bst (rp bst : Int32) (ast : Nat → Int32) (q : Nat) : Int32 := if rp = 0 then bst else ast q
def g_ast (rp : Int32) (ast : Nat → Int32) (q : Nat) : Nat → Int32 := if rp = 0 then ast else upd ast q (ast q + 1 - (ast q + 1) / 65536 * 65536)
