def f_kind (fl : Int32) : Int32 := if fl = 2 then 1 else if fl = 16 then 1 else if fl = 17 then 1 else if fl = 4 then 1 else 0
def f_join (s p : Int32) : Int64 := zlshl (Int32.toInt64 s) 32 ||| (Int32.toInt64 p &&& 4294967295)
def f_clamp (x lo hi : Int32) : Int32 := if lo < (if x < hi then x else hi) then (if x < hi then x else hi) else lo
def f_pf : Nat → Nat → Nat
  | 0, _ => 101
  | k + 1, a => if f_prm a (a - 2) 2 = 0 then f_pf k (a + 1) else a
def f_hd (w0 w1 w2 w3 w4 : Int32) : Int32 :=
  if ziushr w0 24 = 69 then
    if f_sum w0 w1 w2 w3 w4 = 65535 then
      if w0 &&& 65535 < 40 then 3 else if w0 &&& 65535 ≤ 1480 then
        if w1 &&& 16383 = 0 then
          if ziushr w2 24 = 0 then 5 else
            if ziushr w2 16 &&& 255 = 6 then
              if w4 = 167772161 then 0 else 7
            else 6
        else 4
      else 3
    else 2
  else 1
def f_plc (h : Int64) (m : Nat) : Int32 := Int64.toInt32 ((h &&& 4294967295) - (h &&& 4294967295) / Int32.toInt64 (nI m) * Int32.toInt64 (nI m))
def f_hk (w0 w1 w2 w3 w4 x : Int32) : Int32 := if f_hd w0 w1 w2 w3 w4 = 0 then 1 else x
def f_kp (w0 w1 w2 w3 w4 : Int32) (f : Nat → Int32) : Nat → Int32 := if f_hd w0 w1 w2 w3 w4 = 0 then upd (upd (upd (upd (upd f 0 w0) 1 w1) 2 w2) 3 w3) 4 w4 else f
theorem f_sw01 (x y : Int32) : f_sw x y = 0 ∨ f_sw x y = 1 := by unfold f_sw; split <;> simp
